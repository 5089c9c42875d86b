/-! WHAT LAWS AND CLAUSES SAY IS WELL FORMED; two facts of one call -/
theorem av_wp_and {sc : av_Sr} {cd : List (Nat × av_E)} {pc : Nat} {lv : av_L} {st : List av_V} {h : av_H} {Q Q' : Option av_V → av_H → Prop} (a : av_wp sc cd pc lv st h Q) (b : av_wp sc cd pc lv st h Q') : av_wp sc cd pc lv st h (fun v h' => Q v h' ∧ Q' v h') := by
  intro hg
  obtain ⟨n, v, h1, r1, q1⟩ := a hg
  obtain ⟨m, w, h2, r2, q2⟩ := b hg
  have e1 := av_more _ _ _ _ _ _ _ _ _ r1 m
  have e2 := av_more _ _ _ _ _ _ _ _ _ r2 n
  rw [Nat.add_comm m n, e1] at e2
  cases e2
  exact ⟨n, v, h1, r1, q1, q2⟩
def rlo (j : Nat) : Int := if j = 7 ∨ j = 8 then -1 else 0
def rhi (j : Nat) : Int := if j = 7 ∨ j = 8 then 999 else if j = 6 ∨ j = 9 ∨ j = 11 then 1 else 2
/-- each rule told is one that may be -/
def RQW (d : Nat → Int) : Prop := ∀ j, j < 13 → d j = -2 ∨ (rlo j ≤ d j ∧ d j ≤ rhi j)
theorem RLW_of {ro : Nat → Int} (x : ∀ j, j < 13 → rlo j ≤ ro j ∧ ro j ≤ rhi j) : RLW ro :=
  ⟨fun j hj => by
    have h := x j (by omega)
    unfold rlo rhi at h
    rw [if_neg (by omega), if_neg (by omega), if_neg (by omega)] at h
    exact h, x 6 (by omega), x 7 (by omega), x 8 (by omega), x 9 (by omega), x 10 (by omega), x 11 (by omega), x 12 (by omega)⟩
theorem RLW_in {ro : Nat → Int} (R : RLW ro) : ∀ j, j < 13 → rlo j ≤ ro j ∧ ro j ≤ rhi j := fun j hj => by
  by_cases c : j < 6
  · have h := R.1 j c
    unfold rlo rhi
    rw [if_neg (by omega), if_neg (by omega), if_neg (by omega)]
    exact h
  · rcases (show j = 6 ∨ j = 7 ∨ j = 8 ∨ j = 9 ∨ j = 10 ∨ j = 11 ∨ j = 12 by omega) with e | e | e | e | e | e | e <;> subst e
    · exact R.2.1
    · exact R.2.2.1
    · exact R.2.2.2.1
    · exact R.2.2.2.2.1
    · exact R.2.2.2.2.2.1
    · exact R.2.2.2.2.2.2.1
    · exact R.2.2.2.2.2.2.2
theorem RLW_c {ro ro' : Nat → Int} (R : RLW ro) (e : ∀ j, j < 13 → ro' j = ro j) : RLW ro' := RLW_of (fun j hj => by rw [e j hj]; exact RLW_in R j hj)
theorem RQW_c {d d' : Nat → Int} (R : RQW d) (e : ∀ j, j < 13 → d' j = d j) : RQW d' := fun j hj => by rw [e j hj]; exact R j hj
theorem plain_r : ∀ j, j < 13 → rlo j ≤ av_plain j ∧ av_plain j ≤ rhi j := by decide
section
variable {b : Nat → Int} {lim : Nat} {t t' : TT} {d : Nat → Int}
def DQ (t : TT) (d : Nat → Int) : Prop := t.2.2.2 = -1 → RQW d
theorem dq_t (V : DQ t d) (e : t'.2.2.2 = -1 → t.2.2.2 = -1) : DQ t' d := fun z => V (e z)
theorem dq_u {o : Nat} {v : Int} (V : DQ t d) (e : t.2.2.2 = -1 → rlo o ≤ v ∧ v ≤ rhi o) : DQ t (av_u1 d o v) := fun z j hj => by
  by_cases c : j = o
  · subst c
    rw [u1_eq]
    exact Or.inr (e z)
  · rw [u1_ne c]
    exact V z j hj
theorem dq_C {o n c : Nat} (V : DQ t d) (en : (av_lit n).count 32 = c) (hc : (c : Int) = rhi o) (h0 : rlo o = 0) : DQ (rlC b lim o n t d).1 (rlC b lim o n t d).2 := by
  have g := pkv_le (b := b) (t := t) n c en
  show DQ (cho b lim t n) (av_u1 d o (pkv b t n))
  refine dq_u (dq_t V (fun z => (cho_o z).1)) (fun z => ?_)
  have h1 := (cho_o z).2.1
  omega
theorem dq_N {o : Nat} (V : DQ t d) (ho : o = 7 ∨ o = 8) : DQ (rlN b lim o t d).1 (rlN b lim o t d).2 := by
  show DQ (nmt b lim t 0 999) (av_u1 d o (nmv b t 0 999))
  refine dq_u (dq_t V (fun z => (nmt_o z).1)) (fun z => ?_)
  have h1 := nmv_b z
  unfold rlo rhi
  rw [if_pos ho, if_pos ho]
  omega
theorem dq_Y (V : DQ t d) : DQ (rlY b lim t d).1 (rlY b lim t d).2 := by
  have g := pkv_le (b := b) (t := cho b lim t 13) 14 2 rfl
  have w : ∀ {d : Nat → Int} {o : Nat}, DQ (cho b lim (cho b lim t 13) 14) d → o ≤ 2 → DQ (cho b lim (cho b lim t 13) 14) (av_u1 d o (pkv b (cho b lim t 13) 14)) := fun V' ho => dq_u V' (fun z => by
    have h1 := (cho_o z).2.1
    unfold rlo rhi
    rw [if_neg (by omega), if_neg (by omega), if_neg (by omega)]
    omega)
  have V0 : DQ (cho b lim (cho b lim t 13) 14) d := dq_t V (fun z => (cho_o (cho_o z).1).1)
  have V1 : DQ (cho b lim (cho b lim t 13) 14) (rlY1 (pkv b t 13) (pkv b (cho b lim t 13) 14) d) := by
    unfold rlY1
    split
    · exact w V0 (by omega)
    · exact V0
  have V2 : DQ (cho b lim (cho b lim t 13) 14) (rlY2 (pkv b t 13) (pkv b (cho b lim t 13) 14) (rlY1 (pkv b t 13) (pkv b (cho b lim t 13) 14) d)) := by
    unfold rlY2
    split
    · exact w V1 (by omega)
    · exact V1
  show DQ (cho b lim (cho b lim t 13) 14) (rlY3 (pkv b t 13) (pkv b (cho b lim t 13) 14) (rlY2 (pkv b t 13) (pkv b (cho b lim t 13) 14) (rlY1 (pkv b t 13) (pkv b (cho b lim t 13) 14) d)))
  unfold rlY3
  split
  · exact w V2 (by omega)
  · exact V2
theorem dq_K {k : Int} (V : DQ t d) : DQ (rlK b lim k t d).1 (rlK b lim k t d).2 := by
  unfold rlK
  (repeat' split)
  · exact dq_Y V
  · exact dq_C V (c := 2) rfl rfl rfl
  · exact dq_C V (c := 2) rfl rfl rfl
  · exact dq_C V (c := 2) rfl rfl rfl
  · exact dq_C V (c := 1) rfl rfl rfl
  · exact dq_N V (Or.inl rfl)
  · exact dq_N V (Or.inr rfl)
  · exact dq_C V (c := 1) rfl rfl rfl
  · exact dq_C V (c := 2) rfl rfl rfl
  · exact dq_C V (c := 1) rfl rfl rfl
  · exact dq_C V (c := 2) rfl rfl rfl
  · exact V
theorem dq_1 (V : DQ t d) : DQ (rl1 b lim t d).1 (rl1 b lim t d).2 := by
  show DQ (sem b lim (rlK b lim (pkv b t 12) (cho b lim t 12) d).1) (rlK b lim (pkv b t 12) (cho b lim t 12) d).2
  exact dq_t (dq_K (dq_t V (fun z => (cho_o z).1))) (fun z => sem_o z)
theorem dq_f : ∀ (f n : Nat) (t : TT) (d : Nat → Int), DQ t d → DQ (rlf b lim f n t d).2.1 (rlf b lim f n t d).2.2 := by
  intro f
  induction f with
  | zero => intro n t d V; exact V
  | succ f ih =>
    intro n t d V
    unfold rlf
    split
    · split
      · exact fun z => absurd z fal_ne
      · exact ih _ _ _ (dq_1 V)
    · exact V
theorem dq_A {y : Int} (h : (rlA b lim y t d).2.1.2.2.2 = -1) : RQW (rlA b lim y t d).2.2 := by
  have V0 : DQ t (ufil d 0 14 (-2)) := fun _ j hj => Or.inl (if_pos (by omega))
  have V := dq_f (b := b) (lim := lim) 21 0 t _ V0
  unfold rlA at h ⊢
  dsimp only at h ⊢
  intro j hj
  rw [u1_ne (by omega)]
  refine V ?_ j hj
  split at h
  · exact absurd h fal_ne
  · exact h
end
/-- a law: the plain one with what is told over it -/
theorem RLW_lov {f d : Nat → Int} (R : RQW d) : RLW (lov (plr f av_plain) d 14) := RLW_of (fun j hj => by
  rw [lov_v (by omega)]
  split
  · exact plain_r j hj
  · next c =>
    rcases R j hj with e | e
    · exact absurd e c
    · exact e)
