section
/-! WHOLE CASES THAT ARE READ ARE WELL FORMED -/
/-- row k of a case that has ah ahead -/
def WRW (ah : Int) (k : Nat) (R : Nat → Int) : Prop := WRD k R ∧ (∀ o, o < 20 → vlo o ≤ R (k * 21 + o) ∧ R (k * 21 + o) ≤ vhi ah o) ∧ (2 ≤ R (k * 21) → 0 ≤ R (k * 21 + 3) ∧ R (k * 21 + 3) < (k : Int))
theorem WRW_c {ah : Int} {k : Nat} {R R' : Nat → Int} (x : WRW ah k R) (e : ∀ o, o < 20 → R' (k * 21 + o) = R (k * 21 + o)) : WRW ah k R' := by
  have e0 : R' (k * 21) = R (k * 21) := e 0 (by omega)
  unfold WRW WRD
  rw [e0, e 1 (by omega), e 2 (by omega), e 3 (by omega), e 4 (by omega), e 18 (by omega)]
  refine ⟨x.1, fun o ho => ?_, x.2.2⟩
  rw [e o ho]
  exact x.2.1 o ho
theorem WRW_h {ah : Int} {k : Nat} {R : Nat → Int} (x : WRW ah k R) : 0 ≤ R (k * 21 + 1) ∧ R (k * 21 + 1) ≤ 2 := ⟨x.1.2.1, (x.2.1 1 (by omega)).2⟩
theorem rbf_w {b : Nat → Int} {lim : Nat} {ah : Int} (ha : 0 ≤ ah) : ∀ (f k : Nat) (t : TT) (r : Nat → Int), k ≤ 12 → (∀ q, q < k → WRW ah q r) → (rbf b lim ah f k t r).2.1.2.2.2 = -1 → ∀ q, q < (rbf b lim ah f k t r).1 → WRW ah q (rbf b lim ah f k t r).2.2 := by
  intro f
  induction f with
  | zero => intro k t r _ hr _ q hq; exact hr q hq
  | succ f ih =>
    intro k t r hk hr z q hq
    unfold rbf at z hq ⊢
    split at z
    · next c =>
      rw [if_pos c] at hq ⊢
      split at z
      · exact absurd z fal_ne
      · next d =>
        rw [if_neg d] at hq ⊢
        have ok : (rsy b lim k ah t r).1.2.2.2 = -1 := by
          by_cases e : (rsy b lim k ah t r).1.2.2.2 = -1
          · exact e
          · exfalso
            have : ∀ (f k : Nat) (t : TT) (r : Nat → Int), t.2.2.2 ≠ -1 → rbf b lim ah f k t r = (k, t, r) := fun f k t r h => by
              cases f with
              | zero => rfl
              | succ f =>
                unfold rbf
                rw [if_neg (fun y => h y.1)]
            rw [this _ _ _ _ e] at z
            exact e z
        refine ih (k + 1) _ _ (by omega) (fun p hp => ?_) z q hq
        by_cases e : p < k
        · exact WRW_c (hr p e) (fun o ho => rsy_fr (by omega))
        · have e : p = k := by omega
          subst e
          refine ⟨rsy_wd (by omega) (fun q hq => (WRW_h (hr q hq)).1) ok, fun o ho => ?_, fun h2 => rsy_sd ok h2⟩
          exact vb_y (by omega) ha (fun q hq => by have := WRW_h (hr q hq); omega) ok o (by omega)
    · next c =>
      rw [if_neg c] at hq ⊢
      exact hr q hq
/-! a case's hours -/
theorem hsm_3 (u d : Nat → Int) (k : Nat) : hsm u d k 1 = 0 + u (21 * k + 7 + 0) + d 0 ∧ hsm u d k 2 = 0 + u (21 * k + 7 + 0) + d 0 + u (21 * k + 7 + 1) + d 1 ∧ hsm u d k 3 = 0 + u (21 * k + 7 + 0) + d 0 + u (21 * k + 7 + 1) + d 1 + u (21 * k + 7 + 2) + d 2 := ⟨rfl, rfl, rfl⟩
theorem hrv_b {u : Nat → Int} {x : Int} {k i : Nat} (hx : 0 ≤ x) (hi : i < 3) (h7 : 0 ≤ u (21 * k + 7 + 0) ∧ u (21 * k + 7 + 0) ≤ 1999) (h8 : 0 ≤ u (21 * k + 7 + 1) ∧ u (21 * k + 7 + 1) ≤ 999) (h9 : 0 ≤ u (21 * k + 7 + 2) ∧ u (21 * k + 7 + 2) ≤ 999) (hm : ∀ j, j < 3 → u (21 * k + 15 + j) ≤ 16) : -1 ≤ hrv u x k i ∧ hrv u x k i ≤ 5000 := by
  have hd : ∀ j, j < 3 → 0 ≤ dgt (dvu u) x (4 * k + j) ∧ dgt (dvu u) x (4 * k + j) < 16 := fun j hj => by
    have a := dgt_r (w := dvu u) (fun t => mx1_p _) hx (4 * k + j)
    have m := (mx1_b (hm j hj)).2
    have e : dvu u (4 * k + j) = mx1 (u (21 * k + 15 + j)) := by
      unfold dvu
      rw [show (4 * k + j) / 4 = k by omega, show (4 * k + j) % 4 = j by omega]
    rw [e] at a
    omega
  have d0 := hd 0 (by omega)
  have d1 := hd 1 (by omega)
  have d2 := hd 2 (by omega)
  have s := hsm_3 u (fun j => dgt (dvu u) x (4 * k + j)) k
  unfold hrv
  split
  · omega
  · rcases (show i = 0 ∨ i = 1 ∨ i = 2 by omega) with e | e | e <;> subst e
    · rw [s.1]
      show -1 ≤ 0 + u (21 * k + 7 + 0) + dgt (dvu u) x (4 * k + 0) ∧ 0 + u (21 * k + 7 + 0) + dgt (dvu u) x (4 * k + 0) ≤ 5000
      omega
    · rw [s.2.1]
      show -1 ≤ 0 + u (21 * k + 7 + 0) + dgt (dvu u) x (4 * k + 0) + u (21 * k + 7 + 1) + dgt (dvu u) x (4 * k + 1) ∧ 0 + u (21 * k + 7 + 0) + dgt (dvu u) x (4 * k + 0) + u (21 * k + 7 + 1) + dgt (dvu u) x (4 * k + 1) ≤ 5000
      omega
    · rw [s.2.2]
      show -1 ≤ 0 + u (21 * k + 7 + 0) + dgt (dvu u) x (4 * k + 0) + u (21 * k + 7 + 1) + dgt (dvu u) x (4 * k + 1) + u (21 * k + 7 + 2) + dgt (dvu u) x (4 * k + 2) ∧ 0 + u (21 * k + 7 + 0) + dgt (dvu u) x (4 * k + 0) + u (21 * k + 7 + 1) + dgt (dvu u) x (4 * k + 1) + u (21 * k + 7 + 2) + dgt (dvu u) x (4 * k + 2) ≤ 5000
      omega
theorem cbf_1 (u : Nat → Int) : ∀ s, 1 ≤ cbf u s := by
  intro s
  induction s with
  | zero => exact Int.le_refl 1
  | succ s ih =>
    show 1 ≤ mn2 (cbf u s * tnv u s) 1025
    have t1 : 1 ≤ tnv u s := by
      unfold tnv
      have a := mx1_p (u (21 * s + 15))
      have b := mx1_p (u (21 * s + 16))
      have c := mx1_p (u (21 * s + 17))
      have d := mx1_p (u (21 * s + 18))
      have h1 : 1 * 1 ≤ mx1 (u (21 * s + 15)) * mx1 (u (21 * s + 16)) := Int.mul_le_mul a b (by omega) (by omega)
      have h2 : 1 * 1 ≤ mx1 (u (21 * s + 15)) * mx1 (u (21 * s + 16)) * mx1 (u (21 * s + 17)) := Int.mul_le_mul (by omega) c (by omega) (by omega)
      have h3 : 1 * 1 ≤ mx1 (u (21 * s + 15)) * mx1 (u (21 * s + 16)) * mx1 (u (21 * s + 17)) * mx1 (u (21 * s + 18)) := Int.mul_le_mul (by omega) d (by omega) (by omega)
      rw [Int.one_mul]
      omega
    have h : 1 * 1 ≤ cbf u s * tnv u s := Int.mul_le_mul ih t1 (by omega) (by omega)
    unfold mn2
    split <;> omega
/-- a case of which all rows are well formed -/
theorem CWF_of {f : Nat → Int} {s i : Nat} (w : ∀ q, q < s → WRW (i : Int) q f) (V : FV s f) (h1 : 1 ≤ s) : CWF (ctn f s) s i := by
  have oc : ∀ q o, o < 20 → ctn f s (21 * q + o) = f (q * 21 + o) := fun q o ho => by
    rw [ctn_o (by omega), show 21 * q + o = q * 21 + o by omega]
  have oc0 : ∀ q, ctn f s (21 * q + 0) = f (q * 21) := fun q => oc q 0 (by omega)
  refine ⟨fun k hk => ?_, ⟨h1, V.1⟩, fun k hk => ?_, fun q hq => ctn_t hq, fun j => ?_, fun x x0 _ k hk j hj => ?_⟩
  · have a := w k hk
    have v := a.2.1
    have v0 := v 0 (by omega)
    have v3 := v 3 (by omega)
    have v4 := v 4 (by omega)
    have v5 := v 5 (by omega)
    rw [oc0, oc k 3 (by omega), oc k 4 (by omega), oc k 5 (by omega)]
    have c0 := a.1.1
    have c3 := a.1.2.2.1
    have c4 := a.1.2.2.2.2.1
    have c2 := a.2.2
    refine ⟨⟨c0, v0.2⟩, ⟨v3.1, ?_⟩, fun z => (c2 z).1, c3, ⟨c4, v4.2⟩, v5, fun j hj => ?_⟩
    · by_cases z : 2 ≤ f (k * 21)
      · exact (c2 z).2
      · have := c3 (by omega)
        omega
    · have v10 := v (10 + j) (by omega)
      rw [show 21 * k + 10 + j = 21 * k + (10 + j) by omega, oc k (10 + j) (by omega)]
      unfold vlo vhi at v10
      rw [if_neg (by omega), if_neg (by omega), if_pos (by omega), if_neg (by omega), if_neg (by omega), if_neg (by omega), if_neg (by omega), if_neg (by omega), if_neg (by omega), if_neg (by omega), if_pos (by omega)] at v10
      exact v10
  · have v6 := (w k hk).2.1 6 (by omega)
    rw [oc k 6 (by omega)]
    have z : f (k * 21 + 6) ≤ (i : Int) - 1 := v6.2
    exact ⟨v6.1, by omega⟩
  · by_cases c : j % 21 = 20
    · exact Or.inr c
    · rw [ctn_o c]
      exact Or.inl (V.2.2.2 j c)
  · have v := (w k hk).2.1
    refine hrv_b x0 hj ?_ ?_ ?_ (fun p hp => ?_)
    · rw [show 21 * k + 7 + 0 = 21 * k + 7 by omega, oc k 7 (by omega)]
      exact v 7 (by omega)
    · rw [show 21 * k + 7 + 1 = 21 * k + 8 by omega, oc k 8 (by omega)]
      exact v 8 (by omega)
    · rw [show 21 * k + 7 + 2 = 21 * k + 9 by omega, oc k 9 (by omega)]
      exact v 9 (by omega)
    · rw [ctn_o (by omega)]
      exact V.2.2.1 k p (by omega)
/-- offers have a hand and a whom -/
def UHW (u : Nat → Int) (s : Nat) : Prop := ∀ k, k < s → (0 ≤ u (21 * k + 1) ∧ u (21 * k + 1) ≤ 2) ∧ ((u (21 * k + 0) = 0 ∨ u (21 * k + 0) = 1 ∨ u (21 * k + 0) = 3) → 0 ≤ u (21 * k + 2) ∧ u (21 * k + 2) ≤ 2)
theorem UHW_of {f : Nat → Int} {s : Nat} {ah : Int} (w : ∀ q, q < s → WRW ah q f) : UHW (ctn f s) s := fun k hk => by
  have a := w k hk
  have oc : ∀ o, o < 20 → ctn f s (21 * k + o) = f (k * 21 + o) := fun o ho => by
    rw [ctn_o (by omega), show 21 * k + o = k * 21 + o by omega]
  have oc0 : ctn f s (21 * k + 0) = f (k * 21) := oc 0 (by omega)
  rw [oc0, oc 1 (by omega), oc 2 (by omega)]
  exact ⟨⟨a.1.2.1, (a.2.1 1 (by omega)).2⟩, fun z => ⟨a.1.2.2.2.1 z, (a.2.1 2 (by omega)).2⟩⟩
end
section
/-! WHAT LAWS AND CLAUSES SAY IS WELL FORMED; two facts of one call -/
theorem av_wp_and {sc : av_Sr} {cd : List (Nat × av_E)} {pc : Nat} {lv : av_L} {st : List av_V} {h : av_H} {Q Q' : Option av_V → av_H → Prop} (a : av_wp sc cd pc lv st h Q) (b : av_wp sc cd pc lv st h Q') : av_wp sc cd pc lv st h (fun v h' => Q v h' ∧ Q' v h') := by
  intro hg
  obtain ⟨n, v, h1, r1, q1⟩ := a hg
  obtain ⟨m, w, h2, r2, q2⟩ := b hg
  have e1 := av_more _ _ _ _ _ _ _ _ _ r1 m
  have e2 := av_more _ _ _ _ _ _ _ _ _ r2 n
  rw [Nat.add_comm m n, e1] at e2
  cases e2
  exact ⟨n, v, h1, r1, q1, q2⟩
def rlo (j : Nat) : Int := if j = 7 ∨ j = 8 then -1 else 0
def rhi (j : Nat) : Int := if j = 7 ∨ j = 8 then 999 else if j = 6 ∨ j = 9 ∨ j = 11 then 1 else 2
/-- each rule told is one that may be -/
def RQW (d : Nat → Int) : Prop := ∀ j, j < 13 → d j = -2 ∨ (rlo j ≤ d j ∧ d j ≤ rhi j)
theorem RLW_of {ro : Nat → Int} (x : ∀ j, j < 13 → rlo j ≤ ro j ∧ ro j ≤ rhi j) : RLW ro :=
  ⟨fun j hj => by
    have h := x j (by omega)
    unfold rlo rhi at h
    rw [if_neg (by omega), if_neg (by omega), if_neg (by omega)] at h
    exact h, x 6 (by omega), x 7 (by omega), x 8 (by omega), x 9 (by omega), x 10 (by omega), x 11 (by omega), x 12 (by omega)⟩
theorem RLW_in {ro : Nat → Int} (R : RLW ro) : ∀ j, j < 13 → rlo j ≤ ro j ∧ ro j ≤ rhi j := fun j hj => by
  by_cases c : j < 6
  · have h := R.1 j c
    unfold rlo rhi
    rw [if_neg (by omega), if_neg (by omega), if_neg (by omega)]
    exact h
  · rcases (show j = 6 ∨ j = 7 ∨ j = 8 ∨ j = 9 ∨ j = 10 ∨ j = 11 ∨ j = 12 by omega) with e | e | e | e | e | e | e <;> subst e
    · exact R.2.1
    · exact R.2.2.1
    · exact R.2.2.2.1
    · exact R.2.2.2.2.1
    · exact R.2.2.2.2.2.1
    · exact R.2.2.2.2.2.2.1
    · exact R.2.2.2.2.2.2.2
theorem RLW_c {ro ro' : Nat → Int} (R : RLW ro) (e : ∀ j, j < 13 → ro' j = ro j) : RLW ro' := RLW_of (fun j hj => by rw [e j hj]; exact RLW_in R j hj)
theorem RQW_c {d d' : Nat → Int} (R : RQW d) (e : ∀ j, j < 13 → d' j = d j) : RQW d' := fun j hj => by rw [e j hj]; exact R j hj
theorem plain_r : ∀ j, j < 13 → rlo j ≤ av_plain j ∧ av_plain j ≤ rhi j := by decide
section
variable {b : Nat → Int} {lim : Nat} {t t' : TT} {d : Nat → Int}
def DQ (t : TT) (d : Nat → Int) : Prop := t.2.2.2 = -1 → RQW d
theorem dq_t (V : DQ t d) (e : t'.2.2.2 = -1 → t.2.2.2 = -1) : DQ t' d := fun z => V (e z)
theorem dq_u {o : Nat} {v : Int} (V : DQ t d) (e : t.2.2.2 = -1 → rlo o ≤ v ∧ v ≤ rhi o) : DQ t (av_u1 d o v) := fun z j hj => by
  by_cases c : j = o
  · subst c
    rw [u1_eq]
    exact Or.inr (e z)
  · rw [u1_ne c]
    exact V z j hj
theorem dq_C {o n c : Nat} (V : DQ t d) (en : (av_lit n).count 32 = c) (hc : (c : Int) = rhi o) (h0 : rlo o = 0) : DQ (rlC b lim o n t d).1 (rlC b lim o n t d).2 := by
  have g := pkv_le (b := b) (t := t) n c en
  show DQ (cho b lim t n) (av_u1 d o (pkv b t n))
  refine dq_u (dq_t V (fun z => (cho_o z).1)) (fun z => ?_)
  have h1 := (cho_o z).2.1
  omega
theorem dq_N {o : Nat} (V : DQ t d) (ho : o = 7 ∨ o = 8) : DQ (rlN b lim o t d).1 (rlN b lim o t d).2 := by
  show DQ (nmt b lim t 0 999) (av_u1 d o (nmv b t 0 999))
  refine dq_u (dq_t V (fun z => (nmt_o z).1)) (fun z => ?_)
  have h1 := nmv_b z
  unfold rlo rhi
  rw [if_pos ho, if_pos ho]
  omega
theorem dq_Y (V : DQ t d) : DQ (rlY b lim t d).1 (rlY b lim t d).2 := by
  have g := pkv_le (b := b) (t := cho b lim t 13) 14 2 rfl
  have w : ∀ {d : Nat → Int} {o : Nat}, DQ (cho b lim (cho b lim t 13) 14) d → o ≤ 2 → DQ (cho b lim (cho b lim t 13) 14) (av_u1 d o (pkv b (cho b lim t 13) 14)) := fun V' ho => dq_u V' (fun z => by
    have h1 := (cho_o z).2.1
    unfold rlo rhi
    rw [if_neg (by omega), if_neg (by omega), if_neg (by omega)]
    omega)
  have V0 : DQ (cho b lim (cho b lim t 13) 14) d := dq_t V (fun z => (cho_o (cho_o z).1).1)
  have V1 : DQ (cho b lim (cho b lim t 13) 14) (rlY1 (pkv b t 13) (pkv b (cho b lim t 13) 14) d) := by
    unfold rlY1
    split
    · exact w V0 (by omega)
    · exact V0
  have V2 : DQ (cho b lim (cho b lim t 13) 14) (rlY2 (pkv b t 13) (pkv b (cho b lim t 13) 14) (rlY1 (pkv b t 13) (pkv b (cho b lim t 13) 14) d)) := by
    unfold rlY2
    split
    · exact w V1 (by omega)
    · exact V1
  show DQ (cho b lim (cho b lim t 13) 14) (rlY3 (pkv b t 13) (pkv b (cho b lim t 13) 14) (rlY2 (pkv b t 13) (pkv b (cho b lim t 13) 14) (rlY1 (pkv b t 13) (pkv b (cho b lim t 13) 14) d)))
  unfold rlY3
  split
  · exact w V2 (by omega)
  · exact V2
theorem dq_K {k : Int} (V : DQ t d) : DQ (rlK b lim k t d).1 (rlK b lim k t d).2 := by
  unfold rlK
  (repeat' split)
  · exact dq_Y V
  · exact dq_C V (c := 2) rfl rfl rfl
  · exact dq_C V (c := 2) rfl rfl rfl
  · exact dq_C V (c := 2) rfl rfl rfl
  · exact dq_C V (c := 1) rfl rfl rfl
  · exact dq_N V (Or.inl rfl)
  · exact dq_N V (Or.inr rfl)
  · exact dq_C V (c := 1) rfl rfl rfl
  · exact dq_C V (c := 2) rfl rfl rfl
  · exact dq_C V (c := 1) rfl rfl rfl
  · exact dq_C V (c := 2) rfl rfl rfl
  · exact V
theorem dq_1 (V : DQ t d) : DQ (rl1 b lim t d).1 (rl1 b lim t d).2 := by
  show DQ (sem b lim (rlK b lim (pkv b t 12) (cho b lim t 12) d).1) (rlK b lim (pkv b t 12) (cho b lim t 12) d).2
  exact dq_t (dq_K (dq_t V (fun z => (cho_o z).1))) (fun z => sem_o z)
theorem dq_f : ∀ (f n : Nat) (t : TT) (d : Nat → Int), DQ t d → DQ (rlf b lim f n t d).2.1 (rlf b lim f n t d).2.2 := by
  intro f
  induction f with
  | zero => intro n t d V; exact V
  | succ f ih =>
    intro n t d V
    unfold rlf
    split
    · split
      · exact fun z => absurd z fal_ne
      · exact ih _ _ _ (dq_1 V)
    · exact V
theorem dq_A {y : Int} (h : (rlA b lim y t d).2.1.2.2.2 = -1) : RQW (rlA b lim y t d).2.2 := by
  have V0 : DQ t (ufil d 0 14 (-2)) := fun _ j hj => Or.inl (if_pos (by omega))
  have V := dq_f (b := b) (lim := lim) 21 0 t _ V0
  unfold rlA at h ⊢
  dsimp only at h ⊢
  intro j hj
  rw [u1_ne (by omega)]
  refine V ?_ j hj
  split at h
  · exact absurd h fal_ne
  · exact h
end
/-- a law: the plain one with what is told over it -/
theorem RLW_lov {f d : Nat → Int} (R : RQW d) : RLW (lov (plr f av_plain) d 14) := RLW_of (fun j hj => by
  rw [lov_v (by omega)]
  split
  · exact plain_r j hj
  · next c =>
    rcases R j hj with e | e
    · exact absurd e c
    · exact e)
end
section
/-! THE CLASS'S OWN BOOK: cases, laws, clauses well formed, what is sure; what changes leave it -/
/-- a shelf of well formed things -/
def WSH (h : av_H) (o : Nat) : Prop := (∀ i : Nat, i < 16 → (i : Int) < hF h o 3 → ∃ t c s f, CC h (hR h (o + 1) i) t c s f ∧ ∀ q, q < s → WRW (i : Int) q f) ∧ (∀ l : Nat, l < 8 → (l : Int) < hF h o 4 → RLW (hA h (o + 3 + l))) ∧ (∀ c : Nat, c < 6 → (c : Int) < hF h o 5 → RQW (hA h (o + 12 + c)))
def WXI (h : av_H) : Prop := ∀ i : Nat, i < 4 → (i : Int) < hF h 0 7 → ∃ o, hR h 21 i = some o ∧ 122 ≤ o ∧ o + 18 ≤ h.1 ∧ WSH h o
/-- the cases as pictures U, S -/
def PIC (U : Nat → Nat → Int) (S : Nat → Nat) (h : av_H) : Prop := ∀ i : Nat, i < 16 → (i : Int) < hF h 3 3 → ∃ t c f, CC h (hR h 4 i) t c (S i) f ∧ U i = ctn f (S i) ∧ ∀ q, q < S i → WRW (i : Int) q f
def CLU (U : Nat → Nat → Int) (S : Nat → Nat) (h : av_H) : Prop := PIC U S h ∧ (∀ l : Nat, l < 8 → (l : Int) < hF h 3 4 → RLW (hA h (6 + l))) ∧ (∀ c : Nat, c < 6 → (c : Int) < hF h 3 5 → RQW (hA h (15 + c))) ∧ WXI h
def CLS (h : av_H) : Prop := ∃ U S, CLU U S h ∧ SUA U S (hF h 3 3) (hF h 3 4) (fun k => hA h (6 + k)) (hA h 27)
/-- what the class's book looks at stays, but for what is sure -/
def CF0 (g h : av_H) : Prop := g.1 ≤ h.1 ∧ (hF h 3 3 = hF g 3 3 ∧ hF h 3 4 = hF g 3 4 ∧ hF h 3 5 = hF g 3 5 ∧ hF h 0 7 = hF g 0 7) ∧ (hR h 4 = hR g 4 ∧ hR h 21 = hR g 21) ∧ (∀ q, 6 ≤ q → q < 21 → hA h q = hA g q) ∧ ∀ q, 122 ≤ q → q < g.1 → hK h q = hK g q ∧ (∀ j, hG h q j = hG g q j) ∧ hA h q = hA g q ∧ hR h q = hR g q ∧ ∀ j, hF h q j = hF g q j
section
variable {g h : av_H}
theorem CC_cf {v : Option Nat} {t c s : Nat} {f : Nat → Int} (G : av_Gd g) (F : ∀ q, 122 ≤ q → q < g.1 → hK h q = hK g q ∧ (∀ j, hG h q j = hG g q j) ∧ hA h q = hA g q ∧ hR h q = hR g q ∧ ∀ j, hF h q j = hF g q j) (x : CC g v t c s f) : CC h v t c s f := by
  obtain ⟨y1, ⟨o1, o2, o3, o4, o5, o6⟩, y3, y4, y5, y6, y7⟩ := x
  obtain ⟨t1, t2, t3, t4, t5⟩ := F t y5 (gd_lt G o1 (by decide))
  obtain ⟨c1, c2, c3, c4, c5⟩ := F c y6 (gd_lt G o5 (by decide))
  exact ⟨y1, ⟨t1.trans o1, (t5 1).trans o2, (t5 3).trans o3, (t2 0).trans o4, c1.trans o5, c3.trans o6⟩, y3, y4, y5, y6, y7⟩
theorem WSH_cf {o : Nat} (G : av_Gd g) (F : ∀ q, 122 ≤ q → q < g.1 → hK h q = hK g q ∧ (∀ j, hG h q j = hG g q j) ∧ hA h q = hA g q ∧ hR h q = hR g q ∧ ∀ j, hF h q j = hF g q j) (h1 : 122 ≤ o) (h2 : o + 18 ≤ g.1) (x : WSH g o) : WSH h o := by
  obtain ⟨x1, x2, x3⟩ := x
  have fo := (F o h1 (by omega)).2.2.2.2
  refine ⟨fun i hi hh => ?_, fun l hl hh => ?_, fun c hc hh => ?_⟩
  · rw [fo 3] at hh
    obtain ⟨t, c, s, f, y1, y2⟩ := x1 i hi hh
    exact ⟨t, c, s, f, by rw [(F (o + 1) (by omega) (by omega)).2.2.2.1]; exact CC_cf G F y1, y2⟩
  · rw [fo 4] at hh
    rw [(F (o + 3 + l) (by omega) (by omega)).2.2.1]
    exact x2 l hl hh
  · rw [fo 5] at hh
    rw [(F (o + 12 + c) (by omega) (by omega)).2.2.1]
    exact x3 c hc hh
theorem CLU_cf {U : Nat → Nat → Int} {S : Nat → Nat} (G : av_Gd g) (F : CF0 g h) (x : CLU U S g) : CLU U S h := by
  obtain ⟨f1, ⟨f2, f3, f4, f5⟩, ⟨f6, f7⟩, f8, f9⟩ := F
  obtain ⟨x1, x2, x3, x4⟩ := x
  refine ⟨fun i hi hh => ?_, fun l hl hh => ?_, fun c hc hh => ?_, fun i hi hh => ?_⟩
  · rw [f2] at hh
    obtain ⟨t, c, f, y1, y2⟩ := x1 i hi hh
    exact ⟨t, c, f, by rw [f6]; exact CC_cf G f9 y1, y2⟩
  · rw [f3] at hh
    rw [f8 _ (by omega) (by omega)]
    exact x2 l hl hh
  · rw [f4] at hh
    rw [f8 _ (by omega) (by omega)]
    exact x3 c hc hh
  · rw [f5] at hh
    obtain ⟨o, y1, y2, y3, y4⟩ := x4 i hi hh
    exact ⟨o, by rw [f7]; exact y1, y2, by omega, WSH_cf G f9 y2 y3 y4⟩
theorem SUA_c {U : Nat → Nat → Int} {S : Nat → Nat} {n L : Int} {ro ro' : Nat → Nat → Int} {sr : Nat → Int} (x : SUA U S n L ro sr) (e : ∀ l : Nat, l < 8 → (l : Int) < L → ro' l = ro l) : SUA U S n L ro' sr := fun l hl => ⟨fun h1 i hi => by
  rw [e l hl h1]
  exact (x l hl).1 h1 i hi, (x l hl).2⟩
/-- nothing is known -/
theorem SUA_0 {U : Nat → Nat → Int} {S : Nat → Nat} {n L : Int} {ro : Nat → Nat → Int} {sr : Nat → Int} (e : ∀ j, j < 144 → sr j = 0) : SUA U S n L ro sr := fun l hl => ⟨fun _ i hi => Or.inl (e _ (by omega)), fun _ i hi => e _ (by omega)⟩
theorem CLS_cf (G : av_Gd g) (F : CF0 g h) (e : hA h 27 = hA g 27) (x : CLS g) : CLS h := by
  obtain ⟨U, S, x1, x2⟩ := x
  refine ⟨U, S, CLU_cf G F x1, ?_⟩
  obtain ⟨f1, ⟨f2, f3, f4, f5⟩, ⟨f6, f7⟩, f8, f9⟩ := F
  rw [f2, f3, e]
  exact SUA_c x2 (fun l h1 _ => f8 _ (by omega) (by omega))
end
theorem CF0_fq {eA eR : Nat → Prop} {eF eG : Nat → Nat → Prop} {g h : av_H} {n m : Nat} (G : av_Gd g) (L : LY g) (w : LOW eA eR eF eG) (F : FQ eA eR eF eG g h n m) (nF : ¬ eF 3 3 ∧ ¬ eF 3 4 ∧ ¬ eF 3 5 ∧ ¬ eF 0 7) (nR : ¬ eR 4 ∧ ¬ eR 21) (nA : ∀ q, 6 ≤ q → q < 21 → ¬ eA q) : CF0 g h := by
  have l : ∀ {q : Nat}, q < 122 → q < g.1 := fun hq => ly_lt G L hq
  have f3 := (F.2.2 3 (l (by omega))).2.2.2.2
  refine ⟨by rw [F.1]; omega, ⟨f3 3 nF.1, f3 4 nF.2.1, f3 5 nF.2.2.1, (F.2.2 0 (l (by omega))).2.2.2.2 7 nF.2.2.2⟩, ⟨(F.2.2 4 (l (by omega))).2.2.2.1 nR.1, (F.2.2 21 (l (by omega))).2.2.2.1 nR.2⟩, fun q h1 h2 => (F.2.2 q (l (by omega))).2.2.1 (nA q h1 h2), fun q h1 h2 => ?_⟩
  obtain ⟨a1, a2, a3, a4, a5⟩ := F.2.2 q h2
  exact ⟨a1, fun j => a2 j (fun z => by have := w.2.2.2 q j z; omega), a3 (fun z => by have := w.1 q z; omega), a4 (fun z => by have := w.2.1 q z; omega), fun j => a5 j (fun z => by have := w.2.2.1 q j z; omega)⟩
theorem FQ_27 {eA eR : Nat → Prop} {eF eG : Nat → Nat → Prop} {g h : av_H} {n m : Nat} (G : av_Gd g) (L : LY g) (F : FQ eA eR eF eG g h n m) (e : ¬ eA 27) : hA h 27 = hA g 27 := (F.2.2 27 (ly_lt G L (by omega))).2.2.1 e
/-- the reference's looks, its readers, its copies leave the class alone -/
theorem CLS_FM {g h : av_H} (G : av_Gd g) (F : FM g h) (x : CLS g) : CLS h := by
  have f : ∀ q j, q ≠ 77 → hF h q j = hF g q j := fun q j hq => F.2.2.2.2.2.1 q j (by simp only [mF, nbeq hq, Bool.false_and])
  have a : ∀ q, q < 95 ∨ 121 < q → hA h q = hA g q := fun q hq => F.2.2.2.2.2.2 q (by
    rcases hq with z | z
    · simp only [mA, nble (show q < 95 by omega), Bool.false_and]
    · simp only [mA, nble (show 121 < q by omega), Bool.and_false])
  refine CLS_cf G ⟨by rw [F.1]; exact Nat.le_refl _, ⟨f 3 3 (by decide), f 3 4 (by decide), f 3 5 (by decide), f 0 7 (by decide)⟩, ⟨congrFun F.2.2.2.1 4, congrFun F.2.2.2.1 21⟩, fun q h1 h2 => a q (by omega), fun q h1 h2 => ⟨congrFun F.2.2.1 q, fun j => congrFun (congrFun F.2.2.2.2.1 q) j, a q (by omega), congrFun F.2.2.2.1 q, fun j => f q j (by omega)⟩⟩ (a 27 (by omega)) x
theorem CLS_md {eF : Nat → Nat → Prop} {g h : av_H} (G : av_Gd g) (L : LY g) (F : FQ mdA nun1 eF nun2 g h 0 0) (e : ∀ q j, eF q j → q = 77) (x : CLS g) : CLS h := by
  have w : LOW mdA nun1 eF nun2 := ⟨fun q e => by unfold mdA at e; omega, fun q e => e.elim, fun q j z => by have := e q j z; omega, fun q j e => e.elim⟩
  exact CLS_cf G (CF0_fq G L w F ⟨fun z => by have := e _ _ z; omega, fun z => by have := e _ _ z; omega, fun z => by have := e _ _ z; omega, fun z => by have := e _ _ z; omega⟩ ⟨fun z => z, fun z => z⟩ (fun q h1 h2 z => by unfold mdA at z; omega)) (FQ_27 G L F (fun z => by unfold mdA at z; omega)) x
theorem CLS_FD {g h : av_H} (G : av_Gd g) (L : LY g) (F : FD g h) (x : CLS g) : CLS h := CLS_md G L (FQ_mo (FQ_FD F) (fun q e => by unfold fdA2 at e; unfold mdA; omega) (fun _ e => e) (fun _ _ e => e) (fun _ _ e => e)) (fun q j z => by unfold fdF2 at z; exact z.1) x
/-- what is read alone leaves it -/
theorem CLS_rd {g h : av_H} (G : av_Gd g) (L : LY g) (F : FQ rdA2 nun1 rdF0 nun2 g h 0 0) (x : CLS g) : CLS h := CLS_cf G (CF0_fq G L rd_low1 F ⟨fun z => by unfold rdF0 at z; omega, fun z => by unfold rdF0 at z; omega, fun z => by unfold rdF0 at z; omega, fun z => by unfold rdF0 at z; omega⟩ ⟨fun z => z, fun z => z⟩ (fun q h1 h2 z => by unfold rdA2 at z; omega)) (FQ_27 G L F (fun z => by unfold rdA2 at z; omega)) x
/-! sureness looks at the cases before alone -/
theorem srt_c {U U' : Nat → Nat → Int} {S S' : Nat → Nat} {ro : Nat → Int} : ∀ n, (∀ j, j < n → U' j = U j ∧ S' j = S j) → srt U' S' ro n = srt U S ro n := by
  intro n
  induction n with
  | zero => intro _; funext j; rfl
  | succ n ih =>
    intro e
    have i := ih (fun j hj => e j (by omega))
    funext j
    show (if j = n then (@ite _ (SRE (U' n) ro (brv (U' n) (srt U' S' ro n)) (S' n)) (Classical.propDecidable _) 2 1) else srt U' S' ro n j) = (if j = n then (@ite _ (SRE (U n) ro (brv (U n) (srt U S ro n)) (S n)) (Classical.propDecidable _) 2 1) else srt U S ro n j)
    rw [i, (e n (by omega)).1, (e n (by omega)).2]
theorem sre_c {U U' : Nat → Nat → Int} {S S' : Nat → Nat} {ro : Nat → Int} {i : Nat} (e : ∀ j, j ≤ i → U' j = U j ∧ S' j = S j) : sre U' S' ro i = sre U S ro i := congrFun (srt_c (i + 1) (fun j hj => e j (by omega))) i
/-- one more case -/
theorem SUA_n {U U' : Nat → Nat → Int} {S S' : Nat → Nat} {n L : Int} {ro : Nat → Nat → Int} {sr : Nat → Int} (x : SUA U S n L ro sr) (e : ∀ j : Nat, (j : Int) < n → U' j = U j ∧ S' j = S j) : SUA U' S' (n + 1) L ro sr := fun l hl => ⟨fun h1 i hi => by
  rcases (x l hl).1 h1 i hi with z | z
  · exact Or.inl z
  · exact Or.inr ⟨by omega, by rw [z.2]; exact (sre_c (fun j hj => e j (by omega))).symm⟩, (x l hl).2⟩
/-- one more law -/
theorem SUA_l {U : Nat → Nat → Int} {S : Nat → Nat} {n L : Int} {ro ro' : Nat → Nat → Int} {sr : Nat → Int} (x : SUA U S n L ro sr) (e : ∀ l : Nat, l < 8 → (l : Int) < L → ro' l = ro l) : SUA U S n (L + 1) ro' sr := fun l hl => by
  refine ⟨fun h1 i hi => ?_, fun h1 i hi => (x l hl).2 (by omega) i hi⟩
  by_cases c : (l : Int) < L
  · rw [e l hl c]
    exact (x l hl).1 c i hi
  · exact Or.inl ((x l hl).2 (by omega) i hi)
end
section
/-! MORE FORGETS WHAT IS SURE -/
set_option maxRecDepth 100000 in
set_option maxHeartbeats 4000000 in
theorem cy_96 {h : av_H} (I : IC h) (K : KT h) (hcs : ∀ i : Nat, i < 16 → (i : Int) < hF h 3 3 → ∃ t c s f, CC h (hR h 4 i) t c s f) (k n : Int) (qk : -2147483648 ≤ k ∧ k ≤ 2147483647) (qn : -2147483648 ≤ n ∧ n ≤ 2147483647)  {Q : Option av_V → av_H → Prop} (hqA : (k < 0 ∨ hF h 3 3 ≤ k ∨ n < 0 ∨ hF h 1 1 < n) → Q (some (.inl (-2))) h) (hq0 : 0 ≤ k → k < hF h 3 3 → 0 ≤ n → n ≤ hF h 1 1 → ∀ ot oc os of, CC h (hR h 4 (Int.toNat k)) ot oc os of → (rbA (hA h 2) n.toNat k os (adv (hA h 2) n.toNat (0, 0, 0, -1)) (cpr h oc os (hA h 23))).2.1.2.2.2 ≠ -1 → ∀ h', FQ rdA2 (fun q => q = 4) (rdF2 3) nun2 h h' 0 0 → KT h' → hF h' 1 1 = 0 → hF h' 0 8 = (rbA (hA h 2) n.toNat k os (adv (hA h 2) n.toNat (0, 0, 0, -1)) (cpr h oc os (hA h 23))).2.1.2.2.2 → hF h' 3 3 = hF h 3 3 → hR h' 4 = hR h 4 → hA h' 25 = hA h 25 → Q (some (.inl (-1))) h') (hq1 : 0 ≤ k → k < hF h 3 3 → 0 ≤ n → n ≤ hF h 1 1 → ∀ ot oc os of, CC h (hR h 4 (Int.toNat k)) ot oc os of → (rbA (hA h 2) n.toNat k os (adv (hA h 2) n.toNat (0, 0, 0, -1)) (cpr h oc os (hA h 23))).2.1.2.2.2 = -1 → ∀ h' t c f, FQ moA (fun q => q = 4) (rdF2 3) nun2 h h' 2 (4 + 21 * (rbA (hA h 2) n.toNat k os (adv (hA h 2) n.toNat (0, 0, 0, -1)) (cpr h oc os (hA h 23))).1) → KT h' → hF h' 1 1 = 0 → hF h' 0 8 = -1 → hF h' 3 3 = hF h 3 3 → hR h' 4 = av_u1 (hR h 4) (Int.toNat k) (some t) → CC h' (some t) t c (rbA (hA h 2) n.toNat k os (adv (hA h 2) n.toNat (0, 0, 0, -1)) (cpr h oc os (hA h 23))).1 f → (∀ j, j < 21 * (rbA (hA h 2) n.toNat k os (adv (hA h 2) n.toNat (0, 0, 0, -1)) (cpr h oc os (hA h 23))).1 → f j = (rbA (hA h 2) n.toNat k os (adv (hA h 2) n.toNat (0, 0, 0, -1)) (cpr h oc os (hA h 23))).2.2 j) → hA h' 25 = hA h 25 → (∀ j, j < 144 → hA h' 27 j = 0) → Q (some (.inl ((rbA (hA h 2) n.toNat k os (adv (hA h 2) n.toNat (0, 0, 0, -1)) (cpr h oc os (hA h 23))).1 : Int))) h') : av_wp none cd_96 0 [some (.inr (.inr (.inl (some (0))))), some (.inl k), some (.inl n), none, none] [] h Q := by
  refine gd_of (fun hg => ?_)
  obtain ⟨⟨lim0, t0, C⟩, ql, hz, x74⟩ := K
  have L := I.1
  obtain ⟨len, hl⟩ : ∃ v, hF h 1 1 = v := ⟨_, rfl⟩
  rw [hl] at ql
  have cn := ic_cc I
  have ln := ic_lc I
  have kn := ic_kc I
  obtain ⟨cnt, hc⟩ : ∃ v, hF h 3 3 = v := ⟨_, rfl⟩
  obtain ⟨lnt, hlc⟩ : ∃ v, hF h 3 4 = v := ⟨_, rfl⟩
  obtain ⟨knt, hkc⟩ : ∃ v, hF h 3 5 = v := ⟨_, rfl⟩
  rw [hc] at cn
  rw [hlc] at ln
  rw [hkc] at kn
  rw [hc] at hcs
  rw [hl, hc] at hqA
  rw [hl, hc] at hq0 hq1
  refine av_wp_sqF ck_96 1 (pc' := 1) (lv' := [some (.inr (.inr (.inl (some (0))))), some (.inl k), some (.inl n), none, none]) (st' := [.inr (.inr (.inl (some (0))))]) (h' := h) rfl ?_
  refine wq_gr (p' := 4) (ck_96 _ _ rfl) rfl (congrArg Prod.fst (ly_k L 0 rfl)) rfl (ly_g L 0 1 3 rfl) ?_
  refine av_wp_sqF ck_96 1 (pc' := 5) (lv' := [some (.inr (.inr (.inl (some (0))))), some (.inl k), some (.inl n), none, none]) (st' := [.inl k, .inr (.inr (.inl (some (3))))]) (h' := h) rfl ?_
  refine wq_cv (p' := 8) (av_qc (.invokevirtual 96) 69 1 0 5) 2 cd_69 [.inl k] (3) 5 [some (.inr (.inr (.inl (some (3))))), some (.inl k)] (ck_96 _ _ rfl) rfl rfl pp_69 rfl rfl rfl (congrArg Prod.fst (ly_k L 3 rfl)) rfl rfl rfl rfl ?_
  refine ct_69x L hc cn k (by omega) (fun z0 => ?_) (fun z1 z2 => ?_)
  · show av_wp _ cd_96 8 [some (.inr (.inr (.inl (some (0))))), some (.inl k), some (.inl n), none, none] [.inr (.inr (.inl none))] h _
    refine av_wp_sqF ck_96 4 (pc' := 26) (lv' := [some (.inr (.inr (.inl (some (0))))), some (.inl k), some (.inl n), some (.inr (.inr (.inl none))), none]) (st' := [.inl (-2)]) (h' := h) rfl ?_
    refine av_wp_ret (v := some (.inl (-2))) (ck_96 _ _ rfl) rfl rfl ?_
    exact hqA (by omega)
  · obtain ⟨ot, oc, os, of, occ⟩ := hcs (Int.toNat k) (by omega) (by omega)
    rw [occ.1]
    show av_wp _ cd_96 8 [some (.inr (.inr (.inl (some (0))))), some (.inl k), some (.inl n), none, none] [.inr (.inr (.inl (some (ot))))] h _
    refine av_wp_sqF ck_96 4 (pc' := 14) (lv' := [some (.inr (.inr (.inl (some (0))))), some (.inl k), some (.inl n), some (.inr (.inr (.inl (some (ot))))), none]) (st' := [.inr (.inr (.inl (some (0))))]) (h' := h) rfl ?_
    refine wq_gr (p' := 17) (ck_96 _ _ rfl) rfl (congrArg Prod.fst (ly_k L 0 rfl)) rfl (ly_g L 0 0 1 rfl) ?_
    refine av_wp_sqF ck_96 1 (pc' := 18) (lv' := [some (.inr (.inr (.inl (some (0))))), some (.inl k), some (.inl n), some (.inr (.inr (.inl (some (ot))))), none]) (st' := [.inl n, .inr (.inr (.inl (some (1))))]) (h' := h) rfl ?_
    refine wq_cv (p' := 21) (av_qc (.invokevirtual 75) 80 1 0 6) 2 cd_80 [.inl n] (1) 6 [some (.inr (.inr (.inl (some (1))))), some (.inl n)] (ck_96 _ _ rfl) rfl rfl pp_80 rfl rfl rfl (congrArg Prod.fst (ly_k L 1 rfl)) rfl rfl rfl rfl ?_
    refine ct_80 L hl ql n (by omega) (fun v1 p2 => ?_)
    show av_wp _ cd_96 21 [some (.inr (.inr (.inl (some (0))))), some (.inl k), some (.inl n), some (.inr (.inr (.inl (some (ot))))), none] [.inl v1] h _
    refine wq_k1 (p' := 24) (ck_96 _ _ rfl) rfl ⟨by omega, by omega⟩ (fun c3 => ?_) (fun c4 => ?_)
    · have c3 : v1 ≠ (0) := c3
      refine av_wp_sqF ck_96 1 (pc' := 28) (lv' := [some (.inr (.inr (.inl (some (0))))), some (.inl k), some (.inl n), some (.inr (.inr (.inl (some (ot))))), none]) (st' := [.inr (.inr (.inl (some (0))))]) (h' := h) rfl ?_
      refine wq_gr (p' := 31) (ck_96 _ _ rfl) rfl (congrArg Prod.fst (ly_k L 0 rfl)) rfl (ly_g L 0 0 1 rfl) ?_
      refine av_wp_sqF ck_96 1 (pc' := 32) (lv' := [some (.inr (.inr (.inl (some (0))))), some (.inl k), some (.inl n), some (.inr (.inr (.inl (some (ot))))), none]) (st' := [.inl n, .inr (.inr (.inl (some (1))))]) (h' := h) rfl ?_
      refine wq_cv (p' := 35) (av_qc (.invokevirtual 82) 81 1 0 6) 2 cd_81 [.inl n] (1) 6 [some (.inr (.inr (.inl (some (1))))), some (.inl n)] (ck_96 _ _ rfl) rfl rfl pp_81 rfl rfl rfl (congrArg Prod.fst (ly_k L 1 rfl)) rfl rfl rfl rfl ?_
      refine ct_81 C (FT_rf h) hl ql n (by omega) (fun h1 C1 F1 => ?_)
      show av_wp _ cd_96 35 [some (.inr (.inr (.inl (some (0))))), some (.inl k), some (.inl n), some (.inr (.inr (.inl (some (ot))))), none] [] h1 _
      refine av_wp_sqF ck_96 1 (pc' := 36) (lv' := [some (.inr (.inr (.inl (some (0))))), some (.inl k), some (.inl n), some (.inr (.inr (.inl (some (ot))))), none]) (st' := [.inr (.inr (.inl (some (0))))]) (h' := h1) rfl ?_
      refine wq_gr (p' := 39) (ck_96 _ _ rfl) rfl (congrArg Prod.fst (ly_k C1.1 0 rfl)) rfl (ly_g C1.1 0 3 22 rfl) ?_
      refine av_wp_sqF ck_96 2 (pc' := 41) (lv' := [some (.inr (.inr (.inl (some (0))))), some (.inl k), some (.inl n), some (.inr (.inr (.inl (some (ot))))), none]) (st' := [.inl k, .inr (.inr (.inl (some (ot)))), .inr (.inr (.inl (some (22))))]) (h' := h1) rfl ?_
      have q0 : FQ rdA2 (fun q => q = 4) (rdF2 3) nun2 h h1 0 0 := FQ_T F1 (Or.inl rfl) (Or.inr rfl) (fun _ => Or.inl rfl)
      have l1 := occ.2.2.2.2.1
      have l2 := occ.2.2.2.2.2.1
      have v0 := occ.2.2.1
      have d0 := occ.2.2.2.1
      have oX : CX h1 ot oc os of := CX_fq hg q0 (fun j z => by unfold rdF2 at z; omega) (fun j z => z) (fun z => by unfold rdA2 at z; omega) occ.2.1
      have ea : hA h1 oc = hA h oc := (oX.2.2.2.2.2).trans occ.2.1.2.2.2.2.2.symm
      have ec : cpr h1 oc os (hA h 23) = cpr h oc os (hA h 23) := by unfold cpr; rw [ea]
      have Hq0 := hq0 (by omega) (by omega) (by omega) (by omega) ot oc os of occ
      have Hq1 := hq1 (by omega) (by omega) (by omega) (by omega) ot oc os of occ
      clear hq0 hq1
      rw [← ec] at Hq0 Hq1
      refine wq_cv (p' := 44) (av_qc (.invokevirtual 85) 35 2 0 2) 6 cd_35 [.inl k, .inr (.inr (.inl (some (ot))))] (22) 2 [some (.inr (.inr (.inl (some (22))))), some (.inr (.inr (.inl (some (ot))))), some (.inl k), none, none, none] (ck_96 _ _ rfl) rfl rfl pp_35 rfl rfl rfl (congrArg Prod.fst (ly_k C1.1 22 rfl)) rfl rfl rfl rfl ?_
      refine ct_35 C1 (cx_co oX v0 (by omega)) (fun j hj h20 => by rw [oX.2.2.2.2.2, ctn_o h20]; exact v0.2.2.2 j h20) (fun q hq h2 => by rw [oX.2.2.2.2.2, ctn_o (by omega)] at h2; rw [oX.2.2.2.2.2, ctn_o (by omega)]; exact d0 q hq h2) hz (k) (by omega) (fun x0 h2 C2 B2 f2 l2 r2 a2 z2 => ?_) (fun x1 h5 h4 f C4 A4 C5 B4 f4 l4 r4 a4 z4 cx fv sd s1 fj l122 => ?_)
      · show av_wp _ cd_96 44 [some (.inr (.inr (.inl (some (0))))), some (.inl k), some (.inl n), some (.inr (.inr (.inl (some (ot))))), none] [.inr (.inr (.inl none))] h2 _
        refine av_wp_sqF ck_96 2 (pc' := 47) (lv' := [some (.inr (.inr (.inl (some (0))))), some (.inl k), some (.inl n), some (.inr (.inr (.inl (some (ot))))), some (.inr (.inr (.inl none)))]) (st' := [.inr (.inr (.inl (some (0))))]) (h' := h2) rfl ?_
        refine wq_cv (p' := 50) (av_qc (.invokevirtual 89) 99 0 0 7) 1 cd_99 [] (0) 7 [some (.inr (.inr (.inl (some (0)))))] (ck_96 _ _ rfl) rfl rfl pp_99 rfl rfl rfl (congrArg Prod.fst (ly_k C2.1 0 rfl)) rfl rfl rfl rfl ?_
        refine ct_99 C2.1 C2 ?_
        show av_wp _ cd_96 50 [some (.inr (.inr (.inl (some (0))))), some (.inl k), some (.inl n), some (.inr (.inr (.inl (some (ot))))), some (.inr (.inr (.inl none)))] [] (hwF (hwF h2 0 8 (rbA (hA h 2) n.toNat k os (adv (hA h 2) n.toNat (0, 0, 0, -1)) (cpr h1 oc os (hA h 23))).2.1.2.2.2) 1 1 (0)) _
        refine av_wp_sqF ck_96 3 (pc' := 56) (lv' := [some (.inr (.inr (.inl (some (0))))), some (.inl k), some (.inl n), some (.inr (.inr (.inl (some (ot))))), some (.inr (.inr (.inl none)))]) (st' := [.inl (-1)]) (h' := (hwF (hwF h2 0 8 (rbA (hA h 2) n.toNat k os (adv (hA h 2) n.toNat (0, 0, 0, -1)) (cpr h1 oc os (hA h 23))).2.1.2.2.2) 1 1 (0))) rfl ?_
        refine av_wp_ret (v := some (.inl (-1))) (ck_96 _ _ rfl) rfl rfl ?_
        have q1 := q0
        have q2 : FQ rdA2 (fun q => q = 4) (rdF2 3) nun2 h1 h2 0 0 := FQ_35 B2 f2 r2 a2 (Or.inl rfl) (fun _ => ⟨Or.inl rfl, Or.inr (Or.inl rfl)⟩)
        have q3 : FQ rdA2 (fun q => q = 4) (rdF2 3) nun2 h (hwF (hwF h2 0 8 (rbA (hA h 2) n.toNat k os (adv (hA h 2) n.toNat (0, 0, 0, -1)) (cpr h1 oc os (hA h 23))).2.1.2.2.2) 1 1 (0)) 0 0 := FQ_tr (FQ_tr (FQ_tr q1 q2) (FQ_wF (Or.inr (Or.inr (Or.inl ⟨rfl, rfl⟩))))) (FQ_wF (Or.inl rfl))
        have k3 : KT (hwF (hwF h2 0 8 (rbA (hA h 2) n.toNat k os (adv (hA h 2) n.toNat (0, 0, 0, -1)) (cpr h1 oc os (hA h 23))).2.1.2.2.2) 1 1 (0)) := KT_of (CT_wF0 (CT_wF0 C2 (Or.inl (by decide))) (Or.inr rfl)) (by show (0 : Int) ≤ 0 ∧ (0 : Int) ≤ 900; omega) z2 (CX_fq hg q3 (fun j z => by unfold rdF2 at z; omega) (fun j z => z) (fun z => by unfold rdA2 at z; omega) x74)
        exact Hq0 x0 (hwF (hwF h2 0 8 (rbA (hA h 2) n.toNat k os (adv (hA h 2) n.toNat (0, 0, 0, -1)) (cpr h1 oc os (hA h 23))).2.1.2.2.2) 1 1 (0)) q3 k3 rfl rfl ((f2 3 3 (by decide) (by decide)).trans ((F1.2.2.2.2.2.1 3 3 rfl).trans hc)) ((congrFun r2 4).trans (congrFun F1.2.2.2.1 4)) ((a2 25 (by decide)).trans ((ct_d C1).trans (ct_d C).symm))
      · have f45 : ∀ q k, q ≠ 1 → q ≠ 22 → q < 122 → hF h5 q k = hF h1 q k := fun q k h1 h2 h3 => (congrFun (A4.2.2 q (by omega)).2.2.1 k).trans (f4 q k h1 h2)
        show av_wp _ cd_96 44 [some (.inr (.inr (.inl (some (0))))), some (.inl k), some (.inl n), some (.inr (.inr (.inl (some (ot))))), none] [.inr (.inr (.inl (some (h4.1))))] h5 _
        refine av_wp_sqF ck_96 2 (pc' := 47) (lv' := [some (.inr (.inr (.inl (some (0))))), some (.inl k), some (.inl n), some (.inr (.inr (.inl (some (ot))))), some (.inr (.inr (.inl (some (h4.1)))))]) (st' := [.inr (.inr (.inl (some (0))))]) (h' := h5) rfl ?_
        refine wq_cv (p' := 50) (av_qc (.invokevirtual 89) 99 0 0 7) 1 cd_99 [] (0) 7 [some (.inr (.inr (.inl (some (0)))))] (ck_96 _ _ rfl) rfl rfl pp_99 rfl rfl rfl (congrArg Prod.fst (ly_k C5.1 0 rfl)) rfl rfl rfl rfl ?_
        refine ct_99 C5.1 C5 ?_
        show av_wp _ cd_96 50 [some (.inr (.inr (.inl (some (0))))), some (.inl k), some (.inl n), some (.inr (.inr (.inl (some (ot))))), some (.inr (.inr (.inl (some (h4.1)))))] [] (hwF (hwF h5 0 8 (rbA (hA h 2) n.toNat k os (adv (hA h 2) n.toNat (0, 0, 0, -1)) (cpr h1 oc os (hA h 23))).2.1.2.2.2) 1 1 (0)) _
        refine av_wp_sqF ck_96 3 (pc' := 58) (lv' := [some (.inr (.inr (.inl (some (0))))), some (.inl k), some (.inl n), some (.inr (.inr (.inl (some (ot))))), some (.inr (.inr (.inl (some (h4.1)))))]) (st' := [.inr (.inr (.inl (some (0))))]) (h' := (hwF (hwF h5 0 8 (rbA (hA h 2) n.toNat k os (adv (hA h 2) n.toNat (0, 0, 0, -1)) (cpr h1 oc os (hA h 23))).2.1.2.2.2) 1 1 (0))) rfl ?_
        refine wq_gr (p' := 61) (ck_96 _ _ rfl) rfl (congrArg Prod.fst (ly_k C5.1 0 rfl)) rfl (ly_g C5.1 0 1 3 rfl) ?_
        refine wq_gr (p' := 64) (ck_96 _ _ rfl) rfl (congrArg Prod.fst (ly_k C5.1 3 rfl)) rfl (ly_g C5.1 3 0 4 rfl) ?_
        refine av_wp_sqF ck_96 2 (pc' := 67) (lv' := [some (.inr (.inr (.inl (some (0))))), some (.inl k), some (.inl n), some (.inr (.inr (.inl (some (ot))))), some (.inr (.inr (.inl (some (h4.1)))))]) (st' := [.inr (.inr (.inl (some (h4.1)))), .inl k, .inr (.inr (.inl (some (4))))]) (h' := (hwF (hwF h5 0 8 (rbA (hA h 2) n.toNat k os (adv (hA h 2) n.toNat (0, 0, 0, -1)) (cpr h1 oc os (hA h 23))).2.1.2.2.2) 1 1 (0))) rfl ?_
        refine wq_rs (p' := 68) (n := 16) (ck_96 _ _ rfl) rfl (ly_k C5.1 4 rfl) (Or.inl rfl) (by omega) (fun q hq => by cases hq; exact congrArg Prod.fst cx.1) ?_
        refine av_wp_sqF ck_96 1 (pc' := 69) (lv' := [some (.inr (.inr (.inl (some (0))))), some (.inl k), some (.inl n), some (.inr (.inr (.inl (some (ot))))), some (.inr (.inr (.inl (some (h4.1)))))]) (st' := [.inr (.inr (.inl (some (0))))]) (h' := (hwR (hwF (hwF h5 0 8 (rbA (hA h 2) n.toNat k os (adv (hA h 2) n.toNat (0, 0, 0, -1)) (cpr h1 oc os (hA h 23))).2.1.2.2.2) 1 1 (0)) 4 (Int.toNat k) (some h4.1))) rfl ?_
        refine wq_gr (p' := 72) (ck_96 _ _ rfl) rfl (congrArg Prod.fst (ly_k C5.1 0 rfl)) rfl (ly_g C5.1 0 5 26 rfl) ?_
        refine wq_cv (p' := 75) (av_qc (.invokevirtual 104) 46 0 0 3) 1 cd_46 [] (26) 3 [some (.inr (.inr (.inl (some (26)))))] (ck_96 _ _ rfl) rfl rfl pp_46 rfl rfl rfl (congrArg Prod.fst (ly_k C5.1 26 rfl)) rfl rfl rfl rfl ?_
        refine ct_46x (h := (hwR (hwF (hwF h5 0 8 (rbA (hA h 2) n.toNat k os (adv (hA h 2) n.toNat (0, 0, 0, -1)) (cpr h1 oc os (hA h 23))).2.1.2.2.2) 1 1 (0)) 4 (Int.toNat k) (some h4.1))) (LY_wR C5.1 (by decide) (by decide)) ?_
        show av_wp _ cd_96 75 [some (.inr (.inr (.inl (some (0))))), some (.inl k), some (.inl n), some (.inr (.inr (.inl (some (ot))))), some (.inr (.inr (.inl (some (h4.1)))))] [] (hfil (hwR (hwF (hwF h5 0 8 (rbA (hA h 2) n.toNat k os (adv (hA h 2) n.toNat (0, 0, 0, -1)) (cpr h1 oc os (hA h 23))).2.1.2.2.2) 1 1 (0)) 4 (Int.toNat k) (some h4.1)) 27 0 144 (0)) _
        refine av_wp_sqF ck_96 1 (pc' := 77) (lv' := [some (.inr (.inr (.inl (some (0))))), some (.inl k), some (.inl n), some (.inr (.inr (.inl (some (ot))))), some (.inr (.inr (.inl (some (h4.1)))))]) (st' := [.inr (.inr (.inl (some (h4.1))))]) (h' := (hfil (hwR (hwF (hwF h5 0 8 (rbA (hA h 2) n.toNat k os (adv (hA h 2) n.toNat (0, 0, 0, -1)) (cpr h1 oc os (hA h 23))).2.1.2.2.2) 1 1 (0)) 4 (Int.toNat k) (some h4.1)) 27 0 144 (0))) rfl ?_
        have cc : CC (hfil (hwR (hwF (hwF h5 0 8 (rbA (hA h 2) n.toNat k os (adv (hA h 2) n.toNat (0, 0, 0, -1)) (cpr h1 oc os (hA h 23))).2.1.2.2.2) 1 1 (0)) 4 (Int.toNat k) (some h4.1)) 27 0 144 (0)) (some h4.1) h4.1 (h4.1 + 1) (rbA (hA h 2) n.toNat k os (adv (hA h 2) n.toNat (0, 0, 0, -1)) (cpr h1 oc os (hA h 23))).1 f := CC_fil (by omega) (CC_wR (CC_wF (by omega) (CC_wF (by omega) ⟨rfl, cx, fv, sd, l122, by omega, s1⟩)))
        refine wq_gi (p' := 80) (v := ((rbA (hA h 2) n.toNat k os (adv (hA h 2) n.toNat (0, 0, 0, -1)) (cpr h1 oc os (hA h 23))).1 : Int)) rfl rfl (congrArg Prod.fst cc.2.1.1) rfl cc.2.1.2.1 ?_
        refine av_wp_ret (v := some (.inl ((rbA (hA h 2) n.toNat k os (adv (hA h 2) n.toNat (0, 0, 0, -1)) (cpr h1 oc os (hA h 23))).1 : Int))) (ck_96 _ _ rfl) rfl rfl ?_
        have q1 := q0
        have q2 : FQ rdA2 (fun q => q = 4) (rdF2 3) nun2 h1 h4 0 0 := FQ_35 B4 f4 r4 a4 (Or.inl rfl) (fun _ => ⟨Or.inl rfl, Or.inr (Or.inl rfl)⟩)
        have q3 : FQ moA (fun q => q = 4) (rdF2 3) nun2 h (hfil (hwR (hwF (hwF h5 0 8 (rbA (hA h 2) n.toNat k os (adv (hA h 2) n.toNat (0, 0, 0, -1)) (cpr h1 oc os (hA h 23))).2.1.2.2.2) 1 1 (0)) 4 (Int.toNat k) (some h4.1)) 27 0 144 (0)) 2 (4 + 21 * (rbA (hA h 2) n.toNat k os (adv (hA h 2) n.toNat (0, 0, 0, -1)) (cpr h1 oc os (hA h 23))).1) := FQ_eq (FQ_tr (FQ_tr (FQ_tr (FQ_tr (FQ_tr (rd_mo (FQ_tr q1 q2)) (FQ_al A4)) (FQ_wF (Or.inr (Or.inr (Or.inl ⟨rfl, rfl⟩))))) (FQ_wF (Or.inl rfl))) (FQ_wR rfl)) (FQ_fil (Or.inr (Or.inr rfl)))) (by omega) (by omega)
        have k3 : KT (hfil (hwR (hwF (hwF h5 0 8 (rbA (hA h 2) n.toNat k os (adv (hA h 2) n.toNat (0, 0, 0, -1)) (cpr h1 oc os (hA h 23))).2.1.2.2.2) 1 1 (0)) 4 (Int.toNat k) (some h4.1)) 27 0 144 (0)) := KT_of (CT_fil (CT_wR (CT_wF0 (CT_wF0 C5 (Or.inl (by decide))) (Or.inr rfl)) (by decide) (by decide))) (by show (0 : Int) ≤ 0 ∧ (0 : Int) ≤ 900; omega) z4 (CX_fq hg q3 (fun j z => by unfold rdF2 at z; omega) (fun j z => z) (fun z => by unfold moA at z; omega) x74)
        have er : hR h5 4 = hR h 4 := ((A4.2.2 4 (by omega)).2.2.2.2).trans ((congrFun r4 4).trans (congrFun F1.2.2.2.1 4))
        have er2 : hR (hfil (hwR (hwF (hwF h5 0 8 (rbA (hA h 2) n.toNat k os (adv (hA h 2) n.toNat (0, 0, 0, -1)) (cpr h1 oc os (hA h 23))).2.1.2.2.2) 1 1 (0)) 4 (Int.toNat k) (some h4.1)) 27 0 144 (0)) 4 = av_u1 (hR h 4) (Int.toNat k) (some h4.1) := by
          rw [← er]
          funext j
          show av_u2 h5.2.2.2.2.2.2.1 4 (Int.toNat k) (some h4.1) 4 j = av_u1 (hR h5 4) (Int.toNat k) (some h4.1) j
          unfold av_u2 av_u1
          by_cases e : j = Int.toNat k
          · rw [if_pos ⟨rfl, e⟩, if_pos e]
          · rw [if_neg (fun z => e z.2), if_neg e]
        exact Hq1 x1 (hfil (hwR (hwF (hwF h5 0 8 (rbA (hA h 2) n.toNat k os (adv (hA h 2) n.toNat (0, 0, 0, -1)) (cpr h1 oc os (hA h 23))).2.1.2.2.2) 1 1 (0)) 4 (Int.toNat k) (some h4.1)) 27 0 144 (0)) h4.1 (h4.1 + 1) f q3 k3 rfl x1 ((f45 3 3 (by decide) (by decide) (by omega)).trans ((F1.2.2.2.2.2.1 3 3 rfl).trans hc)) er2 cc fj ((fil_o (by decide)).trans (((A4.2.2 25 (by omega)).2.1).trans ((a4 25 (by decide)).trans ((ct_d C1).trans (ct_d C).symm)))) (fun j hj => if_pos ⟨rfl, Nat.zero_le j, hj⟩)
    · have c4 : v1 = (0) := c4
      refine av_wp_sqF ck_96 1 (pc' := 26) (lv' := [some (.inr (.inr (.inl (some (0))))), some (.inl k), some (.inl n), some (.inr (.inr (.inl (some (ot))))), none]) (st' := [.inl (-2)]) (h' := h) rfl ?_
      refine av_wp_ret (v := some (.inl (-2))) (ck_96 _ _ rfl) rfl rfl ?_
      exact hqA (by omega)
end
section
/-! WHAT IS TOLD KEEPS THE CLASS'S OWN BOOK -/
theorem rbA_w {b : Nat → Int} {lim had : Nat} {ah : Int} {t : TT} {r : Nat → Int} (ha : 0 ≤ ah) (hk : had ≤ 12) (hr : ∀ q, q < had → WRW ah q r) (z : (rbA b lim ah had t r).2.1.2.2.2 = -1) : ∀ q, q < (rbA b lim ah had t r).1 → WRW ah q (rbA b lim ah had t r).2.2 := by
  refine rbf_w ha (13 - had) had t r hk hr ?_
  unfold rbA at z
  dsimp only at z
  split at z
  · exact absurd z fal_ne
  · exact z
theorem FQ_hi {eA eR : Nat → Prop} {eF eG : Nat → Nat → Prop} {g h : av_H} {n m : Nat} (w : LOW eA eR eF eG) (F : FQ eA eR eF eG g h n m) : ∀ q, 122 ≤ q → q < g.1 → hK h q = hK g q ∧ (∀ j, hG h q j = hG g q j) ∧ hA h q = hA g q ∧ hR h q = hR g q ∧ ∀ j, hF h q j = hF g q j := fun q h1 h2 => by
  obtain ⟨a1, a2, a3, a4, a5⟩ := F.2.2 q h2
  exact ⟨a1, fun j => a2 j (fun z => by have := w.2.2.2 q j z; omega), a3 (fun z => by have := w.1 q z; omega), a4 (fun z => by have := w.2.1 q z; omega), fun j => a5 j (fun z => by have := w.2.2.1 q j z; omega)⟩
theorem WXI_hi {g h : av_H} (G : av_Gd g) (F : ∀ q, 122 ≤ q → q < g.1 → hK h q = hK g q ∧ (∀ j, hG h q j = hG g q j) ∧ hA h q = hA g q ∧ hR h q = hR g q ∧ ∀ j, hF h q j = hF g q j) (e1 : g.1 ≤ h.1) (f7 : hF h 0 7 = hF g 0 7) (r7 : hR h 21 = hR g 21) (x : WXI g) : WXI h := fun i hi hh => by
  rw [f7] at hh
  obtain ⟨o, y1, y2, y3, y4⟩ := x i hi hh
  exact ⟨o, by rw [r7]; exact y1, y2, by omega, WSH_cf G F y2 y3 y4⟩
/-- a case is new, or is told on -/
theorem PIC_c {U : Nat → Nat → Int} {S : Nat → Nat} {g h : av_H} {c t tc s : Nat} {f : Nat → Int} (G : av_Gd g) (F : ∀ q, 122 ≤ q → q < g.1 → hK h q = hK g q ∧ (∀ j, hG h q j = hG g q j) ∧ hA h q = hA g q ∧ hR h q = hR g q ∧ ∀ j, hF h q j = hF g q j) (x : PIC U S g) (c2 : ∀ i : Nat, (i : Int) < hF h 3 3 → i = c ∨ (i : Int) < hF g 3 3) (r1 : hR h 4 = av_u1 (hR g 4) c (some t)) (cc : CC h (some t) t tc s f) (w : ∀ q, q < s → WRW (c : Int) q f) : PIC (fun i => if i = c then ctn f s else U i) (fun i => if i = c then s else S i) h := fun i hi hh => by
  show ∃ t' c' f', CC h (hR h 4 i) t' c' (if i = c then s else S i) f' ∧ (if i = c then ctn f s else U i) = ctn f' (if i = c then s else S i) ∧ ∀ q, q < (if i = c then s else S i) → WRW (i : Int) q f'
  by_cases e : i = c
  · have er : hR h 4 i = some t := by rw [r1]; exact if_pos e
    rw [if_pos e, if_pos e, er, e]
    exact ⟨t, tc, f, cc, rfl, w⟩
  · obtain ⟨t', c', f', y1, y2, y3⟩ := x i hi (by have := c2 i hh; omega)
    have er : hR h 4 i = hR g 4 i := by rw [r1]; exact if_neg e
    rw [if_neg e, if_neg e, er]
    exact ⟨t', c', f', CC_cf G F y1, y2, y3⟩
theorem os_tell {h : av_H} (B : BK h) (C : CLS h) (n : Int) (qn : -2147483648 ≤ n ∧ n ≤ 2147483647) : av_wp none cd_95 0 [some (.inr (.inr (.inl (some (0))))), some (.inl n), none] [] h (fun _ h1 => av_wp none cd_148 0 [some (.inr (.inr (.inl (some (77))))), some (.inl n), none] [] h1 (fun _ h2 => CLS h2)) := by
  refine gd_of (fun hg => ?_)
  have B0 := B
  obtain ⟨I, K, ⟨n0, a0, m0, M⟩, ⟨p1, p2, p3⟩, S, X⟩ := B
  have L := I.1
  have bv := kt_bv K
  have ql := K.2.1
  have qc := S.1.2.1
  have l : ∀ {q : Nat}, q < 122 → q < h.1 := fun hq => ly_lt hg L hq
  refine ct_95 I K n qn (fun zA => ?_) (fun z1 z2 z3 => ?_) (fun z1 z2 z3 z4 h1 F1 K1 l1 w1 c1 r1 d1 => ?_) (fun z1 z2 z3 z4 h1 t tc f F1 K1 l1 w1 c1 r1 cc fj d1 => ?_)
  · exact ct_148 L p1 bv p2 ql S.1.1.1.symm qc (im_bn M) (hA h 23) n qn (fun _ => C) (fun _ _ _ => by exfalso; omega) (fun _ _ _ _ => by exfalso; omega) (fun _ _ _ _ => by exfalso; omega)
  · exact ct_148 L p1 bv p2 ql S.1.1.1.symm qc (im_bn M) (hA h 23) n qn (fun _ => by exfalso; omega) (fun _ _ _ => C) (fun _ _ _ _ => by exfalso; omega) (fun _ _ _ _ => by exfalso; omega)
  · refine gd_of (fun hg1 => ?_)
    have C1 := CLS_rd hg L (FQ_sh F1 c1 r1) C
    have M1 := BM_read hg B0 (FQ_sh F1 c1 r1) K1
    have ea : ∀ a, a < 122 → a ≠ 23 → a ≠ 25 → hA h1 a = hA h a := fun a z1 z2 z3 => (F1.2.2 a (l z1)).2.2.1 (fun z => by unfold rdA2 at z; omega)
    have e17 : hF h1 77 17 = hF h 1 1 := ((F1.2.2 77 (l (by omega))).2.2.2.2 17 (fun z => by unfold rdF2 at z; omega)).trans p2
    obtain ⟨n1, a1, m1, M1b⟩ := M1.2.2.1
    exact ct_148 (kt_L K1) ((ea 94 (by omega) (by omega) (by omega)).trans p1) bv e17 ql ((congrFun (ea 78 (by omega) (by omega) (by omega)) 0).trans S.1.1.1.symm) qc (im_bn M1b) (hA h 23) n qn (fun _ => by exfalso; omega) (fun _ _ _ => by exfalso; omega) (fun _ _ _ _ h2 N2 F2 B2 W2 => CLS_FD hg1 (kt_L K1) F2 C1) (fun _ _ _ y => absurd y z4)
  · refine gd_of (fun hg1 => ?_)
    have ea : ∀ a, a < 122 → a ≠ 23 → a ≠ 25 → hA h1 a = hA h a := fun a z1 z2 z3 => (F1.2.2 a (l z1)).2.2.1 (fun z => by unfold rdA2 at z; omega)
    have e17 : hF h1 77 17 = hF h 1 1 := ((F1.2.2 77 (l (by omega))).2.2.2.2 17 (fun z => by unfold rdF2 at z; omega)).trans p2
    have bn1 : BN (hA h1) := fun a z1 z2 j => by rw [ea a (by omega) (by omega) (by omega)]; exact im_bn M a z1 z2 j
    have ef : ∀ k, k ≠ 3 → hF h1 3 k = hF h 3 k := fun k hk => (F1.2.2 3 (l (by omega))).2.2.2.2 k (fun z => by unfold rdF2 at z; omega)
    have hi := FQ_hi mo_low (rd_mo F1)
    have nn : hF h 3 3 = ((hF h 3 3).toNat : Int) := by omega
    have C1 : CLS h1 := by
      obtain ⟨U, S', ⟨x1, x2, x3, x4⟩, x5⟩ := C
      have ww : ∀ q, q < (rbA (hA h 2) n.toNat (hF h 3 3) 0 (adv (hA h 2) n.toNat (0, 0, 0, -1)) (hA h 23)).1 → WRW ((hF h 3 3).toNat : Int) q f := fun q hq => by
        rw [← nn]
        exact WRW_c (rbA_w (by omega) (by omega) (fun q hq => absurd hq (by omega)) z4 q hq) (fun o ho => fj _ (by omega))
      refine ⟨_, _, ⟨PIC_c (c := (hF h 3 3).toNat) hg hi x1 (fun i hi => by rw [c1] at hi; omega) r1 cc ww, fun q hq hh => ?_, fun q hq hh => ?_, WXI_hi hg hi (by rw [F1.1]; omega) ((F1.2.2 0 (l (by omega))).2.2.2.2 7 (fun z => by unfold rdF2 at z; omega)) ((F1.2.2 21 (l (by omega))).2.2.2.1 (fun z => by omega)) x4⟩, ?_⟩
      · rw [ef 4 (by decide)] at hh
        rw [ea (6 + q) (by omega) (by omega) (by omega)]
        exact x2 q hq hh
      · rw [ef 5 (by decide)] at hh
        rw [ea (15 + q) (by omega) (by omega) (by omega)]
        exact x3 q hq hh
      · rw [c1, ef 4 (by decide), ea 27 (by omega) (by omega) (by omega)]
        exact SUA_c (SUA_n x5 (fun j hj => ⟨if_neg (by omega), if_neg (by omega)⟩)) (fun q h1 _ => ea (6 + q) (by omega) (by omega) (by omega))
    refine ct_148 (kt_L K1) ((ea 94 (by omega) (by omega) (by omega)).trans p1) bv e17 ql ((congrFun (ea 78 (by omega) (by omega) (by omega)) 0).trans S.1.1.1.symm) qc bn1 (hA h 23) n qn (fun _ => by exfalso; omega) (fun _ _ _ => by exfalso; omega) (fun _ _ _ y => absurd z4 y) (fun _ _ _ _ g2 N2 F2 B2 W2 Y2 => ?_)
    refine CLS_md hg1 (kt_L K1) (eF := fdF2) ?_ (fun q j z => z.1) C1
    exact md_FQ (g2 := g2) (A2 := av_u2 (av_u2 (hA g2) 81 (Int.toNat (hF h 3 3)) _) 78 0 (hF h 3 3 + 1)) F2 (fun a ha => by
      rw [av_u2_ne (fun z => ha (by unfold mdA; omega)), av_u2_ne (fun z => ha (by unfold mdA; omega))])
theorem os_more {h : av_H} (B : BK h) (C : CLS h) (k n : Int) (qk : -2147483648 ≤ k ∧ k ≤ 2147483647) (qn : -2147483648 ≤ n ∧ n ≤ 2147483647) : av_wp none cd_96 0 [some (.inr (.inr (.inl (some (0))))), some (.inl k), some (.inl n), none, none] [] h (fun _ h1 => av_wp none cd_151 0 [some (.inr (.inr (.inl (some (77))))), some (.inl k), some (.inl n), none] [] h1 (fun _ h2 => CLS h2)) := by
  refine gd_of (fun hg => ?_)
  have B0 := B
  obtain ⟨I, K, ⟨n0, a0, m0, M⟩, ⟨p1, p2, p3⟩, S, X⟩ := B
  have L := I.1
  have bv := kt_bv K
  have ql := K.2.1
  have qc := S.1.2.1
  have l : ∀ {q : Nat}, q < 122 → q < h.1 := fun hq => ly_lt hg L hq
  have hcs : ∀ i : Nat, i < 16 → (i : Int) < hF h 3 3 → ∃ t c s f, CC h (hR h 4 i) t c s f := fun i z1 z2 => by
    obtain ⟨t, c, s, f, x1, _⟩ := S.2.2.1 i z1 z2
    exact ⟨t, c, s, f, x1⟩
  refine cy_96 I K hcs k n qk qn (fun zA => ?_) (fun z1 z2 z3 z4 ot oc os of occ z5 h1 F1 K1 l1 w1 c1 r1 d1 => ?_) (fun z1 z2 z3 z4 ot oc os of occ z5 h1 t tc f F1 K1 l1 w1 c1 r1 cc fj d1 y27 => ?_)
  · by_cases hk : 0 ≤ k ∧ k < hF h 3 3
    · obtain ⟨ot, oc, os, of, occ⟩ := hcs k.toNat (by omega) (by omega)
      have cm := cs_more (hA h 23) (S.2.2.1 k.toNat (by omega) (by omega)) occ
      exact ct_151 L p1 bv p2 ql S.1.1.1.symm qc (im_bn M) (im_m81 M) (cpr h oc os (hA h 23)) k n qk qn (fun _ _ s hs j hj => cm.2 j (by omega)) (fun _ => C) (fun _ _ _ _ => by exfalso; omega) (fun _ _ _ _ => by exfalso; omega)
    · exact ct_151 L p1 bv p2 ql S.1.1.1.symm qc (im_bn M) (im_m81 M) (hA h 23) k n qk qn (fun _ _ => by exfalso; omega) (fun _ => C) (fun _ _ => by exfalso; omega) (fun _ _ => by exfalso; omega)
  · refine gd_of (fun hg1 => ?_)
    have C1 := CLS_rd hg L (FQ_sh F1 c1 r1) C
    have cm := cs_more (hA h 23) (S.2.2.1 k.toNat (by omega) (by omega)) occ
    have M1 := BM_read hg B0 (FQ_sh F1 c1 r1) K1
    have ea : ∀ a, a < 122 → a ≠ 23 → a ≠ 25 → hA h1 a = hA h a := fun a z1 z2 z3 => (F1.2.2 a (l z1)).2.2.1 (fun z => by unfold rdA2 at z; omega)
    have e17 : hF h1 77 17 = hF h 1 1 := ((F1.2.2 77 (l (by omega))).2.2.2.2 17 (fun z => by unfold rdF2 at z; omega)).trans p2
    obtain ⟨n1, a1, m1, M1b⟩ := M1.2.2.1
    have e81 : hA h1 81 k.toNat = (os : Int) := (congrFun (ea 81 (by omega) (by omega) (by omega)) _).trans cm.1
    have erw : ∀ i o, o < 19 → rwA (hA h1) i o = rwA (hA h) i o := fun i o ho => by
      have := vq_in o ho
      show hA h1 (vq o) _ = hA h (vq o) _
      rw [ea (vq o) (by omega) (by omega) (by omega)]
    exact ct_151 (kt_L K1) ((ea 94 (by omega) (by omega) (by omega)).trans p1) bv e17 ql ((congrFun (ea 78 (by omega) (by omega) (by omega)) 0).trans S.1.1.1.symm) qc (im_bn M1b) (im_m81 M1b) (cpr h oc os (hA h 23)) k n qk qn (fun _ _ s hs j hj => ry_eq (cm.2 j (by omega)) (fun o ho => erw _ o ho) (fun _ _ => rfl)) (fun _ => by exfalso; omega) (fun _ _ _ _ _ h2 N2 F2 B2 W2 => CLS_FD hg1 (kt_L K1) F2 C1) (fun _ _ _ _ y => by rw [e81, show ((os : Nat) : Int).toNat = os from rfl] at y; exact absurd y z5)
  · refine gd_of (fun hg1 => ?_)
    have cm := cs_more (hA h 23) (S.2.2.1 k.toNat (by omega) (by omega)) occ
    have ea : ∀ a, a < 122 → a ≠ 23 → a ≠ 25 → a ≠ 27 → hA h1 a = hA h a := fun a z1 z2 z3 z4 => (F1.2.2 a (l z1)).2.2.1 (fun z => by unfold moA at z; omega)
    have e17 : hF h1 77 17 = hF h 1 1 := ((F1.2.2 77 (l (by omega))).2.2.2.2 17 (fun z => by unfold rdF2 at z; omega)).trans p2
    have bn1 : BN (hA h1) := fun a z1 z2 j => by rw [ea a (by omega) (by omega) (by omega) (by omega)]; exact im_bn M a z1 z2 j
    have m81 : ∀ j, 0 ≤ hA h1 81 j ∧ hA h1 81 j ≤ 12 := fun j => by rw [ea 81 (by omega) (by omega) (by omega) (by omega)]; exact im_m81 M j
    have e81 : hA h1 81 k.toNat = (os : Int) := (congrFun (ea 81 (by omega) (by omega) (by omega) (by omega)) _).trans cm.1
    have erw : ∀ i o, o < 19 → rwA (hA h1) i o = rwA (hA h) i o := fun i o ho => by
      have := vq_in o ho
      show hA h1 (vq o) _ = hA h (vq o) _
      rw [ea (vq o) (by omega) (by omega) (by omega) (by omega)]
    have ef : ∀ k, k ≠ 3 → hF h1 3 k = hF h 3 k := fun k hk => (F1.2.2 3 (l (by omega))).2.2.2.2 k (fun z => by unfold rdF2 at z; omega)
    have hi := FQ_hi mo_low F1
    have nn : k = (k.toNat : Int) := by omega
    have C1 : CLS h1 := by
      obtain ⟨U, S', ⟨x1, x2, x3, x4⟩, x5⟩ := C
      obtain ⟨t0, c0, f0, y1, y2, y3⟩ := x1 k.toNat (by omega) (by omega)
      obtain ⟨e1, e2, e3⟩ := CC_uni occ y1
      have u0 := cc_u y1
      rw [← e2, ← e3] at u0
      rw [← e3] at y3
      have v12 := occ.2.2.1.1
      have ww : ∀ q, q < (rbA (hA h 2) n.toNat k os (adv (hA h 2) n.toNat (0, 0, 0, -1)) (cpr h oc os (hA h 23))).1 → WRW (k.toNat : Int) q f := fun q hq => by
        refine WRW_c (rbA_w (ah := (k.toNat : Int)) (by omega) v12 (fun p hp => ?_) (by rw [← nn]; exact z5) q (by rw [← nn]; exact hq)) (fun o ho => ?_)
        · refine WRW_c (y3 p hp) (fun o ho => ?_)
          have e : cpr h oc os (hA h 23) (p * 21 + o) = hA h oc (p * 21 + o) := if_pos (by omega)
          rw [e, u0, ctn_o (by omega)]
        · rw [← nn]
          exact fj _ (by omega)
      refine ⟨_, _, ⟨PIC_c (c := k.toNat) hg hi x1 (fun i hi => by rw [c1] at hi; omega) r1 cc ww, fun q hq hh => ?_, fun q hq hh => ?_, WXI_hi hg hi (by rw [F1.1]; omega) ((F1.2.2 0 (l (by omega))).2.2.2.2 7 (fun z => by unfold rdF2 at z; omega)) ((F1.2.2 21 (l (by omega))).2.2.2.1 (fun z => by omega)) x4⟩, SUA_0 y27⟩
      · rw [ef 4 (by decide)] at hh
        rw [ea (6 + q) (by omega) (by omega) (by omega) (by omega)]
        exact x2 q hq hh
      · rw [ef 5 (by decide)] at hh
        rw [ea (15 + q) (by omega) (by omega) (by omega) (by omega)]
        exact x3 q hq hh
    refine ct_151 (kt_L K1) ((ea 94 (by omega) (by omega) (by omega) (by omega)).trans p1) bv e17 ql ((congrFun (ea 78 (by omega) (by omega) (by omega) (by omega)) 0).trans S.1.1.1.symm) qc bn1 m81 (cpr h oc os (hA h 23)) k n qk qn (fun _ _ s hs j hj => ry_eq (cm.2 j (by omega)) (fun o ho => erw _ o ho) (fun _ _ => rfl)) (fun _ => by exfalso; omega) (fun _ _ _ _ y => by rw [e81, show ((os : Nat) : Int).toNat = os from rfl] at y; exact absurd z5 y) (fun _ _ _ _ _ g2 N2 F2 B2 W2 Y2 => ?_)
    refine CLS_md hg1 (kt_L K1) (eF := fdF2) ?_ (fun q j z => z.1) C1
    exact md_FQ (g2 := g2) (A2 := av_u2 (hA g2) 81 (Int.toNat k) _) F2 (fun a ha => by
      rw [av_u2_ne (fun z => ha (by unfold mdA; omega))])
theorem os_law {h : av_H} (B : BK h) (C : CLS h) (n : Int) (qn : -2147483648 ≤ n ∧ n ≤ 2147483647) : av_wp none cd_97 0 [some (.inr (.inr (.inl (some (0))))), some (.inl n), none] [] h (fun _ h1 => av_wp none cd_156 0 [some (.inr (.inr (.inl (some (77))))), some (.inl n)] [] h1 (fun _ h2 => CLS h2)) := by
  refine gd_of (fun hg => ?_)
  obtain ⟨I, K, ⟨n0, a0, m0, M⟩, ⟨p1, p2, p3⟩, S, XX⟩ := B
  have L := I.1
  have bv := kt_bv K
  have ql := K.2.1
  have qc := S.1.2.2.1
  have l : ∀ {q : Nat}, q < 122 → q < h.1 := fun hq => ly_lt hg L hq
  refine ct_97 I K n qn (fun zA => ?_) (fun z1 z2 z3 => ?_) (fun z1 z2 z3 z4 h1 F1 K1 l1 w1 c1 => ?_) (fun z1 z2 z3 z4 h1 F1 K1 l1 w1 c1 r1 dv => ?_)
  · exact ct_156 L p1 bv p2 ql S.1.1.2.1.symm qc (hA h 25) n qn (fun _ => C) (fun _ _ _ => by exfalso; omega) (fun _ _ _ _ => by exfalso; omega) (fun _ _ _ _ => by exfalso; omega)
  · exact ct_156 L p1 bv p2 ql S.1.1.2.1.symm qc (hA h 25) n qn (fun _ => by exfalso; omega) (fun _ _ _ => C) (fun _ _ _ _ => by exfalso; omega) (fun _ _ _ _ => by exfalso; omega)
  · refine gd_of (fun hg1 => ?_)
    have C1 := CLS_rd hg L (FQ_s0 F1 c1) C
    have ea : ∀ a, a < 122 → a ≠ 23 → a ≠ 25 → hA h1 a = hA h a := fun a z1 z2 z3 => (F1.2.2 a (l z1)).2.2.1 (fun z => by unfold rdA2 at z; omega)
    have e17 : hF h1 77 17 = hF h 1 1 := ((F1.2.2 77 (l (by omega))).2.2.2.2 17 (fun z => by unfold rdF2 at z; omega)).trans p2
    exact ct_156 (kt_L K1) ((ea 94 (by omega) (by omega) (by omega)).trans p1) bv e17 ql ((congrFun (ea 79 (by omega) (by omega) (by omega)) 0).trans S.1.1.2.1.symm) qc (hA h 25) n qn (fun _ => by exfalso; omega) (fun _ _ _ => by exfalso; omega) (fun _ _ _ _ h2 N2 F2 W2 => CLS_FD hg1 (kt_L K1) F2 C1) (fun _ _ _ y => absurd y z4)
  · refine gd_of (fun hg1 => ?_)
    have ea : ∀ a, a < 122 → a ≠ 23 → a ≠ 25 → a ≠ 6 + (hF h 3 4).toNat → hA h1 a = hA h a := fun a z1 z2 z3 z4 => (F1.2.2 a (l z1)).2.2.1 (fun z => by unfold lwA at z; omega)
    have e17 : hF h1 77 17 = hF h 1 1 := ((F1.2.2 77 (l (by omega))).2.2.2.2 17 (fun z => by unfold rdF2 at z; omega)).trans p2
    have ef : ∀ k, k ≠ 4 → hF h1 3 k = hF h 3 k := fun k hk => (F1.2.2 3 (l (by omega))).2.2.2.2 k (fun z => by unfold rdF2 at z; omega)
    have er1 : hR h1 4 = hR h 4 := (F1.2.2 4 (l (by omega))).2.2.2.1 (fun z => z)
    have low := lw_low (x := 4) (y := 6 + (hF h 3 4).toNat) (by omega)
    have hi := FQ_hi low F1
    have C1 : CLS h1 := by
      obtain ⟨U, S', ⟨x1, x2, x3, x4⟩, x5⟩ := C
      refine ⟨U, S', ⟨fun i hi' hh => ?_, fun q hq hh => ?_, fun q hq hh => ?_, WXI_hi hg hi (by rw [F1.1]; omega) ((F1.2.2 0 (l (by omega))).2.2.2.2 7 (fun z => by unfold rdF2 at z; omega)) ((F1.2.2 21 (l (by omega))).2.2.2.1 (fun z => z)) x4⟩, ?_⟩
      · rw [ef 3 (by decide)] at hh
        obtain ⟨t, c, f, y1, y2⟩ := x1 i hi' hh
        exact ⟨t, c, f, by rw [er1]; exact CC_cf hg hi y1, y2⟩
      · by_cases e : q = (hF h 3 4).toNat
        · rw [e, r1]
          exact RLW_lov (dq_A z4)
        · rw [ea (6 + q) (by omega) (by omega) (by omega) (by omega)]
          exact x2 q hq (by rw [c1] at hh; omega)
      · rw [ef 5 (by decide)] at hh
        rw [ea (15 + q) (by omega) (by omega) (by omega) (by omega)]
        exact x3 q hq hh
      · rw [ef 3 (by decide), c1, ea 27 (by omega) (by omega) (by omega) (by omega)]
        exact SUA_l x5 (fun q h1 h2 => ea (6 + q) (by omega) (by omega) (by omega) (by omega))
    refine ct_156 (kt_L K1) ((ea 94 (by omega) (by omega) (by omega) (by omega)).trans p1) bv e17 ql ((congrFun (ea 79 (by omega) (by omega) (by omega) (by omega)) 0).trans S.1.1.2.1.symm) qc (hA h 25) n qn (fun _ => by exfalso; omega) (fun _ _ _ => by exfalso; omega) (fun _ _ _ y => absurd z4 y) (fun _ _ _ _ g2 N2 F2 W2 Y2 => ?_)
    refine CLS_md hg1 (kt_L K1) (eF := fdF2) ?_ (fun q j z => z.1) C1
    exact md_FQ (g2 := g2) (A2 := av_u2 (hA g2) 79 0 (hF h 3 4 + 1)) F2 (fun a ha => av_u2_ne (fun z => ha (by unfold mdA; omega)))
theorem os_clause {h : av_H} (B : BK h) (C : CLS h) (n : Int) (qn : -2147483648 ≤ n ∧ n ≤ 2147483647) : av_wp none cd_98 0 [some (.inr (.inr (.inl (some (0))))), some (.inl n), none] [] h (fun _ h1 => av_wp none cd_157 0 [some (.inr (.inr (.inl (some (77))))), some (.inl n)] [] h1 (fun _ h2 => CLS h2)) := by
  refine gd_of (fun hg => ?_)
  obtain ⟨I, K, ⟨n0, a0, m0, M⟩, ⟨p1, p2, p3⟩, S, XX⟩ := B
  have L := I.1
  have bv := kt_bv K
  have ql := K.2.1
  have qc := S.1.2.2.2
  have l : ∀ {q : Nat}, q < 122 → q < h.1 := fun hq => ly_lt hg L hq
  refine ct_98 I K n qn (fun zA => ?_) (fun z1 z2 z3 => ?_) (fun z1 z2 z3 z4 h1 F1 K1 l1 w1 c1 => ?_) (fun z1 z2 z3 z4 h1 F1 K1 l1 w1 c1 r1 dv => ?_)
  · exact ct_157 L p1 bv p2 ql S.1.1.2.2.symm qc (hA h 25) n qn (fun _ => C) (fun _ _ _ => by exfalso; omega) (fun _ _ _ _ => by exfalso; omega) (fun _ _ _ _ => by exfalso; omega)
  · exact ct_157 L p1 bv p2 ql S.1.1.2.2.symm qc (hA h 25) n qn (fun _ => by exfalso; omega) (fun _ _ _ => C) (fun _ _ _ _ => by exfalso; omega) (fun _ _ _ _ => by exfalso; omega)
  · refine gd_of (fun hg1 => ?_)
    have C1 := CLS_rd hg L (FQ_s0 F1 c1) C
    have ea : ∀ a, a < 122 → a ≠ 23 → a ≠ 25 → hA h1 a = hA h a := fun a z1 z2 z3 => (F1.2.2 a (l z1)).2.2.1 (fun z => by unfold rdA2 at z; omega)
    have e17 : hF h1 77 17 = hF h 1 1 := ((F1.2.2 77 (l (by omega))).2.2.2.2 17 (fun z => by unfold rdF2 at z; omega)).trans p2
    exact ct_157 (kt_L K1) ((ea 94 (by omega) (by omega) (by omega)).trans p1) bv e17 ql ((congrFun (ea 80 (by omega) (by omega) (by omega)) 0).trans S.1.1.2.2.symm) qc (hA h 25) n qn (fun _ => by exfalso; omega) (fun _ _ _ => by exfalso; omega) (fun _ _ _ _ h2 N2 F2 W2 => CLS_FD hg1 (kt_L K1) F2 C1) (fun _ _ _ y => absurd y z4)
  · refine gd_of (fun hg1 => ?_)
    have ea : ∀ a, a < 122 → a ≠ 23 → a ≠ 25 → a ≠ 15 + (hF h 3 5).toNat → hA h1 a = hA h a := fun a z1 z2 z3 z4 => (F1.2.2 a (l z1)).2.2.1 (fun z => by unfold lwA at z; omega)
    have e17 : hF h1 77 17 = hF h 1 1 := ((F1.2.2 77 (l (by omega))).2.2.2.2 17 (fun z => by unfold rdF2 at z; omega)).trans p2
    have ef : ∀ k, k ≠ 5 → hF h1 3 k = hF h 3 k := fun k hk => (F1.2.2 3 (l (by omega))).2.2.2.2 k (fun z => by unfold rdF2 at z; omega)
    have er1 : hR h1 4 = hR h 4 := (F1.2.2 4 (l (by omega))).2.2.2.1 (fun z => z)
    have low := lw_low (x := 5) (y := 15 + (hF h 3 5).toNat) (by omega)
    have hi := FQ_hi low F1
    have C1 : CLS h1 := by
      obtain ⟨U, S', ⟨x1, x2, x3, x4⟩, x5⟩ := C
      refine ⟨U, S', ⟨fun i hi' hh => ?_, fun q hq hh => ?_, fun q hq hh => ?_, WXI_hi hg hi (by rw [F1.1]; omega) ((F1.2.2 0 (l (by omega))).2.2.2.2 7 (fun z => by unfold rdF2 at z; omega)) ((F1.2.2 21 (l (by omega))).2.2.2.1 (fun z => z)) x4⟩, ?_⟩
      · rw [ef 3 (by decide)] at hh
        obtain ⟨t, c, f, y1, y2⟩ := x1 i hi' hh
        exact ⟨t, c, f, by rw [er1]; exact CC_cf hg hi y1, y2⟩
      · rw [ef 4 (by decide)] at hh
        rw [ea (6 + q) (by omega) (by omega) (by omega) (by omega)]
        exact x2 q hq hh
      · by_cases e : q = (hF h 3 5).toNat
        · rw [e, r1]
          exact RQW_c (dq_A z4) (fun j hj => plr_lt (by omega))
        · rw [ea (15 + q) (by omega) (by omega) (by omega) (by omega)]
          exact x3 q hq (by rw [c1] at hh; omega)
      · rw [ef 3 (by decide), ef 4 (by decide), ea 27 (by omega) (by omega) (by omega) (by omega)]
        exact SUA_c x5 (fun q h1 h2 => ea (6 + q) (by omega) (by omega) (by omega) (by omega))
    refine ct_157 (kt_L K1) ((ea 94 (by omega) (by omega) (by omega) (by omega)).trans p1) bv e17 ql ((congrFun (ea 80 (by omega) (by omega) (by omega) (by omega)) 0).trans S.1.1.2.2.symm) qc (hA h 25) n qn (fun _ => by exfalso; omega) (fun _ _ _ => by exfalso; omega) (fun _ _ _ y => absurd z4 y) (fun _ _ _ _ g2 N2 F2 W2 Y2 => ?_)
    refine CLS_md hg1 (kt_L K1) (eF := fdF2) ?_ (fun q j z => z.1) C1
    exact md_FQ (g2 := g2) (A2 := av_u2 (hA g2) 80 0 (hF h 3 5 + 1)) F2 (fun a ha => av_u2_ne (fun z => ha (by unfold mdA; omega)))
theorem os_feed {h : av_H} (B : BK h) (C : CLS h) (a b c d e : Int) : av_wp none cd_94 0 [some (.inr (.inr (.inl (some (0))))), some (.inl a), some (.inl b), some (.inl c), some (.inl d), some (.inl e)] [] h (fun _ h1 => av_wp none cd_128 0 [some (.inr (.inr (.inl (some (77))))), some (.inl a), some (.inl b), some (.inl c), some (.inl d), some (.inl e), none, none] [] h1 (fun _ h2 => CLS h2)) := by
  refine gd_of (fun hg => ?_)
  obtain ⟨I, K, ⟨n0, a0, m0, M⟩, ⟨p1, p2, p3⟩, S, X⟩ := B
  have L := I.1
  have ql := K.2.1
  have el : hF h 1 1 = ((hF h 1 1).toNat : Int) := by omega
  refine ct_94 L el (by omega) a b c d e (fun z => ?_) (fun z h1 F1 b1 l1 => ?_)
  · exact ct_128 L (p2.trans el) (by omega) a b c d e (fun _ => C) (fun z2 => by exfalso; omega)
  · refine gd_of (fun hg1 => ?_)
    have L1 := FE_ly F1 L
    have e17 : hF h1 77 17 = ((hF h 1 1).toNat : Int) := (F1.2.2.2.2.2.2 77 17 (fun z => by unfold fdF at z; omega)).trans (p2.trans el)
    have Q1 : FQ fdA nun1 fdF nun2 h h1 0 0 := FE_fq F1
    have C1 : CLS h1 := CLS_cf hg (CF0_fq hg L fe_lowc Q1 ⟨fun z => by unfold fdF at z; omega, fun z => by unfold fdF at z; omega, fun z => by unfold fdF at z; omega, fun z => by unfold fdF at z; omega⟩ ⟨fun z => z, fun z => z⟩ (fun q h1 h2 z => by unfold fdA at z; omega)) (FQ_27 hg L Q1 (fun z => by unfold fdA at z; omega)) C
    refine ct_128 L1 e17 (by omega) a b c d e (fun z2 => by exfalso; omega) (fun _ h2 F2 b2 l2 => ?_)
    have Q2 : FQ mfA nun1 mfF nun2 h1 h2 0 0 := FE_fq F2
    exact CLS_cf hg1 (CF0_fq hg1 L1 fe_lowm Q2 ⟨fun z => by unfold mfF at z; omega, fun z => by unfold mfF at z; omega, fun z => by unfold mfF at z; omega, fun z => by unfold mfF at z; omega⟩ ⟨fun z => z, fun z => z⟩ (fun q h1 h2 z => by unfold mfA at z; omega)) (FQ_27 hg1 L1 Q2 (fun z => by unfold mfA at z; omega)) C1
/-- a shelf is another's copy -/
theorem WSH_copy {h h' : av_H} {p o : Nat} (x : WSH h p) (ef : hF h' o 3 = hF h p 3 ∧ hF h' o 4 = hF h p 4 ∧ hF h' o 5 = hF h p 5) (e3 : ∀ q, q < 8 → ∀ k, k < 14 → hA h' (o + 3 + q) k = hA h (p + 3 + q) k) (e12 : ∀ q, q < 6 → ∀ k, k < 14 → hA h' (o + 12 + q) k = hA h (p + 12 + q) k) (er : ∀ i, i < 16 → hR h' (o + 1) i = hR h (p + 1) i) (cc : ∀ v t c s f, CC h v t c s f → CC h' v t c s f) : WSH h' o := by
  obtain ⟨x1, x2, x3⟩ := x
  refine ⟨fun i hi hh => ?_, fun q hq hh => ?_, fun q hq hh => ?_⟩
  · rw [ef.1] at hh
    obtain ⟨t, c, s, f, y1, y2⟩ := x1 i hi hh
    exact ⟨t, c, s, f, by rw [er i hi]; exact cc _ _ _ _ _ y1, y2⟩
  · rw [ef.2.1] at hh
    exact RLW_c (x2 q hq hh) (fun j hj => e3 q hq j (by omega))
  · rw [ef.2.2] at hh
    exact RQW_c (x3 q hq hh) (fun j hj => e12 q hq j (by omega))
theorem WSH_3 {U : Nat → Nat → Int} {S : Nat → Nat} {h : av_H} (x : CLU U S h) : WSH h 3 := ⟨fun i hi hh => by
  obtain ⟨t, c, f, y1, y2, y3⟩ := x.1 i hi hh
  exact ⟨t, c, S i, f, y1, y3⟩, fun l hl hh => by
  rw [show 3 + 3 + l = 6 + l by omega]
  exact x.2.1 l hl hh, fun c hc hh => by
  rw [show 3 + 12 + c = 15 + c by omega]
  exact x.2.2.1 c hc hh⟩
theorem CLU_3 {h : av_H} (x : WSH h 3) (y : WXI h) : ∃ U S, CLU U S h := by
  have ch : ∀ i : Nat, ∃ p : Nat × (Nat → Int), i < 16 → (i : Int) < hF h 3 3 → ∃ t c f, CC h (hR h 4 i) t c p.1 f ∧ p.2 = ctn f p.1 ∧ ∀ q, q < p.1 → WRW (i : Int) q f := fun i => by
    by_cases c : i < 16 ∧ (i : Int) < hF h 3 3
    · obtain ⟨t, tc, s, f, y1, y2⟩ := x.1 i c.1 c.2
      exact ⟨(s, ctn f s), fun _ _ => ⟨t, tc, f, y1, rfl, y2⟩⟩
    · exact ⟨(0, fun _ => 0), fun h1 h2 => absurd ⟨h1, h2⟩ c⟩
  refine ⟨fun i => (Classical.choose (ch i)).2, fun i => (Classical.choose (ch i)).1, fun i hi hh => Classical.choose_spec (ch i) hi hh, fun l hl hh => ?_, fun c hc hh => ?_, y⟩
  · rw [show 6 + l = 3 + 3 + l by omega]
    exact x.2.1 l hl hh
  · rw [show 15 + c = 3 + 12 + c by omega]
    exact x.2.2 c hc hh
theorem os_image {h : av_H} (B : BK h) (C : CLS h) : av_wp none cd_123 0 [some (.inr (.inr (.inl (some (0))))), none] [] h (fun _ h1 => av_wp none cd_214 0 [some (.inr (.inr (.inl (some (77)))))] [] h1 (fun _ h2 => CLS h2)) := by
  refine gd_of (fun hg => ?_)
  obtain ⟨I, K, ⟨n0, a0, m0, M⟩, ⟨p1, p2, p3⟩, S, X⟩ := B
  have L := I.1
  have l : ∀ {q : Nat}, q < 122 → q < h.1 := fun hq => ly_lt hg L hq
  have l122 : 122 ≤ h.1 := by have := l (q := 121) (by omega); omega
  obtain ⟨qm, e77, X3⟩ := X
  refine ct_123 L rfl qm (fun i hi q e => cw_k1 (S.2.1.1 i hi) e) (fun z => ?_) (fun z => ?_)
  · exact ct_214 L e77 qm (fun _ => C) (fun z2 => by exfalso; omega)
  · refine gd_of (fun hg1 => ?_)
    have F1 := him_fq (m := hF h 0 7) l122
    have r21 : hR (him h (hF h 0 7)) 21 = av_u1 (hR h 21) (hF h 0 7).toNat (some h.1) := by
      have e1 : hR (blk (nsh h) h.1 3) 21 = hR h 21 := by
        rw [blk_R, if_neg (by omega)]
        exact (nsh_al.2.2 21 (l (by omega))).2.2.2.2
      have e2 : hR (him h (hF h 0 7)) 21 = av_u1 (hR (blk (nsh h) h.1 3) 21) (hF h 0 7).toNat (some h.1) := by
        funext j
        show av_u2 _ 21 _ _ 21 j = _
        unfold av_u2 av_u1
        by_cases c : j = (hF h 0 7).toNat
        · rw [if_pos ⟨rfl, c⟩, if_pos c]
        · rw [if_neg (fun z => c z.2), if_neg c]
      rw [e2, e1]
    have f07 : hF (him h (hF h 0 7)) 0 7 = hF h 0 7 + 1 := hF_self
    have nF : ∀ k, hF (him h (hF h 0 7)) h.1 k = hF (blk (nsh h) h.1 3) h.1 k := fun k => by
      show av_u2 _ 0 7 _ h.1 k = _
      rw [av_u2_ne (by omega)]
      rfl
    have nR : hR (him h (hF h 0 7)) (h.1 + 1) = hR (blk (nsh h) h.1 3) (h.1 + 1) := av_u2_ne (by omega)
    have nA : hA (him h (hF h 0 7)) = hA (blk (nsh h) h.1 3) := rfl
    change av_wp none cd_214 0 _ [] (him h (hF h 0 7)) _
    change av_Gd (him h (hF h 0 7)) at hg1
    generalize hh1 : him h (hF h 0 7) = h1 at *
    have ea1 : ∀ q, q < 122 → hA h1 q = hA h q := fun q hq => (F1.2.2 q (l hq)).2.2.1 (fun z => z)
    have ef1 : ∀ q k, q < 122 → ¬ (q = 0 ∧ k = 7) → hF h1 q k = hF h q k := fun q k hq e => (F1.2.2 q (l hq)).2.2.2.2 k e
    have fb : FB h h1 18 232 := FQ_fb F1 (fun q e => e.elim) (fun q e => by subst e; rfl) (fun q j e => by unfold i0F at e; obtain ⟨e1, e2⟩ := e; subst e1; subst e2; rfl) (fun _ _ z => z)
    have L1 : LY h1 := LY_fb hg L fb
    have hi := FQ_hi im_low F1
    have er4 : hR h1 4 = hR h 4 := (F1.2.2 4 (l (by omega))).2.2.2.1 (fun z => by omega)
    have C1 : CLS h1 := by
      obtain ⟨U, S', x0, x5⟩ := C
      have w3 := WSH_3 x0
      obtain ⟨x1, x2, x3, x4⟩ := x0
      refine ⟨U, S', ⟨fun i hi' hh => ?_, fun q hq hh => ?_, fun q hq hh => ?_, fun i hi' hh => ?_⟩, ?_⟩
      · rw [ef1 3 3 (by omega) (by omega)] at hh
        obtain ⟨t, c, f, y1, y2⟩ := x1 i hi' hh
        exact ⟨t, c, f, by rw [er4]; exact CC_cf hg hi y1, y2⟩
      · rw [ef1 3 4 (by omega) (by omega)] at hh
        rw [ea1 _ (by omega)]
        exact x2 q hq hh
      · rw [ef1 3 5 (by omega) (by omega)] at hh
        rw [ea1 _ (by omega)]
        exact x3 q hq hh
      · rw [f07] at hh
        by_cases e : i = (hF h 0 7).toNat
        · refine ⟨h.1, ?_, l122, by have := F1.1; omega, ?_⟩
          · rw [r21, e]
            exact if_pos rfl
          · have eA3 : ∀ q, q < 8 → hA h1 (h.1 + 3 + q) = plr (hA (nsh h) (h.1 + 3 + q)) (hA (nsh h) (3 + 3 + q)) := fun q hq => by
              rw [nA]
              exact blk_A3 hq (by omega)
            have eA12 : ∀ q, q < 6 → hA h1 (h.1 + 12 + q) = plr (hA (nsh h) (h.1 + 12 + q)) (hA (nsh h) (3 + 12 + q)) := fun q hq => by
              rw [nA]
              exact blk_A12 hq (by omega)
            have on : ∀ q, q < 122 → hA (nsh h) q = hA h q := fun q hq => (nsh_al.2.2 q (l hq)).2.1
            have bo := blk_Fo (h := nsh h) (o := h.1) (p := 3)
            refine WSH_copy w3 ⟨?_, ?_, ?_⟩ (fun q hq k hk => ?_) (fun q hq k hk => ?_) (fun j hj => ?_) (fun v t c s f x => CC_cf hg hi x)
            · rw [nF 3, bo.1]; exact nsh_F 3 (by omega)
            · rw [nF 4, bo.2.1]; exact nsh_F 4 (by omega)
            · rw [nF 5, bo.2.2]; exact nsh_F 5 (by omega)
            · rw [eA3 q hq, plr_lt hk, on _ (by omega)]
            · rw [eA12 q hq, plr_lt hk, on _ (by omega)]
            · rw [nR, blk_R, if_pos rfl]
              show (if j < 16 then _ else _) = _
              rw [if_pos hj]
              exact congrFun (nsh_al.2.2 4 (l (by omega))).2.2.2.2 j
        · obtain ⟨o, y1, y2, y3, y4⟩ := x4 i hi' (by omega)
          refine ⟨o, ?_, y2, by have := F1.1; omega, WSH_cf hg hi y2 y3 y4⟩
          rw [r21]
          exact (if_neg e).trans y1
      · rw [ef1 3 3 (by omega) (by omega), ef1 3 4 (by omega) (by omega), ea1 27 (by omega)]
        exact SUA_c x5 (fun q h1 _ => ea1 _ (by omega))
    refine ct_214 L1 ((ef1 77 62 (by omega) (by omega)).trans e77) qm (fun z2 => by exfalso; omega) (fun _ => ?_)
    refine CLS_md hg1 L1 (eF := i7F) ?_ (fun q j z => z.1) C1
    exact FQ_tr (FQ_A (fun q hq => cp_lo (by unfold mdA at hq; omega))) (FQ_wF (h := stA h1 (cpL (hA h1) 0 ((hF h 0 7).toNat + 1) czt)) ⟨rfl, rfl⟩)
theorem os_back {h : av_H} (B : BK h) (C : CLS h) (k : Int) (qk : -2147483648 ≤ k ∧ k ≤ 2147483647) : av_wp none cd_124 0 [some (.inr (.inr (.inl (some (0))))), some (.inl k)] [] h (fun _ h1 => av_wp none cd_215 0 [some (.inr (.inr (.inl (some (77))))), some (.inl k)] [] h1 (fun _ h2 => CLS h2)) := by
  refine gd_of (fun hg => ?_)
  obtain ⟨I, K, ⟨n0, a0, m0, M⟩, ⟨p1, p2, p3⟩, S, X⟩ := B
  have L := I.1
  have l : ∀ {q : Nat}, q < 122 → q < h.1 := fun hq => ly_lt hg L hq
  obtain ⟨qm, e77, X3⟩ := X
  refine ct_124 L rfl qm k qk (fun i hi hh => ?_) (fun p i hi hh e j hj q eq => ?_) (fun z => ?_) (fun z1 z2 p ep _ _ => ?_)
  · obtain ⟨o, y1, y2, _, y4, _⟩ := X3 i hi hh
    exact ⟨o, y1, y2, y4⟩
  · obtain ⟨o, y1, _, _, _, y5⟩ := X3 i hi hh
    rw [y1] at e
    cases e
    exact cw_k1 (y5.2.1.1 j hj) eq
  · exact ct_215 L e77 qm k qk (fun _ => C) (fun z2 z3 => by exfalso; omega)
  · refine gd_of (fun hg1 => ?_)
    obtain ⟨U, S', x0, x5⟩ := C
    obtain ⟨o, y1, y2, y3, y4⟩ := x0.2.2.2 k.toNat (by omega) (by omega)
    rw [y1] at ep
    have eo : o = p := Option.some.inj ep
    subst eo
    have F1 := hbk_fq (h := h) (p := o)
    have bo := blk_Fo (h := h) (o := 3) (p := o)
    have nF : ∀ f, hF (hfil (blk h 3 o) 27 0 144 0) 3 f = hF (blk h 3 o) 3 f := fun _ => rfl
    have nR : hR (hfil (blk h 3 o) 27 0 144 0) 4 = hR (blk h 3 o) 4 := rfl
    have nA : ∀ q, q ≠ 27 → hA (hfil (blk h 3 o) 27 0 144 0) q = hA (blk h 3 o) q := fun q hq => by
      funext j
      exact if_neg (fun z => hq z.1)
    have n27 : ∀ j, j < 144 → hA (hfil (blk h 3 o) 27 0 144 0) 27 j = 0 := fun j hj => if_pos ⟨rfl, Nat.zero_le j, hj⟩
    generalize hfil (blk h 3 o) 27 0 144 0 = h1 at *
    have ef1 : ∀ q f, q < 122 → q ≠ 3 → hF h1 q f = hF h q f := fun q f hq e => (F1.2.2 q (l hq)).2.2.2.2 f (fun z => e z.1)
    have bb1 : ∀ q, bkA q → bA q = true := fun q e => by
      have hh : ∀ q, q < 28 → (q = 27 ∨ (6 ≤ q ∧ q ≤ 13) ∨ (15 ≤ q ∧ q ≤ 20)) → bA q = true := by decide
      exact hh q (by unfold bkA at e; omega) e
    have bb2 : ∀ q j, bkF q j → bF q j = true := fun q j e => by
      unfold bkF at e
      obtain ⟨e1, e2⟩ := e
      subst e1
      rcases (show j = 3 ∨ j = 4 ∨ j = 5 by omega) with e | e | e <;> subst e <;> rfl
    have fb : FB h h1 0 0 := FQ_fb F1 bb1 (fun q e => by subst e; rfl) bb2 (fun _ _ z => z)
    have L1 : LY h1 := LY_fb hg L fb
    have hi := FQ_hi bk_low F1
    have C1 : CLS h1 := by
      have w3 : WSH h1 3 := by
        refine WSH_copy y4 ⟨(nF 3).trans bo.1, (nF 4).trans bo.2.1, (nF 5).trans bo.2.2⟩ (fun q hq j hj => ?_) (fun q hq j hj => ?_) (fun j hj => ?_) (fun v t c s f x => CC_cf hg hi x)
        · rw [nA _ (by omega), blk_A3 hq (by omega), plr_lt hj]
        · rw [nA _ (by omega), blk_A12 hq (by omega), plr_lt hj]
        · show hR h1 4 j = _
          rw [nR, blk_R, if_pos rfl]
          show (if j < 16 then _ else _) = _
          rw [if_pos hj]
      have wx : WXI h1 := WXI_hi hg hi (by rw [F1.1]; omega) (ef1 0 7 (by omega) (by omega)) ((F1.2.2 21 (l (by omega))).2.2.2.1 (fun z => by omega)) x0.2.2.2
      obtain ⟨U1, S1, z⟩ := CLU_3 w3 wx
      exact ⟨U1, S1, z, SUA_0 n27⟩
    refine ct_215 L1 ((ef1 77 62 (by omega) (by omega)).trans e77) qm k qk (fun z2 => by exfalso; omega) (fun _ _ => ?_)
    refine CLS_md hg1 L1 (eF := nun2) ?_ (fun q j z => z.elim) C1
    exact FQ_A (fun q hq => cp_lo (by unfold mdA at hq; omega))
end
section
/-! THE BOOK WITH THE CLASS'S OWN: pictures for the looks of both -/
def BX (h : av_H) : Prop := BK h ∧ CLS h
def OPX (cm : List (Nat × av_E)) (lm : av_L) (h : av_H) (P : Int → Int → Prop) (v : Option av_V) (h1 : av_H) : Prop := ∃ x : Int, v = some (.inl x) ∧ hK h1 77 = (8, 0) ∧ av_wp none cm 0 lm [] h1 (fun w h2 => ∃ y : Int, w = some (.inl y) ∧ P x y ∧ BX h2 ∧ RM h h2)
theorem OPX_of {cc cm : List (Nat × av_E)} {lc lm : av_L} {h : av_H} {P : Int → Int → Prop} (a : av_wp none cc 0 lc [] h (OPr cm lm h P)) (b : av_wp none cc 0 lc [] h (fun _ h1 => av_wp none cm 0 lm [] h1 (fun _ h2 => CLS h2))) : av_wp none cc 0 lc [] h (OPX cm lm h P) :=
  av_wp_mono (av_wp_and a b) (fun v h1 z => by
    obtain ⟨⟨x, e, k, W⟩, W2⟩ := z
    refine ⟨x, e, k, av_wp_mono (av_wp_and W W2) (fun w h2 z => ?_)⟩
    obtain ⟨⟨y, e2, p, b, r⟩, c⟩ := z
    exact ⟨y, e2, p, ⟨b, c⟩, r⟩)
theorem CF0_Fr {g h : av_H} (G : av_Gd g) (L : LY g) (F : Fr g h) : CF0 g h := by
  have nF : ∀ {q j : Nat}, q ≠ 26 → q ≠ 35 → q ≠ 48 → q ≠ 61 → q ≠ 77 → ¬ lkF q j := fun h1 h2 h3 h4 h5 z => by
    rcases z with z | z
    · have := sF_lt z; omega
    · have := mF_lt z; omega
  refine CF0_fq G L lk_low (FQ_Fr F) ⟨nF (by decide) (by decide) (by decide) (by decide) (by decide), nF (by decide) (by decide) (by decide) (by decide) (by decide), nF (by decide) (by decide) (by decide) (by decide) (by decide), nF (by decide) (by decide) (by decide) (by decide) (by decide)⟩ ⟨fun z => z, fun z => z⟩ (fun q h1 h2 z => ?_)
  rcases z with z | z
  · have hh : ∀ q, q < 21 → 6 ≤ q → sA q = false := by decide
    rw [hh q h2 h1] at z
    cases z
  · have := mA_lt z
    omega
section
variable {h : av_H} {U : Nat → Nat → Int} {S : Nat → Nat}
theorem CSP_of (I : IC h) (x : PIC U S h) : CSP U S (hF h 3 3) h := ⟨rfl, ic_cc I, fun i hi => by
  have n16 := ic_cc I
  obtain ⟨t, c, f, y1, y2, y3⟩ := x i (by omega) hi
  refine ⟨t, c, y1.1, ?_, ?_⟩
  · have e : cbv (U i) (S i) = cbv f (S i) := by
      rw [y2]
      unfold cbv
      rw [cbf_ct]
    rw [e]
    exact cx_co y1.2.1 y1.2.2.1 (Or.inr (Or.inr y1.2.2.2.2.2.1))
  · rw [y2]
    exact cc_u y1⟩
theorem CJ_of (I : IC h) (x : CLU U S h) : CJ U S (hF h 3 3) (hA h 27) (hA h 28) h := ⟨I, CSP_of I x.1, rfl, rfl⟩
theorem CRT_of (I : IC h) (x : CLU U S h) : CRT U S (hF h 3 3) (hF h 3 4) (fun k => hA h (6 + k)) := by
  have n16 := ic_cc I
  have n8 := ic_lc I
  refine ⟨fun i hi => ?_, fun i q j hi hj => ?_, fun i hi => cbf_1 _ _, fun l h0 hl => x.2.1 l.toNat (by omega) (by omega)⟩
  · obtain ⟨t, c, f, y1, y2, y3⟩ := x.1 i (by omega) hi
    rw [y2]
    exact CWF_of y3 y1.2.2.1 y1.2.2.2.2.2.2
  · obtain ⟨t, c, f, y1, y2, y3⟩ := x.1 i (by omega) hi
    rw [y2, ctn_o (by omega)]
    exact y1.2.2.1.2.2.1 q j hj
theorem UHW_al (I : IC h) (x : CLU U S h) : ∀ i : Nat, (i : Int) < hF h 3 3 → UHW (U i) (S i) := fun i hi => by
  have n16 := ic_cc I
  obtain ⟨t, c, f, y1, y2, y3⟩ := x.1 i (by omega) hi
  rw [y2]
  exact UHW_of y3
theorem RCA_of (B : BK h) (x : CLU U S h) : ∀ c : Nat, (c : Int) < hF h 3 3 → RCA (hA h) U S c ∧ ∀ j, -1 ≤ U c j := fun c hc => by
  have n16 := ic_cc B.1
  obtain ⟨t, tc, f, y1, y2, y3⟩ := x.1 c (by omega) hc
  obtain ⟨t', tc', s', f', z1, z2, z3⟩ := B.2.2.2.2.1.2.2.1 c (by omega) hc
  obtain ⟨e1, e2, e3⟩ := CC_uni y1 z1
  have u1 := cc_u y1
  have u2 := cc_u z1
  rw [← e2, ← e3] at u2
  rw [← e3] at z2 z3
  have eu : U c = ctn f' (S c) := by rw [y2, ← u1, u2]
  rw [show 16 * 0 + c = c by omega] at z2
  have rr : ∀ j, j < S c → RY (rwA (hA h) (12 * c + j)) f' (j * 21) := fun j hj => by
    have := z3 j hj
    rw [show 192 * 0 + 12 * c + j = 12 * c + j by omega] at this
    exact this
  refine ⟨⟨z2, fun k hk => ⟨?_, fun j hj => ?_⟩, ?_⟩, fun j => ?_⟩
  · have w : ∀ o, o < 7 → hA h (vq o) (vk (12 * c + k) o) = U c (21 * k + o) := fun o ho => by
      rw [eu, ctn_o (by omega), show 21 * k + o = k * 21 + o by omega]
      exact ry_o (rr k hk) (by omega)
    have v : ∀ i, 1 * i + 0 = i := fun i => by omega
    have w0 := w 0 (by omega)
    have w1 := w 1 (by omega)
    have w2 := w 2 (by omega)
    have w3 := w 3 (by omega)
    have w4 := w 4 (by omega)
    have w5 := w 5 (by omega)
    have w6 := w 6 (by omega)
    have k0 : vk (12 * c + k) 0 = 12 * c + k := v _
    have k1 : vk (12 * c + k) 1 = 12 * c + k := v _
    have k2 : vk (12 * c + k) 2 = 12 * c + k := v _
    have k3 : vk (12 * c + k) 3 = 12 * c + k := v _
    have k4 : vk (12 * c + k) 4 = 12 * c + k := v _
    have k5 : vk (12 * c + k) 5 = 12 * c + k := v _
    have k6 : vk (12 * c + k) 6 = 12 * c + k := v _
    rw [k0] at w0
    rw [k1] at w1
    rw [k2] at w2
    rw [k3] at w3
    rw [k4] at w4
    rw [k5] at w5
    rw [k6] at w6
    exact ⟨w0, w4, w5, w3, w1, w2, w6⟩
  · have w := ry_o (o := 10 + j) (rr k hk) (by omega)
    have hv : ∀ j, j < 5 → vq (10 + j) = 90 ∧ vm (10 + j) = 5 ∧ vo (10 + j) = j := by decide
    obtain ⟨v1, v2, v3⟩ := hv j hj
    have w2 : hA h (vq (10 + j)) (vm (10 + j) * (12 * c + k) + vo (10 + j)) = f' (k * 21 + (10 + j)) := w
    rw [v1, v2, v3] at w2
    rw [eu, show 21 * k + 10 + j = k * 21 + (10 + j) by omega, ctn_o (by omega), ← w2]
    exact congrArg (hA h 90) (by omega)
  · rw [eu]
    exact LH_of (A := hA h) (c := c) ⟨fun i _ => congrArg (hA h 91) (by omega), fun i _ => congrArg (hA h 92) (by omega), fun i _ => congrArg (hA h 89) (by omega)⟩ z2 rr
  · rw [y2, ← u1]
    exact (cx_co y1.2.1 y1.2.2.1 (Or.inr (Or.inr y1.2.2.2.2.2.1))).2.2.2.2.2.2.2.2.1 j |>.1
theorem RXX_of (B : BK h) (x : CLU U S h) {ro : Nat → Nat → Int} (er : ∀ l, l < 8 → ro l = hA h (6 + l)) : RXX h U S ro := by
  have n16 := ic_cc B.1
  have n8 := ic_lc B.1
  have n6 := ic_kc B.1
  have SS := B.2.2.2.2.1
  have c78 : hF h 3 3 = hA h 78 0 := SS.1.1.1
  have c79 : hF h 3 4 = hA h 79 0 := SS.1.1.2.1
  have c80 : hF h 3 5 = hA h 80 0 := SS.1.1.2.2
  have CR := CRT_of B.1 x
  have lw : ∀ l : Nat, (l : Int) < hA h 79 0 → LW h (hA h) 3 0 l := fun l h2 => SS.2.2.2.1 l (by omega) (by omega)
  refine ⟨fun c hc => (RCA_of B x c (by omega)).1, fun c l hc hl => ?_, fun c hc k hk => (CR.1 c (by omega)).2.2.1 k hk, fun l hl j hj => ?_, fun l j h1 h2 h3 h4 => ?_, fun c j h1 h2 h3 h4 => ?_⟩
  · have w := CR.1 c (by omega)
    have r : RLW (ro l) := by
      rw [er l (by omega)]
      exact x.2.1 l (by omega) (by omega)
    refine ⟨w.1, r, w.2.2.2.2.1, (RCA_of B x c (by omega)).2, fun j => ?_, w.2.2.2.2.2, w.2.1.2⟩
    rw [er l (by omega)]
    have := SS.2.1.2.1 l (by omega) j
    rw [show 3 + 3 + l = 6 + l by omega] at this
    exact this
  · have y := (lw l hl).1 j hj
    rw [er l (by omega), show 6 + l = 3 + 3 + l by omega, y]
    unfold lyb
    rw [show (14 * (l : Int) + (j : Int)).toNat = 196 * 0 + 14 * l + j by omega]
  · have y := (lw l.toNat (by omega)).1 j.toNat (by omega)
    have y2 := SS.2.1.2.1 l.toNat (by omega) j.toNat
    rw [show 196 * 0 + 14 * l.toNat + j.toNat = (14 * l + j).toNat by omega] at y
    by_cases e : hA h 93 (Int.toNat (14 * l + j)) = -2
    · omega
    · rw [if_neg e] at y
      rw [← y]
      exact y2
  · have y := SS.2.2.2.2 c.toNat (by omega) (by omega) j.toNat (by omega)
    have y2 := SS.2.1.2.2 c.toNat (by omega) j.toNat
    rw [show 196 * 0 + 112 + 14 * c.toNat + j.toNat = (112 + 14 * c + j).toNat by omega] at y
    rw [← y]
    exact y2
end
end
section
/-! SMALL LOOKS KEEP THE CLASS'S OWN BOOK -/
set_option maxRecDepth 100000 in
set_option maxHeartbeats 4000000 in
theorem cy_103 {h : av_H} (I : IC h) (n : Int) (qn : -2147483648 ≤ n ∧ n ≤ 2147483647) (w : Int) (qw : -2147483648 ≤ w ∧ w ≤ 2147483647) {Q : Option av_V → av_H → Prop} (hq : ∀ v : Int, Q (some (.inl v)) h) : av_wp none cd_103 0 [some (.inr (.inr (.inl (some (0))))), some (.inl n), some (.inl w), none] [] h Q := by
  have F := Fr_rf h
  refine av_wp_sqF ck_103 1 (pc' := 1) (lv' := [some (.inr (.inr (.inl (some (0))))), some (.inl n), some (.inl w), none]) (st' := [.inr (.inr (.inl (some (0))))]) (h' := h) rfl ?_
  refine wq_gr (p' := 4) (ck_103 _ _ rfl) rfl (congrArg Prod.fst (ly_k I.1 0 rfl)) rfl (ly_g I.1 0 1 3 rfl) ?_
  refine av_wp_sqF ck_103 1 (pc' := 5) (lv' := [some (.inr (.inr (.inl (some (0))))), some (.inl n), some (.inl w), none]) (st' := [.inl n, .inr (.inr (.inl (some (3))))]) (h' := h) rfl ?_
  refine wq_cv (p' := 8) (av_qc (.invokevirtual 96) 69 1 0 5) 2 cd_69 [.inl n] (3) 5 [some (.inr (.inr (.inl (some (3))))), some (.inl n)] (ck_103 _ _ rfl) rfl rfl pp_69 rfl rfl rfl (congrArg Prod.fst (ly_k I.1 3 rfl)) rfl rfl rfl rfl ?_
  refine ct_69 I (n) (by omega) ?_ (fun t1 c2 s3 d4 o5 z6 z7 => ?_)
  · show av_wp _ cd_103 8 [some (.inr (.inr (.inl (some (0))))), some (.inl n), some (.inl w), none] [.inr (.inr (.inl none))] h _
    refine av_wp_sqF ck_103 4 (pc' := 15) (lv' := [some (.inr (.inr (.inl (some (0))))), some (.inl n), some (.inl w), some (.inr (.inr (.inl none)))]) (st' := [.inl (-2)]) (h' := h) rfl ?_
    refine av_wp_ret (v := some (.inl (-2))) (ck_103 _ _ rfl) rfl rfl ?_
    exact hq _
  · have g8 := co_s12 o5
    have g9 := co_cbr o5
    show av_wp _ cd_103 8 [some (.inr (.inr (.inl (some (0))))), some (.inl n), some (.inl w), none] [.inr (.inr (.inl (some (t1))))] h _
    refine av_wp_sqF ck_103 4 (pc' := 17) (lv' := [some (.inr (.inr (.inl (some (0))))), some (.inl n), some (.inl w), some (.inr (.inr (.inl (some (t1)))))]) (st' := [.inl w]) (h' := h) rfl ?_
    rcases (show w = 0 ∨ w = 1 ∨ w = 2 ∨ (w < 0 ∨ 2 < w) by omega) with e10 | e10 | e10 | e10
    · refine wq_tc (t := 44) (ck_103 _ _ rfl) e10 rfl ?_
      refine av_wp_sqF ck_103 1 (pc' := 45) (lv' := [some (.inr (.inr (.inl (some (0))))), some (.inl n), some (.inl w), some (.inr (.inr (.inl (some (t1)))))]) (st' := [.inr (.inr (.inl (some (t1))))]) (h' := h) rfl ?_
      refine wq_gi (p' := 48) (ck_103 _ _ rfl) rfl (congrArg Prod.fst (co_kt o5)) rfl (co_s o5) ?_
      refine av_wp_ret (v := some (.inl (s3 : Int))) (ck_103 _ _ rfl) rfl rfl ?_
      exact hq _
    · refine wq_tc (t := 49) (ck_103 _ _ rfl) e10 rfl ?_
      refine av_wp_sqF ck_103 1 (pc' := 50) (lv' := [some (.inr (.inr (.inl (some (0))))), some (.inl n), some (.inl w), some (.inr (.inr (.inl (some (t1)))))]) (st' := [.inr (.inr (.inl (some (t1))))]) (h' := h) rfl ?_
      obtain ⟨v11, e12⟩ : ∃ v, hF h t1 2 = v := ⟨_, rfl⟩
      refine wq_gi (p' := 53) (ck_103 _ _ rfl) rfl (congrArg Prod.fst (co_kt o5)) rfl (e12) ?_
      refine av_wp_ret (v := some (.inl v11)) (ck_103 _ _ rfl) rfl rfl ?_
      exact hq _
    · refine wq_tc (t := 54) (ck_103 _ _ rfl) e10 rfl ?_
      refine av_wp_sqF ck_103 1 (pc' := 55) (lv' := [some (.inr (.inr (.inl (some (0))))), some (.inl n), some (.inl w), some (.inr (.inr (.inl (some (t1)))))]) (st' := [.inr (.inr (.inl (some (t1))))]) (h' := h) rfl ?_
      refine wq_gi (p' := 58) (ck_103 _ _ rfl) rfl (congrArg Prod.fst (co_kt o5)) rfl (co_cb o5) ?_
      refine av_wp_ret (v := some (.inl d4)) (ck_103 _ _ rfl) rfl rfl ?_
      exact hq _
    · refine wq_td (t := 59) (ck_103 _ _ rfl) ⟨by omega, by omega⟩ e10 rfl ?_
      refine av_wp_sqF ck_103 1 (pc' := 61) (lv' := [some (.inr (.inr (.inl (some (0))))), some (.inl n), some (.inl w), some (.inr (.inr (.inl (some (t1)))))]) (st' := [.inl (-2)]) (h' := h) rfl ?_
      refine av_wp_ret (v := some (.inl (-2))) (ck_103 _ _ rfl) rfl rfl ?_
      exact hq _
theorem os_100 {h : av_H} (B : BK h) (C : CLS h)  : av_wp none cd_100 0 [some (.inr (.inr (.inl (some (0)))))] [] h (fun _ h1 => av_wp none cd_158 0 [some (.inr (.inr (.inl (some (77)))))] [] h1 (fun _ h2 => CLS h2)) := by
  refine gd_of (fun hg => ?_)
  obtain ⟨n, a, m, M⟩ := B.2.2.1
  have z := ct_158 M (FM_rf h)  (Q := fun _ h2 => CLS h2) (fun w n' a' m' h2 M2 F2 => CLS_FM hg F2 C)
  exact cx_100 B.1 z
theorem os_101 {h : av_H} (B : BK h) (C : CLS h) (x1 x2 x3 : Int) (q1 : -2147483648 ≤ x1 ∧ x1 ≤ 2147483647) (q2 : -2147483648 ≤ x2 ∧ x2 ≤ 2147483647) (q3 : -2147483648 ≤ x3 ∧ x3 ≤ 2147483647) : av_wp none cd_101 0 [some (.inr (.inr (.inl (some (0))))), some (.inl x1), some (.inl x2), some (.inl x3), none, none] [] h (fun _ h1 => av_wp none cd_161 0 [some (.inr (.inr (.inl (some (77))))), some (.inl x1), some (.inl x2), some (.inl x3), none] [] h1 (fun _ h2 => CLS h2)) := by
  refine gd_of (fun hg => ?_)
  obtain ⟨n, a, m, M⟩ := B.2.2.1
  have z := ct_161 M (FM_rf h) x1 q1 x2 q2 x3 q3 (Q := fun _ h2 => CLS h2) (fun w n' a' m' h2 M2 F2 => CLS_FM hg F2 C)
  exact cx_101 B.1 B.2.2.2.2.1 x1 q1 x2 q2 x3 q3 (fun _ => z) (fun _ _ _ _ _ _ _ _ _ _ _ _ _ => z)
theorem os_105 {h : av_H} (B : BK h) (C : CLS h) (x1 x2 : Int) (q1 : -2147483648 ≤ x1 ∧ x1 ≤ 2147483647) (q2 : -2147483648 ≤ x2 ∧ x2 ≤ 2147483647) : av_wp none cd_105 0 [some (.inr (.inr (.inl (some (0))))), some (.inl x1), some (.inl x2)] [] h (fun _ h1 => av_wp none cd_160 0 [some (.inr (.inr (.inl (some (77))))), some (.inl x1), some (.inl x2)] [] h1 (fun _ h2 => CLS h2)) := by
  refine gd_of (fun hg => ?_)
  obtain ⟨n, a, m, M⟩ := B.2.2.1
  have z := ct_160 M (FM_rf h) x1 q1 x2 q2 (Q := fun _ h2 => CLS h2) (fun w n' a' m' h2 M2 F2 => CLS_FM hg F2 C)
  exact cx_105 B.1 x1 q1 x2 q2 (fun _ => z) (fun _ _ _ _ _ _ => z)
theorem os_125 {h : av_H} (B : BK h) (C : CLS h) (x1 : Int) (q1 : -2147483648 ≤ x1 ∧ x1 ≤ 2147483647) : av_wp none cd_125 0 [some (.inr (.inr (.inl (some (0))))), some (.inl x1)] [] h (fun _ h1 => av_wp none cd_217 0 [some (.inr (.inr (.inl (some (77))))), some (.inl x1)] [] h1 (fun _ h2 => CLS h2)) := by
  refine gd_of (fun hg => ?_)
  obtain ⟨n, a, m, M⟩ := B.2.2.1
  have z := ct_217 M (FM_rf h) x1 q1 (Q := fun _ h2 => CLS h2) (fun w n' a' m' h2 M2 F2 => CLS_FM hg F2 C)
  exact cx_125 B.1 B.2.2.2.2.1 x1 q1 (fun _ _ => z)
theorem os_103 {h : av_H} (B : BK h) (C : CLS h) (x1 x2 : Int) (q1 : -2147483648 ≤ x1 ∧ x1 ≤ 2147483647) (q2 : -2147483648 ≤ x2 ∧ x2 ≤ 2147483647) : av_wp none cd_103 0 [some (.inr (.inr (.inl (some (0))))), some (.inl x1), some (.inl x2), none] [] h (fun _ h1 => av_wp none cd_187 0 [some (.inr (.inr (.inl (some (77))))), some (.inl x1), some (.inl x2)] [] h1 (fun _ h2 => CLS h2)) := by
  refine gd_of (fun hg => ?_)
  obtain ⟨n, a, m, M⟩ := B.2.2.1
  have z := ct_187 M (FM_rf h) x1 q1 x2 q2 (Q := fun _ h2 => CLS h2) (fun w n' a' m' h2 M2 F2 => CLS_FM hg F2 C)
  exact cy_103 B.1 x1 q1 x2 q2 (fun _ => z)
theorem os_104 {h : av_H} (B : BK h) (C : CLS h) (x1 x2 x3 x4 : Int) (q1 : -2147483648 ≤ x1 ∧ x1 ≤ 2147483647) (q2 : -2147483648 ≤ x2 ∧ x2 ≤ 2147483647) (q3 : -2147483648 ≤ x3 ∧ x3 ≤ 2147483647) (q4 : -2147483648 ≤ x4 ∧ x4 ≤ 2147483647) : av_wp none cd_104 0 [some (.inr (.inr (.inl (some (0))))), some (.inl x1), some (.inl x2), some (.inl x3), some (.inl x4), none] [] h (fun _ h1 => av_wp none cd_189 0 [some (.inr (.inr (.inl (some (77))))), some (.inl x1), some (.inl x2), some (.inl x3), some (.inl x4)] [] h1 (fun _ h2 => CLS h2)) := by
  refine gd_of (fun hg => ?_)
  obtain ⟨n, a, m, M⟩ := B.2.2.1
  have z := ct_189 M (FM_rf h) x1 q1 x2 q2 x3 q3 x4 q4 (Q := fun _ h2 => CLS h2) (fun w n' a' m' h2 M2 F2 => CLS_FM hg F2 C)
  refine cx_104 B.1 B.2.2.2.2.1 x1 q1 x2 q2 x3 q3 x4 q4 (fun _ => z) (fun _ _ _ _ _ _ _ _ _ _ _ => z) (fun _ _ _ _ _ _ _ _ _ _ _ _ _ h1 I1 Y1 => gd_of (fun hg1 => ?_))
  have B1 := BK_Fr hg B Y1.1.1 I1
  have C1 : CLS h1 := CLS_cf hg (CF0_Fr hg B.1.1 Y1.1.1) (Y1.2.1 27 (fun j hj => by omega)) C
  obtain ⟨n1, a1, m1, M1⟩ := B1.2.2.1
  exact ct_189 M1 (FM_rf h1) x1 q1 x2 q2 x3 q3 x4 q4 (fun w n' a' m' h2 M2 F2 => CLS_FM hg1 F2 C1)
theorem oz_feed {h : av_H} (B : BX h) (a b c d e : Int)  : av_wp none cd_94 0 [some (.inr (.inr (.inl (some (0))))), some (.inl a), some (.inl b), some (.inl c), some (.inl d), some (.inl e)] [] h (OPX cd_128 [some (.inr (.inr (.inl (some (77))))), some (.inl a), some (.inl b), some (.inl c), some (.inl d), some (.inl e), none, none] h (fun x y => x = y)) := OPX_of (op_feed B.1 a b c d e) (os_feed B.1 B.2 a b c d e)
theorem oz_tell {h : av_H} (B : BX h) (n : Int) (qn : -2147483648 ≤ n ∧ n ≤ 2147483647) : av_wp none cd_95 0 [some (.inr (.inr (.inl (some (0))))), some (.inl n), none] [] h (OPX cd_148 [some (.inr (.inr (.inl (some (77))))), some (.inl n), none] h (fun x y => x = y)) := OPX_of (op_tell B.1 n qn) (os_tell B.1 B.2 n qn)
theorem oz_more {h : av_H} (B : BX h) (k n : Int) (qk : -2147483648 ≤ k ∧ k ≤ 2147483647) (qn : -2147483648 ≤ n ∧ n ≤ 2147483647) : av_wp none cd_96 0 [some (.inr (.inr (.inl (some (0))))), some (.inl k), some (.inl n), none, none] [] h (OPX cd_151 [some (.inr (.inr (.inl (some (77))))), some (.inl k), some (.inl n), none] h (fun x y => x = y)) := OPX_of (op_more B.1 k n qk qn) (os_more B.1 B.2 k n qk qn)
theorem oz_law {h : av_H} (B : BX h) (n : Int) (qn : -2147483648 ≤ n ∧ n ≤ 2147483647) : av_wp none cd_97 0 [some (.inr (.inr (.inl (some (0))))), some (.inl n), none] [] h (OPX cd_156 [some (.inr (.inr (.inl (some (77))))), some (.inl n)] h (fun x y => x = y)) := OPX_of (op_law B.1 n qn) (os_law B.1 B.2 n qn)
theorem oz_clause {h : av_H} (B : BX h) (n : Int) (qn : -2147483648 ≤ n ∧ n ≤ 2147483647) : av_wp none cd_98 0 [some (.inr (.inr (.inl (some (0))))), some (.inl n), none] [] h (OPX cd_157 [some (.inr (.inr (.inl (some (77))))), some (.inl n)] h (fun x y => x = y)) := OPX_of (op_clause B.1 n qn) (os_clause B.1 B.2 n qn)
theorem oz_image {h : av_H} (B : BX h)  : av_wp none cd_123 0 [some (.inr (.inr (.inl (some (0))))), none] [] h (OPX cd_214 [some (.inr (.inr (.inl (some (77)))))] h (fun x y => x = y)) := OPX_of (op_image B.1  ) (os_image B.1 B.2  )
theorem oz_back {h : av_H} (B : BX h) (k : Int) (qk : -2147483648 ≤ k ∧ k ≤ 2147483647) : av_wp none cd_124 0 [some (.inr (.inr (.inl (some (0))))), some (.inl k)] [] h (OPX cd_215 [some (.inr (.inr (.inl (some (77))))), some (.inl k)] h (fun x y => x = y)) := OPX_of (op_back B.1 k qk) (os_back B.1 B.2 k qk)
theorem oz_100 {h : av_H} (B : BX h)  : av_wp none cd_100 0 [some (.inr (.inr (.inl (some (0)))))] [] h (OPX cd_158 [some (.inr (.inr (.inl (some (77)))))] h (fun x y => x = y)) := OPX_of (ox_100 B.1  ) (os_100 B.1 B.2  )
theorem oz_101 {h : av_H} (B : BX h) (x1 x2 x3 : Int) (q1 : -2147483648 ≤ x1 ∧ x1 ≤ 2147483647) (q2 : -2147483648 ≤ x2 ∧ x2 ≤ 2147483647) (q3 : -2147483648 ≤ x3 ∧ x3 ≤ 2147483647) : av_wp none cd_101 0 [some (.inr (.inr (.inl (some (0))))), some (.inl x1), some (.inl x2), some (.inl x3), none, none] [] h (OPX cd_161 [some (.inr (.inr (.inl (some (77))))), some (.inl x1), some (.inl x2), some (.inl x3), none] h (fun x y => x = y)) := OPX_of (ox_101 B.1 x1 x2 x3 q1 q2 q3) (os_101 B.1 B.2 x1 x2 x3 q1 q2 q3)
theorem oz_105 {h : av_H} (B : BX h) (x1 x2 : Int) (q1 : -2147483648 ≤ x1 ∧ x1 ≤ 2147483647) (q2 : -2147483648 ≤ x2 ∧ x2 ≤ 2147483647) : av_wp none cd_105 0 [some (.inr (.inr (.inl (some (0))))), some (.inl x1), some (.inl x2)] [] h (OPX cd_160 [some (.inr (.inr (.inl (some (77))))), some (.inl x1), some (.inl x2)] h (fun x y => x = y)) := OPX_of (ox_105 B.1 x1 x2 q1 q2) (os_105 B.1 B.2 x1 x2 q1 q2)
theorem oz_125 {h : av_H} (B : BX h) (x1 : Int) (q1 : -2147483648 ≤ x1 ∧ x1 ≤ 2147483647) : av_wp none cd_125 0 [some (.inr (.inr (.inl (some (0))))), some (.inl x1)] [] h (OPX cd_217 [some (.inr (.inr (.inl (some (77))))), some (.inl x1)] h (fun x y => x = y)) := OPX_of (ox_125 B.1 x1 q1) (os_125 B.1 B.2 x1 q1)
theorem oz_103 {h : av_H} (B : BX h) (x1 x2 : Int) (q1 : -2147483648 ≤ x1 ∧ x1 ≤ 2147483647) (q2 : -2147483648 ≤ x2 ∧ x2 ≤ 2147483647) : av_wp none cd_103 0 [some (.inr (.inr (.inl (some (0))))), some (.inl x1), some (.inl x2), none] [] h (OPX cd_187 [some (.inr (.inr (.inl (some (77))))), some (.inl x1), some (.inl x2)] h (fun _ _ => True)) := OPX_of (op_103 B.1 x1 x2 q1 q2) (os_103 B.1 B.2 x1 x2 q1 q2)
theorem oz_104 {h : av_H} (B : BX h) (x1 x2 x3 x4 : Int) (q1 : -2147483648 ≤ x1 ∧ x1 ≤ 2147483647) (q2 : -2147483648 ≤ x2 ∧ x2 ≤ 2147483647) (q3 : -2147483648 ≤ x3 ∧ x3 ≤ 2147483647) (q4 : -2147483648 ≤ x4 ∧ x4 ≤ 2147483647) : av_wp none cd_104 0 [some (.inr (.inr (.inl (some (0))))), some (.inl x1), some (.inl x2), some (.inl x3), some (.inl x4), none] [] h (OPX cd_189 [some (.inr (.inr (.inl (some (77))))), some (.inl x1), some (.inl x2), some (.inl x3), some (.inl x4)] h (fun x y => x = y)) := OPX_of (ox_104 B.1 x1 x2 x3 x4 q1 q2 q3 q4) (os_104 B.1 B.2 x1 x2 x3 x4 q1 q2 q3 q4)
end
section
/-! WHAT MORE LOOKS ANSWER -/
/-- whom a bargain binds -/
def bdv (u : Nat → Int) (b : T3) : Int := if b.2.2 = 9999 then 0 else av_or (av_shl (1) (u (21 * b.2.1.toNat + 1))) (av_shl (1) (u (21 * b.2.1.toNat + 2)))
theorem UHW_o {u ro : Nat → Int} {s k : Nat} (x : UHW u s) (hk : k < s) (e : ofv u ro k ≠ 0) : (0 ≤ u (21 * k + 1) ∧ u (21 * k + 1) ≤ 2) ∧ 0 ≤ u (21 * k + 2) ∧ u (21 * k + 2) ≤ 2 := by
  have h := x k hk
  refine ⟨h.1, h.2 ?_⟩
  unfold ofv at e
  split at e
  · next c =>
    rcases c with c | c
    · exact Or.inl c
    · exact Or.inr (Or.inr c.1)
  · exact absurd rfl e
/-- the first hour at which goods of the bargain of mo were sent or came, by what the rules say; 9999: none -/
def rpv (u ro : Nat → Int) (a : Nat → Nat → Int) (mo : Int) : Nat → Int
  | 0 => 9999
  | k + 1 => if u (21 * k + 0) = 7 ∧ u (21 * k + 3) = mo ∧ hw a k (ro 12 - 1) ≠ -1 then mn2 (rpv u ro a mo k) (hw a k (ro 12 - 1)) else rpv u ro a mo k
theorem rpv_g {u ro : Nat → Int} {a a' : Nat → Nat → Int} {s : Nat} {mo : Int} (g : AGR s a a') : ∀ k, k ≤ s → rpv u ro a mo k = rpv u ro a' mo k := by
  intro k
  induction k with
  | zero => intro _; rfl
  | succ k ih =>
    intro hk
    show (if u (21 * k + 0) = 7 ∧ u (21 * k + 3) = mo ∧ hw a k (ro 12 - 1) ≠ -1 then mn2 (rpv u ro a mo k) (hw a k (ro 12 - 1)) else rpv u ro a mo k) = (if u (21 * k + 0) = 7 ∧ u (21 * k + 3) = mo ∧ hw a' k (ro 12 - 1) ≠ -1 then mn2 (rpv u ro a' mo k) (hw a' k (ro 12 - 1)) else rpv u ro a' mo k)
    rw [hw_g g (by omega), ih (by omega)]
theorem rpv_n {u ro : Nat → Int} {a : Nat → Nat → Int} {mo x : Int} {k : Nat} (e0 : u (21 * k + 0) = x) (c : x ≠ 7) : rpv u ro a mo (k + 1) = rpv u ro a mo k := if_neg (fun z => c (e0.symm.trans z.1))
theorem rpv_m {u ro : Nat → Int} {a : Nat → Nat → Int} {mo y : Int} {k : Nat} (e3 : u (21 * k + 3) = y) (c : y ≠ mo) : rpv u ro a mo (k + 1) = rpv u ro a mo k := if_neg (fun z => c (e3.symm.trans z.2.1))
theorem rpv_h {u ro : Nat → Int} {a : Nat → Nat → Int} {mo x : Int} {k : Nat} (e : hw a k (ro 12 - 1) = x) (c : x = -1) : rpv u ro a mo (k + 1) = rpv u ro a mo k := if_neg (fun z => z.2.2 (e.trans c))
theorem rpv_y {u ro : Nat → Int} {a : Nat → Nat → Int} {mo x y v : Int} {k : Nat} (e0 : u (21 * k + 0) = x) (c0 : x = 7) (e3 : u (21 * k + 3) = y) (c3 : y = mo) (e : hw a k (ro 12 - 1) = v) (c : v ≠ -1) : rpv u ro a mo (k + 1) = mn2 (rpv u ro a mo k) v := by
  have h : rpv u ro a mo (k + 1) = if u (21 * k + 0) = 7 ∧ u (21 * k + 3) = mo ∧ hw a k (ro 12 - 1) ≠ -1 then mn2 (rpv u ro a mo k) (hw a k (ro 12 - 1)) else rpv u ro a mo k := rfl
  rw [h, if_pos ⟨e0.trans c0, e3.trans c3, by rw [e]; exact c⟩, e]
theorem rpv_r {u ro : Nat → Int} {a : Nat → Nat → Int} {s : Nat} {mo : Int} (H : HBd s a) : ∀ k, k ≤ s → rpv u ro a mo k = 9999 ∨ (0 ≤ rpv u ro a mo k ∧ rpv u ro a mo k ≤ 5000) := by
  intro k
  induction k with
  | zero => intro _; exact Or.inl rfl
  | succ k ih =>
    intro hk
    have i := ih (by omega)
    have w := hw_r H (k := k) (by omega) (ro 12 - 1)
    have e : rpv u ro a mo (k + 1) = if u (21 * k + 0) = 7 ∧ u (21 * k + 3) = mo ∧ hw a k (ro 12 - 1) ≠ -1 then mn2 (rpv u ro a mo k) (hw a k (ro 12 - 1)) else rpv u ro a mo k := rfl
    rw [e]
    split
    · next c =>
      have := c.2.2
      unfold mn2
      split <;> omega
    · exact i
/-- from when on the other hand bears the goods; 9999: never -/
def rpx (u ro : Nat → Int) (a : Nat → Nat → Int) (s : Nat) (b : T3) : Int := if ro 12 = 0 then b.2.2 else rpv u ro a b.2.1 s
/-- who bears them at hour w -/
def bev (u ro : Nat → Int) (a : Nat → Nat → Int) (s : Nat) (b : T3) (w : Int) : Int := if b.2.2 = 9999 then -1 else if rpx u ro a s b ≠ 9999 ∧ rpx u ro a s b ≤ w ∧ b.2.2 ≤ w then u (21 * b.2.1.toNat + 2) else u (21 * b.2.1.toNat + 1)
theorem rpx_r {u ro : Nat → Int} {a : Nat → Nat → Int} {s : Nat} {mb mo ma : Int} (H : HBd s a) (qm : -1 ≤ ma ∧ ma ≤ 9999) : -1 ≤ rpx u ro a s (mb, mo, ma) ∧ rpx u ro a s (mb, mo, ma) ≤ 9999 := by
  have h := rpv_r (u := u) (ro := ro) (mo := mo) H s (Nat.le_refl s)
  show -1 ≤ (if ro 12 = 0 then ma else rpv u ro a mo s) ∧ (if ro 12 = 0 then ma else rpv u ro a mo s) ≤ 9999
  split
  · exact qm
  · omega
theorem HBd_g {u : Nat → Int} {s : Nat} {x : Int} {a : Nat → Nat → Int} (W : ∀ x : Int, 0 ≤ x → x ≤ 1023 → ∀ k, k < s → ∀ j, j < 3 → -1 ≤ hrv u x k j ∧ hrv u x k j ≤ 5000) (X : HX u s x a) (hx : 0 ≤ x ∧ x ≤ 1023) : HBd s a := fun k hk i hi => by
  rw [X k hk i hi]
  exact W x hx.1 hx.2 k hk i hi
theorem bev_g {u ro : Nat → Int} {a a' : Nat → Nat → Int} {s : Nat} {b : T3} {w : Int} (g : AGR s a a') : bev u ro a s b w = bev u ro a' s b w := by
  unfold bev rpx
  rw [rpv_g g s (Nat.le_refl s)]
/-- a bargain's hour isn't before the beginning -/
theorem yv_0 {u ro : Nat → Int} {a : Nat → Nat → Int} {s : Nat} (H : HBd s a) : ∀ k, k ≤ s → 0 ≤ (yv u ro a s k).2.2 := by
  intro k
  induction k with
  | zero => intro _; show (0 : Int) ≤ 9999; omega
  | succ k ih =>
    intro hk
    show 0 ≤ (if yc u ro a s k (yv u ro a s k).2.2 = 1 then ((k : Int), u (21 * k + 3), hw a k (yw u ro k)) else yv u ro a s k).2.2
    split
    · next z =>
      show 0 ≤ hw a k (yw u ro k)
      have w := hw_r H (k := k) (by omega) (yw u ro k)
      have o := fun q hq => o5_r (ro := ro) H (q := q) hq
      unfold yc at z
      split at z
      · next y =>
        have q5 := o (u (21 * k + 3)).toNat (by omega)
        have p := opn_1 _ _ _ y.2.2.2.2.2.2.2.2
        omega
      · omega
    · exact ih (by omega)
theorem sv_0 {u ro : Nat → Int} {a : Nat → Nat → Int} {s : Nat} (H : HBd s a) : ∀ k, k ≤ s → 0 ≤ (sv u ro a s k).2.2 := by
  intro k
  induction k with
  | zero => intro _; exact yv_0 H s (Nat.le_refl s)
  | succ k ih =>
    intro hk
    show 0 ≤ (if slc u ro a s k (sv u ro a s k).2.2 = 1 then (-1, (k : Int), hw a k 2 + ro 8) else sv u ro a s k).2.2
    split
    · next z =>
      show 0 ≤ hw a k 2 + ro 8
      have w := hw_r H (k := k) (by omega) 2
      have q5 := o5_r (ro := ro) H (q := k) (by omega)
      unfold slc at z
      split at z
      · next y =>
        have p := opn_1 _ _ _ y.2.2.2.2
        omega
      · omega
    · exact ih (by omega)
theorem bgn_0 {u ro bar : Nat → Int} {s : Nat} {x : Int} (H : HBd s (arr u ro bar x)) : (bgn u ro bar s x).2.2 = 9999 ∨ (0 ≤ (bgn u ro bar s x).2.2 ∧ (bgn u ro bar s x).2.2 < 9999) := by
  have h0 : 0 ≤ (bgn u ro bar s x).2.2 := by
    unfold bgn brg
    split
    · exact sv_0 H s (Nat.le_refl s)
    · exact yv_0 H s (Nat.le_refl s)
  rcases bgn_f (u := u) (ro := ro) (bar := bar) (s := s) (x := x) with y | y
  · exact Or.inl y.1
  · exact Or.inr ⟨h0, y.1⟩
end
