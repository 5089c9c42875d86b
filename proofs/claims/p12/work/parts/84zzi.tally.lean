/-! ALL COMBOS TOLD IN FIVE NUMBERS -/
/-- one more combo x that has a bargain at z -/
def tb (t : Nat → Int) (x z : Int) (j : Nat) : Int := if j = 0 then t 0 + 1 else if j = 1 then (if t 0 = 0 then x else t 1) else if j = 2 then t 2 else if j = 3 then (if t 0 = 0 then z else mn2 (t 3) z) else mx2 (t 4) z
/-- how many have one, the first that has, the first that has none, the least hour, the last; f: the hour of each, 9999: none -/
def ta (f : Int → Int) : Nat → Nat → Int
  | 0, j => if j = 0 then 0 else -1
  | k + 1, j => if f (k : Int) = 9999 then (if j = 2 ∧ ta f k 2 = -1 then (k : Int) else ta f k j) else tb (ta f k) (k : Int) (f (k : Int)) j
section
variable {f : Int → Int} {k : Nat} {z : Int}
theorem ta_9 (e : f (k : Int) = 9999) (j : Nat) : ta f (k + 1) j = if j = 2 ∧ ta f k 2 = -1 then (k : Int) else ta f k j := by
  have h : ta f (k + 1) j = if f (k : Int) = 9999 then (if j = 2 ∧ ta f k 2 = -1 then (k : Int) else ta f k j) else tb (ta f k) (k : Int) (f (k : Int)) j := rfl
  rw [h, if_pos e]
theorem ta_b (e : f (k : Int) = z) (c : z ≠ 9999) (j : Nat) : ta f (k + 1) j = tb (ta f k) (k : Int) z j := by
  have h : ta f (k + 1) j = if f (k : Int) = 9999 then (if j = 2 ∧ ta f k 2 = -1 then (k : Int) else ta f k j) else tb (ta f k) (k : Int) (f (k : Int)) j := rfl
  rw [h, if_neg (by rw [e]; exact c), e]
theorem ta_9s (e : f (k : Int) = 9999) : ta f (k + 1) 0 = ta f k 0 ∧ ta f (k + 1) 1 = ta f k 1 ∧ ta f (k + 1) 2 = (if ta f k 2 = -1 then (k : Int) else ta f k 2) ∧ ta f (k + 1) 3 = ta f k 3 ∧ ta f (k + 1) 4 = ta f k 4 := by
  refine ⟨?_, ?_, ?_, ?_, ?_⟩
  · rw [ta_9 e, if_neg (fun z => by have := z.1; omega)]
  · rw [ta_9 e, if_neg (fun z => by have := z.1; omega)]
  · rw [ta_9 e]
    by_cases c : ta f k 2 = -1
    · rw [if_pos ⟨rfl, c⟩, if_pos c]
    · rw [if_neg (fun z => c z.2), if_neg c]
  · rw [ta_9 e, if_neg (fun z => by have := z.1; omega)]
  · rw [ta_9 e, if_neg (fun z => by have := z.1; omega)]
theorem ta_bs (e : f (k : Int) = z) (c : z ≠ 9999) : ta f (k + 1) 0 = ta f k 0 + 1 ∧ ta f (k + 1) 1 = (if ta f k 0 = 0 then (k : Int) else ta f k 1) ∧ ta f (k + 1) 2 = ta f k 2 ∧ ta f (k + 1) 3 = (if ta f k 0 = 0 then z else mn2 (ta f k 3) z) ∧ ta f (k + 1) 4 = mx2 (ta f k 4) z := ⟨ta_b e c 0, ta_b e c 1, ta_b e c 2, ta_b e c 3, ta_b e c 4⟩
theorem ta_r (hf : ∀ x : Int, 0 ≤ x → x ≤ 1023 → f x = 9999 ∨ (0 ≤ f x ∧ f x < 9999)) : ∀ k : Nat, k ≤ 1024 → (0 ≤ ta f k 0 ∧ ta f k 0 ≤ (k : Int)) ∧ (-1 ≤ ta f k 2 ∧ ta f k 2 ≤ 1023) ∧ ((ta f k 0 = 0 ∧ ta f k 1 = -1 ∧ ta f k 3 = -1 ∧ ta f k 4 = -1) ∨ (1 ≤ ta f k 0 ∧ (0 ≤ ta f k 1 ∧ ta f k 1 ≤ 1023) ∧ (0 ≤ ta f k 3 ∧ ta f k 3 ≤ 9998) ∧ (0 ≤ ta f k 4 ∧ ta f k 4 ≤ 9998))) := by
  intro k
  induction k with
  | zero => intro _; exact ⟨⟨Int.le_refl 0, Int.le_refl 0⟩, ⟨Int.le_refl (-1), by show (-1 : Int) ≤ 1023; omega⟩, Or.inl ⟨rfl, rfl, rfl, rfl⟩⟩
  | succ k ih =>
    intro hk
    obtain ⟨i1, i2, i3⟩ := ih (by omega)
    have h := hf (k : Int) (by omega) (by omega)
    by_cases c : f (k : Int) = 9999
    · obtain ⟨y0, y1, y2, y3, y4⟩ := ta_9s c
      rw [y0, y1, y2, y3, y4]
      refine ⟨by omega, ?_, i3⟩
      split <;> omega
    · obtain ⟨y0, y1, y2, y3, y4⟩ := ta_bs rfl c
      rw [y0, y1, y2, y3, y4]
      unfold mn2 mx2
      refine ⟨by omega, i2, Or.inr ⟨by omega, ?_, ?_, ?_⟩⟩
      · split <;> omega
      · (repeat' split) <;> omega
      · split <;> omega
end
/-! A SEATED CASE AND ITS TALLY -/
/-- one row alone changed -/
def F1q (q0 : Nat) (g h : av_H) : Prop := Fr1 g h ∧ hF h = hF g ∧ ∀ q, q ≠ q0 → hA h q = hA g q
theorem F1q_w {q0 i : Nat} {v : Int} {h : av_H} (e : sA q0 = true) : F1q q0 h (hwA h q0 i v) := ⟨⟨Fr_wA (Fr_rf h) e, rfl⟩, rfl, fun q hq => hA_ne hq⟩
theorem F1q_f {q0 lo hi : Nat} {v : Int} {h : av_H} (I : IC h) (e : sA q0 = true) (hr : rwc q0 = true → -2 ≤ v ∧ v ≤ 999) (l : lo ≤ hi) : F1q q0 h (hfil h q0 lo hi v) := ⟨(IC_fil I e hr l).2, rfl, fun q hq => fil_o hq⟩
theorem CJ_q {U : Nat → Nat → Int} {S : Nat → Nat} {n : Int} {sr nd : Nat → Int} {q0 : Nat} {g h : av_H} (C : CJ U S n sr nd g) (F : F1q q0 g h) (I : IC h) (e1 : q0 ≠ 27) (e2 : q0 ≠ 28) : CJ U S n sr nd h := ⟨I, CSP_fr C.1.1 C.2.1 F.1.1, (F.2.2 27 (Ne.symm e1)).trans C.2.2.1, (F.2.2 28 (Ne.symm e2)).trans C.2.2.2⟩
theorem EB_q {b t c s r : Nat} {cb : Int} {u ro : Nat → Int} {a : Nat → Nat → Int} {x y z : Int} {q0 : Nat} {g h : av_H} (E : EB b t c s r cb u ro a x y z g) (F : F1q q0 g h) (I : IC h) (e : rwc q0 = false) (e2 : q0 = 29 ∨ q0 = 31) : EB b t c s r cb u ro a x y z h := by
  obtain ⟨e0, e1, e3, e4, e5, e6, e7⟩ := E
  refine ⟨ib_f1 e0 I F.1, ?_, ?_, fun j hj => ?_, ?_, ?_, ?_⟩
  · refine (F.2.2 c ?_).trans e1
    have := e0.2.2.1.2.2.2.2.2.2.2.1
    omega
  · refine (F.2.2 r (fun z => ?_)).trans e3
    have := e0.2.2.2.2.2.2
    rw [z, e] at this
    cases this
  · refine (F.2.2 _ ?_).trans (e4 j hj)
    rcases e0.2.1 with z | z | z <;> omega
  · rw [F.2.1]; exact e5
  · rw [F.2.1]; exact e6
  · rw [F.2.1]; exact e7
theorem fil_s {h : av_H} {a lo hi j : Nat} {v : Int} : hA (hfil h a lo hi v) a j = if lo ≤ j ∧ j < hi then v else hA h a j := by
  show (if a = a ∧ lo ≤ j ∧ j < hi then v else h.2.2.2.1 a j) = _
  by_cases e : lo ≤ j ∧ j < hi
  · rw [if_pos ⟨rfl, e⟩, if_pos e]
  · rw [if_neg (fun z => e z.2), if_neg e]
/-- the five numbers of the tally -/
def T5 (A : Nat → Int) (t0 t1 t2 t3 t4 : Int) : Prop := A 0 = t0 ∧ A 1 = t1 ∧ A 2 = t2 ∧ A 3 = t3 ∧ A 4 = t4
/-- the court with a case seated on bench 35, its tally -/
def SQ (U : Nat → Nat → Int) (S : Nat → Nat) (n : Int) (sr nd : Nat → Int) (t c s r : Nat) (cb : Int) (u ro bar : Nat → Int) (a : Nat → Nat → Int) (x y z : Int) (t0 t1 t2 t3 t4 : Int) (g h : av_H) : Prop := CJ U S n sr nd h ∧ EB 35 t c s r cb u ro a x y z h ∧ TKR u ro bar s a ∧ HZ u a ∧ Fr g h ∧ T5 (hA h 31) t0 t1 t2 t3 t4
section
variable {U : Nat → Nat → Int} {S : Nat → Nat} {n : Int} {sr nd : Nat → Int} {t c s r : Nat} {cb : Int} {u ro bar : Nat → Int} {a : Nat → Nat → Int} {x y z : Int} {t0 t1 t2 t3 t4 : Int} {g h : av_H}
theorem SQ_w {s0 s1 s2 s3 s4 : Int} (X : SQ U S n sr nd t c s r cb u ro bar a x y z t0 t1 t2 t3 t4 g h) (i : Nat) (v : Int) (e : T5 (av_u1 (hA h 31) i v) s0 s1 s2 s3 s4) : SQ U S n sr nd t c s r cb u ro bar a x y z s0 s1 s2 s3 s4 g (hwA h 31 i v) := by
  obtain ⟨x1, x2, x3, x4, x5, x6⟩ := X
  have F : F1q 31 h (hwA h 31 i v) := F1q_w rfl
  have I : IC (hwA h 31 i v) := IC_wA x1.1 rfl (fun z => by cases z)
  exact ⟨CJ_q x1 F I (by decide) (by decide), EB_q x2 F I rfl (Or.inr rfl), x3, x4, Fr_tr x5 F.1.1, by rw [hA_wu]; exact e⟩
theorem SQ_f (X : SQ U S n sr nd t c s r cb u ro bar a x y z t0 t1 t2 t3 t4 g h) {v : Int} : SQ U S n sr nd t c s r cb u ro bar a x y z t0 v v v v g (hfil h 31 1 5 v) := by
  obtain ⟨x1, x2, x3, x4, x5, x6⟩ := X
  have F : F1q 31 h (hfil h 31 1 5 v) := F1q_f x1.1 rfl (fun z => by cases z) (by decide)
  have I : IC (hfil h 31 1 5 v) := (IC_fil x1.1 rfl (fun z => by cases z) (by decide)).1
  exact ⟨CJ_q x1 F I (by decide) (by decide), EB_q x2 F I rfl (Or.inr rfl), x3, x4, Fr_tr x5 F.1.1, (fil_s.trans (if_neg (by decide))).trans x6.1, fil_s.trans (if_pos (by decide)), fil_s.trans (if_pos (by decide)), fil_s.trans (if_pos (by decide)), fil_s.trans (if_pos (by decide))⟩
theorem SQ_2 {h' : av_H} {a' : Nat → Nat → Int} {x' y' z' : Int} (X : SQ U S n sr nd t c s r cb u ro bar a x y z t0 t1 t2 t3 t4 g h) (E : EB 35 t c s r cb u ro a' x' y' z' h') (F : FN 35 h h') (Z : HZ u a') (T : TKR u ro bar s a') : SQ U S n sr nd t c s r cb u ro bar a' x' y' z' t0 t1 t2 t3 t4 g h' := by
  obtain ⟨x1, x2, x3, x4, x5, x6⟩ := X
  exact ⟨CJ_bn (Or.inl rfl) x1 F (ib_ic E.1), E, T, Z, Fr_tr x5 F.1.1, by rw [F.2.1 31 (fun j hj => by omega)]; exact x6⟩
variable {sc : av_Sr} {cd : List (Nat × av_E)} {Q : Option av_V → av_H → Prop} {pc p' : Nat} {lv : av_L} {r' : List av_V}
theorem xq_0 {v : Int} (hx : cd.lookup pc = some (av_q (.iastore))) (hp : pc + 1 = p') (X : SQ U S n sr nd t c s r cb u ro bar a x y z t0 t1 t2 t3 t4 g h) (hw : ∀ h', SQ U S n sr nd t c s r cb u ro bar a x y z v t1 t2 t3 t4 g h' → av_wp sc cd p' lv r' h' Q) : av_wp sc cd pc lv (.inl v :: .inl (0) :: .inr (.inr (.inl (some 31))) :: r') h Q :=
  wq_as (n := 5) hx hp (ly_k X.1.1.1 31 rfl) (by omega) (hw _ (SQ_w X 0 v ⟨u1_eq, (u1_ne (by decide)).trans X.2.2.2.2.2.2.1, (u1_ne (by decide)).trans X.2.2.2.2.2.2.2.1, (u1_ne (by decide)).trans X.2.2.2.2.2.2.2.2.1, (u1_ne (by decide)).trans X.2.2.2.2.2.2.2.2.2⟩))
theorem xq_1 {v : Int} (hx : cd.lookup pc = some (av_q (.iastore))) (hp : pc + 1 = p') (X : SQ U S n sr nd t c s r cb u ro bar a x y z t0 t1 t2 t3 t4 g h) (hw : ∀ h', SQ U S n sr nd t c s r cb u ro bar a x y z t0 v t2 t3 t4 g h' → av_wp sc cd p' lv r' h' Q) : av_wp sc cd pc lv (.inl v :: .inl (1) :: .inr (.inr (.inl (some 31))) :: r') h Q :=
  wq_as (n := 5) hx hp (ly_k X.1.1.1 31 rfl) (by omega) (hw _ (SQ_w X 1 v ⟨(u1_ne (by decide)).trans X.2.2.2.2.2.1, u1_eq, (u1_ne (by decide)).trans X.2.2.2.2.2.2.2.1, (u1_ne (by decide)).trans X.2.2.2.2.2.2.2.2.1, (u1_ne (by decide)).trans X.2.2.2.2.2.2.2.2.2⟩))
theorem xq_2 {v : Int} (hx : cd.lookup pc = some (av_q (.iastore))) (hp : pc + 1 = p') (X : SQ U S n sr nd t c s r cb u ro bar a x y z t0 t1 t2 t3 t4 g h) (hw : ∀ h', SQ U S n sr nd t c s r cb u ro bar a x y z t0 t1 v t3 t4 g h' → av_wp sc cd p' lv r' h' Q) : av_wp sc cd pc lv (.inl v :: .inl (2) :: .inr (.inr (.inl (some 31))) :: r') h Q :=
  wq_as (n := 5) hx hp (ly_k X.1.1.1 31 rfl) (by omega) (hw _ (SQ_w X 2 v ⟨(u1_ne (by decide)).trans X.2.2.2.2.2.1, (u1_ne (by decide)).trans X.2.2.2.2.2.2.1, u1_eq, (u1_ne (by decide)).trans X.2.2.2.2.2.2.2.2.1, (u1_ne (by decide)).trans X.2.2.2.2.2.2.2.2.2⟩))
theorem xq_3 {v : Int} (hx : cd.lookup pc = some (av_q (.iastore))) (hp : pc + 1 = p') (X : SQ U S n sr nd t c s r cb u ro bar a x y z t0 t1 t2 t3 t4 g h) (hw : ∀ h', SQ U S n sr nd t c s r cb u ro bar a x y z t0 t1 t2 v t4 g h' → av_wp sc cd p' lv r' h' Q) : av_wp sc cd pc lv (.inl v :: .inl (3) :: .inr (.inr (.inl (some 31))) :: r') h Q :=
  wq_as (n := 5) hx hp (ly_k X.1.1.1 31 rfl) (by omega) (hw _ (SQ_w X 3 v ⟨(u1_ne (by decide)).trans X.2.2.2.2.2.1, (u1_ne (by decide)).trans X.2.2.2.2.2.2.1, (u1_ne (by decide)).trans X.2.2.2.2.2.2.2.1, u1_eq, (u1_ne (by decide)).trans X.2.2.2.2.2.2.2.2.2⟩))
theorem xq_4 {v : Int} (hx : cd.lookup pc = some (av_q (.iastore))) (hp : pc + 1 = p') (X : SQ U S n sr nd t c s r cb u ro bar a x y z t0 t1 t2 t3 t4 g h) (hw : ∀ h', SQ U S n sr nd t c s r cb u ro bar a x y z t0 t1 t2 t3 v g h' → av_wp sc cd p' lv r' h' Q) : av_wp sc cd pc lv (.inl v :: .inl (4) :: .inr (.inr (.inl (some 31))) :: r') h Q :=
  wq_as (n := 5) hx hp (ly_k X.1.1.1 31 rfl) (by omega) (hw _ (SQ_w X 4 v ⟨(u1_ne (by decide)).trans X.2.2.2.2.2.1, (u1_ne (by decide)).trans X.2.2.2.2.2.2.1, (u1_ne (by decide)).trans X.2.2.2.2.2.2.2.1, (u1_ne (by decide)).trans X.2.2.2.2.2.2.2.2.1, u1_eq⟩))
end
