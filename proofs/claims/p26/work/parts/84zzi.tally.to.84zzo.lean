section
/-! ALL COMBOS TOLD IN FIVE NUMBERS -/
/-- one more combo x that has a bargain at z -/
def tb (t : Nat → Int) (x z : Int) (j : Nat) : Int := if j = 0 then t 0 + 1 else if j = 1 then (if t 0 = 0 then x else t 1) else if j = 2 then t 2 else if j = 3 then (if t 0 = 0 then z else mn2 (t 3) z) else mx2 (t 4) z
/-- how many have one, the first that has, the first that has none, the least hour, the last; f: the hour of each, 9999: none -/
def ta (f : Int → Int) : Nat → Nat → Int
  | 0, j => if j = 0 then 0 else -1
  | k + 1, j => if f (k : Int) = 9999 then (if j = 2 ∧ ta f k 2 = -1 then (k : Int) else ta f k j) else tb (ta f k) (k : Int) (f (k : Int)) j
section
variable {f : Int → Int} {k : Nat} {z : Int}
theorem ta_9 (e : f (k : Int) = 9999) (j : Nat) : ta f (k + 1) j = if j = 2 ∧ ta f k 2 = -1 then (k : Int) else ta f k j := by
  have h : ta f (k + 1) j = if f (k : Int) = 9999 then (if j = 2 ∧ ta f k 2 = -1 then (k : Int) else ta f k j) else tb (ta f k) (k : Int) (f (k : Int)) j := rfl
  rw [h, if_pos e]
theorem ta_b (e : f (k : Int) = z) (c : z ≠ 9999) (j : Nat) : ta f (k + 1) j = tb (ta f k) (k : Int) z j := by
  have h : ta f (k + 1) j = if f (k : Int) = 9999 then (if j = 2 ∧ ta f k 2 = -1 then (k : Int) else ta f k j) else tb (ta f k) (k : Int) (f (k : Int)) j := rfl
  rw [h, if_neg (by rw [e]; exact c), e]
theorem ta_9s (e : f (k : Int) = 9999) : ta f (k + 1) 0 = ta f k 0 ∧ ta f (k + 1) 1 = ta f k 1 ∧ ta f (k + 1) 2 = (if ta f k 2 = -1 then (k : Int) else ta f k 2) ∧ ta f (k + 1) 3 = ta f k 3 ∧ ta f (k + 1) 4 = ta f k 4 := by
  refine ⟨?_, ?_, ?_, ?_, ?_⟩
  · rw [ta_9 e, if_neg (fun z => by have := z.1; omega)]
  · rw [ta_9 e, if_neg (fun z => by have := z.1; omega)]
  · rw [ta_9 e]
    by_cases c : ta f k 2 = -1
    · rw [if_pos ⟨rfl, c⟩, if_pos c]
    · rw [if_neg (fun z => c z.2), if_neg c]
  · rw [ta_9 e, if_neg (fun z => by have := z.1; omega)]
  · rw [ta_9 e, if_neg (fun z => by have := z.1; omega)]
theorem ta_bs (e : f (k : Int) = z) (c : z ≠ 9999) : ta f (k + 1) 0 = ta f k 0 + 1 ∧ ta f (k + 1) 1 = (if ta f k 0 = 0 then (k : Int) else ta f k 1) ∧ ta f (k + 1) 2 = ta f k 2 ∧ ta f (k + 1) 3 = (if ta f k 0 = 0 then z else mn2 (ta f k 3) z) ∧ ta f (k + 1) 4 = mx2 (ta f k 4) z := ⟨ta_b e c 0, ta_b e c 1, ta_b e c 2, ta_b e c 3, ta_b e c 4⟩
theorem ta_r (hf : ∀ x : Int, 0 ≤ x → x ≤ 1023 → f x = 9999 ∨ (0 ≤ f x ∧ f x < 9999)) : ∀ k : Nat, k ≤ 1024 → (0 ≤ ta f k 0 ∧ ta f k 0 ≤ (k : Int)) ∧ (-1 ≤ ta f k 2 ∧ ta f k 2 ≤ 1023) ∧ ((ta f k 0 = 0 ∧ ta f k 1 = -1 ∧ ta f k 3 = -1 ∧ ta f k 4 = -1) ∨ (1 ≤ ta f k 0 ∧ (0 ≤ ta f k 1 ∧ ta f k 1 ≤ 1023) ∧ (0 ≤ ta f k 3 ∧ ta f k 3 ≤ 9998) ∧ (0 ≤ ta f k 4 ∧ ta f k 4 ≤ 9998))) := by
  intro k
  induction k with
  | zero => intro _; exact ⟨⟨Int.le_refl 0, Int.le_refl 0⟩, ⟨Int.le_refl (-1), by show (-1 : Int) ≤ 1023; omega⟩, Or.inl ⟨rfl, rfl, rfl, rfl⟩⟩
  | succ k ih =>
    intro hk
    obtain ⟨i1, i2, i3⟩ := ih (by omega)
    have h := hf (k : Int) (by omega) (by omega)
    by_cases c : f (k : Int) = 9999
    · obtain ⟨y0, y1, y2, y3, y4⟩ := ta_9s c
      rw [y0, y1, y2, y3, y4]
      refine ⟨by omega, ?_, i3⟩
      split <;> omega
    · obtain ⟨y0, y1, y2, y3, y4⟩ := ta_bs rfl c
      rw [y0, y1, y2, y3, y4]
      unfold mn2 mx2
      refine ⟨by omega, i2, Or.inr ⟨by omega, ?_, ?_, ?_⟩⟩
      · split <;> omega
      · (repeat' split) <;> omega
      · split <;> omega
end
/-! A SEATED CASE AND ITS TALLY -/
/-- one row alone changed -/
def F1q (q0 : Nat) (g h : av_H) : Prop := Fr1 g h ∧ hF h = hF g ∧ ∀ q, q ≠ q0 → hA h q = hA g q
theorem F1q_w {q0 i : Nat} {v : Int} {h : av_H} (e : sA q0 = true) : F1q q0 h (hwA h q0 i v) := ⟨⟨Fr_wA (Fr_rf h) e, rfl⟩, rfl, fun q hq => hA_ne hq⟩
theorem F1q_f {q0 lo hi : Nat} {v : Int} {h : av_H} (I : IC h) (e : sA q0 = true) (hr : rwc q0 = true → -2 ≤ v ∧ v ≤ 999) (l : lo ≤ hi) : F1q q0 h (hfil h q0 lo hi v) := ⟨(IC_fil I e hr l).2, rfl, fun q hq => fil_o hq⟩
theorem CJ_q {U : Nat → Nat → Int} {S : Nat → Nat} {n : Int} {sr nd : Nat → Int} {q0 : Nat} {g h : av_H} (C : CJ U S n sr nd g) (F : F1q q0 g h) (I : IC h) (e1 : q0 ≠ 27) (e2 : q0 ≠ 28) : CJ U S n sr nd h := ⟨I, CSP_fr C.1.1 C.2.1 F.1.1, (F.2.2 27 (Ne.symm e1)).trans C.2.2.1, (F.2.2 28 (Ne.symm e2)).trans C.2.2.2⟩
theorem EB_q {b t c s r : Nat} {cb : Int} {u ro : Nat → Int} {a : Nat → Nat → Int} {x y z : Int} {q0 : Nat} {g h : av_H} (E : EB b t c s r cb u ro a x y z g) (F : F1q q0 g h) (I : IC h) (e : rwc q0 = false) (e2 : q0 = 29 ∨ q0 = 31) : EB b t c s r cb u ro a x y z h := by
  obtain ⟨e0, e1, e3, e4, e5, e6, e7⟩ := E
  refine ⟨ib_f1 e0 I F.1, ?_, ?_, fun j hj => ?_, ?_, ?_, ?_⟩
  · refine (F.2.2 c ?_).trans e1
    have := e0.2.2.1.2.2.2.2.2.2.2.1
    omega
  · refine (F.2.2 r (fun z => ?_)).trans e3
    have := e0.2.2.2.2.2.2
    rw [z, e] at this
    cases this
  · refine (F.2.2 _ ?_).trans (e4 j hj)
    rcases e0.2.1 with z | z | z <;> omega
  · rw [F.2.1]; exact e5
  · rw [F.2.1]; exact e6
  · rw [F.2.1]; exact e7
theorem fil_s {h : av_H} {a lo hi j : Nat} {v : Int} : hA (hfil h a lo hi v) a j = if lo ≤ j ∧ j < hi then v else hA h a j := by
  show (if a = a ∧ lo ≤ j ∧ j < hi then v else h.2.2.2.1 a j) = _
  by_cases e : lo ≤ j ∧ j < hi
  · rw [if_pos ⟨rfl, e⟩, if_pos e]
  · rw [if_neg (fun z => e z.2), if_neg e]
/-- the five numbers of the tally -/
def T5 (A : Nat → Int) (t0 t1 t2 t3 t4 : Int) : Prop := A 0 = t0 ∧ A 1 = t1 ∧ A 2 = t2 ∧ A 3 = t3 ∧ A 4 = t4
/-- the court with a case seated on bench 35, its tally -/
def SQ (U : Nat → Nat → Int) (S : Nat → Nat) (n : Int) (sr nd : Nat → Int) (t c s r : Nat) (cb : Int) (u ro bar : Nat → Int) (a : Nat → Nat → Int) (x y z : Int) (t0 t1 t2 t3 t4 : Int) (g h : av_H) : Prop := CJ U S n sr nd h ∧ EB 35 t c s r cb u ro a x y z h ∧ TKR u ro bar s a ∧ HZ u a ∧ Fr g h ∧ T5 (hA h 31) t0 t1 t2 t3 t4
section
variable {U : Nat → Nat → Int} {S : Nat → Nat} {n : Int} {sr nd : Nat → Int} {t c s r : Nat} {cb : Int} {u ro bar : Nat → Int} {a : Nat → Nat → Int} {x y z : Int} {t0 t1 t2 t3 t4 : Int} {g h : av_H}
theorem SQ_w {s0 s1 s2 s3 s4 : Int} (X : SQ U S n sr nd t c s r cb u ro bar a x y z t0 t1 t2 t3 t4 g h) (i : Nat) (v : Int) (e : T5 (av_u1 (hA h 31) i v) s0 s1 s2 s3 s4) : SQ U S n sr nd t c s r cb u ro bar a x y z s0 s1 s2 s3 s4 g (hwA h 31 i v) := by
  obtain ⟨x1, x2, x3, x4, x5, x6⟩ := X
  have F : F1q 31 h (hwA h 31 i v) := F1q_w rfl
  have I : IC (hwA h 31 i v) := IC_wA x1.1 rfl (fun z => by cases z)
  exact ⟨CJ_q x1 F I (by decide) (by decide), EB_q x2 F I rfl (Or.inr rfl), x3, x4, Fr_tr x5 F.1.1, by rw [hA_wu]; exact e⟩
theorem SQ_f (X : SQ U S n sr nd t c s r cb u ro bar a x y z t0 t1 t2 t3 t4 g h) {v : Int} : SQ U S n sr nd t c s r cb u ro bar a x y z t0 v v v v g (hfil h 31 1 5 v) := by
  obtain ⟨x1, x2, x3, x4, x5, x6⟩ := X
  have F : F1q 31 h (hfil h 31 1 5 v) := F1q_f x1.1 rfl (fun z => by cases z) (by decide)
  have I : IC (hfil h 31 1 5 v) := (IC_fil x1.1 rfl (fun z => by cases z) (by decide)).1
  exact ⟨CJ_q x1 F I (by decide) (by decide), EB_q x2 F I rfl (Or.inr rfl), x3, x4, Fr_tr x5 F.1.1, (fil_s.trans (if_neg (by decide))).trans x6.1, fil_s.trans (if_pos (by decide)), fil_s.trans (if_pos (by decide)), fil_s.trans (if_pos (by decide)), fil_s.trans (if_pos (by decide))⟩
theorem SQ_2 {h' : av_H} {a' : Nat → Nat → Int} {x' y' z' : Int} (X : SQ U S n sr nd t c s r cb u ro bar a x y z t0 t1 t2 t3 t4 g h) (E : EB 35 t c s r cb u ro a' x' y' z' h') (F : FN 35 h h') (Z : HZ u a') (T : TKR u ro bar s a') : SQ U S n sr nd t c s r cb u ro bar a' x' y' z' t0 t1 t2 t3 t4 g h' := by
  obtain ⟨x1, x2, x3, x4, x5, x6⟩ := X
  exact ⟨CJ_bn (Or.inl rfl) x1 F (ib_ic E.1), E, T, Z, Fr_tr x5 F.1.1, by rw [F.2.1 31 (fun j hj => by omega)]; exact x6⟩
variable {sc : av_Sr} {cd : List (Nat × av_E)} {Q : Option av_V → av_H → Prop} {pc p' : Nat} {lv : av_L} {r' : List av_V}
theorem xq_0 {v : Int} (hx : cd.lookup pc = some (av_q (.iastore))) (hp : pc + 1 = p') (X : SQ U S n sr nd t c s r cb u ro bar a x y z t0 t1 t2 t3 t4 g h) (hw : ∀ h', SQ U S n sr nd t c s r cb u ro bar a x y z v t1 t2 t3 t4 g h' → av_wp sc cd p' lv r' h' Q) : av_wp sc cd pc lv (.inl v :: .inl (0) :: .inr (.inr (.inl (some 31))) :: r') h Q :=
  wq_as (n := 5) hx hp (ly_k X.1.1.1 31 rfl) (by omega) (hw _ (SQ_w X 0 v ⟨u1_eq, (u1_ne (by decide)).trans X.2.2.2.2.2.2.1, (u1_ne (by decide)).trans X.2.2.2.2.2.2.2.1, (u1_ne (by decide)).trans X.2.2.2.2.2.2.2.2.1, (u1_ne (by decide)).trans X.2.2.2.2.2.2.2.2.2⟩))
theorem xq_1 {v : Int} (hx : cd.lookup pc = some (av_q (.iastore))) (hp : pc + 1 = p') (X : SQ U S n sr nd t c s r cb u ro bar a x y z t0 t1 t2 t3 t4 g h) (hw : ∀ h', SQ U S n sr nd t c s r cb u ro bar a x y z t0 v t2 t3 t4 g h' → av_wp sc cd p' lv r' h' Q) : av_wp sc cd pc lv (.inl v :: .inl (1) :: .inr (.inr (.inl (some 31))) :: r') h Q :=
  wq_as (n := 5) hx hp (ly_k X.1.1.1 31 rfl) (by omega) (hw _ (SQ_w X 1 v ⟨(u1_ne (by decide)).trans X.2.2.2.2.2.1, u1_eq, (u1_ne (by decide)).trans X.2.2.2.2.2.2.2.1, (u1_ne (by decide)).trans X.2.2.2.2.2.2.2.2.1, (u1_ne (by decide)).trans X.2.2.2.2.2.2.2.2.2⟩))
theorem xq_2 {v : Int} (hx : cd.lookup pc = some (av_q (.iastore))) (hp : pc + 1 = p') (X : SQ U S n sr nd t c s r cb u ro bar a x y z t0 t1 t2 t3 t4 g h) (hw : ∀ h', SQ U S n sr nd t c s r cb u ro bar a x y z t0 t1 v t3 t4 g h' → av_wp sc cd p' lv r' h' Q) : av_wp sc cd pc lv (.inl v :: .inl (2) :: .inr (.inr (.inl (some 31))) :: r') h Q :=
  wq_as (n := 5) hx hp (ly_k X.1.1.1 31 rfl) (by omega) (hw _ (SQ_w X 2 v ⟨(u1_ne (by decide)).trans X.2.2.2.2.2.1, (u1_ne (by decide)).trans X.2.2.2.2.2.2.1, u1_eq, (u1_ne (by decide)).trans X.2.2.2.2.2.2.2.2.1, (u1_ne (by decide)).trans X.2.2.2.2.2.2.2.2.2⟩))
theorem xq_3 {v : Int} (hx : cd.lookup pc = some (av_q (.iastore))) (hp : pc + 1 = p') (X : SQ U S n sr nd t c s r cb u ro bar a x y z t0 t1 t2 t3 t4 g h) (hw : ∀ h', SQ U S n sr nd t c s r cb u ro bar a x y z t0 t1 t2 v t4 g h' → av_wp sc cd p' lv r' h' Q) : av_wp sc cd pc lv (.inl v :: .inl (3) :: .inr (.inr (.inl (some 31))) :: r') h Q :=
  wq_as (n := 5) hx hp (ly_k X.1.1.1 31 rfl) (by omega) (hw _ (SQ_w X 3 v ⟨(u1_ne (by decide)).trans X.2.2.2.2.2.1, (u1_ne (by decide)).trans X.2.2.2.2.2.2.1, (u1_ne (by decide)).trans X.2.2.2.2.2.2.2.1, u1_eq, (u1_ne (by decide)).trans X.2.2.2.2.2.2.2.2.2⟩))
theorem xq_4 {v : Int} (hx : cd.lookup pc = some (av_q (.iastore))) (hp : pc + 1 = p') (X : SQ U S n sr nd t c s r cb u ro bar a x y z t0 t1 t2 t3 t4 g h) (hw : ∀ h', SQ U S n sr nd t c s r cb u ro bar a x y z t0 t1 t2 t3 v g h' → av_wp sc cd p' lv r' h' Q) : av_wp sc cd pc lv (.inl v :: .inl (4) :: .inr (.inr (.inl (some 31))) :: r') h Q :=
  wq_as (n := 5) hx hp (ly_k X.1.1.1 31 rfl) (by omega) (hw _ (SQ_w X 4 v ⟨(u1_ne (by decide)).trans X.2.2.2.2.2.1, (u1_ne (by decide)).trans X.2.2.2.2.2.2.1, (u1_ne (by decide)).trans X.2.2.2.2.2.2.2.1, (u1_ne (by decide)).trans X.2.2.2.2.2.2.2.2.1, u1_eq⟩))
end
end
section
/-! SURE, exactly: the class counts -/
set_option maxRecDepth 100000 in
set_option maxHeartbeats 4000000 in
theorem cx_57 {h : av_H} {g : av_H} {U : Nat → Nat → Int} {S : Nat → Nat} {n : Int} {sr nd : Nat → Int} {t c s r : Nat} {cb : Int} {u ro bar : Nat → Int} {a : Nat → Nat → Int} {mb mo ma : Int} {t0 t1 t2 t3 t4 : Int} (X : SQ U S n sr nd t c s r cb u ro bar a mb mo ma t0 t1 t2 t3 t4 g h) (G : SEA u ro bar s) (b0 : 0 ≤ t0 ∧ t0 ≤ 1023) (b3 : -1 ≤ t3 ∧ t3 ≤ 9999) (b4 : -1 ≤ t4 ∧ t4 ≤ 9999) (bm : -1 ≤ ma ∧ ma ≤ 9999) (x : Int) (qx : 0 ≤ x ∧ x ≤ 1023) {Q : Option av_V → av_H → Prop} (hq : ∀ h', SQ U S n sr nd t c s r cb u ro bar a mb mo ma (t0 + (1)) (if t0 = 0 then x else t1) t2 (if t0 = 0 then ma else mn2 t3 ma) (mx2 t4 ma) g h' → Q none h') : av_wp none cd_57 0 [some (.inr (.inr (.inl (some (26))))), some (.inl x), none] [] h Q := by
  have s12 := co_s12 (ib_co X.2.1.1)
  have cbr := co_cbr (ib_co X.2.1.1)
  have mbr := eb_xr X.2.1
  have mor := eb_yr X.2.1
  refine av_wp_sqF ck_57 1 (pc' := 1) (lv' := [some (.inr (.inr (.inl (some (26))))), some (.inl x), none]) (st' := [.inr (.inr (.inl (some (26))))]) (h' := h) rfl ?_
  refine wq_gr (p' := 4) (ck_57 _ _ rfl) rfl (congrArg Prod.fst (ly_k X.1.1.1 26 rfl)) rfl (ly_g X.1.1.1 26 8 31 rfl) ?_
  refine av_wp_sqF ck_57 1 (pc' := 5) (lv' := [some (.inr (.inr (.inl (some (26))))), some (.inl x), none]) (st' := [.inl (0), .inr (.inr (.inl (some (31))))]) (h' := h) rfl ?_
  refine wq_al (p' := 6) (n := 5) (ck_57 _ _ rfl) rfl (ly_k X.1.1.1 31 rfl) (by omega) (X.2.2.2.2.2.1) ?_
  refine wq_k1 (p' := 9) (ck_57 _ _ rfl) rfl ⟨by omega, by omega⟩ (fun c1 => ?_) (fun c2 => ?_)
  · have c1 : t0 ≠ (0) := c1
    refine av_wp_sqF ck_57 3 (pc' := 16) (lv' := [some (.inr (.inr (.inl (some (26))))), some (.inl x), some (.inl (0))]) (st' := [.inr (.inr (.inl (some (26))))]) (h' := h) rfl ?_
    refine wq_gr (p' := 19) (ck_57 _ _ rfl) rfl (congrArg Prod.fst (ly_k X.1.1.1 26 rfl)) rfl (ly_g X.1.1.1 26 8 31 rfl) ?_
    refine av_wp_sqF ck_57 2 (pc' := 21) (lv' := [some (.inr (.inr (.inl (some (26))))), some (.inl x), some (.inl (0))]) (st' := [.inl (0), .inr (.inr (.inl (some (31)))), .inl (0), .inr (.inr (.inl (some (31))))]) (h' := h) rfl ?_
    refine wq_al (p' := 22) (n := 5) (ck_57 _ _ rfl) rfl (ly_k X.1.1.1 31 rfl) (by omega) (X.2.2.2.2.2.1) ?_
    refine av_wp_sqF ck_57 2 (pc' := 24) (lv' := [some (.inr (.inr (.inl (some (26))))), some (.inl x), some (.inl (0))]) (st' := [.inl (t0 + (1)), .inl (0), .inr (.inr (.inl (some (31))))]) (h' := h) rfl ?_
    refine xq_0 (p' := 25) rfl rfl X (fun h3 X4 => ?_)
    refine av_wp_sqF ck_57 3 (pc' := 37) (lv' := [some (.inr (.inr (.inl (some (26))))), some (.inl x), some (.inl (0))]) (st' := [.inr (.inr (.inl (some (26))))]) (h' := h3) rfl ?_
    refine wq_gr (p' := 40) (ck_57 _ _ rfl) rfl (congrArg Prod.fst (ly_k X4.1.1.1 26 rfl)) rfl (ly_g X4.1.1.1 26 8 31 rfl) ?_
    refine av_wp_sqF ck_57 4 (pc' := 56) (lv' := [some (.inr (.inr (.inl (some (26))))), some (.inl x), some (.inl (0))]) (st' := [.inr (.inr (.inl (some (26)))), .inl (3), .inr (.inr (.inl (some (31))))]) (h' := h3) rfl ?_
    refine wq_gr (p' := 59) (ck_57 _ _ rfl) rfl (congrArg Prod.fst (ly_k X4.1.1.1 26 rfl)) rfl (ly_g X4.1.1.1 26 8 31 rfl) ?_
    refine av_wp_sqF ck_57 1 (pc' := 60) (lv' := [some (.inr (.inr (.inl (some (26))))), some (.inl x), some (.inl (0))]) (st' := [.inl (3), .inr (.inr (.inl (some (31)))), .inl (3), .inr (.inr (.inl (some (31))))]) (h' := h3) rfl ?_
    refine wq_al (p' := 61) (n := 5) (ck_57 _ _ rfl) rfl (ly_k X4.1.1.1 31 rfl) (by omega) (X4.2.2.2.2.2.2.2.2.1) ?_
    refine av_wp_sqF ck_57 1 (pc' := 62) (lv' := [some (.inr (.inr (.inl (some (26))))), some (.inl x), some (.inl (0))]) (st' := [.inr (.inr (.inl (some (26)))), .inl t3, .inl (3), .inr (.inr (.inl (some (31))))]) (h' := h3) rfl ?_
    refine wq_gr (p' := 65) (ck_57 _ _ rfl) rfl (congrArg Prod.fst (ly_k X4.1.1.1 26 rfl)) rfl (ly_g X4.1.1.1 26 1 35 rfl) ?_
    refine wq_gi (p' := 68) (ck_57 _ _ rfl) rfl (congrArg Prod.fst (bn_k0 X4.1.1.1 (Or.inl rfl))) rfl (X4.2.1.2.2.2.2.2.2) ?_
    refine wq_mn (p' := 71) (ck_57 _ _ rfl) rfl rfl (fun _ _ => rfl) rfl (fun v5 e6 e7 => ?_)
    have e7 := e7 ⟨by omega, by omega⟩ ⟨by omega, by omega⟩
    refine xq_3 (p' := 72) rfl rfl X4 (fun h8 X9 => ?_)
    refine av_wp_sqF ck_57 1 (pc' := 73) (lv' := [some (.inr (.inr (.inl (some (26))))), some (.inl x), some (.inl (0))]) (st' := [.inr (.inr (.inl (some (26))))]) (h' := h8) rfl ?_
    refine wq_gr (p' := 76) (ck_57 _ _ rfl) rfl (congrArg Prod.fst (ly_k X9.1.1.1 26 rfl)) rfl (ly_g X9.1.1.1 26 8 31 rfl) ?_
    refine av_wp_sqF ck_57 2 (pc' := 78) (lv' := [some (.inr (.inr (.inl (some (26))))), some (.inl x), some (.inl (0))]) (st' := [.inr (.inr (.inl (some (26)))), .inl (4), .inr (.inr (.inl (some (31))))]) (h' := h8) rfl ?_
    refine wq_gr (p' := 81) (ck_57 _ _ rfl) rfl (congrArg Prod.fst (ly_k X9.1.1.1 26 rfl)) rfl (ly_g X9.1.1.1 26 8 31 rfl) ?_
    refine av_wp_sqF ck_57 1 (pc' := 82) (lv' := [some (.inr (.inr (.inl (some (26))))), some (.inl x), some (.inl (0))]) (st' := [.inl (4), .inr (.inr (.inl (some (31)))), .inl (4), .inr (.inr (.inl (some (31))))]) (h' := h8) rfl ?_
    refine wq_al (p' := 83) (n := 5) (ck_57 _ _ rfl) rfl (ly_k X9.1.1.1 31 rfl) (by omega) (X9.2.2.2.2.2.2.2.2.2) ?_
    refine av_wp_sqF ck_57 1 (pc' := 84) (lv' := [some (.inr (.inr (.inl (some (26))))), some (.inl x), some (.inl (0))]) (st' := [.inr (.inr (.inl (some (26)))), .inl t4, .inl (4), .inr (.inr (.inl (some (31))))]) (h' := h8) rfl ?_
    refine wq_gr (p' := 87) (ck_57 _ _ rfl) rfl (congrArg Prod.fst (ly_k X9.1.1.1 26 rfl)) rfl (ly_g X9.1.1.1 26 1 35 rfl) ?_
    refine wq_gi (p' := 90) (ck_57 _ _ rfl) rfl (congrArg Prod.fst (bn_k0 X9.1.1.1 (Or.inl rfl))) rfl (X9.2.1.2.2.2.2.2.2) ?_
    refine wq_mx (p' := 93) (ck_57 _ _ rfl) rfl rfl (fun _ _ => rfl) rfl (fun v10 e11 e12 => ?_)
    have e12 := e12 ⟨by omega, by omega⟩ ⟨by omega, by omega⟩
    refine xq_4 (p' := 94) rfl rfl X9 (fun h13 X14 => ?_)
    refine av_wp_ret (v := none) (ck_57 _ _ rfl) rfl rfl ?_
    refine hq h13 (by rw [if_neg (by omega), if_neg (by omega), show mn2 t3 ma = v5 by unfold mn2; split <;> omega, show mx2 t4 ma = v10 by unfold mx2; split <;> omega]; exact X14)
  · have c2 : t0 = (0) := c2
    refine av_wp_sqF ck_57 4 (pc' := 16) (lv' := [some (.inr (.inr (.inl (some (26))))), some (.inl x), some (.inl (1))]) (st' := [.inr (.inr (.inl (some (26))))]) (h' := h) rfl ?_
    refine wq_gr (p' := 19) (ck_57 _ _ rfl) rfl (congrArg Prod.fst (ly_k X.1.1.1 26 rfl)) rfl (ly_g X.1.1.1 26 8 31 rfl) ?_
    refine av_wp_sqF ck_57 2 (pc' := 21) (lv' := [some (.inr (.inr (.inl (some (26))))), some (.inl x), some (.inl (1))]) (st' := [.inl (0), .inr (.inr (.inl (some (31)))), .inl (0), .inr (.inr (.inl (some (31))))]) (h' := h) rfl ?_
    refine wq_al (p' := 22) (n := 5) (ck_57 _ _ rfl) rfl (ly_k X.1.1.1 31 rfl) (by omega) (X.2.2.2.2.2.1) ?_
    refine av_wp_sqF ck_57 2 (pc' := 24) (lv' := [some (.inr (.inr (.inl (some (26))))), some (.inl x), some (.inl (1))]) (st' := [.inl (t0 + (1)), .inl (0), .inr (.inr (.inl (some (31))))]) (h' := h) rfl ?_
    refine xq_0 (p' := 25) rfl rfl X (fun h15 X16 => ?_)
    refine av_wp_sqF ck_57 3 (pc' := 30) (lv' := [some (.inr (.inr (.inl (some (26))))), some (.inl x), some (.inl (1))]) (st' := [.inr (.inr (.inl (some (26))))]) (h' := h15) rfl ?_
    refine wq_gr (p' := 33) (ck_57 _ _ rfl) rfl (congrArg Prod.fst (ly_k X16.1.1.1 26 rfl)) rfl (ly_g X16.1.1.1 26 8 31 rfl) ?_
    refine av_wp_sqF ck_57 2 (pc' := 35) (lv' := [some (.inr (.inr (.inl (some (26))))), some (.inl x), some (.inl (1))]) (st' := [.inl x, .inl (1), .inr (.inr (.inl (some (31))))]) (h' := h15) rfl ?_
    refine xq_1 (p' := 36) rfl rfl X16 (fun h17 X18 => ?_)
    refine av_wp_sqF ck_57 1 (pc' := 37) (lv' := [some (.inr (.inr (.inl (some (26))))), some (.inl x), some (.inl (1))]) (st' := [.inr (.inr (.inl (some (26))))]) (h' := h17) rfl ?_
    refine wq_gr (p' := 40) (ck_57 _ _ rfl) rfl (congrArg Prod.fst (ly_k X18.1.1.1 26 rfl)) rfl (ly_g X18.1.1.1 26 8 31 rfl) ?_
    refine av_wp_sqF ck_57 4 (pc' := 46) (lv' := [some (.inr (.inr (.inl (some (26))))), some (.inl x), some (.inl (1))]) (st' := [.inr (.inr (.inl (some (26)))), .inl (3), .inr (.inr (.inl (some (31))))]) (h' := h17) rfl ?_
    refine wq_gr (p' := 49) (ck_57 _ _ rfl) rfl (congrArg Prod.fst (ly_k X18.1.1.1 26 rfl)) rfl (ly_g X18.1.1.1 26 1 35 rfl) ?_
    refine wq_gi (p' := 52) (ck_57 _ _ rfl) rfl (congrArg Prod.fst (bn_k0 X18.1.1.1 (Or.inl rfl))) rfl (X18.2.1.2.2.2.2.2.2) ?_
    refine av_wp_sqF ck_57 1 (pc' := 71) (lv' := [some (.inr (.inr (.inl (some (26))))), some (.inl x), some (.inl (1))]) (st' := [.inl ma, .inl (3), .inr (.inr (.inl (some (31))))]) (h' := h17) rfl ?_
    refine xq_3 (p' := 72) rfl rfl X18 (fun h19 X20 => ?_)
    refine av_wp_sqF ck_57 1 (pc' := 73) (lv' := [some (.inr (.inr (.inl (some (26))))), some (.inl x), some (.inl (1))]) (st' := [.inr (.inr (.inl (some (26))))]) (h' := h19) rfl ?_
    refine wq_gr (p' := 76) (ck_57 _ _ rfl) rfl (congrArg Prod.fst (ly_k X20.1.1.1 26 rfl)) rfl (ly_g X20.1.1.1 26 8 31 rfl) ?_
    refine av_wp_sqF ck_57 2 (pc' := 78) (lv' := [some (.inr (.inr (.inl (some (26))))), some (.inl x), some (.inl (1))]) (st' := [.inr (.inr (.inl (some (26)))), .inl (4), .inr (.inr (.inl (some (31))))]) (h' := h19) rfl ?_
    refine wq_gr (p' := 81) (ck_57 _ _ rfl) rfl (congrArg Prod.fst (ly_k X20.1.1.1 26 rfl)) rfl (ly_g X20.1.1.1 26 8 31 rfl) ?_
    refine av_wp_sqF ck_57 1 (pc' := 82) (lv' := [some (.inr (.inr (.inl (some (26))))), some (.inl x), some (.inl (1))]) (st' := [.inl (4), .inr (.inr (.inl (some (31)))), .inl (4), .inr (.inr (.inl (some (31))))]) (h' := h19) rfl ?_
    refine wq_al (p' := 83) (n := 5) (ck_57 _ _ rfl) rfl (ly_k X20.1.1.1 31 rfl) (by omega) (X20.2.2.2.2.2.2.2.2.2) ?_
    refine av_wp_sqF ck_57 1 (pc' := 84) (lv' := [some (.inr (.inr (.inl (some (26))))), some (.inl x), some (.inl (1))]) (st' := [.inr (.inr (.inl (some (26)))), .inl t4, .inl (4), .inr (.inr (.inl (some (31))))]) (h' := h19) rfl ?_
    refine wq_gr (p' := 87) (ck_57 _ _ rfl) rfl (congrArg Prod.fst (ly_k X20.1.1.1 26 rfl)) rfl (ly_g X20.1.1.1 26 1 35 rfl) ?_
    refine wq_gi (p' := 90) (ck_57 _ _ rfl) rfl (congrArg Prod.fst (bn_k0 X20.1.1.1 (Or.inl rfl))) rfl (X20.2.1.2.2.2.2.2.2) ?_
    refine wq_mx (p' := 93) (ck_57 _ _ rfl) rfl rfl (fun _ _ => rfl) rfl (fun v21 e22 e23 => ?_)
    have e23 := e23 ⟨by omega, by omega⟩ ⟨by omega, by omega⟩
    refine xq_4 (p' := 94) rfl rfl X20 (fun h24 X25 => ?_)
    refine av_wp_ret (v := none) (ck_57 _ _ rfl) rfl rfl ?_
    refine hq h24 (by rw [if_pos (by omega), if_pos (by omega), show mx2 t4 ma = v21 by unfold mx2; split <;> omega]; exact X25)

set_option maxRecDepth 100000 in
set_option maxHeartbeats 4000000 in
theorem cx_56 {h : av_H} {g : av_H} {U : Nat → Nat → Int} {S : Nat → Nat} {n : Int} {sr nd : Nat → Int} {t c s r : Nat} {cb : Int} {u ro bar : Nat → Int} {a : Nat → Nat → Int} {mb mo ma : Int} {t0 t1 t2 t3 t4 : Int} (X : SQ U S n sr nd t c s r cb u ro bar a mb mo ma t0 t1 t2 t3 t4 g h) (G : SEA u ro bar s) (HF : ∀ x : Int, 0 ≤ x → x ≤ 1023 → (bgn u ro bar s x).2.2 = 9999 ∨ (0 ≤ (bgn u ro bar s x).2.2 ∧ (bgn u ro bar s x).2.2 < 9999)) (hc : 0 ≤ cb) {Q : Option av_V → av_H → Prop} (hq : ∀ h' a' m1 m2 m3 s0 s1 s2 s3 s4, SQ U S n sr nd t c s r cb u ro bar a' m1 m2 m3 s0 s1 s2 s3 s4 g h' → (s0 = ta (fun q => (bgn u ro bar s q).2.2) (Int.toNat cb) 0 ∧ s1 = ta (fun q => (bgn u ro bar s q).2.2) (Int.toNat cb) 1 ∧ s2 = ta (fun q => (bgn u ro bar s q).2.2) (Int.toNat cb) 2 ∧ s3 = ta (fun q => (bgn u ro bar s q).2.2) (Int.toNat cb) 3 ∧ s4 = ta (fun q => (bgn u ro bar s q).2.2) (Int.toNat cb) 4) → Q none h') : av_wp none cd_56 0 [some (.inr (.inr (.inl (some (26))))), none] [] h Q := by
  have s12 := co_s12 (ib_co X.2.1.1)
  have cbr := co_cbr (ib_co X.2.1.1)
  have mbr := eb_xr X.2.1
  have mor := eb_yr X.2.1
  refine av_wp_sqF ck_56 1 (pc' := 1) (lv' := [some (.inr (.inr (.inl (some (26))))), none]) (st' := [.inr (.inr (.inl (some (26))))]) (h' := h) rfl ?_
  refine wq_gr (p' := 4) (ck_56 _ _ rfl) rfl (congrArg Prod.fst (ly_k X.1.1.1 26 rfl)) rfl (ly_g X.1.1.1 26 8 31 rfl) ?_
  refine av_wp_sqF ck_56 2 (pc' := 6) (lv' := [some (.inr (.inr (.inl (some (26))))), none]) (st' := [.inl (0), .inl (0), .inr (.inr (.inl (some (31))))]) (h' := h) rfl ?_
  refine xq_0 (p' := 7) rfl rfl X (fun h1 X2 => ?_)
  refine av_wp_sqF ck_56 1 (pc' := 8) (lv' := [some (.inr (.inr (.inl (some (26))))), none]) (st' := [.inr (.inr (.inl (some (26))))]) (h' := h1) rfl ?_
  refine wq_gr (p' := 11) (ck_56 _ _ rfl) rfl (congrArg Prod.fst (ly_k X2.1.1.1 26 rfl)) rfl (ly_g X2.1.1.1 26 8 31 rfl) ?_
  refine av_wp_sqF ck_56 3 (pc' := 14) (lv' := [some (.inr (.inr (.inl (some (26))))), none]) (st' := [.inl (-1), .inl (5), .inl (1), .inr (.inr (.inl (some (31))))]) (h' := h1) rfl ?_
  refine wq_cs (p' := 17) (av_qc (.invokestatic 126) 221 4 2 10) 5 cd_221 [.inr (.inr (.inl (some (31)))), .inl (1), .inl (5), .inl (-1)] [.inl (-1), .inl (5), .inl (1), .inr (.inr (.inl (some (31))))] [some (.inr (.inr (.inl (some (31))))), some (.inl (1)), some (.inl (5)), some (.inl (-1)), none] (ck_56 _ _ rfl) rfl rfl pp_221 (fun _ => rfl) rfl rfl ?_
  refine ct_221 (n := 5) 1 5 rfl rfl (ly_k X2.1.1.1 31 rfl) (by decide) (by decide) (by decide) ?_
  have X3 := SQ_f (v := -1) X2
  show av_wp _ cd_56 17 [some (.inr (.inr (.inl (some (26))))), none] [] (hfil h1 31 1 5 (-1)) _
  refine av_wp_sqF ck_56 2 (pc' := 19) (lv' := [some (.inr (.inr (.inl (some (26))))), some (.inl (0))]) (st' := []) (h' := (hfil h1 31 1 5 (-1))) rfl ?_
  have L18 : ∀ (m17 : Nat) (k4 : Int) (h5 : av_H) (a7 : Nat → Nat → Int) (m8 : Int) (m9 : Int) (m10 : Int) (t11 : Int) (t12 : Int) (t13 : Int) (t14 : Int) (t15 : Int), k4 ≤ cb → (0 ≤ k4 ∧ k4 ≤ 1024) → SQ U S n sr nd t c s r cb u ro bar a7 m8 m9 m10 t11 t12 t13 t14 t15 g h5 → t11 = ta (fun q => (bgn u ro bar s q).2.2) (Int.toNat k4) 0 ∧ t12 = ta (fun q => (bgn u ro bar s q).2.2) (Int.toNat k4) 1 ∧ t13 = ta (fun q => (bgn u ro bar s q).2.2) (Int.toNat k4) 2 ∧ t14 = ta (fun q => (bgn u ro bar s q).2.2) (Int.toNat k4) 3 ∧ t15 = ta (fun q => (bgn u ro bar s q).2.2) (Int.toNat k4) 4 → (1024 - k4).toNat = m17 → av_wp none cd_56 19 [some (.inr (.inr (.inl (some (26))))), some (.inl k4)] [] h5 Q := by
    intro m17
    induction m17 using Nat.strongRecOn with
    | _ m17 I19 =>
      intro k4 h5 a7 m8 m9 m10 t11 t12 t13 t14 t15 g21 g22 X6 Y16 e20
      refine av_wp_sqF ck_56 2 (pc' := 21) (lv' := [some (.inr (.inr (.inl (some (26))))), some (.inl k4)]) (st' := [.inr (.inr (.inl (some (26)))), .inl k4]) (h' := h5) rfl ?_
      refine wq_gr (p' := 24) (ck_56 _ _ rfl) rfl (congrArg Prod.fst (ly_k X6.1.1.1 26 rfl)) rfl (ly_g X6.1.1.1 26 1 35 rfl) ?_
      refine wq_gr (p' := 27) (ck_56 _ _ rfl) rfl (congrArg Prod.fst (bn_k0 X6.1.1.1 (Or.inl rfl))) rfl (ib_t X6.2.1.1) ?_
      refine wq_gi (p' := 30) (ck_56 _ _ rfl) rfl (congrArg Prod.fst (co_kt (ib_co X6.2.1.1))) rfl (co_cb (ib_co X6.2.1.1)) ?_
      refine wq_k2 (p' := 33) (ck_56 _ _ rfl) rfl ⟨by omega, by omega⟩ ⟨by omega, by omega⟩ (fun c23 => ?_) (fun c24 => ?_)
      · have c23 : cb ≤ k4 := c23
        refine av_wp_ret (v := none) (ck_56 _ _ rfl) rfl rfl ?_
        have z25 : Int.toNat k4 = Int.toNat cb := by omega
        rw [z25] at Y16
        exact hq h5 _ _ _ _ _ _ _ _ _ X6 Y16
      · have c24 : k4 < cb := c24
        have g26 := ta_r (f := (fun q => (bgn u ro bar s q).2.2)) HF (Int.toNat k4) (by omega)
        have g26Y := Y16
        obtain ⟨g26w0, g26w1, g26w2, g26w3, g26w4⟩ := g26Y
        rw [← g26w0, ← g26w1, ← g26w2, ← g26w3, ← g26w4] at g26
        refine av_wp_sqF ck_56 1 (pc' := 34) (lv' := [some (.inr (.inr (.inl (some (26))))), some (.inl k4)]) (st' := [.inr (.inr (.inl (some (26))))]) (h' := h5) rfl ?_
        refine wq_gr (p' := 37) (ck_56 _ _ rfl) rfl (congrArg Prod.fst (ly_k X6.1.1.1 26 rfl)) rfl (ly_g X6.1.1.1 26 1 35 rfl) ?_
        refine av_wp_sqF ck_56 1 (pc' := 38) (lv' := [some (.inr (.inr (.inl (some (26))))), some (.inl k4)]) (st' := [.inl k4, .inr (.inr (.inl (some (35))))]) (h' := h5) rfl ?_
        refine wq_cv (p' := 41) (av_qc (.invokevirtual 89) 2 1 0 0) 2 cd_2 [.inl k4] (35) 0 [some (.inr (.inr (.inl (some (35))))), some (.inl k4)] (ck_56 _ _ rfl) rfl rfl pp_2 rfl rfl rfl (congrArg Prod.fst (bn_k0 X6.1.1.1 (Or.inl rfl))) rfl rfl rfl rfl ?_
        refine cy_2 X6.2.1 (FN_rf 35 h5) G X6.2.2.1 X6.2.2.2.1 (k4) (by omega) (fun v27 h28 a29 m30 m31 m32 E33 F34 Z35 T36 D37 B38 R39 p40 => ?_)
        have X41 := SQ_2 X6 E33 F34 Z35 T36
        have g42 : (-1 ≤ m30 ∧ m30 ≤ 11) ∧ (-1 ≤ m31 ∧ m31 ≤ 11) ∧ (-1 ≤ m32 ∧ m32 ≤ 9999) := R39
        show av_wp _ cd_56 41 [some (.inr (.inr (.inl (some (26))))), some (.inl k4)] [.inl v27] h28 _
        refine wq_k1 (p' := 44) (ck_56 _ _ rfl) rfl ⟨by omega, by omega⟩ (fun c43 => ?_) (fun c44 => ?_)
        · have c43 : v27 = (0) := c43
          refine av_wp_sqF ck_56 1 (pc' := 53) (lv' := [some (.inr (.inr (.inl (some (26))))), some (.inl k4)]) (st' := [.inr (.inr (.inl (some (26))))]) (h' := h28) rfl ?_
          refine wq_gr (p' := 56) (ck_56 _ _ rfl) rfl (congrArg Prod.fst (ly_k X41.1.1.1 26 rfl)) rfl (ly_g X41.1.1.1 26 8 31 rfl) ?_
          refine av_wp_sqF ck_56 1 (pc' := 57) (lv' := [some (.inr (.inr (.inl (some (26))))), some (.inl k4)]) (st' := [.inl (2), .inr (.inr (.inl (some (31))))]) (h' := h28) rfl ?_
          refine wq_al (p' := 58) (n := 5) (ck_56 _ _ rfl) rfl (ly_k X41.1.1.1 31 rfl) (by omega) (X41.2.2.2.2.2.2.2.1) ?_
          refine av_wp_sqF ck_56 1 (pc' := 59) (lv' := [some (.inr (.inr (.inl (some (26))))), some (.inl k4)]) (st' := [.inl (-1), .inl t13]) (h' := h28) rfl ?_
          refine wq_k2 (p' := 62) (ck_56 _ _ rfl) rfl ⟨by omega, by omega⟩ ⟨by omega, by omega⟩ (fun c45 => ?_) (fun c46 => ?_)
          · have c45 : t13 ≠ (-1) := c45
            refine av_wp_sqF ck_56 2 (pc' := 19) (lv' := [some (.inr (.inr (.inl (some (26))))), some (.inl (k4 + (1)))]) (st' := []) (h' := h28) rfl ?_
            exact I19 _ (by omega) ((k4 + (1))) h28 a29 (m30) (m31) (m32) (t11) (t12) (t13) (t14) (t15) (by omega) (by omega) X41 (by obtain ⟨y0, y1, y2, y3, y4⟩ := ta_9s (f := (fun q => (bgn u ro bar s q).2.2)) ((show (bgn u ro bar s ((Int.toNat k4 : Nat) : Int)).2.2 = m32 by rw [show ((Int.toNat k4 : Nat) : Int) = k4 by omega, B38]).trans (by omega)); have WY := Y16; obtain ⟨w0, w1, w2, w3, w4⟩ := WY; rw [show Int.toNat (k4 + (1)) = Int.toNat k4 + 1 by omega, y0, y1, y2, y3, y4, ← w0, ← w1, ← w2, ← w3, ← w4, show ((Int.toNat k4 : Nat) : Int) = k4 by omega]; refine ⟨rfl, rfl, ?_, rfl, rfl⟩; split <;> omega) rfl
          · have c46 : t13 = (-1) := c46
            refine av_wp_sqF ck_56 1 (pc' := 63) (lv' := [some (.inr (.inr (.inl (some (26))))), some (.inl k4)]) (st' := [.inr (.inr (.inl (some (26))))]) (h' := h28) rfl ?_
            refine wq_gr (p' := 66) (ck_56 _ _ rfl) rfl (congrArg Prod.fst (ly_k X41.1.1.1 26 rfl)) rfl (ly_g X41.1.1.1 26 8 31 rfl) ?_
            refine av_wp_sqF ck_56 2 (pc' := 68) (lv' := [some (.inr (.inr (.inl (some (26))))), some (.inl k4)]) (st' := [.inl k4, .inl (2), .inr (.inr (.inl (some (31))))]) (h' := h28) rfl ?_
            refine xq_2 (p' := 69) rfl rfl X41 (fun h47 X48 => ?_)
            refine av_wp_sqF ck_56 2 (pc' := 19) (lv' := [some (.inr (.inr (.inl (some (26))))), some (.inl (k4 + (1)))]) (st' := []) (h' := h47) rfl ?_
            exact I19 _ (by omega) ((k4 + (1))) h47 a29 (m30) (m31) (m32) (t11) (t12) (k4) (t14) (t15) (by omega) (by omega) X48 (by obtain ⟨y0, y1, y2, y3, y4⟩ := ta_9s (f := (fun q => (bgn u ro bar s q).2.2)) ((show (bgn u ro bar s ((Int.toNat k4 : Nat) : Int)).2.2 = m32 by rw [show ((Int.toNat k4 : Nat) : Int) = k4 by omega, B38]).trans (by omega)); have WY := Y16; obtain ⟨w0, w1, w2, w3, w4⟩ := WY; rw [show Int.toNat (k4 + (1)) = Int.toNat k4 + 1 by omega, y0, y1, y2, y3, y4, ← w0, ← w1, ← w2, ← w3, ← w4, show ((Int.toNat k4 : Nat) : Int) = k4 by omega]; refine ⟨rfl, rfl, ?_, rfl, rfl⟩; split <;> omega) rfl
        · have c44 : v27 ≠ (0) := c44
          refine av_wp_sqF ck_56 2 (pc' := 46) (lv' := [some (.inr (.inr (.inl (some (26))))), some (.inl k4)]) (st' := [.inl k4, .inr (.inr (.inl (some (26))))]) (h' := h28) rfl ?_
          refine wq_cv (p' := 49) (av_qc (.invokevirtual 129) 57 1 0 3) 3 cd_57 [.inl k4] (26) 3 [some (.inr (.inr (.inl (some (26))))), some (.inl k4), none] (ck_56 _ _ rfl) rfl rfl pp_57 rfl rfl rfl (congrArg Prod.fst (ly_k X41.1.1.1 26 rfl)) rfl rfl rfl rfl ?_
          refine cx_57 X41 G (by omega) (by omega) (by omega) (by omega) (k4) (by omega) (fun h49 X50 => ?_)
          show av_wp _ cd_56 49 [some (.inr (.inr (.inl (some (26))))), some (.inl k4)] [] h49 _
          refine av_wp_sqF ck_56 3 (pc' := 19) (lv' := [some (.inr (.inr (.inl (some (26))))), some (.inl (k4 + (1)))]) (st' := []) (h' := h49) rfl ?_
          exact I19 _ (by omega) ((k4 + (1))) h49 a29 (m30) (m31) (m32) ((t11 + (1))) ((if t11 = 0 then k4 else t12)) (t13) ((if t11 = 0 then m32 else mn2 t14 m32)) ((mx2 t15 m32)) (by omega) (by omega) X50 (by obtain ⟨y0, y1, y2, y3, y4⟩ := ta_bs (f := (fun q => (bgn u ro bar s q).2.2)) (show (bgn u ro bar s ((Int.toNat k4 : Nat) : Int)).2.2 = m32 by rw [show ((Int.toNat k4 : Nat) : Int) = k4 by omega, B38]) (by omega); have WY := Y16; obtain ⟨w0, w1, w2, w3, w4⟩ := WY; rw [show Int.toNat (k4 + (1)) = Int.toNat k4 + 1 by omega, y0, y1, y2, y3, y4, ← w0, ← w1, ← w2, ← w3, ← w4, show ((Int.toNat k4 : Nat) : Int) = k4 by omega]; exact ⟨rfl, rfl, rfl, rfl, rfl⟩) rfl
  exact L18 _ ((0)) (hfil h1 31 1 5 (-1)) a (mb) (mo) (ma) ((0)) ((-1)) ((-1)) ((-1)) ((-1)) (by omega) (by omega) X3 ⟨rfl, rfl, rfl, rfl, rfl⟩ rfl
end
section
/-! SURE, exactly: the class -/
theorem t5_v {f : Int → Int} {A : Nat → Int} {t0 t1 t2 t3 t4 v w : Int} {c : Nat} (x : T5 A t0 t1 t2 t3 t4) (y : t0 = ta f c 0 ∧ t1 = ta f c 1 ∧ t2 = ta f c 2 ∧ t3 = ta f c 3 ∧ t4 = ta f c 4) (h : A (Int.toNat w) = v) (hw : 0 ≤ w ∧ w ≤ 4) : v = ta f c (Int.toNat w) := by
  obtain ⟨x0, x1, x2, x3, x4⟩ := x
  obtain ⟨y0, y1, y2, y3, y4⟩ := y
  rw [← h]
  rcases (show w = 0 ∨ w = 1 ∨ w = 2 ∨ w = 3 ∨ w = 4 by omega) with e | e | e | e | e <;> subst e
  · exact x0.trans y0
  · exact x1.trans y1
  · exact x2.trans y2
  · exact x3.trans y3
  · exact x4.trans y4
set_option maxRecDepth 100000 in
set_option maxHeartbeats 4000000 in
theorem cz_51n {h : av_H} {U : Nat → Nat → Int} {S : Nat → Nat} {n : Int} {sr nd : Nat → Int} (C : CJ U S n sr nd h) {b : Nat} {m l : Int} {Q : Option av_V → av_H → Prop} (hq : Q (some (.inl 0)) h) : av_wp none cd_51 0 [some (.inr (.inr (.inl (some (26))))), some (.inr (.inr (.inl (some (b))))), some (.inr (.inr (.inl none))), some (.inl m), some (.inl l)] [] h Q := by
  refine av_wp_sqF ck_51 3 (pc' := 25) (lv' := [some (.inr (.inr (.inl (some (26))))), some (.inr (.inr (.inl (some (b))))), some (.inr (.inr (.inl none))), some (.inl m), some (.inl l)]) (st' := [.inl (0)]) (h' := h) rfl ?_
  refine av_wp_ret (v := some (.inl (0))) (ck_51 _ _ rfl) rfl rfl ?_
  exact hq

set_option maxRecDepth 100000 in
set_option maxHeartbeats 4000000 in
theorem cx_49 {h : av_H} {U : Nat → Nat → Int} {S : Nat → Nat} {n : Int} {sr nd : Nat → Int} (C : CJ U S n sr nd h) (k : Int) (qk : -2147483648 ≤ k ∧ k ≤ 2147483647) (l : Int) (ql : -2147483648 ≤ l ∧ l ≤ 2147483647) (CR : CRT U S n (hF h 3 4) (fun k => hA h (6 + k))) (SU : SUA U S n (hF h 3 4) (fun k => hA h (6 + k)) sr) {Q : Option av_V → av_H → Prop} (hq0 : (k < 0 ∨ n ≤ k ∨ (cbv (U (Int.toNat k)) (S (Int.toNat k))) = -1 ∨ l < 0 ∨ hF h 3 4 ≤ l) → Q (some (.inl 0)) h) (hq1 : (0 ≤ k ∧ k < n) → (cbv (U (Int.toNat k)) (S (Int.toNat k))) ≠ -1 → (0 ≤ l ∧ l < hF h 3 4) → ∀ h' sr' nd' t c a', CJ U S n sr' nd' h' → FP 35 h h' → SUA U S n (hF h 3 4) (fun k => hA h (6 + k)) sr' → EB 35 t c (S (Int.toNat k)) (6 + Int.toNat l) (cbv (U (Int.toNat k)) (S (Int.toNat k))) (U (Int.toNat k)) (hA h (6 + Int.toNat l)) a' (hF h' 35 13) (hF h' 35 14) (hF h' 35 15) h' → HZ (U (Int.toNat k)) a' → TKR (U (Int.toNat k)) (hA h (6 + Int.toNat l)) (bxx U S (hA h (6 + Int.toNat l)) (Int.toNat k)) (S (Int.toNat k)) a' → Q (some (.inl 1)) h') : av_wp none cd_49 0 [some (.inr (.inr (.inl (some (26))))), some (.inl k), some (.inl l)] [] h Q := by
  have F := Fr_rf h
  have nr := C.2.1.2.1
  refine av_wp_sqF ck_49 2 (pc' := 2) (lv' := [some (.inr (.inr (.inl (some (26))))), some (.inl k), some (.inl l)]) (st' := [.inr (.inr (.inl (some (26)))), .inr (.inr (.inl (some (26))))]) (h' := h) rfl ?_
  refine wq_gr (p' := 5) (ck_49 _ _ rfl) rfl (congrArg Prod.fst (ly_k C.1.1 26 rfl)) rfl (ly_g C.1.1 26 1 35 rfl) ?_
  refine av_wp_sqF ck_49 1 (pc' := 6) (lv' := [some (.inr (.inr (.inl (some (26))))), some (.inl k), some (.inl l)]) (st' := [.inr (.inr (.inl (some (26)))), .inr (.inr (.inl (some (35)))), .inr (.inr (.inl (some (26))))]) (h' := h) rfl ?_
  refine wq_gr (p' := 9) (ck_49 _ _ rfl) rfl (congrArg Prod.fst (ly_k C.1.1 26 rfl)) rfl (ly_g C.1.1 26 0 3 rfl) ?_
  refine av_wp_sqF ck_49 1 (pc' := 10) (lv' := [some (.inr (.inr (.inl (some (26))))), some (.inl k), some (.inl l)]) (st' := [.inl k, .inr (.inr (.inl (some (3)))), .inr (.inr (.inl (some (35)))), .inr (.inr (.inl (some (26))))]) (h' := h) rfl ?_
  refine wq_cv (p' := 13) (av_qc (.invokevirtual 76) 69 1 0 5) 2 cd_69 [.inl k] (3) 5 [some (.inr (.inr (.inl (some (3))))), some (.inl k)] (ck_49 _ _ rfl) rfl rfl pp_69 rfl rfl rfl (congrArg Prod.fst (ly_k C.1.1 3 rfl)) rfl rfl rfl rfl ?_
  refine cz_69 C (k) (by omega) (fun z1 => ?_) (fun z1 z2 t3 c4 y5 y6 => ?_)
  · show av_wp _ cd_49 13 [some (.inr (.inr (.inl (some (26))))), some (.inl k), some (.inl l)] [.inr (.inr (.inl none)), .inr (.inr (.inl (some (35)))), .inr (.inr (.inl (some (26))))] h _
    refine av_wp_sqF ck_49 2 (pc' := 15) (lv' := [some (.inr (.inr (.inl (some (26))))), some (.inl k), some (.inl l)]) (st' := [.inl l, .inl k, .inr (.inr (.inl none)), .inr (.inr (.inl (some (35)))), .inr (.inr (.inl (some (26))))]) (h' := h) rfl ?_
    refine wq_cv (p' := 18) (av_qc (.invokevirtual 85) 51 4 0 3) 5 cd_51 [.inl l, .inl k, .inr (.inr (.inl none)), .inr (.inr (.inl (some (35))))] (26) 3 [some (.inr (.inr (.inl (some (26))))), some (.inr (.inr (.inl (some (35))))), some (.inr (.inr (.inl none))), some (.inl k), some (.inl l)] (ck_49 _ _ rfl) rfl rfl pp_51 rfl rfl rfl (congrArg Prod.fst (ly_k C.1.1 26 rfl)) rfl rfl rfl rfl ?_
    refine cz_51n C ?_
    show av_wp _ cd_49 18 [some (.inr (.inr (.inl (some (26))))), some (.inl k), some (.inl l)] [.inl (0)] h _
    refine av_wp_ret (v := some (.inl (0))) (ck_49 _ _ rfl) rfl rfl ?_
    exact hq0 (by omega)
  · have g7 := co_s12 y5
    have g8 := co_cbr y5
    show av_wp _ cd_49 13 [some (.inr (.inr (.inl (some (26))))), some (.inl k), some (.inl l)] [.inr (.inr (.inl (some (t3)))), .inr (.inr (.inl (some (35)))), .inr (.inr (.inl (some (26))))] h _
    refine av_wp_sqF ck_49 2 (pc' := 15) (lv' := [some (.inr (.inr (.inl (some (26))))), some (.inl k), some (.inl l)]) (st' := [.inl l, .inl k, .inr (.inr (.inl (some (t3)))), .inr (.inr (.inl (some (35)))), .inr (.inr (.inl (some (26))))]) (h' := h) rfl ?_
    refine wq_cv (p' := 18) (av_qc (.invokevirtual 85) 51 4 0 3) 5 cd_51 [.inl l, .inl k, .inr (.inr (.inl (some (t3)))), .inr (.inr (.inl (some (35))))] (26) 3 [some (.inr (.inr (.inl (some (26))))), some (.inr (.inr (.inl (some (35))))), some (.inr (.inr (.inl (some (t3))))), some (.inl k), some (.inl l)] (ck_49 _ _ rfl) rfl rfl pp_51 rfl rfl rfl (congrArg Prod.fst (ly_k C.1.1 26 rfl)) rfl rfl rfl rfl ?_
    refine cz_51 C (Or.inl rfl) y5 y6 (k) (by omega) (by omega) CR.1 (fun q hq => (CR.1 (Int.toNat k) (by omega)).2.2.1 q hq |> fun w => ⟨w.1, by omega⟩) CR.2.1 CR.2.2.1 (l) (by omega) SU (fun l h1 h2 => (rl_8 (CR.2.2.2 l h1 h2)).1) (fun z9 => ?_) (fun z9 z10 z11 h12 r13 n14 a15 C16 F17 U18 E19 Z20 T21 => ?_)
    · show av_wp _ cd_49 18 [some (.inr (.inr (.inl (some (26))))), some (.inl k), some (.inl l)] [.inl (0)] h _
      refine av_wp_ret (v := some (.inl (0))) (ck_49 _ _ rfl) rfl rfl ?_
      exact hq0 (by omega)
    · show av_wp _ cd_49 18 [some (.inr (.inr (.inl (some (26))))), some (.inl k), some (.inl l)] [.inl (1)] h12 _
      refine av_wp_ret (v := some (.inl (1))) (ck_49 _ _ rfl) rfl rfl ?_
      exact hq1 (by omega) (by omega) (by omega) h12 _ _ _ _ _ C16 F17 U18 E19 Z20 T21

set_option maxRecDepth 100000 in
set_option maxHeartbeats 4000000 in
theorem cx_109 {h : av_H} {U : Nat → Nat → Int} {S : Nat → Nat} {n : Int} {sr nd : Nat → Int} (C : CJ U S n sr nd h) (k : Int) (qk : -2147483648 ≤ k ∧ k ≤ 2147483647) (l : Int) (ql : -2147483648 ≤ l ∧ l ≤ 2147483647) (w : Int) (qw : -2147483648 ≤ w ∧ w ≤ 2147483647) (CR : CRT U S n (hF h 3 4) (fun k => hA h (6 + k))) (SU : SUA U S n (hF h 3 4) (fun k => hA h (6 + k)) sr) {Q : Option av_V → av_H → Prop} (hq : ∀ (v : Int) h' sr' nd', CJ U S n sr' nd' h' → Fr h h' → SUA U S n (hF h 3 4) (fun k => hA h (6 + k)) sr' → RSP (okx U S n (hF h 3 4) k l 0 ∧ (0 ≤ w ∧ w ≤ 4)) (-2) (ta (fun q => (bgn (U (Int.toNat k)) (hA h (6 + Int.toNat l)) (bxx U S (hA h (6 + Int.toNat l)) (Int.toNat k)) (S (Int.toNat k)) q).2.2) (Int.toNat (cbv (U (Int.toNat k)) (S (Int.toNat k)))) (Int.toNat w)) v → Q (some (.inl v)) h') : av_wp none cd_109 0 [some (.inr (.inr (.inl (some (0))))), some (.inl k), some (.inl l), some (.inl w)] [] h Q := by
  have F := Fr_rf h
  have nr := C.2.1.2.1
  refine av_wp_sqF ck_109 1 (pc' := 1) (lv' := [some (.inr (.inr (.inl (some (0))))), some (.inl k), some (.inl l), some (.inl w)]) (st' := [.inl w]) (h' := h) rfl ?_
  refine wq_k1 (p' := 4) (ck_109 _ _ rfl) rfl ⟨by omega, by omega⟩ (fun c1 => ?_) (fun c2 => ?_)
  · have c1 : w < (0) := c1
    refine av_wp_sqF ck_109 1 (pc' := 23) (lv' := [some (.inr (.inr (.inl (some (0))))), some (.inl k), some (.inl l), some (.inl w)]) (st' := [.inl (-2)]) (h' := h) rfl ?_
    refine av_wp_ret (v := some (.inl (-2))) (ck_109 _ _ rfl) rfl rfl ?_
    exact hq _ h _ _ C F SU (Or.inr ⟨fun z => by have z1 := z.1; unfold okx at z1; omega, rfl⟩)
  · have c2 : (0) ≤ w := c2
    refine av_wp_sqF ck_109 2 (pc' := 6) (lv' := [some (.inr (.inr (.inl (some (0))))), some (.inl k), some (.inl l), some (.inl w)]) (st' := [.inl (5), .inl w]) (h' := h) rfl ?_
    refine wq_k2 (p' := 9) (ck_109 _ _ rfl) rfl ⟨by omega, by omega⟩ ⟨by omega, by omega⟩ (fun c3 => ?_) (fun c4 => ?_)
    · have c3 : (5) ≤ w := c3
      refine av_wp_sqF ck_109 1 (pc' := 23) (lv' := [some (.inr (.inr (.inl (some (0))))), some (.inl k), some (.inl l), some (.inl w)]) (st' := [.inl (-2)]) (h' := h) rfl ?_
      refine av_wp_ret (v := some (.inl (-2))) (ck_109 _ _ rfl) rfl rfl ?_
      exact hq _ h _ _ C F SU (Or.inr ⟨fun z => by have z1 := z.1; unfold okx at z1; omega, rfl⟩)
    · have c4 : w < (5) := c4
      refine av_wp_sqF ck_109 1 (pc' := 10) (lv' := [some (.inr (.inr (.inl (some (0))))), some (.inl k), some (.inl l), some (.inl w)]) (st' := [.inr (.inr (.inl (some (0))))]) (h' := h) rfl ?_
      refine wq_gr (p' := 13) (ck_109 _ _ rfl) rfl (congrArg Prod.fst (ly_k C.1.1 0 rfl)) rfl (ly_g C.1.1 0 5 26 rfl) ?_
      refine av_wp_sqF ck_109 2 (pc' := 15) (lv' := [some (.inr (.inr (.inl (some (0))))), some (.inl k), some (.inl l), some (.inl w)]) (st' := [.inl l, .inl k, .inr (.inr (.inl (some (26))))]) (h' := h) rfl ?_
      refine wq_cv (p' := 18) (av_qc (.invokevirtual 203) 49 2 0 3) 3 cd_49 [.inl l, .inl k] (26) 3 [some (.inr (.inr (.inl (some (26))))), some (.inl k), some (.inl l)] (ck_109 _ _ rfl) rfl rfl pp_49 rfl rfl rfl (congrArg Prod.fst (ly_k C.1.1 26 rfl)) rfl rfl rfl rfl ?_
      refine cx_49 C (k) (by omega) (l) (by omega) CR SU (fun z5 => ?_) (fun z5 z6 z7 h8 r9 n10 t11 c12 a13 C14 F15 U16 E17 Z18 T19 => ?_)
      · show av_wp _ cd_109 18 [some (.inr (.inr (.inl (some (0))))), some (.inl k), some (.inl l), some (.inl w)] [.inl (0)] h _
        refine av_wp_sqF ck_109 2 (pc' := 23) (lv' := [some (.inr (.inr (.inl (some (0))))), some (.inl k), some (.inl l), some (.inl w)]) (st' := [.inl (-2)]) (h' := h) rfl ?_
        refine av_wp_ret (v := some (.inl (-2))) (ck_109 _ _ rfl) rfl rfl ?_
        exact hq _ h _ _ C F SU (Or.inr ⟨fun z => by have z1 := z.1; unfold okx at z1; omega, rfl⟩)
      · have X20 : SQ U S n r9 n10 t11 c12 (S (Int.toNat k)) (6 + Int.toNat l) (cbv (U (Int.toNat k)) (S (Int.toNat k))) (U (Int.toNat k)) (hA h (6 + Int.toNat l)) (bxx U S (hA h (6 + Int.toNat l)) (Int.toNat k)) a13 (hF h8 35 13) (hF h8 35 14) (hF h8 35 15) (hA h8 31 0) (hA h8 31 1) (hA h8 31 2) (hA h8 31 3) (hA h8 31 4) h h8 := ⟨C14, E17, T19, Z18, F15.1, rfl, rfl, rfl, rfl, rfl⟩
        have G21 := CWF_sea (ro := (hA h (6 + Int.toNat l))) (CR.1 (Int.toNat k) (by omega)) (rl_8 (CR.2.2.2 l (by omega) (by omega))).1 (brv_b (U (Int.toNat k)) (srt U S (hA h (6 + Int.toNat l)) (Int.toNat k)))
        have H22 : ∀ x : Int, 0 ≤ x → x ≤ 1023 → (bgn (U (Int.toNat k)) (hA h (6 + Int.toNat l)) (bxx U S (hA h (6 + Int.toNat l)) (Int.toNat k)) (S (Int.toNat k)) x).2.2 = 9999 ∨ (0 ≤ (bgn (U (Int.toNat k)) (hA h (6 + Int.toNat l)) (bxx U S (hA h (6 + Int.toNat l)) (Int.toNat k)) (S (Int.toNat k)) x).2.2 ∧ (bgn (U (Int.toNat k)) (hA h (6 + Int.toNat l)) (bxx U S (hA h (6 + Int.toNat l)) (Int.toNat k)) (S (Int.toNat k)) x).2.2 < 9999) := fun x h0 h1 => bgn_0 (HBd_g (x := x) (CR.1 (Int.toNat k) (by omega)).2.2.2.2.2 (fun q hq i hi => arr_0 (by have := (CR.1 (Int.toNat k) (by omega)).2.1.2; omega)) ⟨h0, h1⟩)
        have q23 := cbv_d (U (Int.toNat k)) (S (Int.toNat k))
        have q23a := CR.2.2.1 (Int.toNat k) (by omega)
        show av_wp _ cd_109 18 [some (.inr (.inr (.inl (some (0))))), some (.inl k), some (.inl l), some (.inl w)] [.inl (1)] h8 _
        refine av_wp_sqF ck_109 2 (pc' := 25) (lv' := [some (.inr (.inr (.inl (some (0))))), some (.inl k), some (.inl l), some (.inl w)]) (st' := [.inr (.inr (.inl (some (0))))]) (h' := h8) rfl ?_
        refine wq_gr (p' := 28) (ck_109 _ _ rfl) rfl (congrArg Prod.fst (ly_k C14.1.1 0 rfl)) rfl (ly_g C14.1.1 0 5 26 rfl) ?_
        refine wq_cv (p' := 31) (av_qc (.invokevirtual 207) 56 0 0 3) 2 cd_56 [] (26) 3 [some (.inr (.inr (.inl (some (26))))), none] (ck_109 _ _ rfl) rfl rfl pp_56 rfl rfl rfl (congrArg Prod.fst (ly_k C14.1.1 26 rfl)) rfl rfl rfl rfl ?_
        refine cx_56 X20 G21 H22 (by omega) (fun h24 a25 m26 m27 m28 t29 t30 t31 t32 t33 X34 Y35 => ?_)
        show av_wp _ cd_109 31 [some (.inr (.inr (.inl (some (0))))), some (.inl k), some (.inl l), some (.inl w)] [] h24 _
        refine av_wp_sqF ck_109 1 (pc' := 32) (lv' := [some (.inr (.inr (.inl (some (0))))), some (.inl k), some (.inl l), some (.inl w)]) (st' := [.inr (.inr (.inl (some (0))))]) (h' := h24) rfl ?_
        refine wq_gr (p' := 35) (ck_109 _ _ rfl) rfl (congrArg Prod.fst (ly_k X34.1.1.1 0 rfl)) rfl (ly_g X34.1.1.1 0 5 26 rfl) ?_
        refine wq_gr (p' := 38) (ck_109 _ _ rfl) rfl (congrArg Prod.fst (ly_k X34.1.1.1 26 rfl)) rfl (ly_g X34.1.1.1 26 8 31 rfl) ?_
        refine av_wp_sqF ck_109 1 (pc' := 39) (lv' := [some (.inr (.inr (.inl (some (0))))), some (.inl k), some (.inl l), some (.inl w)]) (st' := [.inl w, .inr (.inr (.inl (some (31))))]) (h' := h24) rfl ?_
        obtain ⟨v36, e37⟩ : ∃ v, hA h24 31 (Int.toNat (w)) = v := ⟨_, rfl⟩
        refine wq_al (p' := 40) (n := 5) (ck_109 _ _ rfl) rfl (ly_k X34.1.1.1 31 rfl) (by omega) (e37) ?_
        refine av_wp_ret (v := some (.inl v36)) (ck_109 _ _ rfl) rfl rfl ?_
        exact hq _ h24 _ _ X34.1 X34.2.2.2.2.1 U16 (Or.inl ⟨⟨by unfold okx; omega, by omega⟩, (t5_v X34.2.2.2.2.2 Y35 e37 (by omega))⟩)
end
section
/-! HANG: the class's own book stays -/
theorem xq_29 {U : Nat → Nat → Int} {S : Nat → Nat} {n : Int} {sr nd : Nat → Int} {t c s r : Nat} {cb : Int} {u ro bar : Nat → Int} {a : Nat → Nat → Int} {x y z : Int} {t0 t1 t2 t3 t4 : Int} {g h : av_H} {sc : av_Sr} {cd : List (Nat × av_E)} {Q : Option av_V → av_H → Prop} {pc p' : Nat} {lv : av_L} {r' : List av_V} {i v : Int} (hx : cd.lookup pc = some (av_q (.bastore))) (hp : pc + 1 = p') (X : SQ U S n sr nd t c s r cb u ro bar a x y z t0 t1 t2 t3 t4 g h) (hi : 0 ≤ i ∧ i < 1024) (hv : v = 0 ∨ v = 1) (hw : ∀ h', SQ U S n sr nd t c s r cb u ro bar a x y z t0 t1 t2 t3 t4 g h' → av_wp sc cd p' lv r' h' Q) : av_wp sc cd pc lv (.inl v :: .inl i :: .inr (.inr (.inl (some 29))) :: r') h Q := by
  refine wq_zs (n := 1024) hx hp (ly_k X.1.1.1 29 rfl) (by omega) hv (hw _ ?_)
  obtain ⟨x1, x2, x3, x4, x5, x6⟩ := X
  have F : F1q 29 h (hwA h 29 i.toNat v) := F1q_w rfl
  have I : IC (hwA h 29 i.toNat v) := IC_wA x1.1 rfl (fun z => by cases z)
  exact ⟨CJ_q x1 F I (by decide) (by decide), EB_q x2 F I rfl (Or.inl rfl), x3, x4, Fr_tr x5 F.1.1, by rw [F.2.2 31 (by decide)]; exact x6⟩
set_option maxRecDepth 100000 in
set_option maxHeartbeats 4000000 in
theorem cx_58 {h : av_H} {g : av_H} {U : Nat → Nat → Int} {S : Nat → Nat} {n : Int} {sr nd : Nat → Int} {t c s r : Nat} {cb : Int} {u ro bar : Nat → Int} {a : Nat → Nat → Int} {mb mo ma : Int} {t0 t1 t2 t3 t4 : Int} (X : SQ U S n sr nd t c s r cb u ro bar a mb mo ma t0 t1 t2 t3 t4 g h) (G : SEA u ro bar s)  {Q : Option av_V → av_H → Prop} (hq : ∀ (v : Int) h' a' m1 m2 m3 s0 s1 s2 s3 s4, SQ U S n sr nd t c s r cb u ro bar a' m1 m2 m3 s0 s1 s2 s3 s4 g h' → Q (some (.inl v)) h') : av_wp none cd_58 0 [some (.inr (.inr (.inl (some (26))))), none, none, none, none, none, none] [] h Q := by
  have s12 := co_s12 (ib_co X.2.1.1)
  have cbr := co_cbr (ib_co X.2.1.1)
  have mbr := eb_xr X.2.1
  have mor := eb_yr X.2.1
  refine av_wp_sqF ck_58 1 (pc' := 1) (lv' := [some (.inr (.inr (.inl (some (26))))), none, none, none, none, none, none]) (st' := [.inr (.inr (.inl (some (26))))]) (h' := h) rfl ?_
  refine wq_gr (p' := 4) (ck_58 _ _ rfl) rfl (congrArg Prod.fst (ly_k X.1.1.1 26 rfl)) rfl (ly_g X.1.1.1 26 1 35 rfl) ?_
  refine wq_gr (p' := 7) (ck_58 _ _ rfl) rfl (congrArg Prod.fst (bn_k0 X.1.1.1 (Or.inl rfl))) rfl (ib_t X.2.1.1) ?_
  refine av_wp_sqF ck_58 3 (pc' := 10) (lv' := [some (.inr (.inr (.inl (some (26))))), some (.inr (.inr (.inl (some (t))))), some (.inl (0)), none, none, none, none]) (st' := []) (h' := h) rfl ?_
  have L15 : ∀ (m14 : Nat) (k1 : Int) (h2 : av_H) (a4 : Nat → Nat → Int) (m5 : Int) (m6 : Int) (m7 : Int) (t8 : Int) (t9 : Int) (t10 : Int) (t11 : Int) (t12 : Int), (0 ≤ k1 ∧ k1 ≤ 1024) → SQ U S n sr nd t c s r cb u ro bar a4 m5 m6 m7 t8 t9 t10 t11 t12 g h2 → True → (1024 - k1).toNat = m14 → av_wp none cd_58 10 [some (.inr (.inr (.inl (some (26))))), some (.inr (.inr (.inl (some (t))))), some (.inl k1), none, none, none, none] [] h2 Q := by
    intro m14
    induction m14 using Nat.strongRecOn with
    | _ m14 I16 =>
      intro k1 h2 a4 m5 m6 m7 t8 t9 t10 t11 t12 g18 X3 Y13 e17
      refine av_wp_sqF ck_58 2 (pc' := 12) (lv' := [some (.inr (.inr (.inl (some (26))))), some (.inr (.inr (.inl (some (t))))), some (.inl k1), none, none, none, none]) (st' := [.inr (.inr (.inl (some (t)))), .inl k1]) (h' := h2) rfl ?_
      refine wq_gi (p' := 15) (ck_58 _ _ rfl) rfl (congrArg Prod.fst (co_kt (ib_co X3.2.1.1))) rfl (co_cb (ib_co X3.2.1.1)) ?_
      refine wq_k2 (p' := 18) (ck_58 _ _ rfl) rfl ⟨by omega, by omega⟩ ⟨by omega, by omega⟩ (fun c19 => ?_) (fun c20 => ?_)
      · have c19 : cb ≤ k1 := c19
        refine av_wp_sqF ck_58 8 (pc' := 55) (lv' := [some (.inr (.inr (.inl (some (26))))), some (.inr (.inr (.inl (some (t))))), some (.inl (0)), some (.inl (1)), some (.inl (1)), some (.inl (0)), none]) (st' := []) (h' := h2) rfl ?_
        have L27 : ∀ (m26 : Nat) (k21 : Int) (k22 : Int) (k23 : Int) (k24 : Int) (a25 : Option av_V), av_lg a25 = false → k24 ≤ 4 * (s : Int) → (0 ≤ k24 ∧ k24 ≤ 48) → (48 - k24).toNat = m26 → av_wp none cd_58 55 [some (.inr (.inr (.inl (some (26))))), some (.inr (.inr (.inl (some (t))))), some (.inl k21), some (.inl k22), some (.inl k23), some (.inl k24), a25] [] h2 Q := by
          intro m26
          induction m26 using Nat.strongRecOn with
          | _ m26 I28 =>
            intro k21 k22 k23 k24 a25 g30 g31 g32 e29
            have la25 := g30
            refine av_wp_sqF ck_58 2 (pc' := 58) (lv' := [some (.inr (.inr (.inl (some (26))))), some (.inr (.inr (.inl (some (t))))), some (.inl k21), some (.inl k22), some (.inl k23), some (.inl k24), a25]) (st' := [.inr (.inr (.inl (some (t)))), .inl k24]) (h' := h2) rfl ?_
            refine wq_gi (p' := 61) (ck_58 _ _ rfl) rfl (congrArg Prod.fst (co_kt (ib_co X3.2.1.1))) rfl (co_s (ib_co X3.2.1.1)) ?_
            refine av_wp_sqF ck_58 2 (pc' := 63) (lv' := [some (.inr (.inr (.inl (some (26))))), some (.inr (.inr (.inl (some (t))))), some (.inl k21), some (.inl k22), some (.inl k23), some (.inl k24), a25]) (st' := [.inl ((s : Int) * (4)), .inl k24]) (h' := h2) rfl ?_
            refine wq_k2 (p' := 66) (ck_58 _ _ rfl) rfl ⟨by omega, by omega⟩ ⟨by omega, by omega⟩ (fun c33 => ?_) (fun c34 => ?_)
            · have c33 : ((s : Int) * (4)) ≤ k24 := c33
              refine av_wp_sqF ck_58 1 (pc' := 125) (lv' := [some (.inr (.inr (.inl (some (26))))), some (.inr (.inr (.inl (some (t))))), some (.inl k21), some (.inl k22), some (.inl k23), some (.inl k24), a25]) (st' := [.inl k21]) (h' := h2) rfl ?_
              refine av_wp_ret (v := some (.inl k21)) (ck_58 _ _ rfl) rfl rfl ?_
              exact hq _ h2 _ _ _ _ _ _ _ _ _ X3
            · have c34 : k24 < ((s : Int) * (4)) := c34
              refine av_wp_sqF ck_58 3 (pc' := 70) (lv' := [some (.inr (.inr (.inl (some (26))))), some (.inr (.inr (.inl (some (t))))), some (.inl k21), some (.inl k22), some (.inl k23), some (.inl k24), a25]) (st' := [.inl (4), .inl k24, .inr (.inr (.inl (some (t))))]) (h' := h2) rfl ?_
              refine wq_dv (p' := 71) (ck_58 _ _ rfl) rfl ⟨by omega, by omega⟩ (by omega) (fun v35 e36 => ?_)
              have e36 := e36 ⟨by omega, by omega⟩
              rw [Int.tdiv_eq_ediv_of_nonneg (by omega)] at e36
              refine av_wp_sqF ck_58 3 (pc' := 76) (lv' := [some (.inr (.inr (.inl (some (26))))), some (.inr (.inr (.inl (some (t))))), some (.inl k21), some (.inl k22), some (.inl k23), some (.inl k24), a25]) (st' := [.inl (4), .inl k24, .inl (15), .inl v35, .inr (.inr (.inl (some (t))))]) (h' := h2) rfl ?_
              refine wq_rm (p' := 77) (ck_58 _ _ rfl) rfl ⟨by omega, by omega⟩ (by omega) (fun v37 e38 => ?_)
              have e38 := e38 ⟨by omega, by omega⟩
              rw [Int.tmod_eq_emod_of_nonneg (by omega)] at e38
              refine av_wp_sqF ck_58 1 (pc' := 78) (lv' := [some (.inr (.inr (.inl (some (26))))), some (.inr (.inr (.inl (some (t))))), some (.inl k21), some (.inl k22), some (.inl k23), some (.inl k24), a25]) (st' := [.inl ((15) + v37), .inl v35, .inr (.inr (.inl (some (t))))]) (h' := h2) rfl ?_
              refine wq_cv (p' := 81) (av_qc (.invokevirtual 119) 29 2 0 1) 3 cd_29 [.inl ((15) + v37), .inl v35] (t) 1 [some (.inr (.inr (.inl (some (t))))), some (.inl v35), some (.inl ((15) + v37))] (ck_58 _ _ rfl) rfl rfl pp_29 rfl rfl rfl (congrArg Prod.fst (co_kt (ib_co X3.2.1.1))) rfl rfl rfl rfl ?_
              refine ct_29 (ib_co X3.2.1.1) (v35) (((15) + v37)) (by omega) (by omega) (fun v39 p40 => ?_)
              show av_wp _ cd_58 81 [some (.inr (.inr (.inl (some (26))))), some (.inr (.inr (.inl (some (t))))), some (.inl k21), some (.inl k22), some (.inl k23), some (.inl k24), a25] [.inl v39] h2 _
              refine av_wp_sqF ck_58 2 (pc' := 85) (lv' := [some (.inr (.inr (.inl (some (26))))), some (.inr (.inr (.inl (some (t))))), some (.inl k21), some (.inl k22), some (.inl k23), some (.inl k24), some (.inl v39)]) (st' := [.inl v39]) (h' := h2) rfl ?_
              refine wq_k1 (p' := 88) (ck_58 _ _ rfl) rfl ⟨by omega, by omega⟩ (fun c41 => ?_) (fun c42 => ?_)
              · have c41 : v39 ≤ (0) := c41
                refine av_wp_sqF ck_58 2 (pc' := 55) (lv' := [some (.inr (.inr (.inl (some (26))))), some (.inr (.inr (.inl (some (t))))), some (.inl k21), some (.inl k22), some (.inl k23), some (.inl (k24 + (1))), some (.inl v39)]) (st' := []) (h' := h2) rfl ?_
                exact I28 _ (by omega) (k21) (k22) (k23) ((k24 + (1))) (some (.inl v39)) rfl (by omega) (by omega) rfl
              · have c42 : (0) < v39 := c42
                refine av_wp_sqF ck_58 4 (pc' := 94) (lv' := [some (.inr (.inr (.inl (some (26))))), some (.inr (.inr (.inl (some (t))))), some (.inl k21), some (.inl k22), some (.inl k23), some (.inl k24), some (.inl v39)]) (st' := [.inl v39, .inl k23, .inr (.inr (.inl (some (26)))), .inl k21]) (h' := h2) rfl ?_
                refine wq_cv (p' := 97) (av_qc (.invokevirtual 143) 59 2 0 3) 4 cd_59 [.inl v39, .inl k23] (26) 3 [some (.inr (.inr (.inl (some (26))))), some (.inl k23), some (.inl v39), none] (ck_58 _ _ rfl) rfl rfl pp_59 rfl rfl rfl (congrArg Prod.fst (ly_k X3.1.1.1 26 rfl)) rfl rfl rfl rfl ?_
                refine ct_59 X3.2.1.1 (k23) (v39) (by omega) (fun v43 p44 => ?_)
                show av_wp _ cd_58 97 [some (.inr (.inr (.inl (some (26))))), some (.inr (.inr (.inl (some (t))))), some (.inl k21), some (.inl k22), some (.inl k23), some (.inl k24), some (.inl v39)] [.inl v43, .inl k21] h2 _
                refine wq_k1 (p' := 100) (ck_58 _ _ rfl) rfl ⟨by omega, by omega⟩ (fun c45 => ?_) (fun c46 => ?_)
                · have c45 : v43 = (0) := c45
                  refine av_wp_sqF ck_58 12 (pc' := 121) (lv' := [some (.inr (.inr (.inl (some (26))))), some (.inr (.inr (.inl (some (t))))), some (.inl (av_or k21 (0))), some (.inl (av_shl k22 (1))), some (.inl (k23 * v39)), some (.inl (k24 + (1))), some (.inl v39)]) (st' := []) (h' := h2) rfl ?_
                  refine av_wp_sqF ck_58 1 (pc' := 55) (lv' := [some (.inr (.inr (.inl (some (26))))), some (.inr (.inr (.inl (some (t))))), some (.inl (av_or k21 (0))), some (.inl (av_shl k22 (1))), some (.inl (k23 * v39)), some (.inl (k24 + (1))), some (.inl v39)]) (st' := []) (h' := h2) rfl ?_
                  exact I28 _ (by omega) ((av_or k21 (0))) ((av_shl k22 (1))) ((k23 * v39)) ((k24 + (1))) (some (.inl v39)) rfl (by omega) (by omega) rfl
                · have c46 : v43 ≠ (0) := c46
                  refine av_wp_sqF ck_58 12 (pc' := 118) (lv' := [some (.inr (.inr (.inl (some (26))))), some (.inr (.inr (.inl (some (t))))), some (.inl (av_or k21 k22)), some (.inl (av_shl k22 (1))), some (.inl (k23 * v39)), some (.inl k24), some (.inl v39)]) (st' := []) (h' := h2) rfl ?_
                  refine av_wp_sqF ck_58 2 (pc' := 55) (lv' := [some (.inr (.inr (.inl (some (26))))), some (.inr (.inr (.inl (some (t))))), some (.inl (av_or k21 k22)), some (.inl (av_shl k22 (1))), some (.inl (k23 * v39)), some (.inl (k24 + (1))), some (.inl v39)]) (st' := []) (h' := h2) rfl ?_
                  exact I28 _ (by omega) ((av_or k21 k22)) ((av_shl k22 (1))) ((k23 * v39)) ((k24 + (1))) (some (.inl v39)) rfl (by omega) (by omega) rfl
        exact L27 _ ((0)) ((1)) ((1)) ((0)) (none) rfl (by omega) (by omega) rfl
      · have c20 : k1 < cb := c20
        refine av_wp_sqF ck_58 2 (pc' := 22) (lv' := [some (.inr (.inr (.inl (some (26))))), some (.inr (.inr (.inl (some (t))))), some (.inl k1), none, none, none, none]) (st' := [.inl (1024), .inl k1]) (h' := h2) rfl ?_
        refine wq_k2 (p' := 25) (ck_58 _ _ rfl) rfl ⟨by omega, by omega⟩ ⟨by omega, by omega⟩ (fun c47 => ?_) (fun c48 => ?_)
        · have c47 : (1024) ≤ k1 := c47
          exfalso; omega
        · have c48 : k1 < (1024) := c48
          refine av_wp_sqF ck_58 1 (pc' := 26) (lv' := [some (.inr (.inr (.inl (some (26))))), some (.inr (.inr (.inl (some (t))))), some (.inl k1), none, none, none, none]) (st' := [.inr (.inr (.inl (some (26))))]) (h' := h2) rfl ?_
          refine wq_gr (p' := 29) (ck_58 _ _ rfl) rfl (congrArg Prod.fst (ly_k X3.1.1.1 26 rfl)) rfl (ly_g X3.1.1.1 26 6 29 rfl) ?_
          refine av_wp_sqF ck_58 2 (pc' := 31) (lv' := [some (.inr (.inr (.inl (some (26))))), some (.inr (.inr (.inl (some (t))))), some (.inl k1), none, none, none, none]) (st' := [.inr (.inr (.inl (some (26)))), .inl k1, .inr (.inr (.inl (some (29))))]) (h' := h2) rfl ?_
          refine wq_gr (p' := 34) (ck_58 _ _ rfl) rfl (congrArg Prod.fst (ly_k X3.1.1.1 26 rfl)) rfl (ly_g X3.1.1.1 26 1 35 rfl) ?_
          refine av_wp_sqF ck_58 1 (pc' := 35) (lv' := [some (.inr (.inr (.inl (some (26))))), some (.inr (.inr (.inl (some (t))))), some (.inl k1), none, none, none, none]) (st' := [.inl k1, .inr (.inr (.inl (some (35)))), .inl k1, .inr (.inr (.inl (some (29))))]) (h' := h2) rfl ?_
          refine wq_cv (p' := 38) (av_qc (.invokevirtual 89) 2 1 0 0) 2 cd_2 [.inl k1] (35) 0 [some (.inr (.inr (.inl (some (35))))), some (.inl k1)] (ck_58 _ _ rfl) rfl rfl pp_2 rfl rfl rfl (congrArg Prod.fst (bn_k0 X3.1.1.1 (Or.inl rfl))) rfl rfl rfl rfl ?_
          refine cy_2 X3.2.1 (FN_rf 35 h2) G X3.2.2.1 X3.2.2.2.1 (k1) (by omega) (fun v49 h50 a51 m52 m53 m54 E55 F56 Z57 T58 D59 B60 R61 p62 => ?_)
          have X63 := SQ_2 X3 E55 F56 Z57 T58
          have g64 : (-1 ≤ m52 ∧ m52 ≤ 11) ∧ (-1 ≤ m53 ∧ m53 ≤ 11) ∧ (-1 ≤ m54 ∧ m54 ≤ 9999) := R61
          show av_wp _ cd_58 38 [some (.inr (.inr (.inl (some (26))))), some (.inr (.inr (.inl (some (t))))), some (.inl k1), none, none, none, none] [.inl v49, .inl k1, .inr (.inr (.inl (some (29))))] h50 _
          refine xq_29 (p' := 39) rfl rfl X63 (by omega) (by omega) (fun h65 X66 => ?_)
          refine av_wp_sqF ck_58 2 (pc' := 10) (lv' := [some (.inr (.inr (.inl (some (26))))), some (.inr (.inr (.inl (some (t))))), some (.inl (k1 + (1))), none, none, none, none]) (st' := []) (h' := h65) rfl ?_
          exact I16 _ (by omega) ((k1 + (1))) h65 a51 (m52) (m53) (m54) (t8) (t9) (t10) (t11) (t12) (by omega) X66 trivial rfl
  exact L15 _ ((0)) h a (mb) (mo) (ma) (t0) (t1) (t2) (t3) (t4) (by omega) X trivial rfl

set_option maxRecDepth 100000 in
set_option maxHeartbeats 4000000 in
theorem cx_110 {h : av_H} {U : Nat → Nat → Int} {S : Nat → Nat} {n : Int} {sr nd : Nat → Int} (C : CJ U S n sr nd h) (k : Int) (qk : -2147483648 ≤ k ∧ k ≤ 2147483647) (l : Int) (ql : -2147483648 ≤ l ∧ l ≤ 2147483647) (CR : CRT U S n (hF h 3 4) (fun k => hA h (6 + k))) (SU : SUA U S n (hF h 3 4) (fun k => hA h (6 + k)) sr) {Q : Option av_V → av_H → Prop} (hq : ∀ (v : Int) h' sr' nd', CJ U S n sr' nd' h' → Fr h h' → SUA U S n (hF h 3 4) (fun k => hA h (6 + k)) sr' → Q (some (.inl v)) h') : av_wp none cd_110 0 [some (.inr (.inr (.inl (some (0))))), some (.inl k), some (.inl l)] [] h Q := by
  have F := Fr_rf h
  have nr := C.2.1.2.1
  refine av_wp_sqF ck_110 1 (pc' := 1) (lv' := [some (.inr (.inr (.inl (some (0))))), some (.inl k), some (.inl l)]) (st' := [.inr (.inr (.inl (some (0))))]) (h' := h) rfl ?_
  refine wq_gr (p' := 4) (ck_110 _ _ rfl) rfl (congrArg Prod.fst (ly_k C.1.1 0 rfl)) rfl (ly_g C.1.1 0 5 26 rfl) ?_
  refine av_wp_sqF ck_110 2 (pc' := 6) (lv' := [some (.inr (.inr (.inl (some (0))))), some (.inl k), some (.inl l)]) (st' := [.inl l, .inl k, .inr (.inr (.inl (some (26))))]) (h' := h) rfl ?_
  refine wq_cv (p' := 9) (av_qc (.invokevirtual 203) 49 2 0 3) 3 cd_49 [.inl l, .inl k] (26) 3 [some (.inr (.inr (.inl (some (26))))), some (.inl k), some (.inl l)] (ck_110 _ _ rfl) rfl rfl pp_49 rfl rfl rfl (congrArg Prod.fst (ly_k C.1.1 26 rfl)) rfl rfl rfl rfl ?_
  refine cx_49 C (k) (by omega) (l) (by omega) CR SU (fun z1 => ?_) (fun z1 z2 z3 h4 r5 n6 t7 c8 a9 C10 F11 U12 E13 Z14 T15 => ?_)
  · show av_wp _ cd_110 9 [some (.inr (.inr (.inl (some (0))))), some (.inl k), some (.inl l)] [.inl (0)] h _
    refine av_wp_sqF ck_110 2 (pc' := 32) (lv' := [some (.inr (.inr (.inl (some (0))))), some (.inl k), some (.inl l)]) (st' := [.inl (-2)]) (h' := h) rfl ?_
    refine av_wp_ret (v := some (.inl (-2))) (ck_110 _ _ rfl) rfl rfl ?_
    exact hq _ h _ _ C F SU
  · have X16 : SQ U S n r5 n6 t7 c8 (S (Int.toNat k)) (6 + Int.toNat l) (cbv (U (Int.toNat k)) (S (Int.toNat k))) (U (Int.toNat k)) (hA h (6 + Int.toNat l)) (bxx U S (hA h (6 + Int.toNat l)) (Int.toNat k)) a9 (hF h4 35 13) (hF h4 35 14) (hF h4 35 15) (hA h4 31 0) (hA h4 31 1) (hA h4 31 2) (hA h4 31 3) (hA h4 31 4) h h4 := ⟨C10, E13, T15, Z14, F11.1, rfl, rfl, rfl, rfl, rfl⟩
    have G17 := CWF_sea (ro := (hA h (6 + Int.toNat l))) (CR.1 (Int.toNat k) (by omega)) (rl_8 (CR.2.2.2 l (by omega) (by omega))).1 (brv_b (U (Int.toNat k)) (srt U S (hA h (6 + Int.toNat l)) (Int.toNat k)))
    have H18 : ∀ x : Int, 0 ≤ x → x ≤ 1023 → (bgn (U (Int.toNat k)) (hA h (6 + Int.toNat l)) (bxx U S (hA h (6 + Int.toNat l)) (Int.toNat k)) (S (Int.toNat k)) x).2.2 = 9999 ∨ (0 ≤ (bgn (U (Int.toNat k)) (hA h (6 + Int.toNat l)) (bxx U S (hA h (6 + Int.toNat l)) (Int.toNat k)) (S (Int.toNat k)) x).2.2 ∧ (bgn (U (Int.toNat k)) (hA h (6 + Int.toNat l)) (bxx U S (hA h (6 + Int.toNat l)) (Int.toNat k)) (S (Int.toNat k)) x).2.2 < 9999) := fun x h0 h1 => bgn_0 (HBd_g (x := x) (CR.1 (Int.toNat k) (by omega)).2.2.2.2.2 (fun q hq i hi => arr_0 (by have := (CR.1 (Int.toNat k) (by omega)).2.1.2; omega)) ⟨h0, h1⟩)
    have q19 := cbv_d (U (Int.toNat k)) (S (Int.toNat k))
    have q19a := CR.2.2.1 (Int.toNat k) (by omega)
    show av_wp _ cd_110 9 [some (.inr (.inr (.inl (some (0))))), some (.inl k), some (.inl l)] [.inl (1)] h4 _
    refine av_wp_sqF ck_110 2 (pc' := 13) (lv' := [some (.inr (.inr (.inl (some (0))))), some (.inl k), some (.inl l)]) (st' := [.inr (.inr (.inl (some (0))))]) (h' := h4) rfl ?_
    refine wq_gr (p' := 16) (ck_110 _ _ rfl) rfl (congrArg Prod.fst (ly_k C10.1.1 0 rfl)) rfl (ly_g C10.1.1 0 5 26 rfl) ?_
    refine wq_gr (p' := 19) (ck_110 _ _ rfl) rfl (congrArg Prod.fst (ly_k C10.1.1 26 rfl)) rfl (ly_g C10.1.1 26 1 35 rfl) ?_
    refine wq_gr (p' := 22) (ck_110 _ _ rfl) rfl (congrArg Prod.fst (bn_k0 C10.1.1 (Or.inl rfl))) rfl (ib_t X16.2.1.1) ?_
    obtain ⟨v20, e21⟩ : ∃ v, hF h4 t7 2 = v := ⟨_, rfl⟩
    refine wq_gi (p' := 25) (ck_110 _ _ rfl) rfl (congrArg Prod.fst (co_kt (ib_co X16.2.1.1))) rfl (e21) ?_
    refine av_wp_sqF ck_110 1 (pc' := 27) (lv' := [some (.inr (.inr (.inl (some (0))))), some (.inl k), some (.inl l)]) (st' := [.inl (12), .inl v20]) (h' := h4) rfl ?_
    refine wq_c2 (p' := 30) (ck_110 _ _ rfl) rfl ?_ ?_
    · refine av_wp_sqF ck_110 1 (pc' := 34) (lv' := [some (.inr (.inr (.inl (some (0))))), some (.inl k), some (.inl l)]) (st' := [.inr (.inr (.inl (some (0))))]) (h' := h4) rfl ?_
      refine wq_gr (p' := 37) (ck_110 _ _ rfl) rfl (congrArg Prod.fst (ly_k C10.1.1 0 rfl)) rfl (ly_g C10.1.1 0 5 26 rfl) ?_
      refine wq_cv (p' := 40) (av_qc (.invokevirtual 216) 58 0 0 3) 7 cd_58 [] (26) 3 [some (.inr (.inr (.inl (some (26))))), none, none, none, none, none, none] (ck_110 _ _ rfl) rfl rfl pp_58 rfl rfl rfl (congrArg Prod.fst (ly_k C10.1.1 26 rfl)) rfl rfl rfl rfl ?_
      refine cx_58 X16 G17 (fun v22 h23 a24 m25 m26 m27 t28 t29 t30 t31 t32 X33 => ?_)
      show av_wp _ cd_110 40 [some (.inr (.inr (.inl (some (0))))), some (.inl k), some (.inl l)] [.inl v22] h23 _
      refine av_wp_ret (v := some (.inl v22)) (ck_110 _ _ rfl) rfl rfl ?_
      exact hq _ h23 _ _ X33.1 X33.2.2.2.2.1 U12
    · refine av_wp_sqF ck_110 1 (pc' := 32) (lv' := [some (.inr (.inr (.inl (some (0))))), some (.inl k), some (.inl l)]) (st' := [.inl (-2)]) (h' := h4) rfl ?_
      refine av_wp_ret (v := some (.inl (-2))) (ck_110 _ _ rfl) rfl rfl ?_
      exact hq _ h4 _ _ X16.1 X16.2.2.2.2.1 U12
end
section
/-! WHAT A SAYING DOES -/
section
variable {u ro : Nat → Int} {a : Nat → Nat → Int} {s : Nat}
theorem e0_b (q : Nat) : (e0 u ro a q).2.2 = -1 ∧ (e0 u ro a q).2.1 ≠ 1 ∧ (e0 u ro a q).2.1 ≠ 2 := by
  have h : ∀ (h w : Int), w = 3 ∨ w = 4 → (ea (9999, 0, -1) (a 2 q) h w (-1)).2.2 = -1 ∧ (ea (9999, 0, -1) (a 2 q) h w (-1)).2.1 ≠ 1 ∧ (ea (9999, 0, -1) (a 2 q) h w (-1)).2.1 ≠ 2 := fun h w hw => by
    unfold ea
    split
    · exact ⟨rfl, by show w ≠ 1; omega, by show w ≠ 2; omega⟩
    · exact ⟨rfl, by show (0 : Int) ≠ 1; omega, by show (0 : Int) ≠ 2; omega⟩
  unfold e0
  (repeat' split)
  · exact h _ _ (Or.inl rfl)
  · exact h _ _ (Or.inr rfl)
  · exact ⟨rfl, by show (0 : Int) ≠ 1; omega, by show (0 : Int) ≠ 2; omega⟩
end
/-- does -/
def DC2 (u ro : Nat → Int) (a : Nat → Nat → Int) (s k : Nat) : Prop := (0 ≤ u (21 * k + 3) ∧ u (21 * k + 3) < (s : Int)) ∧ (eav u ro a s (u (21 * k + 3)).toNat s).2.2 = (k : Int)
def DC8 (u ro : Nat → Int) (a : Nat → Nat → Int) (s k : Nat) : Prop := u (21 * k + 0) = 5 ∧ (0 ≤ u (21 * k + 3) ∧ u (21 * k + 3) < (s : Int)) ∧ a 3 (u (21 * k + 3)).toNat ≠ 0 ∧ hw a k (ro 4) ≠ -1 ∧ hw a (u (21 * k + 3)).toNat (yw u ro (u (21 * k + 3)).toNat) ≠ -1 ∧ hw a k (ro 4) < hw a (u (21 * k + 3)).toNat (yw u ro (u (21 * k + 3)).toNat)
/-- the bits of a number below 16 -/
def BT4 (v : Int) (A B C D : Prop) : Prop := ∃ x y z w : Int, ((x = 1 ∧ A) ∨ (x = 0 ∧ ¬ A)) ∧ ((y = 1 ∧ B) ∨ (y = 0 ∧ ¬ B)) ∧ ((z = 1 ∧ C) ∨ (z = 0 ∧ ¬ C)) ∧ ((w = 1 ∧ D) ∨ (w = 0 ∧ ¬ D)) ∧ v = x + 2 * y + 4 * z + 8 * w
def DOV (u ro : Nat → Int) (a : Nat → Nat → Int) (s : Nat) (b : T3) (k : Nat) (v : Int) : Prop := BT4 v (o5 ro a k ≠ -1) (DC2 u ro a s k) (b.2.2 ≠ 9999 ∧ b.1 = (k : Int)) (DC8 u ro a s k)
theorem BT4_c {v : Int} {A B C D A' B' C' D' : Prop} (p : BT4 v A B C D) (ha : A ↔ A') (hb : B ↔ B') (hc : C ↔ C') (hd : D ↔ D') : BT4 v A' B' C' D' := by
  obtain ⟨x, y, z, t, p1, p2, p3, p4, p5⟩ := p
  rw [ha] at p1
  rw [hb] at p2
  rw [hc] at p3
  rw [hd] at p4
  exact ⟨x, y, z, t, p1, p2, p3, p4, p5⟩
/-- a bench's rows say so -/
theorem DOV_of {u ro bar : Nat → Int} {s : Nat} {x : Int} {a : Nat → Nat → Int} {b : T3} {k : Nat} {q v : Int} (hs : s ≤ 12) (T : TKR u ro bar s a) (D : DCD u ro bar s x a) (hk : k < s) (e : u (21 * k + 3) = q) (p : BT4 v (a 5 k ≠ -1) ((0 ≤ q ∧ q < (s : Int)) ∧ a 8 q.toNat = (k : Int)) (b.2.2 ≠ 9999 ∧ b.1 = (k : Int)) (u (21 * k + 0) = 5 ∧ (0 ≤ q ∧ q < (s : Int)) ∧ a 3 q.toNat ≠ 0 ∧ hw a k (ro 4) ≠ -1 ∧ hw a q.toNat (yw u ro q.toNat) ≠ -1 ∧ hw a k (ro 4) < hw a q.toNat (yw u ro q.toNat))) : DOV u ro (arr u ro bar x) s b k v := by
  have g := arr_g hs D.1 T
  subst e
  refine BT4_c p ?_ ?_ Iff.rfl ?_
  · rw [(D.2 k hk).2.2.1]
  · unfold DC2
    constructor
    · rintro ⟨z1, z2⟩
      refine ⟨z1, ?_⟩
      rw [← show a 8 (u (21 * k + 3)).toNat = _ from congrArg (fun t => t.2.2) (D.2 (u (21 * k + 3)).toNat (by omega)).2.1]
      exact z2
    · rintro ⟨z1, z2⟩
      refine ⟨z1, ?_⟩
      rw [show a 8 (u (21 * k + 3)).toNat = _ from congrArg (fun t => t.2.2) (D.2 (u (21 * k + 3)).toNat (by omega)).2.1]
      exact z2
  · unfold DC8
    by_cases c : 0 ≤ u (21 * k + 3) ∧ u (21 * k + 3) < (s : Int)
    · rw [(g _ (show (u (21 * k + 3)).toNat < s by omega)).2.2.1, hw_g g hk, hw_g g (show (u (21 * k + 3)).toNat < s by omega)]
    · exact ⟨fun z => absurd z.2.1 c, fun z => absurd z.2.1 c⟩
section
variable {u ro : Nat → Int} {a : Nat → Nat → Int} {s : Nat} {k q : Nat} {w e v : Int}
end
end
section
/-! DOES, exactly: the class -/
theorem eav_8 {u ro : Nat → Int} {a : Nat → Nat → Int} {s : Nat} (hs : s ≤ 12) (q : Nat) : -1 ≤ (eav u ro a s q s).2.2 ∧ (eav u ro a s q s).2.2 ≤ 11 := by
  have ee : ∀ (t : T3) (o h c b : Int), (-1 ≤ t.2.2 ∧ t.2.2 ≤ 11) → (-1 ≤ b ∧ b ≤ 11) → -1 ≤ (ea t o h c b).2.2 ∧ (ea t o h c b).2.2 ≤ 11 := fun t o h c b h1 h2 => by
    unfold ea
    split
    · exact h2
    · exact h1
  have h0 : -1 ≤ (e0 u ro a q).2.2 ∧ (e0 u ro a q).2.2 ≤ 11 := by
    rw [(e0_b q).1]
    omega
  have h1 : ∀ k, k ≤ s → -1 ≤ (ebv u ro a q k).2.2 ∧ (ebv u ro a q k).2.2 ≤ 11 := by
    intro k
    induction k with
    | zero => intro _; exact h0
    | succ k ih =>
      intro hk
      have e : ebv u ro a q (k + 1) = if hB u ro a k ≠ -1 ∧ u (21 * k + 3) = (q : Int) ∧ fre u ro q ≤ hB u ro a k then ea (ebv u ro a q k) (a 2 q) (hB u ro a k) 1 (k : Int) else ebv u ro a q k := rfl
      rw [e]
      split
      · exact ee _ _ _ _ _ (ih (by omega)) (by omega)
      · exact ih (by omega)
  have h2 : ∀ k, k ≤ s → -1 ≤ (eav u ro a s q k).2.2 ∧ (eav u ro a s q k).2.2 ≤ 11 := by
    intro k
    induction k with
    | zero => intro _; exact h1 s (Nat.le_refl s)
    | succ k ih =>
      intro hk
      have e : eav u ro a s q (k + 1) = if ans u k = 1 ∧ u (21 * k + 3) = (q : Int) ∧ (u (21 * k + 0) = 4 ∨ a 2 k ≠ 0) then ea (eav u ro a s q k) (a 2 q) (hw a k (ro 5)) 2 (k : Int) else eav u ro a s q k := rfl
      rw [e]
      split
      · exact ee _ _ _ _ _ (ih (by omega)) (by omega)
      · exact ih (by omega)
  exact h2 s (Nat.le_refl s)
set_option maxRecDepth 100000 in
set_option maxHeartbeats 4000000 in
theorem cx_22 {g h : av_H} {b t c s r : Nat} {cb : Int} {u ro : Nat → Int} {a : Nat → Nat → Int} {mb mo ma : Int} (E : EB b t c s r cb u ro a mb mo ma h) (F : FN b g h) (H : HBd s a) (R : RLW ro) (b3 : ∀ q, q < s → 0 ≤ a 3 q ∧ a 3 q ≤ 1) (b5 : ∀ q, q < s → -1 ≤ a 5 q ∧ a 5 q ≤ 9999) (b8 : ∀ q, q < s → -1 ≤ a 8 q ∧ a 8 q ≤ 11) (qm : -1 ≤ ma ∧ ma ≤ 9999) (k : Int) (qk : 0 ≤ k ∧ k < (s : Int)) (q : Int) (qq : -1 ≤ q ∧ q ≤ 11) {Q : Option av_V → av_H → Prop} (hq : ∀ v : Int, ((v = 1 ∧ ((0 ≤ q ∧ q < (s : Int)) ∧ a 3 (Int.toNat q) ≠ 0 ∧ hw a (Int.toNat k) (ro 4) ≠ -1 ∧ hw a (Int.toNat q) (yw u ro (Int.toNat q)) ≠ -1 ∧ hw a (Int.toNat k) (ro 4) < hw a (Int.toNat q) (yw u ro (Int.toNat q)))) ∨ (v = 0 ∧ ¬ ((0 ≤ q ∧ q < (s : Int)) ∧ a 3 (Int.toNat q) ≠ 0 ∧ hw a (Int.toNat k) (ro 4) ≠ -1 ∧ hw a (Int.toNat q) (yw u ro (Int.toNat q)) ≠ -1 ∧ hw a (Int.toNat k) (ro 4) < hw a (Int.toNat q) (yw u ro (Int.toNat q))))) → Q (some (.inl v)) h) : av_wp none cd_22 0 [some (.inr (.inr (.inl (some (b))))), some (.inl k), some (.inl q), none, none] [] h Q := by
  have s12 := co_s12 (ib_co E.1)
  have cbr := co_cbr (ib_co E.1)
  have mbr := eb_xr E
  have mor := eb_yr E
  refine av_wp_sqF ck_22 1 (pc' := 1) (lv' := [some (.inr (.inr (.inl (some (b))))), some (.inl k), some (.inl q), none, none]) (st' := [.inr (.inr (.inl (some (b))))]) (h' := h) rfl ?_
  refine wq_gr (p' := 4) (ck_22 _ _ rfl) rfl (congrArg Prod.fst (ib_k0 E.1)) rfl (ib_t E.1) ?_
  refine av_wp_sqF ck_22 1 (pc' := 5) (lv' := [some (.inr (.inr (.inl (some (b))))), some (.inl k), some (.inl q), none, none]) (st' := [.inl q, .inr (.inr (.inl (some (t))))]) (h' := h) rfl ?_
  refine wq_cv (p' := 8) (av_qc (.invokevirtual 136) 28 1 0 1) 2 cd_28 [.inl q] (t) 1 [some (.inr (.inr (.inl (some (t))))), some (.inl q)] (ck_22 _ _ rfl) rfl rfl pp_28 rfl rfl rfl (congrArg Prod.fst (co_kt (ib_co E.1))) rfl rfl rfl rfl ?_
  refine ct_28 (ib_co E.1) (q) (by omega) (fun v1 p2 => ?_)
  show av_wp _ cd_22 8 [some (.inr (.inr (.inl (some (b))))), some (.inl k), some (.inl q), none, none] [.inl v1] h _
  refine wq_k1 (p' := 11) (ck_22 _ _ rfl) rfl ⟨by omega, by omega⟩ (fun c3 => ?_) (fun c4 => ?_)
  · have c3 : v1 = (0) := c3
    refine av_wp_sqF ck_22 1 (pc' := 21) (lv' := [some (.inr (.inr (.inl (some (b))))), some (.inl k), some (.inl q), none, none]) (st' := [.inl (0)]) (h' := h) rfl ?_
    refine av_wp_ret (v := some (.inl (0))) (ck_22 _ _ rfl) rfl rfl ?_
    exact hq _ (Or.inr ⟨rfl, by omega⟩)
  · have c4 : v1 ≠ (0) := c4
    refine av_wp_sqF ck_22 1 (pc' := 12) (lv' := [some (.inr (.inr (.inl (some (b))))), some (.inl k), some (.inl q), none, none]) (st' := [.inr (.inr (.inl (some (b))))]) (h' := h) rfl ?_
    refine wq_gr (p' := 15) (ck_22 _ _ rfl) rfl (congrArg Prod.fst (ib_k0 E.1)) rfl (ib_g E.1 3 rfl) ?_
    refine av_wp_sqF ck_22 1 (pc' := 16) (lv' := [some (.inr (.inr (.inl (some (b))))), some (.inl k), some (.inl q), none, none]) (st' := [.inl q, .inr (.inr (.inl (some (b + 1 + 3))))]) (h' := h) rfl ?_
    obtain ⟨v6, e7⟩ : ∃ v, a 3 (Int.toNat (q)) = v := ⟨_, rfl⟩
    have g8 := b3 (Int.toNat (q)) (by omega)
    rw [e7] at g8
    refine wq_bl (p' := 17) (n := 12) (ck_22 _ _ rfl) rfl ((Or.inr (ib_k E.1 3 rfl))) (by omega) ((congrFun (eb_a E 3 rfl) _).trans e7) ?_
    refine wq_k1 (p' := 20) (ck_22 _ _ rfl) rfl ⟨by omega, by omega⟩ (fun c9 => ?_) (fun c10 => ?_)
    · have c9 : v6 ≠ (0) := c9
      refine av_wp_sqF ck_22 3 (pc' := 25) (lv' := [some (.inr (.inr (.inl (some (b))))), some (.inl k), some (.inl q), none, none]) (st' := [.inr (.inr (.inl (some (b)))), .inl k, .inr (.inr (.inl (some (b))))]) (h' := h) rfl ?_
      refine wq_gr (p' := 28) (ck_22 _ _ rfl) rfl (congrArg Prod.fst (ib_k0 E.1)) rfl (ib_r E.1) ?_
      refine av_wp_sqF ck_22 1 (pc' := 29) (lv' := [some (.inr (.inr (.inl (some (b))))), some (.inl k), some (.inl q), none, none]) (st' := [.inl (4), .inr (.inr (.inl (some (r)))), .inl k, .inr (.inr (.inl (some (b))))]) (h' := h) rfl ?_
      obtain ⟨v12, e13⟩ : ∃ v, ro 4 = v := ⟨_, rfl⟩
      have g11 := eb_rv E 4
      rw [e13] at g11
      have g14 := rl_4 R
      rw [e13] at g14
      refine wq_al (p' := 30) (n := 14) (ck_22 _ _ rfl) rfl (ib_kr E.1) (by omega) ((congrFun (eb_ro E) _).trans e13) ?_
      refine wq_cv (p' := 33) (av_qc (.invokevirtual 115) 6 2 0 0) 3 cd_6 [.inl v12, .inl k] (b) 0 [some (.inr (.inr (.inl (some (b))))), some (.inl k), some (.inl v12)] (ck_22 _ _ rfl) rfl rfl pp_6 rfl rfl rfl (congrArg Prod.fst (ib_k0 E.1)) rfl rfl rfl rfl ?_
      refine cx_6 E F (k) (by omega) (v12) (by omega) ?_
      rw [hof_c (a := a) rfl (by omega)]
      obtain ⟨v15, e16⟩ : ∃ v, hw a (Int.toNat (k)) v12 = v := ⟨_, rfl⟩
      have g17 := hw_r H (k := Int.toNat (k)) (by omega) v12
      rw [e16] at g17
      rw [e16]
      have hb : hw a (Int.toNat k) (ro 4) = v15 := by rw [e13]; exact e16
      show av_wp _ cd_22 33 [some (.inr (.inr (.inl (some (b))))), some (.inl k), some (.inl q), none, none] [.inl v15] h _
      refine av_wp_sqF ck_22 5 (pc' := 38) (lv' := [some (.inr (.inr (.inl (some (b))))), some (.inl k), some (.inl q), some (.inl v15), none]) (st' := [.inl q, .inr (.inr (.inl (some (b)))), .inl q, .inr (.inr (.inl (some (b))))]) (h' := h) rfl ?_
      refine wq_cv (p' := 41) (av_qc (.invokevirtual 129) 13 1 0 0) 3 cd_13 [.inl q] (b) 0 [some (.inr (.inr (.inl (some (b))))), some (.inl q), none] (ck_22 _ _ rfl) rfl rfl pp_13 rfl rfl rfl (congrArg Prod.fst (ib_k0 E.1)) rfl rfl rfl rfl ?_
      refine cx_13 E F (q) (by omega) ?_
      obtain ⟨v18, e19⟩ : ∃ v, yw u ro (Int.toNat (q)) = v := ⟨_, rfl⟩
      have g20 := yw_r E (Int.toNat (q))
      rw [e19] at g20
      rw [e19]
      show av_wp _ cd_22 41 [some (.inr (.inr (.inl (some (b))))), some (.inl k), some (.inl q), some (.inl v15), none] [.inl v18, .inl q, .inr (.inr (.inl (some (b))))] h _
      refine wq_cv (p' := 44) (av_qc (.invokevirtual 115) 6 2 0 0) 3 cd_6 [.inl v18, .inl q] (b) 0 [some (.inr (.inr (.inl (some (b))))), some (.inl q), some (.inl v18)] (ck_22 _ _ rfl) rfl rfl pp_6 rfl rfl rfl (congrArg Prod.fst (ib_k0 E.1)) rfl rfl rfl rfl ?_
      refine cx_6 E F (q) (by omega) (v18) (by omega) ?_
      rw [hof_c (a := a) rfl (by omega)]
      obtain ⟨v21, e22⟩ : ∃ v, hw a (Int.toNat (q)) v18 = v := ⟨_, rfl⟩
      have g23 := hw_r H (k := Int.toNat (q)) (by omega) v18
      rw [e22] at g23
      rw [e22]
      have hy : hw a (Int.toNat q) (yw u ro (Int.toNat q)) = v21 := by rw [e19]; exact e22
      show av_wp _ cd_22 44 [some (.inr (.inr (.inl (some (b))))), some (.inl k), some (.inl q), some (.inl v15), none] [.inl v21] h _
      refine av_wp_sqF ck_22 3 (pc' := 48) (lv' := [some (.inr (.inr (.inl (some (b))))), some (.inl k), some (.inl q), some (.inl v15), some (.inl v21)]) (st' := [.inl (-1), .inl v15]) (h' := h) rfl ?_
      refine wq_k2 (p' := 51) (ck_22 _ _ rfl) rfl ⟨by omega, by omega⟩ ⟨by omega, by omega⟩ (fun c24 => ?_) (fun c25 => ?_)
      · have c24 : v15 = (-1) := c24
        refine av_wp_sqF ck_22 1 (pc' := 68) (lv' := [some (.inr (.inr (.inl (some (b))))), some (.inl k), some (.inl q), some (.inl v15), some (.inl v21)]) (st' := [.inl (0)]) (h' := h) rfl ?_
        refine av_wp_ret (v := some (.inl (0))) (ck_22 _ _ rfl) rfl rfl ?_
        exact hq _ (Or.inr ⟨rfl, by omega⟩)
      · have c25 : v15 ≠ (-1) := c25
        refine av_wp_sqF ck_22 2 (pc' := 54) (lv' := [some (.inr (.inr (.inl (some (b))))), some (.inl k), some (.inl q), some (.inl v15), some (.inl v21)]) (st' := [.inl (-1), .inl v21]) (h' := h) rfl ?_
        refine wq_k2 (p' := 57) (ck_22 _ _ rfl) rfl ⟨by omega, by omega⟩ ⟨by omega, by omega⟩ (fun c26 => ?_) (fun c27 => ?_)
        · have c26 : v21 = (-1) := c26
          refine av_wp_sqF ck_22 1 (pc' := 68) (lv' := [some (.inr (.inr (.inl (some (b))))), some (.inl k), some (.inl q), some (.inl v15), some (.inl v21)]) (st' := [.inl (0)]) (h' := h) rfl ?_
          refine av_wp_ret (v := some (.inl (0))) (ck_22 _ _ rfl) rfl rfl ?_
          exact hq _ (Or.inr ⟨rfl, by omega⟩)
        · have c27 : v21 ≠ (-1) := c27
          refine av_wp_sqF ck_22 2 (pc' := 60) (lv' := [some (.inr (.inr (.inl (some (b))))), some (.inl k), some (.inl q), some (.inl v15), some (.inl v21)]) (st' := [.inl v21, .inl v15]) (h' := h) rfl ?_
          refine wq_k2 (p' := 63) (ck_22 _ _ rfl) rfl ⟨by omega, by omega⟩ ⟨by omega, by omega⟩ (fun c28 => ?_) (fun c29 => ?_)
          · have c28 : v21 ≤ v15 := c28
            refine av_wp_sqF ck_22 1 (pc' := 68) (lv' := [some (.inr (.inr (.inl (some (b))))), some (.inl k), some (.inl q), some (.inl v15), some (.inl v21)]) (st' := [.inl (0)]) (h' := h) rfl ?_
            refine av_wp_ret (v := some (.inl (0))) (ck_22 _ _ rfl) rfl rfl ?_
            exact hq _ (Or.inr ⟨rfl, by omega⟩)
          · have c29 : v15 < v21 := c29
            refine av_wp_sqF ck_22 2 (pc' := 68) (lv' := [some (.inr (.inr (.inl (some (b))))), some (.inl k), some (.inl q), some (.inl v15), some (.inl v21)]) (st' := [.inl (1)]) (h' := h) rfl ?_
            refine av_wp_ret (v := some (.inl (1))) (ck_22 _ _ rfl) rfl rfl ?_
            exact hq _ (Or.inl ⟨rfl, by omega⟩)
    · have c10 : v6 = (0) := c10
      refine av_wp_sqF ck_22 1 (pc' := 21) (lv' := [some (.inr (.inr (.inl (some (b))))), some (.inl k), some (.inl q), none, none]) (st' := [.inl (0)]) (h' := h) rfl ?_
      refine av_wp_ret (v := some (.inl (0))) (ck_22 _ _ rfl) rfl rfl ?_
      exact hq _ (Or.inr ⟨rfl, by omega⟩)
end
