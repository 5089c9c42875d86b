section
/-! A CASE WITH A SAYING LOST, OR WIRED -/
/-- the cells of a changed case: A below, behind them anything told -/
def CHG (A : Nat → Int) (s : Nat) (u : Nat → Int) : Prop := ∃ f, u = ctn f s ∧ (∀ j, j < 21 * s → f j = A j) ∧ ∀ j, 21 * s ≤ j → f j = 0 ∨ f j = A j
theorem CHG_o {A u : Nat → Int} {s : Nat} (x : CHG A s u) {q o : Nat} (hq : q < s) (ho : o < 20) : u (21 * q + o) = A (21 * q + o) := by
  obtain ⟨f, e, f1, _⟩ := x
  rw [e, ctn_o (by omega)]
  exact f1 _ (by omega)
theorem CHG_t {A u : Nat → Int} {s : Nat} (x : CHG A s u) : ∀ q, q < s → u (21 * q + 20) = tnv u q := fun q hq => by
  obtain ⟨f, e, _⟩ := x
  rw [e]
  exact ctn_t hq
theorem CHG_2 {A u : Nat → Int} {s : Nat} (x : CHG A s u) (h : ∀ j, A j ≤ 2000 ∨ j % 21 = 20) : ∀ j, u j ≤ 2000 ∨ j % 21 = 20 := fun j => by
  obtain ⟨f, e, f1, f2⟩ := x
  by_cases c : j % 21 = 20
  · exact Or.inr c
  · rw [e, ctn_o c]
    by_cases d : j < 21 * s
    · rw [f1 j d]
      exact h j
    · rcases f2 j (by omega) with z | z
      · rw [z]
        exact Or.inl (by omega)
      · rw [z]
        exact h j
/-- a saying lost for sure -/
def lsx (u : Nat → Int) (k : Nat) : Nat → Int := fun j => if j = 21 * k + 18 then 0 else if j = 21 * k + 19 then 1 else u j
/-- a saying by wire -/
def wix (u : Nat → Int) (k : Nat) : Nat → Int := fun j => if j = 21 * k + 4 then 1 else if j = 21 * k + 8 ∨ j = 21 * k + 9 ∨ (21 * k + 16 ≤ j ∧ j < 21 * k + 19) then 0 else u j
/-- the hours of a case's cells -/
def CWB (u : Nat → Int) (s : Nat) : Prop := ∀ k, k < s → (0 ≤ u (21 * k + 7) ∧ u (21 * k + 7) ≤ 1999) ∧ (0 ≤ u (21 * k + 8) ∧ u (21 * k + 8) ≤ 999) ∧ (0 ≤ u (21 * k + 9) ∧ u (21 * k + 9) ≤ 999) ∧ (∀ j, j < 4 → 0 ≤ u (21 * k + 15 + j) ∧ u (21 * k + 15 + j) ≤ 16) ∧ (u (21 * k + 18) = 0 ∨ u (21 * k + 18) = 2) ∧ u (21 * k + 19) = 0
theorem CWB_of {f : Nat → Int} {s : Nat} {ah : Int} (w : ∀ q, q < s → WRW ah q f) : CWB (ctn f s) s := fun k hk => by
  have a := w k hk
  have oc : ∀ o, o < 20 → ctn f s (21 * k + o) = f (k * 21 + o) := fun o ho => by
    rw [ctn_o (by omega), show 21 * k + o = k * 21 + o by omega]
  rw [oc 7 (by omega), oc 8 (by omega), oc 9 (by omega), oc 18 (by omega), oc 19 (by omega)]
  refine ⟨a.2.1 7 (by omega), a.2.1 8 (by omega), a.2.1 9 (by omega), fun j hj => ?_, a.1.2.2.2.2.2, ?_⟩
  · rw [show 21 * k + 15 + j = 21 * k + (15 + j) by omega, oc (15 + j) (by omega)]
    have h := a.2.1 (15 + j) (by omega)
    rcases (show j = 0 ∨ j = 1 ∨ j = 2 ∨ j = 3 by omega) with e | e | e | e <;> subst e
    · exact h
    · exact h
    · exact h
    · have h : (0 : Int) ≤ f (k * 21 + (15 + 3)) ∧ f (k * 21 + (15 + 3)) ≤ 2 := h
      omega
  · have h : (0 : Int) ≤ f (k * 21 + 19) ∧ f (k * 21 + 19) ≤ 0 := a.2.1 19 (by omega)
    omega
section
variable {u : Nat → Int} {s k q o : Nat}
theorem lsx_o (h : ¬ (q = k ∧ (o = 18 ∨ o = 19))) (ho : o < 20) : lsx u k (21 * q + o) = u (21 * q + o) := by
  unfold lsx
  rw [if_neg (by omega), if_neg (by omega)]
theorem wix_o (h : ¬ (q = k ∧ (o = 4 ∨ o = 8 ∨ o = 9 ∨ o = 16 ∨ o = 17 ∨ o = 18))) (ho : o < 20) : wix u k (21 * q + o) = u (21 * q + o) := by
  unfold wix
  rw [if_neg (by omega), if_neg (by omega)]
theorem wix_k : wix u k (21 * k + 4) = 1 ∧ wix u k (21 * k + 8) = 0 ∧ wix u k (21 * k + 9) = 0 ∧ wix u k (21 * k + 16) = 0 ∧ wix u k (21 * k + 17) = 0 ∧ wix u k (21 * k + 18) = 0 := by
  unfold wix
  refine ⟨if_pos rfl, ?_, ?_, ?_, ?_, ?_⟩
  · rw [if_neg (by omega), if_pos (by omega)]
  · rw [if_neg (by omega), if_pos (by omega)]
  · rw [if_neg (by omega), if_pos (by omega)]
  · rw [if_neg (by omega), if_pos (by omega)]
  · rw [if_neg (by omega), if_pos (by omega)]
end
/-- what a changed case keeps -/
def CHK (u A : Nat → Int) (s : Nat) : Prop := (∀ q, q < s → A (21 * q + 0) = u (21 * q + 0) ∧ A (21 * q + 1) = u (21 * q + 1) ∧ A (21 * q + 2) = u (21 * q + 2) ∧ A (21 * q + 3) = u (21 * q + 3) ∧ (0 ≤ A (21 * q + 4) ∧ A (21 * q + 4) ≤ 3) ∧ A (21 * q + 5) = u (21 * q + 5) ∧ A (21 * q + 6) = u (21 * q + 6) ∧ ∀ j, j < 5 → A (21 * q + 10 + j) = u (21 * q + 10 + j)) ∧ (∀ j, A j ≤ 2000 ∨ j % 21 = 20) ∧ (∀ k, k < s → (0 ≤ A (21 * k + 7) ∧ A (21 * k + 7) ≤ 1999) ∧ (0 ≤ A (21 * k + 8) ∧ A (21 * k + 8) ≤ 999) ∧ (0 ≤ A (21 * k + 9) ∧ A (21 * k + 9) ≤ 999) ∧ ∀ j, j < 3 → 0 ≤ A (21 * k + 15 + j) ∧ A (21 * k + 15 + j) ≤ 16)
theorem CHK_l {u : Nat → Int} {s k : Nat} (W1 : UW u s) (W5 : ∀ j, u j ≤ 2000 ∨ j % 21 = 20) (B : CWB u s) : CHK u (lsx u k) s := by
  refine ⟨fun q hq => ?_, fun j => ?_, fun q hq => ?_⟩
  · have w := W1 q hq
    rw [lsx_o (by omega) (by omega), lsx_o (by omega) (by omega), lsx_o (by omega) (by omega), lsx_o (by omega) (by omega), lsx_o (by omega) (by omega), lsx_o (by omega) (by omega), lsx_o (by omega) (by omega)]
    refine ⟨rfl, rfl, rfl, rfl, w.2.2.2.2.1, rfl, rfl, fun j hj => ?_⟩
    rw [show 21 * q + 10 + j = 21 * q + (10 + j) by omega]
    exact lsx_o (by omega) (by omega)
  · have h := W5 j
    unfold lsx
    (repeat' split) <;> omega
  · have b := B q hq
    rw [lsx_o (by omega) (by omega), lsx_o (by omega) (by omega), lsx_o (by omega) (by omega)]
    refine ⟨b.1, b.2.1, b.2.2.1, fun j hj => ?_⟩
    rw [show 21 * q + 15 + j = 21 * q + (15 + j) by omega, lsx_o (by omega) (by omega), show 21 * q + (15 + j) = 21 * q + 15 + j by omega]
    exact b.2.2.2.1 j (by omega)
theorem CHK_w {u : Nat → Int} {s k : Nat} (W1 : UW u s) (W5 : ∀ j, u j ≤ 2000 ∨ j % 21 = 20) (B : CWB u s) : CHK u (wix u k) s := by
  refine ⟨fun q hq => ?_, fun j => ?_, fun q hq => ?_⟩
  · have w := W1 q hq
    rw [wix_o (by omega) (by omega), wix_o (o := 1) (by omega) (by omega), wix_o (o := 2) (by omega) (by omega), wix_o (o := 3) (by omega) (by omega), wix_o (o := 5) (by omega) (by omega), wix_o (o := 6) (by omega) (by omega)]
    refine ⟨rfl, rfl, rfl, rfl, ?_, rfl, rfl, fun j hj => ?_⟩
    · by_cases c : q = k
      · rw [c, wix_k.1]
        omega
      · rw [wix_o (by omega) (by omega)]
        exact w.2.2.2.2.1
    · rw [show 21 * q + 10 + j = 21 * q + (10 + j) by omega]
      exact wix_o (by omega) (by omega)
  · have h := W5 j
    unfold wix
    (repeat' split) <;> omega
  · have b := B q hq
    by_cases c : q = k
    · have z := wix_k (u := u) (k := k)
      rw [c, z.2.1, z.2.2.1, wix_o (o := 7) (by omega) (by omega)]
      rw [c] at b
      refine ⟨b.1, by omega, by omega, fun j hj => ?_⟩
      rcases (show j = 0 ∨ j = 1 ∨ j = 2 by omega) with e | e | e <;> subst e
      · rw [show 21 * k + 15 + 0 = 21 * k + 15 by omega, wix_o (o := 15) (by omega) (by omega)]
        exact b.2.2.2.1 0 (by omega)
      · rw [show 21 * k + 15 + 1 = 21 * k + 16 by omega, z.2.2.2.1]
        omega
      · rw [show 21 * k + 15 + 2 = 21 * k + 17 by omega, z.2.2.2.2.1]
        omega
    · rw [wix_o (by omega) (by omega), wix_o (by omega) (by omega), wix_o (by omega) (by omega)]
      refine ⟨b.1, b.2.1, b.2.2.1, fun j hj => ?_⟩
      rw [show 21 * q + 15 + j = 21 * q + (15 + j) by omega, wix_o (by omega) (by omega), show 21 * q + (15 + j) = 21 * q + 15 + j by omega]
      exact b.2.2.2.1 j (by omega)
section
variable {u A v : Nat → Int} {s i : Nat}
theorem CHG_uw (C : CHK u A s) (x : CHG A s v) (W : UW u s) : UW v s := fun k hk => by
  have w := W k hk
  have c := C.1 k hk
  rw [CHG_o x hk (by omega), CHG_o x hk (by omega), CHG_o x hk (by omega), CHG_o x hk (by omega), c.1, c.2.2.2.1, c.2.2.2.2.2.1]
  refine ⟨w.1, w.2.1, w.2.2.1, w.2.2.2.1, c.2.2.2.2.1, w.2.2.2.2.2.1, fun j hj => ?_⟩
  rw [show 21 * k + 10 + j = 21 * k + (10 + j) by omega, CHG_o x hk (by omega), show 21 * k + (10 + j) = 21 * k + 10 + j by omega, c.2.2.2.2.2.2.2 j hj]
  exact w.2.2.2.2.2.2 j hj
theorem CHG_h (C : CHK u A s) (x : CHG A s v) : ∀ y : Int, 0 ≤ y → y ≤ 1023 → ∀ k, k < s → ∀ j, j < 3 → -1 ≤ hrv v y k j ∧ hrv v y k j ≤ 5000 := fun y y0 _ k hk j hj => by
  have c := C.2.2 k hk
  refine hrv_b y0 hj ?_ ?_ ?_ (fun p hp => ?_)
  · rw [show 21 * k + 7 + 0 = 21 * k + 7 by omega, CHG_o x hk (by omega)]
    exact c.1
  · rw [show 21 * k + 7 + 1 = 21 * k + 8 by omega, CHG_o x hk (by omega)]
    exact c.2.1
  · rw [show 21 * k + 7 + 2 = 21 * k + 9 by omega, CHG_o x hk (by omega)]
    exact c.2.2.1
  · rw [show 21 * k + 15 + p = 21 * k + (15 + p) by omega, CHG_o x hk (by omega), show 21 * k + (15 + p) = 21 * k + 15 + p by omega]
    exact (c.2.2.2 p hp).2
theorem CHG_sea {ro bar : Nat → Int} (C : CHK u A s) (x : CHG A s v) (hb : ∀ k, 0 ≤ bar k ∧ bar k ≤ 1) (r8 : -1 ≤ ro 8) : SEA v ro bar s := ⟨CHG_t x, hb, CHG_2 x C.2.1, CHG_h C x, r8⟩
end
theorem CRT_c {U : Nat → Nat → Int} {S : Nat → Nat} {n L : Int} {ro ro' : Nat → Nat → Int} (x : CRT U S n L ro) (hL : L ≤ 8) (e : ∀ l, l < 8 → ro' l = ro l) : CRT U S n L ro' := ⟨x.1, x.2.1, x.2.2.1, fun l h0 hl => by
  rw [e l.toNat (by omega)]
  exact x.2.2.2 l h0 hl⟩
theorem CF0_al {g h : av_H} {n m : Nat} (G : av_Gd g) (L : LY g) (A : AL g h n m) : CF0 g h := CF0_fq G L nun_low (FQ_al A) ⟨fun z => z, fun z => z, fun z => z, fun z => z⟩ ⟨fun z => z, fun z => z⟩ (fun q _ _ z => z)
theorem CJ_al {U : Nat → Nat → Int} {S : Nat → Nat} {n : Int} {sr nd : Nat → Int} {g h : av_H} {a b : Nat} (G : av_Gd g) (C : CJ U S n sr nd g) (A : AL g h a b) : CJ U S n sr nd h := by
  have L := C.1.1
  have l : ∀ {q : Nat}, q < 122 → q < g.1 := fun hq => ly_lt G L hq
  obtain ⟨c1, ⟨x1, x2, x3⟩, c3, c4⟩ := C
  refine ⟨IC_al G c1 A, ⟨(congrFun (A.2.2 3 (l (by omega))).2.2.1 3).trans x1, x2, fun i hi => ?_⟩, (A.2.2 27 (l (by omega))).2.1.trans c3, (A.2.2 28 (l (by omega))).2.1.trans c4⟩
  obtain ⟨t, c, y1, y2, y3⟩ := x3 i hi
  have cl : c < g.1 := gd_lt G y2.2.2.2.2.2.2.1 (by decide)
  exact ⟨t, c, by rw [(A.2.2 4 (l (by omega))).2.2.2.2]; exact y1, CO_fb G L y2 (AL_fb A), (A.2.2 c cl).2.1.trans y3⟩
/-- how many combos of the changed case have a bargain; -2: there are too many -/
noncomputable def lcv (u ro bar : Nat → Int) (s : Nat) : Int := if cbv u s = -1 then -2 else ta (fun q => (bgn u ro bar s q).2.2) (Int.toNat (cbv u s)) 0
/-- what a look at a changed case answers -/
def RSC (ok : Prop) (A : Nat → Int) (s : Nat) (V : (Nat → Int) → Int) (v : Int) : Prop := (¬ ok ∧ v = -2) ∨ (ok ∧ ∃ u, CHG A s u ∧ v = V u)
theorem AL_0 (h : av_H) : AL h h 0 0 := ⟨rfl, rfl, fun q _ => ⟨rfl, rfl, rfl, rfl, rfl⟩⟩
theorem CHG_1 {A u : Nat → Int} {s : Nat} (x : CHG A s u) (h : ∀ j, -1 ≤ A j) : ∀ j, -1 ≤ u j := fun j => by
  obtain ⟨f, e, f1, f2⟩ := x
  rw [e]
  unfold ctn
  split
  · have a := mx1_p (f (21 * (j / 21) + 15))
    have b := mx1_p (f (21 * (j / 21) + 16))
    have c := mx1_p (f (21 * (j / 21) + 17))
    have d := mx1_p (f (21 * (j / 21) + 18))
    have h1 : 1 * 1 ≤ mx1 (f (21 * (j / 21) + 15)) * mx1 (f (21 * (j / 21) + 16)) := Int.mul_le_mul a b (by omega) (by omega)
    have h2 : 1 * 1 ≤ mx1 (f (21 * (j / 21) + 15)) * mx1 (f (21 * (j / 21) + 16)) * mx1 (f (21 * (j / 21) + 17)) := Int.mul_le_mul (by omega) c (by omega) (by omega)
    have h3 : 1 * 1 ≤ mx1 (f (21 * (j / 21) + 15)) * mx1 (f (21 * (j / 21) + 16)) * mx1 (f (21 * (j / 21) + 17)) * mx1 (f (21 * (j / 21) + 18)) := Int.mul_le_mul (by omega) d (by omega) (by omega)
    unfold tnv
    rw [Int.one_mul]
    omega
  · by_cases d : j < 21 * s
    · rw [f1 j d]
      exact h j
    · rcases f2 j (by omega) with z | z
      · rw [z]
        omega
      · rw [z]
        exact h j
theorem wix_1 {u : Nat → Int} {k : Nat} (h : ∀ j, -1 ≤ u j) : ∀ j, -1 ≤ wix u k j := fun j => by
  have := h j
  unfold wix
  (repeat' split) <;> omega
theorem CHG_rwf {u A v ro : Nat → Int} {s : Nat} (C : CHK u A s) (x : CHG A s v) (W : RWF u ro s) (h : ∀ j, -1 ≤ A j) : RWF v ro s := ⟨CHG_uw C x W.1, W.2.1, CHG_2 x C.2.1, CHG_1 x h, W.2.2.2.2.1, CHG_h C x, W.2.2.2.2.2.2⟩
theorem brv_u {u v sr : Nat → Int} {k : Nat} (h : v (21 * k + 6) = u (21 * k + 6)) : brv v sr k = brv u sr k := by
  unfold brv
  rw [h]
theorem RBB_w {u v ro sr : Nat → Int} {s q : Nat} {g h : av_H} (B : RBB u ro (brv u sr) s g) (hq : q < s) (x : CHG (wix u q) s v) (u19 : u (21 * q + 19) = 0) (e : ∀ a, 95 ≤ a → a ≤ 106 → a ≠ 97 → a ≠ 98 → a ≠ 105 → a ≠ 106 → hA h a = hA g a) (e97 : hA h 97 = av_u1 (hA g 97) q 1) (e98 : hA h 98 = av_u1 (hA g 98) q 0) (e5 : hA h 105 = av_u1 (av_u1 (hA g 105) (3 * q + 1) 0) (3 * q + 2) 0) (e6 : hA h 106 = av_u1 (av_u1 (hA g 106) (3 * q + 1) 0) (3 * q + 2) 0) : RBB v ro (brv v sr) s h := by
  have cv : ∀ k o, k < s → o < 20 → ¬ (k = q ∧ (o = 4 ∨ o = 8 ∨ o = 9 ∨ o = 16 ∨ o = 17 ∨ o = 18)) → v (21 * k + o) = u (21 * k + o) := fun k o hk ho hn => (CHG_o x hk ho).trans (wix_o hn ho)
  obtain ⟨⟨b1, b2⟩, b3⟩ := B
  have wk := wix_k (u := u) (k := q)
  have z4 : v (21 * q + 4) = 1 := (CHG_o x hq (by omega)).trans wk.1
  have z8 : v (21 * q + 8) = 0 := (CHG_o x hq (by omega)).trans wk.2.1
  have z9 : v (21 * q + 9) = 0 := (CHG_o x hq (by omega)).trans wk.2.2.1
  have z16 : v (21 * q + 16) = 0 := (CHG_o x hq (by omega)).trans wk.2.2.2.1
  have z17 : v (21 * q + 17) = 0 := (CHG_o x hq (by omega)).trans wk.2.2.2.2.1
  have z18 : v (21 * q + 18) = 0 := (CHG_o x hq (by omega)).trans wk.2.2.2.2.2
  refine ⟨⟨fun k hk => ⟨?_, fun j hj => ?_⟩, fun j hj => ?_⟩, fun k hk => ⟨fun j hj => ?_, ?_⟩⟩
  · have r := (b1 k hk).1
    rw [e 96 (by omega) (by omega) (by omega) (by omega) (by omega) (by omega), e 99 (by omega) (by omega) (by omega) (by omega) (by omega) (by omega), e 100 (by omega) (by omega) (by omega) (by omega) (by omega) (by omega), e 101 (by omega) (by omega) (by omega) (by omega) (by omega) (by omega), e 102 (by omega) (by omega) (by omega) (by omega) (by omega) (by omega), e 103 (by omega) (by omega) (by omega) (by omega) (by omega) (by omega), cv k 0 hk (by omega) (by omega), cv k 5 hk (by omega) (by omega), cv k 3 hk (by omega) (by omega), cv k 1 hk (by omega) (by omega), cv k 2 hk (by omega) (by omega), brv_u (cv k 6 hk (by omega) (by omega))]
    refine ⟨r.1, ?_, r.2.2⟩
    rw [e97]
    by_cases c : k = q
    · subst c
      rw [u1_eq, z4]
    · rw [u1_ne c, cv k 4 hk (by omega) (by omega)]
      exact r.2.1
  · rw [e 104 (by omega) (by omega) (by omega) (by omega) (by omega) (by omega), show 21 * k + 10 + j = 21 * k + (10 + j) by omega, cv k (10 + j) hk (by omega) (by omega), show 21 * k + (10 + j) = 21 * k + 10 + j by omega]
    exact (b1 k hk).2 j hj
  · rw [e 95 (by omega) (by omega) (by omega) (by omega) (by omega) (by omega)]
    exact b2 j hj
  · have r := (b3 k hk).1 j hj
    rw [e5, e6]
    by_cases c : k = q ∧ 1 ≤ j
    · obtain ⟨c1, c2⟩ := c
      subst c1
      rcases (show j = 1 ∨ j = 2 by omega) with d | d <;> subst d
      · rw [u1_ne (by omega), u1_eq, u1_ne (by omega), u1_eq, show 21 * k + 7 + 1 = 21 * k + 8 by omega, show 21 * k + 15 + 1 = 21 * k + 16 by omega, z8, z16]
        exact ⟨rfl, Or.inl ⟨rfl, rfl⟩⟩
      · rw [u1_eq, u1_eq, show 21 * k + 7 + 2 = 21 * k + 9 by omega, show 21 * k + 15 + 2 = 21 * k + 17 by omega, z9, z17]
        exact ⟨rfl, Or.inl ⟨rfl, rfl⟩⟩
    · rw [u1_ne (by omega), u1_ne (by omega), u1_ne (by omega), u1_ne (by omega), show 21 * k + 7 + j = 21 * k + (7 + j) by omega, show 21 * k + 15 + j = 21 * k + (15 + j) by omega, cv k (7 + j) hk (by omega) (by omega), cv k (15 + j) hk (by omega) (by omega), show 21 * k + (7 + j) = 21 * k + 7 + j by omega, show 21 * k + (15 + j) = 21 * k + 15 + j by omega]
      exact r
  · rw [e98]
    by_cases c : k = q
    · subst c
      rw [u1_eq, z18, cv k 19 hk (by omega) (by omega), u19]
      exact Or.inl ⟨rfl, rfl, rfl⟩
    · rw [u1_ne c, cv k 18 hk (by omega) (by omega), cv k 19 hk (by omega) (by omega)]
      exact (b3 k hk).2
section
variable {sc : av_Sr} {cd : List (Nat × av_E)} {Q : Option av_V → av_H → Prop} {pc p' : Nat} {lv : av_L} {r' : List av_V} {g h : av_H} {n a m : Int}
theorem xm_ws {q l : Nat} {x v : Int} (hx : cd.lookup pc = some (av_q (.iastore))) (hp : pc + 1 = p') (I : IMF n a m h) (F : FM g h) (hk : hK h q = (20, l)) (ha : 97 ≤ q ∧ q ≤ 107 ∧ q ≠ 100) (hv : wlo q ≤ v ∧ v ≤ whi q) (hi : 0 ≤ x ∧ x < l ∧ (l : Int) < 2147483648) (hw : ∀ h', IMF n a m h' → FM g h' → h' = hwA h q x.toNat v → av_wp sc cd p' lv r' h' Q) : av_wp sc cd pc lv (.inl v :: .inl x :: .inr (.inr (.inl (some q))) :: r') h Q :=
  wq_as hx hp hk hi (hw _ ⟨IM_wW I.1 ha hv, I.2⟩ (FM_wA F (mA_in (by omega) (by omega))) rfl)
end
end
section
/-! LOST, WIRED, exactly: the class makes the changed case -/
set_option maxRecDepth 100000 in
set_option maxHeartbeats 4000000 in
theorem ct_32x {h : av_H} (L : LY h) {t c s : Nat} {cb : Int} (o : CO h t c s cb) (k : Int) (kr : 0 ≤ k ∧ k < (s : Int)) {Q : Option av_V → av_H → Prop} (hq : ∀ h' t' c' u', AL h h' 3 (4 + 42 * s) → CO h' t' c' s (cbv u' s) → hA h' c' = u' → CHG (lsx (hA h c) (Int.toNat k)) s u' → Q (some (.inr (.inr (.inl (some t'))))) h') : av_wp none cd_32 0 [some (.inr (.inr (.inl (some (t))))), some (.inl k), none] [] h Q := by
  refine gd_of (fun hg => ?_)
  have l122 : 121 < h.1 := ly_lt hg L (by omega)
  have s12 := co_s12 o
  have tl : t < h.1 := gd_lt hg (co_kt o) (by decide)
  have fin : ∀ (g : av_H), MH h g s → hA g h.1 = lsx (hA h c) (Int.toNat k) → av_wp none cd_32 41 [some (.inr (.inr (.inl (some (t))))), some (.inl k), some (.inr (.inr (.inl (some h.1))))] [] g Q := by
    intro g M eA
    refine av_wp_sqF ck_32 4 (pc' := 47) (lv' := [some (.inr (.inr (.inl (some (t))))), some (.inl k), some (.inr (.inr (.inl (some h.1))))]) (st' := [.inr (.inr (.inl (some (t)))), .inr (.inr (.inl (some h.1))), .inr (.inr (.inl (some g.1))), .inr (.inr (.inl (some g.1)))]) (h' := av_newO 1 4 g) rfl ?_
    have om := CO_fb hg L o (AL_fb M.1)
    have h1 : g.1 = h.1 + 1 := M.1.1
    have kq : ∀ q, q ≠ g.1 → hK (av_newO 1 4 g) q = hK g q := fun q hq => if_neg hq
    have fq : hF (av_newO 1 4 g) t 1 = (s : Int) := by
      show av_u1 g.2.2.2.2.1 g.1 (fun _ => 0) t 1 = _
      rw [show av_u1 g.2.2.2.2.1 g.1 (fun _ => 0) t = g.2.2.2.2.1 t from if_neg (by omega)]
      exact co_s om
    refine wq_gi (p' := 50) (ck_32 _ _ rfl) rfl (congrArg Prod.fst ((kq t (by omega)).trans (co_kt om))) rfl fq ?_
    refine wq_cv (p' := 53) (av_qc (.invokespecial 52) 27 2 1 1) 9 cd_27 [.inl (s : Int), .inr (.inr (.inl (some h.1)))] (g.1) 1 [some (.inr (.inr (.inl (some g.1)))), some (.inr (.inr (.inl (some h.1)))), some (.inl (s : Int)), none, none, none, none, none, none] (ck_32 _ _ rfl) rfl rfl pp_27 rfl rfl rfl (congrArg Prod.fst (show hK (av_newO 1 4 g) g.1 = (1, 0) from if_pos rfl)) rfl rfl rfl rfl ?_
    refine ct_27 (n := 21 * s) (s := s) (show hK (av_newO 1 4 g) g.1 = (1, 0) from if_pos rfl) (by show g.1 ≠ g.1 + 1; omega) (by show h.1 ≠ g.1 + 1; omega) ((kq h.1 (by omega)).trans M.2.1) s12 (by omega) (by omega) (fun j hj => ⟨(M.2.2.1 j).1, (M.2.2.1 j).2, fun z1 z2 => ?_⟩) _ rfl (fun f h5 f1 f2 N5 => ?_)
    · have y := M.2.2.2 (j / 21) (j % 21 - 15) (by omega)
      rw [show 21 * (j / 21) + 15 + (j % 21 - 15) = j by omega] at y
      exact y
    · show av_wp _ cd_32 53 [some (.inr (.inr (.inl (some (t))))), some (.inl k), some (.inr (.inr (.inl (some h.1))))] [.inr (.inr (.inl (some g.1)))] h5 _
      obtain ⟨x5, a5⟩ := nc_cx N5
      refine av_wp_ret (v := some (.inr (.inr (.inl (some g.1))))) rfl rfl rfl ?_
      have fb : ∀ j, f j = hA g h.1 j ∨ f j = 0 := fun j => by
        by_cases e : j < 21 * s
        · exact Or.inl (f1 j e)
        · rcases f2 j (by omega) with w | w
          · exact Or.inr w
          · exact Or.inl w.2
      have b1 : ∀ j, -1 ≤ f j ∧ f j ≤ 100000 := fun j => by
        rcases fb j with e | e
        · rw [e]; exact M.2.2.1 j
        · rw [e]; omega
      have b2 : ∀ k j, j < 4 → f (21 * k + 15 + j) ≤ 16 := fun k j hj => by
        rcases fb (21 * k + 15 + j) with e | e
        · rw [e]; exact M.2.2.2 k j hj
        · rw [e]; omega
      obtain ⟨x1, x2, x3, x4, x6, x7⟩ := x5
      refine hq h5 g.1 (g.1 + 1) (ctn f s) (AL_eq (AL_tr M.1 a5) rfl (by omega)) ⟨x1, x2, s12, ?_, ?_, x4, x6, Or.inr (Or.inr (by omega)), ?_⟩ x7 ⟨f, rfl, fun j hj => ?_, fun j hj => ?_⟩
      · rw [x3]
        unfold cbv
        rw [cbf_ct]
      · have z := cbv_b (s := s) (f := f) (fun q _ o h1 h2 => by have := b2 q (o - 15) (by omega); rw [show 21 * q + 15 + (o - 15) = 21 * q + o by omega] at this; exact this)
        unfold cbv at z ⊢
        rw [cbf_ct]
        exact z
      · rw [x7]
        exact ctn_v2 b1 b2
      · have y := f1 j hj
        rw [show hA (av_newO 1 4 g) h.1 = hA g h.1 from rfl, eA] at y
        exact y
      · rcases f2 j hj with w | w
        · exact Or.inl w
        · have y := w.2
          rw [show hA (av_newO 1 4 g) h.1 = hA g h.1 from rfl, eA] at y
          exact Or.inr y
  refine av_wp_sqF ck_32 1 (pc' := 1) (lv' := [some (.inr (.inr (.inl (some (t))))), some (.inl k), none]) (st' := [.inr (.inr (.inl (some (t))))]) (h' := h) rfl ?_
  refine wq_gr (p' := 4) (ck_32 _ _ rfl) rfl (congrArg Prod.fst (co_kt o)) rfl (co_c o) ?_
  refine wq_cl (p' := 7) (ck_32 _ _ rfl) rfl rfl (fun _ _ => rfl) rfl (co_kc o) ?_
  have M0 := MH_new o
  have e0 : hA (av_newN 20 (21 * s) (hA h c) h) h.1 = hA h c := newN_a
  generalize av_newN 20 (21 * s) (hA h c) h = g0 at M0 e0 ⊢
  have o0 := CO_fb hg L o (AL_fb M0.1)
  refine wq_ck (p' := 10) (ck_32 _ _ rfl) rfl M0.2.1 ?_
  refine av_wp_sqF ck_32 3 (pc' := 13) (lv' := [some (.inr (.inr (.inl (some (t))))), some (.inl k), some (.inr (.inr (.inl (some h.1))))]) (st' := [.inl k, .inr (.inr (.inl (some (t))))]) (h' := g0) rfl ?_
  refine wq_cv (p' := 16) (av_qc (.invokevirtual 40) 28 1 0 1) 2 cd_28 [.inl k] (t) 1 [some (.inr (.inr (.inl (some (t))))), some (.inl k)] (ck_32 _ _ rfl) rfl rfl pp_28 rfl rfl rfl (congrArg Prod.fst (co_kt o0)) rfl rfl rfl rfl ?_
  refine ct_28 o0 k (by omega) (fun v p => ?_)
  show av_wp _ cd_32 16 [some (.inr (.inr (.inl (some (t))))), some (.inl k), some (.inr (.inr (.inl (some h.1))))] [.inl v] g0 _
  refine wq_k1 (p' := 19) (ck_32 _ _ rfl) rfl ⟨by omega, by omega⟩ (fun c1 => ?_) (fun c1 => ?_)
  · have c1 : v = (0) := c1
    exfalso
    omega
  · have c1 : v ≠ (0) := c1
    refine av_wp_sqF ck_32 9 (pc' := 30) (lv' := [some (.inr (.inr (.inl (some (t))))), some (.inl k), some (.inr (.inr (.inl (some h.1))))]) (st' := [.inl (0), .inl (k * (21) + (15) + (3)), .inr (.inr (.inl (some h.1)))]) (h' := g0) rfl ?_
    refine wq_as (p' := 31) (ck_32 _ _ rfl) rfl M0.2.1 ⟨by omega, by omega, by omega⟩ ?_
    have M1 := MH_w (i := (k * (21) + (15) + (3)).toNat) (v := (0)) M0 (by omega)
    have e1 : hA (hwA g0 h.1 (k * (21) + (15) + (3)).toNat (0)) h.1 = av_u1 (hA h c) (k * (21) + (15) + (3)).toNat (0) := by rw [hA_wu, e0]
    generalize hwA g0 h.1 (k * (21) + (15) + (3)).toNat (0) = g1 at M1 e1 ⊢
    refine av_wp_sqF ck_32 7 (pc' := 40) (lv' := [some (.inr (.inr (.inl (some (t))))), some (.inl k), some (.inr (.inr (.inl (some h.1))))]) (st' := [.inl (1), .inl (k * (21) + (19)), .inr (.inr (.inl (some h.1)))]) (h' := g1) rfl ?_
    refine wq_as (p' := 41) (ck_32 _ _ rfl) rfl M1.2.1 ⟨by omega, by omega, by omega⟩ ?_
    refine fin _ (MH_w (i := (k * (21) + (19)).toNat) (v := (1)) M1 (by omega)) ?_
    rw [hA_wu, e1]
    funext j
    unfold lsx
    by_cases d : j = 21 * k.toNat + 19
    · rw [show (k * (21) + (19)).toNat = j by omega, u1_eq, if_neg (by omega), if_pos d]
    · rw [u1_ne (by omega)]
      by_cases b : j = 21 * k.toNat + 18
      · rw [show (k * (21) + (15) + (3)).toNat = j by omega, u1_eq, if_pos b]
      · rw [u1_ne (by omega), if_neg b, if_neg d]

set_option maxRecDepth 100000 in
set_option maxHeartbeats 4000000 in
theorem ct_33x {h : av_H} (L : LY h) {t c s : Nat} {cb : Int} (o : CO h t c s cb) (k : Int) (kr : 0 ≤ k ∧ k < (s : Int)) {Q : Option av_V → av_H → Prop} (hq : ∀ h' t' c' u', AL h h' 3 (4 + 42 * s) → CO h' t' c' s (cbv u' s) → hA h' c' = u' → CHG (wix (hA h c) (Int.toNat k)) s u' → Q (some (.inr (.inr (.inl (some t'))))) h') : av_wp none cd_33 0 [some (.inr (.inr (.inl (some (t))))), some (.inl k), none, none] [] h Q := by
  refine gd_of (fun hg => ?_)
  have l122 : 121 < h.1 := ly_lt hg L (by omega)
  have s12 := co_s12 o
  have tl : t < h.1 := gd_lt hg (co_kt o) (by decide)
  have fin : ∀ (g : av_H), MH h g s → hA g h.1 = wix (hA h c) (Int.toNat k) → av_wp none cd_33 65 [some (.inr (.inr (.inl (some (t))))), some (.inl k), some (.inr (.inr (.inl (some h.1)))), some (.inl (k * (21)))] [] g Q := by
    intro g M eA
    refine av_wp_sqF ck_33 4 (pc' := 71) (lv' := [some (.inr (.inr (.inl (some (t))))), some (.inl k), some (.inr (.inr (.inl (some h.1)))), some (.inl (k * (21)))]) (st' := [.inr (.inr (.inl (some (t)))), .inr (.inr (.inl (some h.1))), .inr (.inr (.inl (some g.1))), .inr (.inr (.inl (some g.1)))]) (h' := av_newO 1 4 g) rfl ?_
    have om := CO_fb hg L o (AL_fb M.1)
    have h1 : g.1 = h.1 + 1 := M.1.1
    have kq : ∀ q, q ≠ g.1 → hK (av_newO 1 4 g) q = hK g q := fun q hq => if_neg hq
    have fq : hF (av_newO 1 4 g) t 1 = (s : Int) := by
      show av_u1 g.2.2.2.2.1 g.1 (fun _ => 0) t 1 = _
      rw [show av_u1 g.2.2.2.2.1 g.1 (fun _ => 0) t = g.2.2.2.2.1 t from if_neg (by omega)]
      exact co_s om
    refine wq_gi (p' := 74) (ck_33 _ _ rfl) rfl (congrArg Prod.fst ((kq t (by omega)).trans (co_kt om))) rfl fq ?_
    refine wq_cv (p' := 77) (av_qc (.invokespecial 52) 27 2 1 1) 9 cd_27 [.inl (s : Int), .inr (.inr (.inl (some h.1)))] (g.1) 1 [some (.inr (.inr (.inl (some g.1)))), some (.inr (.inr (.inl (some h.1)))), some (.inl (s : Int)), none, none, none, none, none, none] (ck_33 _ _ rfl) rfl rfl pp_27 rfl rfl rfl (congrArg Prod.fst (show hK (av_newO 1 4 g) g.1 = (1, 0) from if_pos rfl)) rfl rfl rfl rfl ?_
    refine ct_27 (n := 21 * s) (s := s) (show hK (av_newO 1 4 g) g.1 = (1, 0) from if_pos rfl) (by show g.1 ≠ g.1 + 1; omega) (by show h.1 ≠ g.1 + 1; omega) ((kq h.1 (by omega)).trans M.2.1) s12 (by omega) (by omega) (fun j hj => ⟨(M.2.2.1 j).1, (M.2.2.1 j).2, fun z1 z2 => ?_⟩) _ rfl (fun f h5 f1 f2 N5 => ?_)
    · have y := M.2.2.2 (j / 21) (j % 21 - 15) (by omega)
      rw [show 21 * (j / 21) + 15 + (j % 21 - 15) = j by omega] at y
      exact y
    · show av_wp _ cd_33 77 [some (.inr (.inr (.inl (some (t))))), some (.inl k), some (.inr (.inr (.inl (some h.1)))), some (.inl (k * (21)))] [.inr (.inr (.inl (some g.1)))] h5 _
      obtain ⟨x5, a5⟩ := nc_cx N5
      refine av_wp_ret (v := some (.inr (.inr (.inl (some g.1))))) rfl rfl rfl ?_
      have fb : ∀ j, f j = hA g h.1 j ∨ f j = 0 := fun j => by
        by_cases e : j < 21 * s
        · exact Or.inl (f1 j e)
        · rcases f2 j (by omega) with w | w
          · exact Or.inr w
          · exact Or.inl w.2
      have b1 : ∀ j, -1 ≤ f j ∧ f j ≤ 100000 := fun j => by
        rcases fb j with e | e
        · rw [e]; exact M.2.2.1 j
        · rw [e]; omega
      have b2 : ∀ k j, j < 4 → f (21 * k + 15 + j) ≤ 16 := fun k j hj => by
        rcases fb (21 * k + 15 + j) with e | e
        · rw [e]; exact M.2.2.2 k j hj
        · rw [e]; omega
      obtain ⟨x1, x2, x3, x4, x6, x7⟩ := x5
      refine hq h5 g.1 (g.1 + 1) (ctn f s) (AL_eq (AL_tr M.1 a5) rfl (by omega)) ⟨x1, x2, s12, ?_, ?_, x4, x6, Or.inr (Or.inr (by omega)), ?_⟩ x7 ⟨f, rfl, fun j hj => ?_, fun j hj => ?_⟩
      · rw [x3]
        unfold cbv
        rw [cbf_ct]
      · have z := cbv_b (s := s) (f := f) (fun q _ o h1 h2 => by have := b2 q (o - 15) (by omega); rw [show 21 * q + 15 + (o - 15) = 21 * q + o by omega] at this; exact this)
        unfold cbv at z ⊢
        rw [cbf_ct]
        exact z
      · rw [x7]
        exact ctn_v2 b1 b2
      · have y := f1 j hj
        rw [show hA (av_newO 1 4 g) h.1 = hA g h.1 from rfl, eA] at y
        exact y
      · rcases f2 j hj with w | w
        · exact Or.inl w
        · have y := w.2
          rw [show hA (av_newO 1 4 g) h.1 = hA g h.1 from rfl, eA] at y
          exact Or.inr y
  refine av_wp_sqF ck_33 1 (pc' := 1) (lv' := [some (.inr (.inr (.inl (some (t))))), some (.inl k), none, none]) (st' := [.inr (.inr (.inl (some (t))))]) (h' := h) rfl ?_
  refine wq_gr (p' := 4) (ck_33 _ _ rfl) rfl (congrArg Prod.fst (co_kt o)) rfl (co_c o) ?_
  refine wq_cl (p' := 7) (ck_33 _ _ rfl) rfl rfl (fun _ _ => rfl) rfl (co_kc o) ?_
  have M0 := MH_new o
  have e0 : hA (av_newN 20 (21 * s) (hA h c) h) h.1 = hA h c := newN_a
  generalize av_newN 20 (21 * s) (hA h c) h = g0 at M0 e0 ⊢
  have o0 := CO_fb hg L o (AL_fb M0.1)
  refine wq_ck (p' := 10) (ck_33 _ _ rfl) rfl M0.2.1 ?_
  refine av_wp_sqF ck_33 3 (pc' := 13) (lv' := [some (.inr (.inr (.inl (some (t))))), some (.inl k), some (.inr (.inr (.inl (some h.1)))), none]) (st' := [.inl k, .inr (.inr (.inl (some (t))))]) (h' := g0) rfl ?_
  refine wq_cv (p' := 16) (av_qc (.invokevirtual 40) 28 1 0 1) 2 cd_28 [.inl k] (t) 1 [some (.inr (.inr (.inl (some (t))))), some (.inl k)] (ck_33 _ _ rfl) rfl rfl pp_28 rfl rfl rfl (congrArg Prod.fst (co_kt o0)) rfl rfl rfl rfl ?_
  refine ct_28 o0 k (by omega) (fun v p => ?_)
  show av_wp _ cd_33 16 [some (.inr (.inr (.inl (some (t))))), some (.inl k), some (.inr (.inr (.inl (some h.1)))), none] [.inl v] g0 _
  refine wq_k1 (p' := 19) (ck_33 _ _ rfl) rfl ⟨by omega, by omega⟩ (fun c1 => ?_) (fun c1 => ?_)
  · have c1 : v = (0) := c1
    exfalso
    omega
  · have c1 : v ≠ (0) := c1
    refine av_wp_sqF ck_33 9 (pc' := 29) (lv' := [some (.inr (.inr (.inl (some (t))))), some (.inl k), some (.inr (.inr (.inl (some h.1)))), some (.inl (k * (21)))]) (st' := [.inl (1), .inl (k * (21) + (4)), .inr (.inr (.inl (some h.1)))]) (h' := g0) rfl ?_
    refine wq_as (p' := 30) (ck_33 _ _ rfl) rfl M0.2.1 ⟨by omega, by omega, by omega⟩ ?_
    have M1 := MH_w (i := (k * (21) + (4)).toNat) (v := (1)) M0 (by omega)
    have e1 : hA (hwA g0 h.1 (k * (21) + (4)).toNat (1)) h.1 = (av_u1 (hA h c) (k * (21) + (4)).toNat (1)) := by rw [hA_wu, e0]
    generalize hwA g0 h.1 (k * (21) + (4)).toNat (1) = g1 at M1 e1 ⊢
    refine av_wp_sqF ck_33 7 (pc' := 38) (lv' := [some (.inr (.inr (.inl (some (t))))), some (.inl k), some (.inr (.inr (.inl (some h.1)))), some (.inl (k * (21)))]) (st' := [.inl (0), .inl (k * (21) + (7) + (1)), .inr (.inr (.inl (some h.1)))]) (h' := g1) rfl ?_
    refine wq_as (p' := 39) (ck_33 _ _ rfl) rfl M1.2.1 ⟨by omega, by omega, by omega⟩ ?_
    have M2 := MH_w (i := (k * (21) + (7) + (1)).toNat) (v := (0)) M1 (by omega)
    have e2 : hA (hwA g1 h.1 (k * (21) + (7) + (1)).toNat (0)) h.1 = (av_u1 (av_u1 (hA h c) (k * (21) + (4)).toNat (1)) (k * (21) + (7) + (1)).toNat (0)) := by rw [hA_wu, e1]
    generalize hwA g1 h.1 (k * (21) + (7) + (1)).toNat (0) = g2 at M2 e2 ⊢
    refine av_wp_sqF ck_33 7 (pc' := 47) (lv' := [some (.inr (.inr (.inl (some (t))))), some (.inl k), some (.inr (.inr (.inl (some h.1)))), some (.inl (k * (21)))]) (st' := [.inl (0), .inl (k * (21) + (7) + (2)), .inr (.inr (.inl (some h.1)))]) (h' := g2) rfl ?_
    refine wq_as (p' := 48) (ck_33 _ _ rfl) rfl M2.2.1 ⟨by omega, by omega, by omega⟩ ?_
    have M3 := MH_w (i := (k * (21) + (7) + (2)).toNat) (v := (0)) M2 (by omega)
    have e3 : hA (hwA g2 h.1 (k * (21) + (7) + (2)).toNat (0)) h.1 = (av_u1 (av_u1 (av_u1 (hA h c) (k * (21) + (4)).toNat (1)) (k * (21) + (7) + (1)).toNat (0)) (k * (21) + (7) + (2)).toNat (0)) := by rw [hA_wu, e2]
    generalize hwA g2 h.1 (k * (21) + (7) + (2)).toNat (0) = g3 at M3 e3 ⊢
    refine av_wp_sqF ck_33 12 (pc' := 62) (lv' := [some (.inr (.inr (.inl (some (t))))), some (.inl k), some (.inr (.inr (.inl (some h.1)))), some (.inl (k * (21)))]) (st' := [.inl (0), .inl (k * (21) + (15) + (4)), .inl (k * (21) + (15) + (1)), .inr (.inr (.inl (some h.1)))]) (h' := g3) rfl ?_
    refine wq_cs (p' := 65) (av_qc (.invokestatic 55) 221 4 2 10) 5 cd_221 [.inr (.inr (.inl (some h.1))), .inl (k * (21) + (15) + (1)), .inl (k * (21) + (15) + (4)), .inl (0)] [.inl (0), .inl (k * (21) + (15) + (4)), .inl (k * (21) + (15) + (1)), .inr (.inr (.inl (some h.1)))] [some (.inr (.inr (.inl (some h.1)))), some (.inl (k * (21) + (15) + (1))), some (.inl (k * (21) + (15) + (4))), some (.inl (0)), none] (ck_33 _ _ rfl) rfl rfl pp_221 (fun _ => rfl) rfl rfl ?_
    refine ct_221 (n := 21 * s) (k * (21) + (15) + (1)).toNat (k * (21) + (15) + (4)).toNat (by omega) (by omega) M3.2.1 (by omega) (by omega) (by omega) ?_
    refine fin _ (MH_fil M3) ?_
    funext j
    rw [fil_s, e3]
    unfold wix
    by_cases d : 21 * k.toNat + 16 ≤ j ∧ j < 21 * k.toNat + 19
    · rw [if_pos (by omega), if_neg (by omega), if_pos (by omega)]
    · rw [if_neg (by omega)]
      by_cases b2 : j = 21 * k.toNat + 9
      · rw [show (k * (21) + (7) + (2)).toNat = j by omega, u1_eq, if_neg (by omega), if_pos (by omega)]
      · rw [u1_ne (by omega)]
        by_cases b1 : j = 21 * k.toNat + 8
        · rw [show (k * (21) + (7) + (1)).toNat = j by omega, u1_eq, if_neg (by omega), if_pos (by omega)]
        · rw [u1_ne (by omega)]
          by_cases b0 : j = 21 * k.toNat + 4
          · rw [show (k * (21) + (4)).toNat = j by omega, u1_eq, if_pos b0]
          · rw [u1_ne (by omega), if_neg b0, if_neg (by omega)]

set_option maxRecDepth 100000 in
set_option maxHeartbeats 4000000 in
theorem cx_122 {h : av_H} {U : Nat → Nat → Int} {S : Nat → Nat} {n : Int} {sr nd : Nat → Int} (C : CJ U S n sr nd h) {t c s : Nat} {cb : Int} (o : CO h t c s cb) {u : Nat → Int} (hu : hA h c = u) (m : Int) (qm : 0 ≤ m ∧ m ≤ 15) (mn : m ≤ n) (GM : ∀ k, k < s → -1 ≤ u (21 * k + 6) ∧ u (21 * k + 6) < m) (SE : ∀ ro bar : Nat → Int, (∀ k, 0 ≤ bar k ∧ bar k ≤ 1) → -1 ≤ ro 8 → SEA u ro bar s) (l : Int) (ql : -2147483648 ≤ l ∧ l ≤ 2147483647) (CR : CRT U S n (hF h 3 4) (fun k => hA h (6 + k))) (SU : SUA U S n (hF h 3 4) (fun k => hA h (6 + k)) sr) {Q : Option av_V → av_H → Prop} (hq0 : (cb = -1 ∨ l < 0 ∨ hF h 3 4 ≤ l) → Q (some (.inl (-2))) h) (hq1 : cb ≠ -1 → (0 ≤ l ∧ l < hF h 3 4) → ∀ (v : Int) h' sr' nd', CJ U S n sr' nd' h' → Fr h h' → SUA U S n (hF h 3 4) (fun k => hA h (6 + k)) sr' → v = ta (fun q => (bgn u (hA h (6 + Int.toNat l)) (brv u (srt U S (hA h (6 + Int.toNat l)) (Int.toNat m))) s q).2.2) (Int.toNat cb) 0 → Q (some (.inl v)) h') : av_wp none cd_122 0 [some (.inr (.inr (.inl (some (0))))), some (.inr (.inr (.inl (some (t))))), some (.inl m), some (.inl l)] [] h Q := by
  have F := Fr_rf h
  have nr := C.2.1.2.1
  have s12 := co_s12 o
  have cbr := co_cbr o
  refine av_wp_sqF ck_122 1 (pc' := 1) (lv' := [some (.inr (.inr (.inl (some (0))))), some (.inr (.inr (.inl (some (t))))), some (.inl m), some (.inl l)]) (st' := [.inr (.inr (.inl (some (0))))]) (h' := h) rfl ?_
  refine wq_gr (p' := 4) (ck_122 _ _ rfl) rfl (congrArg Prod.fst (ly_k C.1.1 0 rfl)) rfl (ly_g C.1.1 0 5 26 rfl) ?_
  refine av_wp_sqF ck_122 1 (pc' := 5) (lv' := [some (.inr (.inr (.inl (some (0))))), some (.inr (.inr (.inl (some (t))))), some (.inl m), some (.inl l)]) (st' := [.inr (.inr (.inl (some (0)))), .inr (.inr (.inl (some (26))))]) (h' := h) rfl ?_
  refine wq_gr (p' := 8) (ck_122 _ _ rfl) rfl (congrArg Prod.fst (ly_k C.1.1 0 rfl)) rfl (ly_g C.1.1 0 5 26 rfl) ?_
  refine wq_gr (p' := 11) (ck_122 _ _ rfl) rfl (congrArg Prod.fst (ly_k C.1.1 26 rfl)) rfl (ly_g C.1.1 26 1 35 rfl) ?_
  refine av_wp_sqF ck_122 3 (pc' := 14) (lv' := [some (.inr (.inr (.inl (some (0))))), some (.inr (.inr (.inl (some (t))))), some (.inl m), some (.inl l)]) (st' := [.inl l, .inl m, .inr (.inr (.inl (some (t)))), .inr (.inr (.inl (some (35)))), .inr (.inr (.inl (some (26))))]) (h' := h) rfl ?_
  refine wq_cv (p' := 17) (av_qc (.invokevirtual 262) 51 4 0 3) 5 cd_51 [.inl l, .inl m, .inr (.inr (.inl (some (t)))), .inr (.inr (.inl (some (35))))] (26) 3 [some (.inr (.inr (.inl (some (26))))), some (.inr (.inr (.inl (some (35))))), some (.inr (.inr (.inl (some (t))))), some (.inl m), some (.inl l)] (ck_122 _ _ rfl) rfl rfl pp_51 rfl rfl rfl (congrArg Prod.fst (ly_k C.1.1 26 rfl)) rfl rfl rfl rfl ?_
  refine cz_51 C (Or.inl rfl) o hu m (by omega) mn CR.1 GM CR.2.1 CR.2.2.1 l (by omega) SU (fun l h1 h2 => (rl_8 (CR.2.2.2 l h1 h2)).1) (fun z1 => ?_) (fun z1 z2 z3 h4 r5 n6 a7 C8 F9 U10 E11 Z12 T13 => ?_)
  · show av_wp _ cd_122 17 [some (.inr (.inr (.inl (some (0))))), some (.inr (.inr (.inl (some (t))))), some (.inl m), some (.inl l)] [.inl (0)] h _
    refine av_wp_sqF ck_122 2 (pc' := 22) (lv' := [some (.inr (.inr (.inl (some (0))))), some (.inr (.inr (.inl (some (t))))), some (.inl m), some (.inl l)]) (st' := [.inl (-2)]) (h' := h) rfl ?_
    refine av_wp_ret (v := some (.inl (-2))) (ck_122 _ _ rfl) rfl rfl ?_
    exact hq0 (by omega)
  · have X14 : SQ U S n r5 n6 t c s (6 + Int.toNat l) cb u (hA h (6 + Int.toNat l)) (brv u (srt U S (hA h (6 + Int.toNat l)) (Int.toNat m))) a7 (hF h4 35 13) (hF h4 35 14) (hF h4 35 15) (hA h4 31 0) (hA h4 31 1) (hA h4 31 2) (hA h4 31 3) (hA h4 31 4) h h4 := ⟨C8, E11, T13, Z12, F9.1, rfl, rfl, rfl, rfl, rfl⟩
    have G15 := SE (hA h (6 + Int.toNat l)) (brv u (srt U S (hA h (6 + Int.toNat l)) (Int.toNat m))) (brv_b u (srt U S (hA h (6 + Int.toNat l)) (Int.toNat m))) (rl_8 (CR.2.2.2 l (by omega) (by omega))).1
    have H16 : ∀ x : Int, 0 ≤ x → x ≤ 1023 → (bgn u (hA h (6 + Int.toNat l)) (brv u (srt U S (hA h (6 + Int.toNat l)) (Int.toNat m))) s x).2.2 = 9999 ∨ (0 ≤ (bgn u (hA h (6 + Int.toNat l)) (brv u (srt U S (hA h (6 + Int.toNat l)) (Int.toNat m))) s x).2.2 ∧ (bgn u (hA h (6 + Int.toNat l)) (brv u (srt U S (hA h (6 + Int.toNat l)) (Int.toNat m))) s x).2.2 < 9999) := fun x h0 h1 => bgn_0 (HBd_g (x := x) G15.2.2.2.1 (fun q hq i hi => arr_0 (by omega)) ⟨h0, h1⟩)
    show av_wp _ cd_122 17 [some (.inr (.inr (.inl (some (0))))), some (.inr (.inr (.inl (some (t))))), some (.inl m), some (.inl l)] [.inl (1)] h4 _
    refine av_wp_sqF ck_122 2 (pc' := 24) (lv' := [some (.inr (.inr (.inl (some (0))))), some (.inr (.inr (.inl (some (t))))), some (.inl m), some (.inl l)]) (st' := [.inr (.inr (.inl (some (0))))]) (h' := h4) rfl ?_
    refine wq_gr (p' := 27) (ck_122 _ _ rfl) rfl (congrArg Prod.fst (ly_k C8.1.1 0 rfl)) rfl (ly_g C8.1.1 0 5 26 rfl) ?_
    refine wq_cv (p' := 30) (av_qc (.invokevirtual 207) 56 0 0 3) 2 cd_56 [] (26) 3 [some (.inr (.inr (.inl (some (26))))), none] (ck_122 _ _ rfl) rfl rfl pp_56 rfl rfl rfl (congrArg Prod.fst (ly_k C8.1.1 26 rfl)) rfl rfl rfl rfl ?_
    refine cx_56 X14 G15 H16 (by omega) (fun h17 a18 m19 m20 m21 t22 t23 t24 t25 t26 X27 Y28 => ?_)
    show av_wp _ cd_122 30 [some (.inr (.inr (.inl (some (0))))), some (.inr (.inr (.inl (some (t))))), some (.inl m), some (.inl l)] [] h17 _
    refine av_wp_sqF ck_122 1 (pc' := 31) (lv' := [some (.inr (.inr (.inl (some (0))))), some (.inr (.inr (.inl (some (t))))), some (.inl m), some (.inl l)]) (st' := [.inr (.inr (.inl (some (0))))]) (h' := h17) rfl ?_
    refine wq_gr (p' := 34) (ck_122 _ _ rfl) rfl (congrArg Prod.fst (ly_k X27.1.1.1 0 rfl)) rfl (ly_g X27.1.1.1 0 5 26 rfl) ?_
    refine wq_gr (p' := 37) (ck_122 _ _ rfl) rfl (congrArg Prod.fst (ly_k X27.1.1.1 26 rfl)) rfl (ly_g X27.1.1.1 26 8 31 rfl) ?_
    refine av_wp_sqF ck_122 1 (pc' := 38) (lv' := [some (.inr (.inr (.inl (some (0))))), some (.inr (.inr (.inl (some (t))))), some (.inl m), some (.inl l)]) (st' := [.inl (0), .inr (.inr (.inl (some (31))))]) (h' := h17) rfl ?_
    refine wq_al (p' := 39) (n := 5) (ck_122 _ _ rfl) rfl (ly_k X27.1.1.1 31 rfl) (by omega) (X27.2.2.2.2.2.1) ?_
    refine av_wp_ret (v := some (.inl t22)) (ck_122 _ _ rfl) rfl rfl ?_
    exact hq1 (by omega) (by omega) _ h17 _ _ X27.1 X27.2.2.2.2.1 U10 Y28.1
end
section
/-! LOST, WIRED, exactly: the class -/
set_option maxRecDepth 100000 in
set_option maxHeartbeats 4000000 in
theorem cx_120 {h : av_H} {U : Nat → Nat → Int} {S : Nat → Nat} {n : Int} {sr nd : Nat → Int} (C : CJ U S n sr nd h) (k : Int) (qk : -2147483648 ≤ k ∧ k ≤ 2147483647) (l : Int) (ql : -2147483648 ≤ l ∧ l ≤ 2147483647) (q : Int) (qq : -2147483648 ≤ q ∧ q ≤ 2147483647) (CR : CRT U S n (hF h 3 4) (fun k => hA h (6 + k))) (SU : SUA U S n (hF h 3 4) (fun k => hA h (6 + k)) sr) (CB : ∀ i : Nat, (i : Int) < n → CWB (U i) (S i)) {Q : Option av_V → av_H → Prop} (hq : ∀ (v : Int) h1 h' a b sr' nd', a ≤ 3 → b ≤ 508 → AL h h1 a b → CJ U S n sr' nd' h' → Fr h1 h' → SUA U S n (hF h 3 4) (fun k => hA h (6 + k)) sr' → RSC ((0 ≤ k ∧ k < n) ∧ (0 ≤ l ∧ l < hF h 3 4) ∧ (0 ≤ q ∧ q < (S (Int.toNat k) : Int)) ∧ U (Int.toNat k) (21 * (Int.toNat q) + 4) ≤ 1) (lsx (U (Int.toNat k)) (Int.toNat q)) (S (Int.toNat k)) (fun u => lcv u (hA h (6 + Int.toNat l)) (brv u (srt U S (hA h (6 + Int.toNat l)) (Int.toNat k))) (S (Int.toNat k))) v → Q (some (.inl v)) h') : av_wp none cd_120 0 [some (.inr (.inr (.inl (some (0))))), some (.inl k), some (.inl l), some (.inl q), none] [] h Q := by
  have F := Fr_rf h
  have nr := C.2.1.2.1
  refine gd_of (fun hg => ?_)
  refine av_wp_sqF ck_120 1 (pc' := 1) (lv' := [some (.inr (.inr (.inl (some (0))))), some (.inl k), some (.inl l), some (.inl q), none]) (st' := [.inr (.inr (.inl (some (0))))]) (h' := h) rfl ?_
  refine wq_gr (p' := 4) (ck_120 _ _ rfl) rfl (congrArg Prod.fst (ly_k C.1.1 0 rfl)) rfl (ly_g C.1.1 0 1 3 rfl) ?_
  refine av_wp_sqF ck_120 1 (pc' := 5) (lv' := [some (.inr (.inr (.inl (some (0))))), some (.inl k), some (.inl l), some (.inl q), none]) (st' := [.inl k, .inr (.inr (.inl (some (3))))]) (h' := h) rfl ?_
  refine wq_cv (p' := 8) (av_qc (.invokevirtual 96) 69 1 0 5) 2 cd_69 [.inl k] (3) 5 [some (.inr (.inr (.inl (some (3))))), some (.inl k)] (ck_120 _ _ rfl) rfl rfl pp_69 rfl rfl rfl (congrArg Prod.fst (ly_k C.1.1 3 rfl)) rfl rfl rfl rfl ?_
  refine cz_69 C (k) (by omega) (fun z1 => ?_) (fun z1 z2 t3 c4 y5 y6 => ?_)
  · show av_wp _ cd_120 8 [some (.inr (.inr (.inl (some (0))))), some (.inl k), some (.inl l), some (.inl q), none] [.inr (.inr (.inl none))] h _
    refine av_wp_sqF ck_120 4 (pc' := 37) (lv' := [some (.inr (.inr (.inl (some (0))))), some (.inl k), some (.inl l), some (.inl q), some (.inr (.inr (.inl none)))]) (st' := [.inl (-2)]) (h' := h) rfl ?_
    refine av_wp_ret (v := some (.inl (-2))) (ck_120 _ _ rfl) rfl rfl ?_
    exact hq _ h h 0 0 _ _ (by omega) (by omega) (AL_0 h) C F SU (Or.inl ⟨by omega, rfl⟩)
  · have g7 := co_s12 y5
    have g8 := co_cbr y5
    show av_wp _ cd_120 8 [some (.inr (.inr (.inl (some (0))))), some (.inl k), some (.inl l), some (.inl q), none] [.inr (.inr (.inl (some (t3))))] h _
    refine av_wp_sqF ck_120 5 (pc' := 18) (lv' := [some (.inr (.inr (.inl (some (0))))), some (.inl k), some (.inl l), some (.inl q), some (.inr (.inr (.inl (some (t3)))))]) (st' := [.inl q, .inr (.inr (.inl (some (t3))))]) (h' := h) rfl ?_
    refine wq_cv (p' := 21) (av_qc (.invokevirtual 136) 28 1 0 1) 2 cd_28 [.inl q] (t3) 1 [some (.inr (.inr (.inl (some (t3))))), some (.inl q)] (ck_120 _ _ rfl) rfl rfl pp_28 rfl rfl rfl (congrArg Prod.fst (co_kt y5)) rfl rfl rfl rfl ?_
    refine ct_28 y5 (q) (by omega) (fun v9 p10 => ?_)
    show av_wp _ cd_120 21 [some (.inr (.inr (.inl (some (0))))), some (.inl k), some (.inl l), some (.inl q), some (.inr (.inr (.inl (some (t3)))))] [.inl v9] h _
    refine wq_k1 (p' := 24) (ck_120 _ _ rfl) rfl ⟨by omega, by omega⟩ (fun c11 => ?_) (fun c12 => ?_)
    · have c11 : v9 = (0) := c11
      refine av_wp_sqF ck_120 1 (pc' := 37) (lv' := [some (.inr (.inr (.inl (some (0))))), some (.inl k), some (.inl l), some (.inl q), some (.inr (.inr (.inl (some (t3)))))]) (st' := [.inl (-2)]) (h' := h) rfl ?_
      refine av_wp_ret (v := some (.inl (-2))) (ck_120 _ _ rfl) rfl rfl ?_
      exact hq _ h h 0 0 _ _ (by omega) (by omega) (AL_0 h) C F SU (Or.inl ⟨by omega, rfl⟩)
    · have c12 : v9 ≠ (0) := c12
      refine av_wp_sqF ck_120 3 (pc' := 28) (lv' := [some (.inr (.inr (.inl (some (0))))), some (.inl k), some (.inl l), some (.inl q), some (.inr (.inr (.inl (some (t3)))))]) (st' := [.inl (4), .inl q, .inr (.inr (.inl (some (t3))))]) (h' := h) rfl ?_
      refine wq_cv (p' := 31) (av_qc (.invokevirtual 139) 29 2 0 1) 3 cd_29 [.inl (4), .inl q] (t3) 1 [some (.inr (.inr (.inl (some (t3))))), some (.inl q), some (.inl (4))] (ck_120 _ _ rfl) rfl rfl pp_29 rfl rfl rfl (congrArg Prod.fst (co_kt y5)) rfl rfl rfl rfl ?_
      obtain ⟨v13, e14⟩ : ∃ v, (U (Int.toNat (k))) (21 * Int.toNat (q) + 4) = v := ⟨_, rfl⟩
      have g15 := co_v y5 (21 * Int.toNat (q) + 4)
      rw [y6, e14] at g15
      refine xc_29 y5 (q) (by omega) 4 (by omega) rfl ((congrFun y6 _).trans e14) ?_
      show av_wp _ cd_120 31 [some (.inr (.inr (.inl (some (0))))), some (.inl k), some (.inl l), some (.inl q), some (.inr (.inr (.inl (some (t3)))))] [.inl v13] h _
      refine av_wp_sqF ck_120 1 (pc' := 32) (lv' := [some (.inr (.inr (.inl (some (0))))), some (.inl k), some (.inl l), some (.inl q), some (.inr (.inr (.inl (some (t3)))))]) (st' := [.inl (1), .inl v13]) (h' := h) rfl ?_
      refine wq_k2 (p' := 35) (ck_120 _ _ rfl) rfl ⟨by omega, by omega⟩ ⟨by omega, by omega⟩ (fun c16 => ?_) (fun c17 => ?_)
      · have c16 : v13 ≤ (1) := c16
        refine av_wp_sqF ck_120 3 (pc' := 42) (lv' := [some (.inr (.inr (.inl (some (0))))), some (.inl k), some (.inl l), some (.inl q), some (.inr (.inr (.inl (some (t3)))))]) (st' := [.inl q, .inr (.inr (.inl (some (t3)))), .inr (.inr (.inl (some (0))))]) (h' := h) rfl ?_
        refine wq_cv (p' := 45) (av_qc (.invokevirtual 252) 32 1 0 1) 3 cd_32 [.inl q] (t3) 1 [some (.inr (.inr (.inl (some (t3))))), some (.inl q), none] (ck_120 _ _ rfl) rfl rfl pp_32 rfl rfl rfl (congrArg Prod.fst (co_kt y5)) rfl rfl rfl rfl ?_
        refine ct_32x C.1.1 y5 (q) (by omega) (fun h18 t19 c20 u21 A22 o23 e24 x25 => ?_)
        rw [y6] at x25
        have C26 := CJ_al hg C A22
        have K27 := CHK_l (k := (Int.toNat q)) (CR.1 (Int.toNat k) (by omega)).1 (CR.1 (Int.toNat k) (by omega)).2.2.2.2.1 (CB (Int.toNat k) (by omega))
        have e34 : hF h18 3 4 = hF h 3 4 := (CF0_al hg C.1.1 A22).2.1.2.1
        have e6 : ∀ l, l < 8 → hA h18 (6 + l) = hA h (6 + l) := fun l hl => (CF0_al hg C.1.1 A22).2.2.2.1 _ (by omega) (by omega)
        have g28 := ic_lc C.1
        have g28c := co_cbr o23
        show av_wp _ cd_120 45 [some (.inr (.inr (.inl (some (0))))), some (.inl k), some (.inl l), some (.inl q), some (.inr (.inr (.inl (some (t3)))))] [.inr (.inr (.inl (some (t19)))), .inr (.inr (.inl (some (0))))] h18 _
        refine av_wp_sqF ck_120 2 (pc' := 47) (lv' := [some (.inr (.inr (.inl (some (0))))), some (.inl k), some (.inl l), some (.inl q), some (.inr (.inr (.inl (some (t3)))))]) (st' := [.inl l, .inl k, .inr (.inr (.inl (some (t19)))), .inr (.inr (.inl (some (0))))]) (h' := h18) rfl ?_
        refine wq_cv (p' := 50) (av_qc (.invokevirtual 255) 122 3 0 7) 4 cd_122 [.inl l, .inl k, .inr (.inr (.inl (some (t19))))] (0) 7 [some (.inr (.inr (.inl (some (0))))), some (.inr (.inr (.inl (some (t19))))), some (.inl k), some (.inl l)] (ck_120 _ _ rfl) rfl rfl pp_122 rfl rfl rfl (congrArg Prod.fst (ly_k C26.1.1 0 rfl)) rfl rfl rfl rfl ?_
        refine cx_122 C26 o23 e24 (k) (by omega) (by omega) (fun q hq => by have w := (CR.1 (Int.toNat k) (by omega)).2.2.1 q hq; rw [CHG_o x25 hq (by omega), (K27.1 q hq).2.2.2.2.2.2.1]; exact ⟨w.1, by omega⟩) (fun ro bar hb r8 => CHG_sea K27 x25 hb r8) (l) (by omega) (by rw [e34]; exact CRT_c CR (by omega) e6) (by rw [e34]; exact SUA_c SU (fun l hl _ => e6 l hl)) (fun z29 => ?_) (fun z29 z30 v31 h32 r33 n34 C35 F36 U37 p38 => ?_)
        · rw [e34] at z29
          show av_wp _ cd_120 50 [some (.inr (.inr (.inl (some (0))))), some (.inl k), some (.inl l), some (.inl q), some (.inr (.inr (.inl (some (t3)))))] [.inl (-2)] h18 _
          refine av_wp_ret (v := some (.inl (-2))) (ck_120 _ _ rfl) rfl rfl ?_
          have q1 := ic_lc C.1
          by_cases cc : 0 ≤ l ∧ l < hF h 3 4
          · exact hq _ h18 h18 3 (4 + 42 * S (Int.toNat k)) _ _ (by omega) (by omega) A22 C26 (Fr_rf _) SU (Or.inr ⟨by omega, u21, x25, by show _ = lcv _ _ _ _; unfold lcv; rw [if_pos (by omega)]⟩)
          · exact hq _ h18 h18 3 (4 + 42 * S (Int.toNat k)) _ _ (by omega) (by omega) A22 C26 (Fr_rf _) SU (Or.inl ⟨by omega, rfl⟩)
        · rw [e34] at z30
          show av_wp _ cd_120 50 [some (.inr (.inr (.inl (some (0))))), some (.inl k), some (.inl l), some (.inl q), some (.inr (.inr (.inl (some (t3)))))] [.inl v31] h32 _
          refine av_wp_ret (v := some (.inl v31)) (ck_120 _ _ rfl) rfl rfl ?_
          rw [e6 (Int.toNat l) (by omega)] at p38
          rw [e34] at U37
          exact hq _ h18 h32 3 (4 + 42 * S (Int.toNat k)) _ _ (by omega) (by omega) A22 C35 F36 (SUA_c U37 (fun l hl _ => (e6 l hl).symm)) (Or.inr ⟨by omega, u21, x25, by show _ = lcv _ _ _ _; unfold lcv; rw [if_neg (by omega)]; exact p38⟩)
      · have c17 : (1) < v13 := c17
        refine av_wp_sqF ck_120 1 (pc' := 37) (lv' := [some (.inr (.inr (.inl (some (0))))), some (.inl k), some (.inl l), some (.inl q), some (.inr (.inr (.inl (some (t3)))))]) (st' := [.inl (-2)]) (h' := h) rfl ?_
        refine av_wp_ret (v := some (.inl (-2))) (ck_120 _ _ rfl) rfl rfl ?_
        exact hq _ h h 0 0 _ _ (by omega) (by omega) (AL_0 h) C F SU (Or.inl ⟨by omega, rfl⟩)

set_option maxRecDepth 100000 in
set_option maxHeartbeats 4000000 in
theorem cx_121 {h : av_H} {U : Nat → Nat → Int} {S : Nat → Nat} {n : Int} {sr nd : Nat → Int} (C : CJ U S n sr nd h) (k : Int) (qk : -2147483648 ≤ k ∧ k ≤ 2147483647) (l : Int) (ql : -2147483648 ≤ l ∧ l ≤ 2147483647) (q : Int) (qq : -2147483648 ≤ q ∧ q ≤ 2147483647) (CR : CRT U S n (hF h 3 4) (fun k => hA h (6 + k))) (SU : SUA U S n (hF h 3 4) (fun k => hA h (6 + k)) sr) (CB : ∀ i : Nat, (i : Int) < n → CWB (U i) (S i)) {Q : Option av_V → av_H → Prop} (hq : ∀ (v : Int) h1 h' a b sr' nd', a ≤ 3 → b ≤ 508 → AL h h1 a b → CJ U S n sr' nd' h' → Fr h1 h' → SUA U S n (hF h 3 4) (fun k => hA h (6 + k)) sr' → RSC ((0 ≤ k ∧ k < n) ∧ (0 ≤ l ∧ l < hF h 3 4) ∧ (0 ≤ q ∧ q < (S (Int.toNat k) : Int))) (wix (U (Int.toNat k)) (Int.toNat q)) (S (Int.toNat k)) (fun u => lcv u (hA h (6 + Int.toNat l)) (brv u (srt U S (hA h (6 + Int.toNat l)) (Int.toNat k))) (S (Int.toNat k))) v → Q (some (.inl v)) h') : av_wp none cd_121 0 [some (.inr (.inr (.inl (some (0))))), some (.inl k), some (.inl l), some (.inl q), none] [] h Q := by
  have F := Fr_rf h
  have nr := C.2.1.2.1
  refine gd_of (fun hg => ?_)
  refine av_wp_sqF ck_121 1 (pc' := 1) (lv' := [some (.inr (.inr (.inl (some (0))))), some (.inl k), some (.inl l), some (.inl q), none]) (st' := [.inr (.inr (.inl (some (0))))]) (h' := h) rfl ?_
  refine wq_gr (p' := 4) (ck_121 _ _ rfl) rfl (congrArg Prod.fst (ly_k C.1.1 0 rfl)) rfl (ly_g C.1.1 0 1 3 rfl) ?_
  refine av_wp_sqF ck_121 1 (pc' := 5) (lv' := [some (.inr (.inr (.inl (some (0))))), some (.inl k), some (.inl l), some (.inl q), none]) (st' := [.inl k, .inr (.inr (.inl (some (3))))]) (h' := h) rfl ?_
  refine wq_cv (p' := 8) (av_qc (.invokevirtual 96) 69 1 0 5) 2 cd_69 [.inl k] (3) 5 [some (.inr (.inr (.inl (some (3))))), some (.inl k)] (ck_121 _ _ rfl) rfl rfl pp_69 rfl rfl rfl (congrArg Prod.fst (ly_k C.1.1 3 rfl)) rfl rfl rfl rfl ?_
  refine cz_69 C (k) (by omega) (fun z1 => ?_) (fun z1 z2 t3 c4 y5 y6 => ?_)
  · show av_wp _ cd_121 8 [some (.inr (.inr (.inl (some (0))))), some (.inl k), some (.inl l), some (.inl q), none] [.inr (.inr (.inl none))] h _
    refine av_wp_sqF ck_121 4 (pc' := 26) (lv' := [some (.inr (.inr (.inl (some (0))))), some (.inl k), some (.inl l), some (.inl q), some (.inr (.inr (.inl none)))]) (st' := [.inl (-2)]) (h' := h) rfl ?_
    refine av_wp_ret (v := some (.inl (-2))) (ck_121 _ _ rfl) rfl rfl ?_
    exact hq _ h h 0 0 _ _ (by omega) (by omega) (AL_0 h) C F SU (Or.inl ⟨by omega, rfl⟩)
  · have g7 := co_s12 y5
    have g8 := co_cbr y5
    show av_wp _ cd_121 8 [some (.inr (.inr (.inl (some (0))))), some (.inl k), some (.inl l), some (.inl q), none] [.inr (.inr (.inl (some (t3))))] h _
    refine av_wp_sqF ck_121 5 (pc' := 18) (lv' := [some (.inr (.inr (.inl (some (0))))), some (.inl k), some (.inl l), some (.inl q), some (.inr (.inr (.inl (some (t3)))))]) (st' := [.inl q, .inr (.inr (.inl (some (t3))))]) (h' := h) rfl ?_
    refine wq_cv (p' := 21) (av_qc (.invokevirtual 136) 28 1 0 1) 2 cd_28 [.inl q] (t3) 1 [some (.inr (.inr (.inl (some (t3))))), some (.inl q)] (ck_121 _ _ rfl) rfl rfl pp_28 rfl rfl rfl (congrArg Prod.fst (co_kt y5)) rfl rfl rfl rfl ?_
    refine ct_28 y5 (q) (by omega) (fun v9 p10 => ?_)
    show av_wp _ cd_121 21 [some (.inr (.inr (.inl (some (0))))), some (.inl k), some (.inl l), some (.inl q), some (.inr (.inr (.inl (some (t3)))))] [.inl v9] h _
    refine wq_k1 (p' := 24) (ck_121 _ _ rfl) rfl ⟨by omega, by omega⟩ (fun c11 => ?_) (fun c12 => ?_)
    · have c11 : v9 ≠ (0) := c11
      refine av_wp_sqF ck_121 3 (pc' := 31) (lv' := [some (.inr (.inr (.inl (some (0))))), some (.inl k), some (.inl l), some (.inl q), some (.inr (.inr (.inl (some (t3)))))]) (st' := [.inl q, .inr (.inr (.inl (some (t3)))), .inr (.inr (.inl (some (0))))]) (h' := h) rfl ?_
      refine wq_cv (p' := 34) (av_qc (.invokevirtual 259) 33 1 0 1) 4 cd_33 [.inl q] (t3) 1 [some (.inr (.inr (.inl (some (t3))))), some (.inl q), none, none] (ck_121 _ _ rfl) rfl rfl pp_33 rfl rfl rfl (congrArg Prod.fst (co_kt y5)) rfl rfl rfl rfl ?_
      refine ct_33x C.1.1 y5 (q) (by omega) (fun h13 t14 c15 u16 A17 o18 e19 x20 => ?_)
      rw [y6] at x20
      have C21 := CJ_al hg C A17
      have K22 := CHK_w (k := (Int.toNat q)) (CR.1 (Int.toNat k) (by omega)).1 (CR.1 (Int.toNat k) (by omega)).2.2.2.2.1 (CB (Int.toNat k) (by omega))
      have e34 : hF h13 3 4 = hF h 3 4 := (CF0_al hg C.1.1 A17).2.1.2.1
      have e6 : ∀ l, l < 8 → hA h13 (6 + l) = hA h (6 + l) := fun l hl => (CF0_al hg C.1.1 A17).2.2.2.1 _ (by omega) (by omega)
      have g23 := ic_lc C.1
      have g23c := co_cbr o18
      show av_wp _ cd_121 34 [some (.inr (.inr (.inl (some (0))))), some (.inl k), some (.inl l), some (.inl q), some (.inr (.inr (.inl (some (t3)))))] [.inr (.inr (.inl (some (t14)))), .inr (.inr (.inl (some (0))))] h13 _
      refine av_wp_sqF ck_121 2 (pc' := 36) (lv' := [some (.inr (.inr (.inl (some (0))))), some (.inl k), some (.inl l), some (.inl q), some (.inr (.inr (.inl (some (t3)))))]) (st' := [.inl l, .inl k, .inr (.inr (.inl (some (t14)))), .inr (.inr (.inl (some (0))))]) (h' := h13) rfl ?_
      refine wq_cv (p' := 39) (av_qc (.invokevirtual 255) 122 3 0 7) 4 cd_122 [.inl l, .inl k, .inr (.inr (.inl (some (t14))))] (0) 7 [some (.inr (.inr (.inl (some (0))))), some (.inr (.inr (.inl (some (t14))))), some (.inl k), some (.inl l)] (ck_121 _ _ rfl) rfl rfl pp_122 rfl rfl rfl (congrArg Prod.fst (ly_k C21.1.1 0 rfl)) rfl rfl rfl rfl ?_
      refine cx_122 C21 o18 e19 (k) (by omega) (by omega) (fun q hq => by have w := (CR.1 (Int.toNat k) (by omega)).2.2.1 q hq; rw [CHG_o x20 hq (by omega), (K22.1 q hq).2.2.2.2.2.2.1]; exact ⟨w.1, by omega⟩) (fun ro bar hb r8 => CHG_sea K22 x20 hb r8) (l) (by omega) (by rw [e34]; exact CRT_c CR (by omega) e6) (by rw [e34]; exact SUA_c SU (fun l hl _ => e6 l hl)) (fun z24 => ?_) (fun z24 z25 v26 h27 r28 n29 C30 F31 U32 p33 => ?_)
      · rw [e34] at z24
        show av_wp _ cd_121 39 [some (.inr (.inr (.inl (some (0))))), some (.inl k), some (.inl l), some (.inl q), some (.inr (.inr (.inl (some (t3)))))] [.inl (-2)] h13 _
        refine av_wp_ret (v := some (.inl (-2))) (ck_121 _ _ rfl) rfl rfl ?_
        have q1 := ic_lc C.1
        by_cases cc : 0 ≤ l ∧ l < hF h 3 4
        · exact hq _ h13 h13 3 (4 + 42 * S (Int.toNat k)) _ _ (by omega) (by omega) A17 C21 (Fr_rf _) SU (Or.inr ⟨by omega, u16, x20, by show _ = lcv _ _ _ _; unfold lcv; rw [if_pos (by omega)]⟩)
        · exact hq _ h13 h13 3 (4 + 42 * S (Int.toNat k)) _ _ (by omega) (by omega) A17 C21 (Fr_rf _) SU (Or.inl ⟨by omega, rfl⟩)
      · rw [e34] at z25
        show av_wp _ cd_121 39 [some (.inr (.inr (.inl (some (0))))), some (.inl k), some (.inl l), some (.inl q), some (.inr (.inr (.inl (some (t3)))))] [.inl v26] h27 _
        refine av_wp_ret (v := some (.inl v26)) (ck_121 _ _ rfl) rfl rfl ?_
        rw [e6 (Int.toNat l) (by omega)] at p33
        rw [e34] at U32
        exact hq _ h13 h27 3 (4 + 42 * S (Int.toNat k)) _ _ (by omega) (by omega) A17 C30 F31 (SUA_c U32 (fun l hl _ => (e6 l hl).symm)) (Or.inr ⟨by omega, u16, x20, by show _ = lcv _ _ _ _; unfold lcv; rw [if_neg (by omega)]; exact p33⟩)
    · have c12 : v9 = (0) := c12
      refine av_wp_sqF ck_121 1 (pc' := 26) (lv' := [some (.inr (.inr (.inl (some (0))))), some (.inl k), some (.inl l), some (.inl q), some (.inr (.inr (.inl (some (t3)))))]) (st' := [.inl (-2)]) (h' := h) rfl ?_
      refine av_wp_ret (v := some (.inl (-2))) (ck_121 _ _ rfl) rfl rfl ?_
      exact hq _ h h 0 0 _ _ (by omega) (by omega) (AL_0 h) C F SU (Or.inl ⟨by omega, rfl⟩)
end
section
/-! LOST, WIRED, exactly: the reference -/
set_option maxRecDepth 100000 in
set_option maxHeartbeats 4000000 in
theorem cx_209 {g h : av_H} {n a m : Int} (I : IMF n a m h) (F : FM g h) {u ro bar : Nat → Int} {s : Nat} (en : n = (s : Int)) (B : RBB u ro bar s h) (W : RWF u ro s) {Q : Option av_V → av_H → Prop} (hq : ∀ (v : Int) a' m' h', IMF n a' m' h' → FM g h' → v = lcv u ro bar s → Q (some (.inl v)) h') : av_wp none cd_209 0 [some (.inr (.inr (.inl (some (77))))), none, none] [] h Q := by
  have gn := im_n I.1.1
  rw [I.2.1] at gn
  have ga := im_a I.1.1
  rw [I.2.2.1] at ga
  have gm := im_cm I.1.1
  rw [I.2.2.2] at gm
  have Z := ZE_rf (L := [107, 108, 109, 110, 111, 112, 113, 114, 115]) (K := [28, 29, 50, 51, 52, 53]) h
  refine av_wp_sqF ck_209 1 (pc' := 1) (lv' := [some (.inr (.inr (.inl (some (77))))), none, none]) (st' := [.inr (.inr (.inl (some (77))))]) (h' := h) rfl ?_
  refine wq_cv (p' := 4) (av_qc (.invokevirtual 424) 163 0 0 8) 4 cd_163 [] (77) 8 [some (.inr (.inr (.inl (some (77))))), none, none, none] (ck_209 _ _ rfl) rfl rfl pp_163 rfl rfl rfl (congrArg Prod.fst (ly_k I.1.1.1 77 rfl)) rfl rfl rfl rfl ?_
  refine cy_163 I.1 I.2.1 F en B (fun a1 m2 h3 z4 A5 Z6 I7 F8 => ?_)
  have z4a := z4.1
  have z4b := z4.2
  have g10 := im_a I7.1.1
  rw [I7.2.2.1] at g10
  have g11 := im_cm I7.1.1
  rw [I7.2.2.2] at g11
  have Z9 := ZE_tr Z (ZE_up Z6 rfl rfl)
  show av_wp _ cd_209 4 [some (.inr (.inr (.inl (some (77))))), none, none] [] h3 _
  refine av_wp_sqF ck_209 1 (pc' := 5) (lv' := [some (.inr (.inr (.inl (some (77))))), none, none]) (st' := [.inr (.inr (.inl (some (77))))]) (h' := h3) rfl ?_
  refine wq_cv (p' := 8) (av_qc (.invokevirtual 427) 164 0 0 8) 1 cd_164 [] (77) 8 [some (.inr (.inr (.inl (some (77)))))] (ck_209 _ _ rfl) rfl rfl pp_164 rfl rfl rfl (congrArg Prod.fst (ly_k I7.1.1.1 77 rfl)) rfl rfl rfl rfl ?_
  refine ct_164 I7 F8 (fun v12 p13 => ?_)
  show av_wp _ cd_209 8 [some (.inr (.inr (.inl (some (77))))), none, none] [.inl v12] h3 _
  refine wq_k1 (p' := 11) (ck_209 _ _ rfl) rfl ⟨by omega, by omega⟩ (fun c14 => ?_) (fun c15 => ?_)
  · have c14 : v12 ≠ (0) := c14
    refine av_wp_sqF ck_209 4 (pc' := 18) (lv' := [some (.inr (.inr (.inl (some (77))))), some (.inl (0)), some (.inl (0))]) (st' := []) (h' := h3) rfl ?_
    have L25 : ∀ (m24 : Nat) (k16 : Int) (k17 : Int) (h18 : av_H), k16 ≤ k17 → k17 ≤ m2 → (0 ≤ k16 ∧ k16 ≤ 1025) → (0 ≤ k17 ∧ k17 ≤ 1025) → IMF n a1 m2 h18 → FM g h18 → ZE [107, 108, 109, 110, 111, 112, 113, 114, 115] [28, 29, 50, 51, 52, 53] h h18 → RBA u ro bar s h18 → k16 = ta (fun q => (bgn u ro bar s q).2.2) (Int.toNat k17) 0 → (1025 - k17).toNat = m24 → av_wp none cd_209 18 [some (.inr (.inr (.inl (some (77))))), some (.inl k16), some (.inl k17)] [] h18 Q := by
      intro m24
      induction m24 using Nat.strongRecOn with
      | _ m24 I26 =>
        intro k16 k17 h18 g28 g29 g30 g31 I19 F20 Z21 X22 X23 e27
        refine av_wp_sqF ck_209 1 (pc' := 19) (lv' := [some (.inr (.inr (.inl (some (77))))), some (.inl k16), some (.inl k17)]) (st' := [.inl k17]) (h' := h18) rfl ?_
        refine av_wp_sqF ck_209 1 (pc' := 20) (lv' := [some (.inr (.inr (.inl (some (77))))), some (.inl k16), some (.inl k17)]) (st' := [.inr (.inr (.inl (some (77)))), .inl k17]) (h' := h18) rfl ?_
        refine wq_gi (p' := 23) (ck_209 _ _ rfl) rfl (congrArg Prod.fst (ly_k I19.1.1.1 77 rfl)) rfl (I19.2.2.2) ?_
        refine wq_k2 (p' := 26) (ck_209 _ _ rfl) rfl ⟨by omega, by omega⟩ ⟨by omega, by omega⟩ (fun c32 => ?_) (fun c33 => ?_)
        · have c32 : m2 ≤ k17 := c32
          refine av_wp_sqF ck_209 1 (pc' := 53) (lv' := [some (.inr (.inr (.inl (some (77))))), some (.inl k16), some (.inl k17)]) (st' := [.inl k16]) (h' := h18) rfl ?_
          refine av_wp_ret (v := some (.inl k16)) (ck_209 _ _ rfl) rfl rfl ?_
          exact hq _ _ _ h18 I19 F20 (by have z := cbv_d u s; unfold lcv; rw [if_neg (by omega), show Int.toNat (cbv u s) = Int.toNat k17 by omega]; exact X23)
        · have c33 : k17 < m2 := c33
          refine av_wp_sqF ck_209 2 (pc' := 28) (lv' := [some (.inr (.inr (.inl (some (77))))), some (.inl k16), some (.inl k17)]) (st' := [.inl k17, .inr (.inr (.inl (some (77))))]) (h' := h18) rfl ?_
          refine wq_cv (p' := 31) (av_qc (.invokevirtual 431) 181 1 0 8) 2 cd_181 [.inl k17] (77) 8 [some (.inr (.inr (.inl (some (77))))), some (.inl k17)] (ck_209 _ _ rfl) rfl rfl pp_181 rfl rfl rfl (congrArg Prod.fst (ly_k I19.1.1.1 77 rfl)) rfl rfl rfl rfl ?_
          refine cy_181 I19 F20 en X22 W (k17) (by omega) (fun h34 I35 F36 Z37 A38 O39 B40 L41 => ?_)
          have Z42 := ZE_tr Z21 (ZE_up Z37 rfl rfl)
          show av_wp _ cd_209 31 [some (.inr (.inr (.inl (some (77))))), some (.inl k16), some (.inl k17)] [] h34 _
          refine av_wp_sqF ck_209 2 (pc' := 33) (lv' := [some (.inr (.inr (.inl (some (77))))), some (.inl k16), some (.inl k17)]) (st' := [.inr (.inr (.inl (some (77)))), .inl k16]) (h' := h34) rfl ?_
          obtain ⟨v43, e44⟩ : ∃ v, hF h34 77 50 = v := ⟨_, rfl⟩
          have g45 := im_has I35.1.1
          rw [e44] at g45
          refine wq_gb (p' := 36) (ck_209 _ _ rfl) rfl (congrArg Prod.fst (ly_k I35.1.1.1 77 rfl)) rfl (e44) ?_
          refine wq_k1 (p' := 39) (ck_209 _ _ rfl) rfl ⟨by omega, by omega⟩ (fun c46 => ?_) (fun c47 => ?_)
          · have c46 : v43 = (0) := c46
            refine av_wp_sqF ck_209 5 (pc' := 18) (lv' := [some (.inr (.inr (.inl (some (77))))), some (.inl (k16 + (0))), some (.inl (k17 + (1)))]) (st' := []) (h' := h34) rfl ?_
            exact I26 _ (by omega) ((k16 + (0))) ((k17 + (1))) h34 (by omega) (by omega) (by omega) (by omega) I35 F36 Z42 A38 (by have z := (ta_9s (f := (fun q => (bgn u ro bar s q).2.2)) (k := Int.toNat k17) (by show (bgn u ro bar s ((Int.toNat k17 : Nat) : Int)).2.2 = 9999; rw [show ((Int.toNat k17 : Nat) : Int) = k17 by omega]; exact BRR_no B40 e44 (by omega))).1; rw [show Int.toNat (k17 + (1)) = Int.toNat k17 + 1 by omega, z, ← X23]; omega) rfl
          · have c47 : v43 ≠ (0) := c47
            refine av_wp_sqF ck_209 6 (pc' := 18) (lv' := [some (.inr (.inr (.inl (some (77))))), some (.inl (k16 + (1))), some (.inl (k17 + (1)))]) (st' := []) (h' := h34) rfl ?_
            exact I26 _ (by omega) ((k16 + (1))) ((k17 + (1))) h34 (by omega) (by omega) (by omega) (by omega) I35 F36 Z42 A38 (by have z := (ta_bs (f := (fun q => (bgn u ro bar s q).2.2)) (k := Int.toNat k17) rfl (by show (bgn u ro bar s ((Int.toNat k17 : Nat) : Int)).2.2 ≠ 9999; rw [show ((Int.toNat k17 : Nat) : Int) = k17 by omega]; exact (BRR_ye B40 e44 (by omega)).1)).1; rw [show Int.toNat (k17 + (1)) = Int.toNat k17 + 1 by omega, z, ← X23]) rfl
    exact L25 _ ((0)) ((0)) h3 (by omega) (by omega) (by omega) (by omega) I7 F8 Z9 A5 rfl rfl
  · have c15 : v12 = (0) := c15
    refine av_wp_sqF ck_209 1 (pc' := 13) (lv' := [some (.inr (.inr (.inl (some (77))))), none, none]) (st' := [.inl (-2)]) (h' := h3) rfl ?_
    refine av_wp_ret (v := some (.inl (-2))) (ck_209 _ _ rfl) rfl rfl ?_
    exact hq _ _ _ h3 I7 F8 (by unfold lcv; rw [if_pos (by have := cbv_d u s; omega)])

set_option maxRecDepth 100000 in
set_option maxHeartbeats 4000000 in
theorem cx_210 {g h : av_H} {n a m : Int} (I : IMF n a m h) (F : FM g h) (x : Int) (qx : -2147483648 ≤ x ∧ x ≤ 2147483647) (l : Int) (ql : -2147483648 ≤ l ∧ l ≤ 2147483647) (k : Int) (qk : -2147483648 ≤ k ∧ k ≤ 2147483647) {Q : Option av_V → av_H → Prop} (hq : ∀ v : Int, ((v = 1 ∧ ((0 ≤ x ∧ x < hA h 78 0) ∧ (0 ≤ l ∧ l < hA h 79 0) ∧ (0 ≤ k ∧ k < hA h 81 (Int.toNat x)))) ∨ (v = 0 ∧ ¬ ((0 ≤ x ∧ x < hA h 78 0) ∧ (0 ≤ l ∧ l < hA h 79 0) ∧ (0 ≤ k ∧ k < hA h 81 (Int.toNat x))))) → Q (some (.inl v)) h) : av_wp none cd_210 0 [some (.inr (.inr (.inl (some (77))))), some (.inl x), some (.inl l), some (.inl k)] [] h Q := by
  have gn := im_n I.1.1
  rw [I.2.1] at gn
  have ga := im_a I.1.1
  rw [I.2.2.1] at ga
  have gm := im_cm I.1.1
  rw [I.2.2.2] at gm
  have G0 := I.1.1.2.1
  have g16 := G0.2.1
  have g8 := G0.2.2.1
  refine av_wp_sqF ck_210 2 (pc' := 2) (lv' := [some (.inr (.inr (.inl (some (77))))), some (.inl x), some (.inl l), some (.inl k)]) (st' := [.inl x, .inr (.inr (.inl (some (77))))]) (h' := h) rfl ?_
  refine wq_cv (p' := 5) (av_qc (.invokevirtual 299) 149 1 0 8) 2 cd_149 [.inl x] (77) 8 [some (.inr (.inr (.inl (some (77))))), some (.inl x)] (ck_210 _ _ rfl) rfl rfl pp_149 rfl rfl rfl (congrArg Prod.fst (ly_k I.1.1.1 77 rfl)) rfl rfl rfl rfl ?_
  refine cx_149 I.1 (x) (by omega) (fun v1 p2 => ?_)
  show av_wp _ cd_210 5 [some (.inr (.inr (.inl (some (77))))), some (.inl x), some (.inl l), some (.inl k)] [.inl v1] h _
  refine wq_k1 (p' := 8) (ck_210 _ _ rfl) rfl ⟨by omega, by omega⟩ (fun c3 => ?_) (fun c4 => ?_)
  · have c3 : v1 = (0) := c3
    refine av_wp_sqF ck_210 1 (pc' := 35) (lv' := [some (.inr (.inr (.inl (some (77))))), some (.inl x), some (.inl l), some (.inl k)]) (st' := [.inl (0)]) (h' := h) rfl ?_
    refine av_wp_ret (v := some (.inl (0))) (ck_210 _ _ rfl) rfl rfl ?_
    exact hq _ (Or.inr ⟨rfl, by omega⟩)
  · have c4 : v1 ≠ (0) := c4
    refine av_wp_sqF ck_210 2 (pc' := 10) (lv' := [some (.inr (.inr (.inl (some (77))))), some (.inl x), some (.inl l), some (.inl k)]) (st' := [.inl l, .inr (.inr (.inl (some (77))))]) (h' := h) rfl ?_
    refine wq_cv (p' := 13) (av_qc (.invokevirtual 345) 150 1 0 8) 2 cd_150 [.inl l] (77) 8 [some (.inr (.inr (.inl (some (77))))), some (.inl l)] (ck_210 _ _ rfl) rfl rfl pp_150 rfl rfl rfl (congrArg Prod.fst (ly_k I.1.1.1 77 rfl)) rfl rfl rfl rfl ?_
    refine cx_150 I.1 (l) (by omega) (fun v5 p6 => ?_)
    show av_wp _ cd_210 13 [some (.inr (.inr (.inl (some (77))))), some (.inl x), some (.inl l), some (.inl k)] [.inl v5] h _
    refine wq_k1 (p' := 16) (ck_210 _ _ rfl) rfl ⟨by omega, by omega⟩ (fun c7 => ?_) (fun c8 => ?_)
    · have c7 : v5 = (0) := c7
      refine av_wp_sqF ck_210 1 (pc' := 35) (lv' := [some (.inr (.inr (.inl (some (77))))), some (.inl x), some (.inl l), some (.inl k)]) (st' := [.inl (0)]) (h' := h) rfl ?_
      refine av_wp_ret (v := some (.inl (0))) (ck_210 _ _ rfl) rfl rfl ?_
      exact hq _ (Or.inr ⟨rfl, by omega⟩)
    · have c8 : v5 ≠ (0) := c8
      refine av_wp_sqF ck_210 1 (pc' := 17) (lv' := [some (.inr (.inr (.inl (some (77))))), some (.inl x), some (.inl l), some (.inl k)]) (st' := [.inl k]) (h' := h) rfl ?_
      refine wq_k1 (p' := 20) (ck_210 _ _ rfl) rfl ⟨by omega, by omega⟩ (fun c9 => ?_) (fun c10 => ?_)
      · have c9 : k < (0) := c9
        refine av_wp_sqF ck_210 1 (pc' := 35) (lv' := [some (.inr (.inr (.inl (some (77))))), some (.inl x), some (.inl l), some (.inl k)]) (st' := [.inl (0)]) (h' := h) rfl ?_
        refine av_wp_ret (v := some (.inl (0))) (ck_210 _ _ rfl) rfl rfl ?_
        exact hq _ (Or.inr ⟨rfl, by omega⟩)
      · have c10 : (0) ≤ k := c10
        refine av_wp_sqF ck_210 2 (pc' := 22) (lv' := [some (.inr (.inr (.inl (some (77))))), some (.inl x), some (.inl l), some (.inl k)]) (st' := [.inr (.inr (.inl (some (77)))), .inl k]) (h' := h) rfl ?_
        refine wq_gr (p' := 25) (ck_210 _ _ rfl) rfl (congrArg Prod.fst (ly_k I.1.1.1 77 rfl)) rfl (ly_g I.1.1.1 77 3 81 rfl) ?_
        refine av_wp_sqF ck_210 1 (pc' := 26) (lv' := [some (.inr (.inr (.inl (some (77))))), some (.inl x), some (.inl l), some (.inl k)]) (st' := [.inl x, .inr (.inr (.inl (some (81)))), .inl k]) (h' := h) rfl ?_
        obtain ⟨v11, e12⟩ : ∃ v, hA h 81 (Int.toNat (x)) = v := ⟨_, rfl⟩
        have g13 := im_many I.1.1 (Int.toNat (x))
        rw [e12] at g13
        refine wq_al (p' := 27) (n := 80) (ck_210 _ _ rfl) rfl (ly_k I.1.1.1 81 rfl) (by omega) (e12) ?_
        refine wq_k2 (p' := 30) (ck_210 _ _ rfl) rfl ⟨by omega, by omega⟩ ⟨by omega, by omega⟩ (fun c14 => ?_) (fun c15 => ?_)
        · have c14 : v11 ≤ k := c14
          refine av_wp_sqF ck_210 1 (pc' := 35) (lv' := [some (.inr (.inr (.inl (some (77))))), some (.inl x), some (.inl l), some (.inl k)]) (st' := [.inl (0)]) (h' := h) rfl ?_
          refine av_wp_ret (v := some (.inl (0))) (ck_210 _ _ rfl) rfl rfl ?_
          exact hq _ (Or.inr ⟨rfl, by omega⟩)
        · have c15 : k < v11 := c15
          refine av_wp_sqF ck_210 2 (pc' := 35) (lv' := [some (.inr (.inr (.inl (some (77))))), some (.inl x), some (.inl l), some (.inl k)]) (st' := [.inl (1)]) (h' := h) rfl ?_
          refine av_wp_ret (v := some (.inl (1))) (ck_210 _ _ rfl) rfl rfl ?_
          exact hq _ (Or.inl ⟨rfl, by omega⟩)

set_option maxRecDepth 100000 in
set_option maxHeartbeats 4000000 in
theorem cx_212 {g h : av_H} {n a m : Int} (I : IMF n a m h) (F : FM g h) {U : Nat → Nat → Int} {S : Nat → Nat} {ro : Nat → Nat → Int} (RX : RXX g U S ro) (x : Int) (qx : -2147483648 ≤ x ∧ x ≤ 2147483647) (l : Int) (ql : -2147483648 ≤ l ∧ l ≤ 2147483647) (q : Int) (qq : -2147483648 ≤ q ∧ q ≤ 2147483647) (CB : ∀ c : Nat, (c : Int) < hA g 78 0 → CWB (U c) (S c)) {V : Nat → Int} (hV : ((0 ≤ x ∧ x < hA g 78 0) ∧ (0 ≤ l ∧ l < hA g 79 0) ∧ (0 ≤ q ∧ q < (S (Int.toNat x) : Int))) → CHG (wix (U (Int.toNat x)) (Int.toNat q)) (S (Int.toNat x)) V) {Q : Option av_V → av_H → Prop} (hq : ∀ (v : Int) n' a' m' h', RSP ((0 ≤ x ∧ x < hA g 78 0) ∧ (0 ≤ l ∧ l < hA g 79 0) ∧ (0 ≤ q ∧ q < (S (Int.toNat x) : Int))) (-2) (lcv V (ro (Int.toNat l)) (brv V (srt U S (ro (Int.toNat l)) (Int.toNat x))) (S (Int.toNat x))) v → IMF n' a' m' h' → FM g h' → Q (some (.inl v)) h') : av_wp none cd_212 0 [some (.inr (.inr (.inl (some (77))))), some (.inl x), some (.inl l), some (.inl q), none] [] h Q := by
  have gn := im_n I.1.1
  rw [I.2.1] at gn
  have ga := im_a I.1.1
  rw [I.2.2.1] at ga
  have gm := im_cm I.1.1
  rw [I.2.2.2] at gm
  have G0 := I.1.1.2.1
  have G16 : 0 ≤ hA g 78 0 ∧ hA g 78 0 ≤ 16 := by rw [← F.2.2.2.2.2.2 78 rfl]; exact G0.2.1
  have G8 : 0 ≤ hA g 79 0 ∧ hA g 79 0 ≤ 8 := by rw [← F.2.2.2.2.2.2 79 rfl]; exact G0.2.2.1
  have G6 : 0 ≤ hA g 80 0 ∧ hA g 80 0 ≤ 6 := by rw [← F.2.2.2.2.2.2 80 rfl]; exact G0.2.2.2.1
  refine av_wp_sqF ck_212 4 (pc' := 4) (lv' := [some (.inr (.inr (.inl (some (77))))), some (.inl x), some (.inl l), some (.inl q), none]) (st' := [.inl q, .inl l, .inl x, .inr (.inr (.inl (some (77))))]) (h' := h) rfl ?_
  refine wq_cv (p' := 7) (av_qc (.invokevirtual 476) 210 3 0 8) 4 cd_210 [.inl q, .inl l, .inl x] (77) 8 [some (.inr (.inr (.inl (some (77))))), some (.inl x), some (.inl l), some (.inl q)] (ck_212 _ _ rfl) rfl rfl pp_210 rfl rfl rfl (congrArg Prod.fst (ly_k I.1.1.1 77 rfl)) rfl rfl rfl rfl ?_
  refine cx_210 I F (x) (by omega) (l) (by omega) (q) (by omega) (fun v1 p2 => ?_)
  rw [F.2.2.2.2.2.2 78 rfl, F.2.2.2.2.2.2 79 rfl, F.2.2.2.2.2.2 81 rfl] at p2
  have g3 : (0 ≤ x ∧ x < hA g 78 0) → hA g 81 (Int.toNat x) = (S (Int.toNat x) : Int) := fun z => (RX.1 (Int.toNat x) (by omega)).1
  have z4 : (v1 = 1 ∧ (0 ≤ x ∧ x < hA g 78 0) ∧ (0 ≤ l ∧ l < hA g 79 0) ∧ (0 ≤ q ∧ q < (S (Int.toNat x) : Int))) ∨ (v1 = 0 ∧ ¬ ((0 ≤ x ∧ x < hA g 78 0) ∧ (0 ≤ l ∧ l < hA g 79 0) ∧ (0 ≤ q ∧ q < (S (Int.toNat x) : Int)))) := by
    rcases p2 with y | y
    · have w := g3 y.2.1
      exact Or.inl ⟨y.1, y.2.1, y.2.2.1, by omega⟩
    · refine Or.inr ⟨y.1, fun u => y.2 ⟨u.1, u.2.1, ?_⟩⟩
      have w := g3 u.1
      omega
  clear p2 g3
  show av_wp _ cd_212 7 [some (.inr (.inr (.inl (some (77))))), some (.inl x), some (.inl l), some (.inl q), none] [.inl v1] h _
  refine wq_k1 (p' := 10) (ck_212 _ _ rfl) rfl ⟨by omega, by omega⟩ (fun c5 => ?_) (fun c6 => ?_)
  · have c5 : v1 ≠ (0) := c5
    refine av_wp_sqF ck_212 3 (pc' := 16) (lv' := [some (.inr (.inr (.inl (some (77))))), some (.inl x), some (.inl l), some (.inl q), none]) (st' := [.inl (0), .inl l, .inr (.inr (.inl (some (77))))]) (h' := h) rfl ?_
    refine wq_cv (p' := 19) (av_qc (.invokevirtual 348) 159 2 0 8) 5 cd_159 [.inl (0), .inl l] (77) 8 [some (.inr (.inr (.inl (some (77))))), some (.inl l), some (.inl (0)), none, none] (ck_212 _ _ rfl) rfl rfl pp_159 rfl rfl rfl (congrArg Prod.fst (ly_k I.1.1.1 77 rfl)) rfl rfl rfl rfl ?_
    refine cy_159 I F G8 G6 RX (l) (by omega) (fun h7 I8 F9 R10 Z11 => ?_)
    show av_wp _ cd_212 19 [some (.inr (.inr (.inl (some (77))))), some (.inl x), some (.inl l), some (.inl q), none] [] h7 _
    refine av_wp_sqF ck_212 2 (pc' := 21) (lv' := [some (.inr (.inr (.inl (some (77))))), some (.inl x), some (.inl l), some (.inl q), none]) (st' := [.inl x, .inr (.inr (.inl (some (77))))]) (h' := h7) rfl ?_
    refine wq_cv (p' := 24) (av_qc (.invokevirtual 440) 185 1 0 8) 4 cd_185 [.inl x] (77) 8 [some (.inr (.inr (.inl (some (77))))), some (.inl x), none, none] (ck_212 _ _ rfl) rfl rfl pp_185 rfl rfl rfl (congrArg Prod.fst (ly_k I8.1.1.1 77 rfl)) rfl rfl rfl rfl ?_
    refine cy_185 I8 F9 RX (by omega) (x) (by omega) l (by omega) R10 (fun n12 a13 m14 h15 e16 e17 A18 I19 F20 => ?_)
    have g21 := im_n I19.1.1
    rw [I19.2.1] at g21
    have g22 := im_a I19.1.1
    rw [I19.2.2.1] at g22
    have g23 := im_cm I19.1.1
    rw [I19.2.2.2] at g23
    show av_wp _ cd_212 24 [some (.inr (.inr (.inl (some (77))))), some (.inl x), some (.inl l), some (.inl q), none] [] h15 _
    refine av_wp_sqF ck_212 1 (pc' := 25) (lv' := [some (.inr (.inr (.inl (some (77))))), some (.inl x), some (.inl l), some (.inl q), none]) (st' := [.inr (.inr (.inl (some (77))))]) (h' := h15) rfl ?_
    refine wq_gr (p' := 28) (ck_212 _ _ rfl) rfl (congrArg Prod.fst (ly_k I19.1.1.1 77 rfl)) rfl (ly_g I19.1.1.1 77 32 98 rfl) ?_
    refine av_wp_sqF ck_212 2 (pc' := 30) (lv' := [some (.inr (.inr (.inl (some (77))))), some (.inl x), some (.inl l), some (.inl q), none]) (st' := [.inl (0), .inl q, .inr (.inr (.inl (some (98))))]) (h' := h15) rfl ?_
    refine xm_ws (p' := 31) (l := 12) rfl rfl I19 F20 (ly_k I19.1.1.1 98 rfl) (by omega) (by show _ ∧ _; decide) (by omega) (fun h24 I25 F26 e27 => ?_)
    refine av_wp_sqF ck_212 1 (pc' := 32) (lv' := [some (.inr (.inr (.inl (some (77))))), some (.inl x), some (.inl l), some (.inl q), none]) (st' := [.inr (.inr (.inl (some (77))))]) (h' := h24) rfl ?_
    refine wq_gr (p' := 35) (ck_212 _ _ rfl) rfl (congrArg Prod.fst (ly_k I25.1.1.1 77 rfl)) rfl (ly_g I25.1.1.1 77 31 97 rfl) ?_
    refine av_wp_sqF ck_212 2 (pc' := 37) (lv' := [some (.inr (.inr (.inl (some (77))))), some (.inl x), some (.inl l), some (.inl q), none]) (st' := [.inl (1), .inl q, .inr (.inr (.inl (some (97))))]) (h' := h24) rfl ?_
    refine xm_ws (p' := 38) (l := 12) rfl rfl I25 F26 (ly_k I25.1.1.1 97 rfl) (by omega) (by show _ ∧ _; decide) (by omega) (fun h28 I29 F30 e31 => ?_)
    refine av_wp_sqF ck_212 6 (pc' := 48) (lv' := [some (.inr (.inr (.inl (some (77))))), some (.inl x), some (.inl l), some (.inl q), some (.inl (1))]) (st' := [.inr (.inr (.inl (some (77))))]) (h' := h28) rfl ?_
    refine wq_gr (p' := 51) (ck_212 _ _ rfl) rfl (congrArg Prod.fst (ly_k I29.1.1.1 77 rfl)) rfl (ly_g I29.1.1.1 77 39 105 rfl) ?_
    refine av_wp_sqF ck_212 6 (pc' := 58) (lv' := [some (.inr (.inr (.inl (some (77))))), some (.inl x), some (.inl l), some (.inl q), some (.inl (1))]) (st' := [.inl (0), .inl (((3) * q) + (1)), .inr (.inr (.inl (some (105))))]) (h' := h28) rfl ?_
    refine xm_ws (p' := 59) (l := 36) rfl rfl I29 F30 (ly_k I29.1.1.1 105 rfl) (by omega) (by show _ ∧ _; decide) (by omega) (fun h32 I33 F34 e35 => ?_)
    refine av_wp_sqF ck_212 1 (pc' := 60) (lv' := [some (.inr (.inr (.inl (some (77))))), some (.inl x), some (.inl l), some (.inl q), some (.inl (1))]) (st' := [.inr (.inr (.inl (some (77))))]) (h' := h32) rfl ?_
    refine wq_gr (p' := 63) (ck_212 _ _ rfl) rfl (congrArg Prod.fst (ly_k I33.1.1.1 77 rfl)) rfl (ly_g I33.1.1.1 77 40 106 rfl) ?_
    refine av_wp_sqF ck_212 6 (pc' := 70) (lv' := [some (.inr (.inr (.inl (some (77))))), some (.inl x), some (.inl l), some (.inl q), some (.inl (1))]) (st' := [.inl (0), .inl (((3) * q) + (1)), .inr (.inr (.inl (some (106))))]) (h' := h32) rfl ?_
    refine xm_ws (p' := 71) (l := 36) rfl rfl I33 F34 (ly_k I33.1.1.1 106 rfl) (by omega) (by show _ ∧ _; decide) (by omega) (fun h36 I37 F38 e39 => ?_)
    refine av_wp_sqF ck_212 6 (pc' := 48) (lv' := [some (.inr (.inr (.inl (some (77))))), some (.inl x), some (.inl l), some (.inl q), some (.inl (2))]) (st' := [.inr (.inr (.inl (some (77))))]) (h' := h36) rfl ?_
    refine wq_gr (p' := 51) (ck_212 _ _ rfl) rfl (congrArg Prod.fst (ly_k I37.1.1.1 77 rfl)) rfl (ly_g I37.1.1.1 77 39 105 rfl) ?_
    refine av_wp_sqF ck_212 6 (pc' := 58) (lv' := [some (.inr (.inr (.inl (some (77))))), some (.inl x), some (.inl l), some (.inl q), some (.inl (2))]) (st' := [.inl (0), .inl (((3) * q) + (2)), .inr (.inr (.inl (some (105))))]) (h' := h36) rfl ?_
    refine xm_ws (p' := 59) (l := 36) rfl rfl I37 F38 (ly_k I37.1.1.1 105 rfl) (by omega) (by show _ ∧ _; decide) (by omega) (fun h40 I41 F42 e43 => ?_)
    refine av_wp_sqF ck_212 1 (pc' := 60) (lv' := [some (.inr (.inr (.inl (some (77))))), some (.inl x), some (.inl l), some (.inl q), some (.inl (2))]) (st' := [.inr (.inr (.inl (some (77))))]) (h' := h40) rfl ?_
    refine wq_gr (p' := 63) (ck_212 _ _ rfl) rfl (congrArg Prod.fst (ly_k I41.1.1.1 77 rfl)) rfl (ly_g I41.1.1.1 77 40 106 rfl) ?_
    refine av_wp_sqF ck_212 6 (pc' := 70) (lv' := [some (.inr (.inr (.inl (some (77))))), some (.inl x), some (.inl l), some (.inl q), some (.inl (2))]) (st' := [.inl (0), .inl (((3) * q) + (2)), .inr (.inr (.inl (some (106))))]) (h' := h40) rfl ?_
    refine xm_ws (p' := 71) (l := 36) rfl rfl I41 F42 (ly_k I41.1.1.1 106 rfl) (by omega) (by show _ ∧ _; decide) (by omega) (fun h44 I45 F46 e47 => ?_)
    refine av_wp_sqF ck_212 6 (pc' := 78) (lv' := [some (.inr (.inr (.inl (some (77))))), some (.inl x), some (.inl l), some (.inl q), some (.inl (3))]) (st' := [.inr (.inr (.inl (some (77))))]) (h' := h44) rfl ?_
    refine wq_cv (p' := 81) (av_qc (.invokevirtual 479) 209 0 0 8) 3 cd_209 [] (77) 8 [some (.inr (.inr (.inl (some (77))))), none, none] (ck_212 _ _ rfl) rfl rfl pp_209 rfl rfl rfl (congrArg Prod.fst (ly_k I45.1.1.1 77 rfl)) rfl rfl rfl rfl ?_
    have X49 := hV (by omega)
    have K48 := CHK_w (k := (Int.toNat q)) (RX.2.1 (Int.toNat x) (Int.toNat l) (by omega) (by omega)).1 (RX.2.1 (Int.toNat x) (Int.toNat l) (by omega) (by omega)).2.2.1 (CB (Int.toNat x) (by omega))
    have W51 : RWF V (ro (Int.toNat l)) (S (Int.toNat x)) := CHG_rwf K48 X49 (RX.2.1 (Int.toNat x) (Int.toNat l) (by omega) (by omega)) (wix_1 (RX.2.1 (Int.toNat x) (Int.toNat l) (by omega) (by omega)).2.2.2.1)
    have B50 : RBB V (ro (Int.toNat l)) (brv V (srt U S (ro (Int.toNat l)) (Int.toNat x))) (S (Int.toNat x)) h44 := by
      have j1 : ((((3) * q) + (1))).toNat = 3 * (Int.toNat q) + 1 := by omega
      have j2 : ((((3) * q) + (2))).toNat = 3 * (Int.toNat q) + 2 := by omega
      refine RBB_w A18.1 (by omega) X49 (CB (Int.toNat x) (by omega) (Int.toNat q) (by omega)).2.2.2.2.2 (fun a h1 h2 h3 h4 h5 h6 => ?_) ?_ ?_ ?_ ?_
      · rw [e47, hA_ne h6, e43, hA_ne h5, e39, hA_ne h6, e35, hA_ne h5, e31, hA_ne h3, e27, hA_ne h4]
      · rw [e47, hA_ne (by decide), e43, hA_ne (by decide), e39, hA_ne (by decide), e35, hA_ne (by decide), e31, hA_wu, e27, hA_ne (by decide)]
      · rw [e47, hA_ne (by decide), e43, hA_ne (by decide), e39, hA_ne (by decide), e35, hA_ne (by decide), e31, hA_ne (by decide), e27, hA_wu]
      · rw [e47, hA_ne (by decide), e43, hA_wu, e39, hA_ne (by decide), e35, hA_wu, e31, hA_ne (by decide), e27, hA_ne (by decide), j1, j2]
      · rw [e47, hA_wu, e43, hA_ne (by decide), e39, hA_wu, e35, hA_ne (by decide), e31, hA_ne (by decide), e27, hA_ne (by decide), j1, j2]
    refine cx_209 I45 F46 e16 B50 W51 ?_
    intro v52 a54 m55 h56 I57 F58 p53
    have g59 := im_a I57.1.1
    rw [I57.2.2.1] at g59
    have g60 := im_cm I57.1.1
    rw [I57.2.2.2] at g60
    show av_wp _ cd_212 81 [some (.inr (.inr (.inl (some (77))))), some (.inl x), some (.inl l), some (.inl q), some (.inl (3))] [.inl v52] h56 _
    refine av_wp_ret (v := some (.inl v52)) (ck_212 _ _ rfl) rfl rfl ?_
    exact hq _ _ _ _ h56 (Or.inl ⟨by omega, p53⟩) I57 F58
  · have c6 : v1 = (0) := c6
    refine av_wp_sqF ck_212 1 (pc' := 12) (lv' := [some (.inr (.inr (.inl (some (77))))), some (.inl x), some (.inl l), some (.inl q), none]) (st' := [.inl (-2)]) (h' := h) rfl ?_
    refine av_wp_ret (v := some (.inl (-2))) (ck_212 _ _ rfl) rfl rfl ?_
    exact hq _ _ _ _ h (Or.inr ⟨by omega, rfl⟩) I F
end
section
/-! TWO LAWS PART -/
theorem EB_fn {b b' t c s r : Nat} {cb : Int} {u ro : Nat → Int} {a : Nat → Nat → Int} {x y z : Int} {g h : av_H} (E : EB b t c s r cb u ro a x y z g) (hb : bn b') (ne : b ≠ b') (F : FN b' g h) (I : IC h) : EB b t c s r cb u ro a x y z h := by
  obtain ⟨e0, e1, e3, e4, e5, e6, e7⟩ := E
  have hb0 := e0.2.1
  refine ⟨ib_f1 e0 I F.1, ?_, ?_, fun j hj => ?_, ?_, ?_, ?_⟩
  · refine (F.2.1 c (fun j hj z => ?_)).trans e1
    have := e0.2.2.1.2.2.2.2.2.2.2.1
    rcases hb with w | w | w <;> omega
  · refine (F.2.1 r (fun j hj z => ?_)).trans e3
    have k2 := e0.2.2.2.2.2.2
    have := rwc_bn hb j (Nat.ble_eq_true_of_le hj)
    rw [← z, k2] at this
    cases this
  · refine (F.2.1 _ (fun i hi z => ?_)).trans (e4 j hj)
    rcases hb with w | w | w <;> rcases hb0 with q | q | q <;> omega
  · rw [F.2.2 b 13 ne]; exact e5
  · rw [F.2.2 b 14 ne]; exact e6
  · rw [F.2.2 b 15 ne]; exact e7
/-- both benches seated with one case, by two laws -/
def SBX (U : Nat → Nat → Int) (S : Nat → Nat) (n : Int) (sr nd : Nat → Int) (t c s : Nat) (cb : Int) (u : Nat → Int) (r : Nat) (ro bar : Nat → Int) (r2 : Nat) (ro2 bar2 : Nat → Int) (g h : av_H) : Prop := CJ U S n sr nd h ∧ Fr g h ∧ (∃ a x y z, EB 35 t c s r cb u ro a x y z h ∧ TKR u ro bar s a ∧ HZ u a) ∧ ∃ a x y z, EB 48 t c s r2 cb u ro2 a x y z h ∧ TKR u ro2 bar2 s a ∧ HZ u a
/-- in combo x they part -/
def PRT (u ro bar ro2 bar2 : Nat → Int) (s : Nat) (x : Int) : Prop := (bgn u ro bar s x).2.2 ≠ (bgn u ro2 bar2 s x).2.2 ∨ ((bgn u ro bar s x).2.2 ≠ 9999 ∧ ∃ w : Nat, w < 5 ∧ bwv u ro (bgn u ro bar s x).1 (bgn u ro bar s x).2.1 w ≠ bwv u ro2 (bgn u ro2 bar2 s x).1 (bgn u ro2 bar2 s x).2.1 w)
/-- how many of the first k; the first of them -/
noncomputable def cnP (P : Int → Prop) : Nat → Int
  | 0 => 0
  | k + 1 => cnP P k + @ite _ (P (k : Int)) (Classical.propDecidable _) 1 0
noncomputable def fsP (P : Int → Prop) : Nat → Int
  | 0 => -1
  | k + 1 => if fsP P k ≠ -1 then fsP P k else @ite _ (P (k : Int)) (Classical.propDecidable _) (k : Int) (-1)
section
variable {P : Int → Prop} {k : Nat}
theorem cnP_y (h : P (k : Int)) : cnP P (k + 1) = cnP P k + 1 := by
  show cnP P k + @ite _ (P (k : Int)) (Classical.propDecidable _) 1 0 = _
  rw [if_pos h]
theorem cnP_n (h : ¬ P (k : Int)) : cnP P (k + 1) = cnP P k := by
  show cnP P k + @ite _ (P (k : Int)) (Classical.propDecidable _) 1 0 = _
  rw [if_neg h, Int.add_zero]
theorem fsP_k (h : fsP P k ≠ -1) : fsP P (k + 1) = fsP P k := if_pos h
theorem fsP_y (e : fsP P k = -1) (h : P (k : Int)) : fsP P (k + 1) = (k : Int) := by
  have z : fsP P (k + 1) = if fsP P k ≠ -1 then fsP P k else @ite _ (P (k : Int)) (Classical.propDecidable _) (k : Int) (-1) := rfl
  rw [z, if_neg (fun y => y e), if_pos h]
theorem fsP_n (e : fsP P k = -1) (h : ¬ P (k : Int)) : fsP P (k + 1) = -1 := by
  have z : fsP P (k + 1) = if fsP P k ≠ -1 then fsP P k else @ite _ (P (k : Int)) (Classical.propDecidable _) (k : Int) (-1) := rfl
  rw [z, if_neg (fun y => y e), if_neg h]
theorem fsP_m {v : Int} (e : fsP P k = v) (h : v ≠ -1) : ∀ d, fsP P (k + d) = v := by
  intro d
  induction d with
  | zero => exact e
  | succ d ih => rw [show k + (d + 1) = (k + d) + 1 by omega, fsP_k (by rw [ih]; exact h)]; exact ih
theorem fsP_r : -1 ≤ fsP P k ∧ fsP P k < (k : Int) := by
  induction k with
  | zero => exact ⟨Int.le_refl _, by show (-1 : Int) < 0; omega⟩
  | succ k ih =>
    by_cases e : fsP P k = -1
    · by_cases h : P (k : Int)
      · rw [fsP_y e h]
        omega
      · rw [fsP_n e h]
        omega
    · rw [fsP_k e]
      omega
end
theorem Fr_6 {g h : av_H} (F : Fr g h) : ∀ l, l < 8 → hA h (6 + l) = hA g (6 + l) := fun l hl => F.2.2.2.2.2.2 _ (by
  have hh : ∀ l, l < 8 → sA (6 + l) = false := by decide
  exact hh l hl)
theorem Fr_34 {g h : av_H} (F : Fr g h) : hF h 3 4 = hF g 3 4 := F.2.2.2.2.2.1 3 4 rfl
/-- a seated bench stays when another is seated -/
theorem EB_fp {b b' t c s r : Nat} {cb : Int} {u ro : Nat → Int} {a : Nat → Nat → Int} {x y z : Int} {g h : av_H} (E : EB b t c s r cb u ro a x y z g) (hb : bn b') (ne : b ≠ b') (n6 : b ≠ 61) (F : FP b' g h) (I : IC h) : EB b t c s r cb u ro a x y z h := by
  obtain ⟨e0, e1, e3, e4, e5, e6, e7⟩ := E
  have hb0 := e0.2.1
  refine ⟨ib_fr e0 I F.1 (F.2.2.2 b 12 n6 ne) (F.2.2.2 b 11 n6 ne), ?_, ?_, fun j hj => ?_, ?_, ?_, ?_⟩
  · have cc := e0.2.2.1.2.2.2.2.2.2.2.1
    refine (F.2.1 c (by omega) (by omega) (fun j hj => by omega) (fun j hj => ?_)).trans e1
    rcases hb with w | w | w <;> omega
  · exact (FP_row hb F e0.2.2.2.2.2.2).trans e3
  · refine (F.2.1 _ ?_ ?_ (fun i hi => ?_) (fun i hi => ?_)).trans (e4 j hj)
    · rcases hb0 with q | q | q <;> omega
    · rcases hb0 with q | q | q <;> omega
    · rcases hb0 with q | q | q <;> omega
    · rcases hb with w | w | w <;> rcases hb0 with q | q | q <;> omega
  · rw [F.2.2.1 b 13 n6 ne]; exact e5
  · rw [F.2.2.1 b 14 n6 ne]; exact e6
  · rw [F.2.2.1 b 15 n6 ne]; exact e7
/-- the shortest case of the first i at which they part (Q), the first of those -/
noncomputable def ptv (S : Nat → Nat) (Q : Nat → Prop) : Nat → Int
  | 0 => -1
  | i + 1 => @ite _ ((ptv S Q i = -1 ∨ S i < S (ptv S Q i).toNat) ∧ Q i) (Classical.propDecidable _) (i : Int) (ptv S Q i)
theorem ptv_y {S : Nat → Nat} {Q : Nat → Prop} {i : Nat} (h : ptv S Q i = -1 ∨ S i < S (ptv S Q i).toNat) (q : Q i) : ptv S Q (i + 1) = (i : Int) := if_pos ⟨h, q⟩
theorem ptv_n {S : Nat → Nat} {Q : Nat → Prop} {i : Nat} (h : ¬ ((ptv S Q i = -1 ∨ S i < S (ptv S Q i).toNat) ∧ Q i)) : ptv S Q (i + 1) = ptv S Q i := if_neg h
theorem ptv_r {S : Nat → Nat} {Q : Nat → Prop} : ∀ i, -1 ≤ ptv S Q i ∧ ptv S Q i < (i : Int) := by
  intro i
  induction i with
  | zero => exact ⟨Int.le_refl _, by show (-1 : Int) < 0; omega⟩
  | succ i ih =>
    by_cases h : (ptv S Q i = -1 ∨ S i < S (ptv S Q i).toNat) ∧ Q i
    · rw [ptv_y h.1 h.2]
      omega
    · rw [ptv_n h]
      omega
/-- what counts for part -/
def PTQ (U : Nat → Nat → Int) (S : Nat → Nat) (ro ro2 : Nat → Int) (i : Nat) : Prop := cbv (U i) (S i) ≠ -1 ∧ fsP (PRT (U i) ro (bxx U S ro i) ro2 (bxx U S ro2 i) (S i)) (Int.toNat (cbv (U i) (S i))) ≠ -1
end
