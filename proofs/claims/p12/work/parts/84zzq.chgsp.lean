/-! A CASE WITH A SAYING LOST, OR WIRED -/
/-- the cells of a changed case: A below, behind them anything told -/
def CHG (A : Nat → Int) (s : Nat) (u : Nat → Int) : Prop := ∃ f, u = ctn f s ∧ (∀ j, j < 21 * s → f j = A j) ∧ ∀ j, 21 * s ≤ j → f j = 0 ∨ f j = A j
theorem CHG_o {A u : Nat → Int} {s : Nat} (x : CHG A s u) {q o : Nat} (hq : q < s) (ho : o < 20) : u (21 * q + o) = A (21 * q + o) := by
  obtain ⟨f, e, f1, _⟩ := x
  rw [e, ctn_o (by omega)]
  exact f1 _ (by omega)
theorem CHG_t {A u : Nat → Int} {s : Nat} (x : CHG A s u) : ∀ q, q < s → u (21 * q + 20) = tnv u q := fun q hq => by
  obtain ⟨f, e, _⟩ := x
  rw [e]
  exact ctn_t hq
theorem CHG_2 {A u : Nat → Int} {s : Nat} (x : CHG A s u) (h : ∀ j, A j ≤ 2000 ∨ j % 21 = 20) : ∀ j, u j ≤ 2000 ∨ j % 21 = 20 := fun j => by
  obtain ⟨f, e, f1, f2⟩ := x
  by_cases c : j % 21 = 20
  · exact Or.inr c
  · rw [e, ctn_o c]
    by_cases d : j < 21 * s
    · rw [f1 j d]
      exact h j
    · rcases f2 j (by omega) with z | z
      · rw [z]
        exact Or.inl (by omega)
      · rw [z]
        exact h j
/-- a saying lost for sure -/
def lsx (u : Nat → Int) (k : Nat) : Nat → Int := fun j => if j = 21 * k + 18 then 0 else if j = 21 * k + 19 then 1 else u j
/-- a saying by wire -/
def wix (u : Nat → Int) (k : Nat) : Nat → Int := fun j => if j = 21 * k + 4 then 1 else if j = 21 * k + 8 ∨ j = 21 * k + 9 ∨ (21 * k + 16 ≤ j ∧ j < 21 * k + 19) then 0 else u j
/-- the hours of a case's cells -/
def CWB (u : Nat → Int) (s : Nat) : Prop := ∀ k, k < s → (0 ≤ u (21 * k + 7) ∧ u (21 * k + 7) ≤ 1999) ∧ (0 ≤ u (21 * k + 8) ∧ u (21 * k + 8) ≤ 999) ∧ (0 ≤ u (21 * k + 9) ∧ u (21 * k + 9) ≤ 999) ∧ (∀ j, j < 4 → 0 ≤ u (21 * k + 15 + j) ∧ u (21 * k + 15 + j) ≤ 16) ∧ (u (21 * k + 18) = 0 ∨ u (21 * k + 18) = 2) ∧ u (21 * k + 19) = 0
theorem CWB_of {f : Nat → Int} {s : Nat} {ah : Int} (w : ∀ q, q < s → WRW ah q f) : CWB (ctn f s) s := fun k hk => by
  have a := w k hk
  have oc : ∀ o, o < 20 → ctn f s (21 * k + o) = f (k * 21 + o) := fun o ho => by
    rw [ctn_o (by omega), show 21 * k + o = k * 21 + o by omega]
  rw [oc 7 (by omega), oc 8 (by omega), oc 9 (by omega), oc 18 (by omega), oc 19 (by omega)]
  refine ⟨a.2.1 7 (by omega), a.2.1 8 (by omega), a.2.1 9 (by omega), fun j hj => ?_, a.1.2.2.2.2.2, ?_⟩
  · rw [show 21 * k + 15 + j = 21 * k + (15 + j) by omega, oc (15 + j) (by omega)]
    have h := a.2.1 (15 + j) (by omega)
    rcases (show j = 0 ∨ j = 1 ∨ j = 2 ∨ j = 3 by omega) with e | e | e | e <;> subst e
    · exact h
    · exact h
    · exact h
    · have h : (0 : Int) ≤ f (k * 21 + (15 + 3)) ∧ f (k * 21 + (15 + 3)) ≤ 2 := h
      omega
  · have h : (0 : Int) ≤ f (k * 21 + 19) ∧ f (k * 21 + 19) ≤ 0 := a.2.1 19 (by omega)
    omega
section
variable {u : Nat → Int} {s k q o : Nat}
theorem lsx_o (h : ¬ (q = k ∧ (o = 18 ∨ o = 19))) (ho : o < 20) : lsx u k (21 * q + o) = u (21 * q + o) := by
  unfold lsx
  rw [if_neg (by omega), if_neg (by omega)]
theorem lsx_k : lsx u k (21 * k + 18) = 0 ∧ lsx u k (21 * k + 19) = 1 := by
  unfold lsx
  rw [if_pos rfl, if_neg (by omega), if_pos rfl]
  exact ⟨rfl, rfl⟩
theorem wix_o (h : ¬ (q = k ∧ (o = 4 ∨ o = 8 ∨ o = 9 ∨ o = 16 ∨ o = 17 ∨ o = 18))) (ho : o < 20) : wix u k (21 * q + o) = u (21 * q + o) := by
  unfold wix
  rw [if_neg (by omega), if_neg (by omega)]
theorem wix_k : wix u k (21 * k + 4) = 1 ∧ wix u k (21 * k + 8) = 0 ∧ wix u k (21 * k + 9) = 0 ∧ wix u k (21 * k + 16) = 0 ∧ wix u k (21 * k + 17) = 0 ∧ wix u k (21 * k + 18) = 0 := by
  unfold wix
  refine ⟨if_pos rfl, ?_, ?_, ?_, ?_, ?_⟩
  · rw [if_neg (by omega), if_pos (by omega)]
  · rw [if_neg (by omega), if_pos (by omega)]
  · rw [if_neg (by omega), if_pos (by omega)]
  · rw [if_neg (by omega), if_pos (by omega)]
  · rw [if_neg (by omega), if_pos (by omega)]
end
/-- what a changed case keeps -/
def CHK (u A : Nat → Int) (s : Nat) : Prop := (∀ q, q < s → A (21 * q + 0) = u (21 * q + 0) ∧ A (21 * q + 1) = u (21 * q + 1) ∧ A (21 * q + 2) = u (21 * q + 2) ∧ A (21 * q + 3) = u (21 * q + 3) ∧ (0 ≤ A (21 * q + 4) ∧ A (21 * q + 4) ≤ 3) ∧ A (21 * q + 5) = u (21 * q + 5) ∧ A (21 * q + 6) = u (21 * q + 6) ∧ ∀ j, j < 5 → A (21 * q + 10 + j) = u (21 * q + 10 + j)) ∧ (∀ j, A j ≤ 2000 ∨ j % 21 = 20) ∧ (∀ k, k < s → (0 ≤ A (21 * k + 7) ∧ A (21 * k + 7) ≤ 1999) ∧ (0 ≤ A (21 * k + 8) ∧ A (21 * k + 8) ≤ 999) ∧ (0 ≤ A (21 * k + 9) ∧ A (21 * k + 9) ≤ 999) ∧ ∀ j, j < 3 → 0 ≤ A (21 * k + 15 + j) ∧ A (21 * k + 15 + j) ≤ 16)
theorem CHK_l {u : Nat → Int} {s k : Nat} (W1 : UW u s) (W5 : ∀ j, u j ≤ 2000 ∨ j % 21 = 20) (B : CWB u s) : CHK u (lsx u k) s := by
  refine ⟨fun q hq => ?_, fun j => ?_, fun q hq => ?_⟩
  · have w := W1 q hq
    rw [lsx_o (by omega) (by omega), lsx_o (by omega) (by omega), lsx_o (by omega) (by omega), lsx_o (by omega) (by omega), lsx_o (by omega) (by omega), lsx_o (by omega) (by omega), lsx_o (by omega) (by omega)]
    refine ⟨rfl, rfl, rfl, rfl, w.2.2.2.2.1, rfl, rfl, fun j hj => ?_⟩
    rw [show 21 * q + 10 + j = 21 * q + (10 + j) by omega]
    exact lsx_o (by omega) (by omega)
  · have h := W5 j
    unfold lsx
    (repeat' split) <;> omega
  · have b := B q hq
    rw [lsx_o (by omega) (by omega), lsx_o (by omega) (by omega), lsx_o (by omega) (by omega)]
    refine ⟨b.1, b.2.1, b.2.2.1, fun j hj => ?_⟩
    rw [show 21 * q + 15 + j = 21 * q + (15 + j) by omega, lsx_o (by omega) (by omega), show 21 * q + (15 + j) = 21 * q + 15 + j by omega]
    exact b.2.2.2.1 j (by omega)
theorem CHK_w {u : Nat → Int} {s k : Nat} (W1 : UW u s) (W5 : ∀ j, u j ≤ 2000 ∨ j % 21 = 20) (B : CWB u s) : CHK u (wix u k) s := by
  refine ⟨fun q hq => ?_, fun j => ?_, fun q hq => ?_⟩
  · have w := W1 q hq
    rw [wix_o (by omega) (by omega), wix_o (o := 1) (by omega) (by omega), wix_o (o := 2) (by omega) (by omega), wix_o (o := 3) (by omega) (by omega), wix_o (o := 5) (by omega) (by omega), wix_o (o := 6) (by omega) (by omega)]
    refine ⟨rfl, rfl, rfl, rfl, ?_, rfl, rfl, fun j hj => ?_⟩
    · by_cases c : q = k
      · rw [c, wix_k.1]
        omega
      · rw [wix_o (by omega) (by omega)]
        exact w.2.2.2.2.1
    · rw [show 21 * q + 10 + j = 21 * q + (10 + j) by omega]
      exact wix_o (by omega) (by omega)
  · have h := W5 j
    unfold wix
    (repeat' split) <;> omega
  · have b := B q hq
    by_cases c : q = k
    · have z := wix_k (u := u) (k := k)
      rw [c, z.2.1, z.2.2.1, wix_o (o := 7) (by omega) (by omega)]
      rw [c] at b
      refine ⟨b.1, by omega, by omega, fun j hj => ?_⟩
      rcases (show j = 0 ∨ j = 1 ∨ j = 2 by omega) with e | e | e <;> subst e
      · rw [show 21 * k + 15 + 0 = 21 * k + 15 by omega, wix_o (o := 15) (by omega) (by omega)]
        exact b.2.2.2.1 0 (by omega)
      · rw [show 21 * k + 15 + 1 = 21 * k + 16 by omega, z.2.2.2.1]
        omega
      · rw [show 21 * k + 15 + 2 = 21 * k + 17 by omega, z.2.2.2.2.1]
        omega
    · rw [wix_o (by omega) (by omega), wix_o (by omega) (by omega), wix_o (by omega) (by omega)]
      refine ⟨b.1, b.2.1, b.2.2.1, fun j hj => ?_⟩
      rw [show 21 * q + 15 + j = 21 * q + (15 + j) by omega, wix_o (by omega) (by omega), show 21 * q + (15 + j) = 21 * q + 15 + j by omega]
      exact b.2.2.2.1 j (by omega)
section
variable {u A v : Nat → Int} {s i : Nat}
theorem CHG_uw (C : CHK u A s) (x : CHG A s v) (W : UW u s) : UW v s := fun k hk => by
  have w := W k hk
  have c := C.1 k hk
  rw [CHG_o x hk (by omega), CHG_o x hk (by omega), CHG_o x hk (by omega), CHG_o x hk (by omega), c.1, c.2.2.2.1, c.2.2.2.2.2.1]
  refine ⟨w.1, w.2.1, w.2.2.1, w.2.2.2.1, c.2.2.2.2.1, w.2.2.2.2.2.1, fun j hj => ?_⟩
  rw [show 21 * k + 10 + j = 21 * k + (10 + j) by omega, CHG_o x hk (by omega), show 21 * k + (10 + j) = 21 * k + 10 + j by omega, c.2.2.2.2.2.2.2 j hj]
  exact w.2.2.2.2.2.2 j hj
theorem CHG_h (C : CHK u A s) (x : CHG A s v) : ∀ y : Int, 0 ≤ y → y ≤ 1023 → ∀ k, k < s → ∀ j, j < 3 → -1 ≤ hrv v y k j ∧ hrv v y k j ≤ 5000 := fun y y0 _ k hk j hj => by
  have c := C.2.2 k hk
  refine hrv_b y0 hj ?_ ?_ ?_ (fun p hp => ?_)
  · rw [show 21 * k + 7 + 0 = 21 * k + 7 by omega, CHG_o x hk (by omega)]
    exact c.1
  · rw [show 21 * k + 7 + 1 = 21 * k + 8 by omega, CHG_o x hk (by omega)]
    exact c.2.1
  · rw [show 21 * k + 7 + 2 = 21 * k + 9 by omega, CHG_o x hk (by omega)]
    exact c.2.2.1
  · rw [show 21 * k + 15 + p = 21 * k + (15 + p) by omega, CHG_o x hk (by omega), show 21 * k + (15 + p) = 21 * k + 15 + p by omega]
    exact (c.2.2.2 p hp).2
theorem CHG_sea {ro bar : Nat → Int} (C : CHK u A s) (x : CHG A s v) (hb : ∀ k, 0 ≤ bar k ∧ bar k ≤ 1) (r8 : -1 ≤ ro 8) : SEA v ro bar s := ⟨CHG_t x, hb, CHG_2 x C.2.1, CHG_h C x, r8⟩
end
theorem CRT_c {U : Nat → Nat → Int} {S : Nat → Nat} {n L : Int} {ro ro' : Nat → Nat → Int} (x : CRT U S n L ro) (hL : L ≤ 8) (e : ∀ l, l < 8 → ro' l = ro l) : CRT U S n L ro' := ⟨x.1, x.2.1, x.2.2.1, fun l h0 hl => by
  rw [e l.toNat (by omega)]
  exact x.2.2.2 l h0 hl⟩
theorem CF0_al {g h : av_H} {n m : Nat} (G : av_Gd g) (L : LY g) (A : AL g h n m) : CF0 g h := CF0_fq G L nun_low (FQ_al A) ⟨fun z => z, fun z => z, fun z => z, fun z => z⟩ ⟨fun z => z, fun z => z⟩ (fun q _ _ z => z)
theorem CJ_al {U : Nat → Nat → Int} {S : Nat → Nat} {n : Int} {sr nd : Nat → Int} {g h : av_H} {a b : Nat} (G : av_Gd g) (C : CJ U S n sr nd g) (A : AL g h a b) : CJ U S n sr nd h := by
  have L := C.1.1
  have l : ∀ {q : Nat}, q < 122 → q < g.1 := fun hq => ly_lt G L hq
  obtain ⟨c1, ⟨x1, x2, x3⟩, c3, c4⟩ := C
  refine ⟨IC_al G c1 A, ⟨(congrFun (A.2.2 3 (l (by omega))).2.2.1 3).trans x1, x2, fun i hi => ?_⟩, (A.2.2 27 (l (by omega))).2.1.trans c3, (A.2.2 28 (l (by omega))).2.1.trans c4⟩
  obtain ⟨t, c, y1, y2, y3⟩ := x3 i hi
  have cl : c < g.1 := gd_lt G y2.2.2.2.2.2.2.1 (by decide)
  exact ⟨t, c, by rw [(A.2.2 4 (l (by omega))).2.2.2.2]; exact y1, CO_fb G L y2 (AL_fb A), (A.2.2 c cl).2.1.trans y3⟩
/-- how many combos of the changed case have a bargain; -2: there are too many -/
noncomputable def lcv (u ro bar : Nat → Int) (s : Nat) : Int := if cbv u s = -1 then -2 else ta (fun q => (bgn u ro bar s q).2.2) (Int.toNat (cbv u s)) 0
/-- what a look at a changed case answers -/
def RSC (ok : Prop) (A : Nat → Int) (s : Nat) (V : (Nat → Int) → Int) (v : Int) : Prop := (¬ ok ∧ v = -2) ∨ (ok ∧ ∃ u, CHG A s u ∧ v = V u)
theorem AL_0 (h : av_H) : AL h h 0 0 := ⟨rfl, rfl, fun q _ => ⟨rfl, rfl, rfl, rfl, rfl⟩⟩
theorem CHG_1 {A u : Nat → Int} {s : Nat} (x : CHG A s u) (h : ∀ j, -1 ≤ A j) : ∀ j, -1 ≤ u j := fun j => by
  obtain ⟨f, e, f1, f2⟩ := x
  rw [e]
  unfold ctn
  split
  · have a := mx1_p (f (21 * (j / 21) + 15))
    have b := mx1_p (f (21 * (j / 21) + 16))
    have c := mx1_p (f (21 * (j / 21) + 17))
    have d := mx1_p (f (21 * (j / 21) + 18))
    have h1 : 1 * 1 ≤ mx1 (f (21 * (j / 21) + 15)) * mx1 (f (21 * (j / 21) + 16)) := Int.mul_le_mul a b (by omega) (by omega)
    have h2 : 1 * 1 ≤ mx1 (f (21 * (j / 21) + 15)) * mx1 (f (21 * (j / 21) + 16)) * mx1 (f (21 * (j / 21) + 17)) := Int.mul_le_mul (by omega) c (by omega) (by omega)
    have h3 : 1 * 1 ≤ mx1 (f (21 * (j / 21) + 15)) * mx1 (f (21 * (j / 21) + 16)) * mx1 (f (21 * (j / 21) + 17)) * mx1 (f (21 * (j / 21) + 18)) := Int.mul_le_mul (by omega) d (by omega) (by omega)
    unfold tnv
    rw [Int.one_mul]
    omega
  · by_cases d : j < 21 * s
    · rw [f1 j d]
      exact h j
    · rcases f2 j (by omega) with z | z
      · rw [z]
        omega
      · rw [z]
        exact h j
theorem lsx_1 {u : Nat → Int} {k : Nat} (h : ∀ j, -1 ≤ u j) : ∀ j, -1 ≤ lsx u k j := fun j => by
  have := h j
  unfold lsx
  (repeat' split) <;> omega
theorem wix_1 {u : Nat → Int} {k : Nat} (h : ∀ j, -1 ≤ u j) : ∀ j, -1 ≤ wix u k j := fun j => by
  have := h j
  unfold wix
  (repeat' split) <;> omega
theorem CHG_rwf {u A v ro : Nat → Int} {s : Nat} (C : CHK u A s) (x : CHG A s v) (W : RWF u ro s) (h : ∀ j, -1 ≤ A j) : RWF v ro s := ⟨CHG_uw C x W.1, W.2.1, CHG_2 x C.2.1, CHG_1 x h, W.2.2.2.2.1, CHG_h C x, W.2.2.2.2.2.2⟩
theorem brv_u {u v sr : Nat → Int} {k : Nat} (h : v (21 * k + 6) = u (21 * k + 6)) : brv v sr k = brv u sr k := by
  unfold brv
  rw [h]
/-- the reference's rows of a case with a saying lost -/
theorem RBB_l {u v ro sr : Nat → Int} {s q : Nat} {g h : av_H} (B : RBB u ro (brv u sr) s g) (hq : q < s) (x : CHG (lsx u q) s v) (e : ∀ a, 95 ≤ a → a ≤ 106 → a ≠ 98 → hA h a = hA g a) (e98 : hA h 98 = av_u1 (hA g 98) q 2) : RBB v ro (brv v sr) s h := by
  have cv : ∀ k o, k < s → o < 20 → ¬ (k = q ∧ (o = 18 ∨ o = 19)) → v (21 * k + o) = u (21 * k + o) := fun k o hk ho hn => (CHG_o x hk ho).trans (lsx_o hn ho)
  obtain ⟨⟨b1, b2⟩, b3⟩ := B
  refine ⟨⟨fun k hk => ⟨?_, fun j hj => ?_⟩, fun j hj => ?_⟩, fun k hk => ⟨fun j hj => ?_, ?_⟩⟩
  · have r := (b1 k hk).1
    rw [e 96 (by omega) (by omega) (by omega), e 97 (by omega) (by omega) (by omega), e 99 (by omega) (by omega) (by omega), e 100 (by omega) (by omega) (by omega), e 101 (by omega) (by omega) (by omega), e 102 (by omega) (by omega) (by omega), e 103 (by omega) (by omega) (by omega), cv k 0 hk (by omega) (by omega), cv k 4 hk (by omega) (by omega), cv k 5 hk (by omega) (by omega), cv k 3 hk (by omega) (by omega), cv k 1 hk (by omega) (by omega), cv k 2 hk (by omega) (by omega), brv_u (cv k 6 hk (by omega) (by omega))]
    exact r
  · rw [e 104 (by omega) (by omega) (by omega), show 21 * k + 10 + j = 21 * k + (10 + j) by omega, cv k (10 + j) hk (by omega) (by omega), show 21 * k + (10 + j) = 21 * k + 10 + j by omega]
    exact (b1 k hk).2 j hj
  · rw [e 95 (by omega) (by omega) (by omega)]
    exact b2 j hj
  · have r := (b3 k hk).1 j hj
    rw [e 105 (by omega) (by omega) (by omega), e 106 (by omega) (by omega) (by omega), show 21 * k + 7 + j = 21 * k + (7 + j) by omega, show 21 * k + 15 + j = 21 * k + (15 + j) by omega, cv k (7 + j) hk (by omega) (by omega), cv k (15 + j) hk (by omega) (by omega), show 21 * k + (7 + j) = 21 * k + 7 + j by omega, show 21 * k + (15 + j) = 21 * k + 15 + j by omega]
    exact r
  · rw [e98]
    by_cases c : k = q
    · subst c
      rw [u1_eq, CHG_o x hk (by omega), CHG_o x hk (by omega)]
      exact Or.inr (Or.inr ⟨lsx_k.1, rfl, lsx_k.2⟩)
    · rw [u1_ne c, cv k 18 hk (by omega) (by omega), cv k 19 hk (by omega) (by omega)]
      exact (b3 k hk).2
theorem RBB_w {u v ro sr : Nat → Int} {s q : Nat} {g h : av_H} (B : RBB u ro (brv u sr) s g) (hq : q < s) (x : CHG (wix u q) s v) (u19 : u (21 * q + 19) = 0) (e : ∀ a, 95 ≤ a → a ≤ 106 → a ≠ 97 → a ≠ 98 → a ≠ 105 → a ≠ 106 → hA h a = hA g a) (e97 : hA h 97 = av_u1 (hA g 97) q 1) (e98 : hA h 98 = av_u1 (hA g 98) q 0) (e5 : hA h 105 = av_u1 (av_u1 (hA g 105) (3 * q + 1) 0) (3 * q + 2) 0) (e6 : hA h 106 = av_u1 (av_u1 (hA g 106) (3 * q + 1) 0) (3 * q + 2) 0) : RBB v ro (brv v sr) s h := by
  have cv : ∀ k o, k < s → o < 20 → ¬ (k = q ∧ (o = 4 ∨ o = 8 ∨ o = 9 ∨ o = 16 ∨ o = 17 ∨ o = 18)) → v (21 * k + o) = u (21 * k + o) := fun k o hk ho hn => (CHG_o x hk ho).trans (wix_o hn ho)
  obtain ⟨⟨b1, b2⟩, b3⟩ := B
  have wk := wix_k (u := u) (k := q)
  have z4 : v (21 * q + 4) = 1 := (CHG_o x hq (by omega)).trans wk.1
  have z8 : v (21 * q + 8) = 0 := (CHG_o x hq (by omega)).trans wk.2.1
  have z9 : v (21 * q + 9) = 0 := (CHG_o x hq (by omega)).trans wk.2.2.1
  have z16 : v (21 * q + 16) = 0 := (CHG_o x hq (by omega)).trans wk.2.2.2.1
  have z17 : v (21 * q + 17) = 0 := (CHG_o x hq (by omega)).trans wk.2.2.2.2.1
  have z18 : v (21 * q + 18) = 0 := (CHG_o x hq (by omega)).trans wk.2.2.2.2.2
  refine ⟨⟨fun k hk => ⟨?_, fun j hj => ?_⟩, fun j hj => ?_⟩, fun k hk => ⟨fun j hj => ?_, ?_⟩⟩
  · have r := (b1 k hk).1
    rw [e 96 (by omega) (by omega) (by omega) (by omega) (by omega) (by omega), e 99 (by omega) (by omega) (by omega) (by omega) (by omega) (by omega), e 100 (by omega) (by omega) (by omega) (by omega) (by omega) (by omega), e 101 (by omega) (by omega) (by omega) (by omega) (by omega) (by omega), e 102 (by omega) (by omega) (by omega) (by omega) (by omega) (by omega), e 103 (by omega) (by omega) (by omega) (by omega) (by omega) (by omega), cv k 0 hk (by omega) (by omega), cv k 5 hk (by omega) (by omega), cv k 3 hk (by omega) (by omega), cv k 1 hk (by omega) (by omega), cv k 2 hk (by omega) (by omega), brv_u (cv k 6 hk (by omega) (by omega))]
    refine ⟨r.1, ?_, r.2.2⟩
    rw [e97]
    by_cases c : k = q
    · subst c
      rw [u1_eq, z4]
    · rw [u1_ne c, cv k 4 hk (by omega) (by omega)]
      exact r.2.1
  · rw [e 104 (by omega) (by omega) (by omega) (by omega) (by omega) (by omega), show 21 * k + 10 + j = 21 * k + (10 + j) by omega, cv k (10 + j) hk (by omega) (by omega), show 21 * k + (10 + j) = 21 * k + 10 + j by omega]
    exact (b1 k hk).2 j hj
  · rw [e 95 (by omega) (by omega) (by omega) (by omega) (by omega) (by omega)]
    exact b2 j hj
  · have r := (b3 k hk).1 j hj
    rw [e5, e6]
    by_cases c : k = q ∧ 1 ≤ j
    · obtain ⟨c1, c2⟩ := c
      subst c1
      rcases (show j = 1 ∨ j = 2 by omega) with d | d <;> subst d
      · rw [u1_ne (by omega), u1_eq, u1_ne (by omega), u1_eq, show 21 * k + 7 + 1 = 21 * k + 8 by omega, show 21 * k + 15 + 1 = 21 * k + 16 by omega, z8, z16]
        exact ⟨rfl, Or.inl ⟨rfl, rfl⟩⟩
      · rw [u1_eq, u1_eq, show 21 * k + 7 + 2 = 21 * k + 9 by omega, show 21 * k + 15 + 2 = 21 * k + 17 by omega, z9, z17]
        exact ⟨rfl, Or.inl ⟨rfl, rfl⟩⟩
    · rw [u1_ne (by omega), u1_ne (by omega), u1_ne (by omega), u1_ne (by omega), show 21 * k + 7 + j = 21 * k + (7 + j) by omega, show 21 * k + 15 + j = 21 * k + (15 + j) by omega, cv k (7 + j) hk (by omega) (by omega), cv k (15 + j) hk (by omega) (by omega), show 21 * k + (7 + j) = 21 * k + 7 + j by omega, show 21 * k + (15 + j) = 21 * k + 15 + j by omega]
      exact r
  · rw [e98]
    by_cases c : k = q
    · subst c
      rw [u1_eq, z18, cv k 19 hk (by omega) (by omega), u19]
      exact Or.inl ⟨rfl, rfl, rfl⟩
    · rw [u1_ne c, cv k 18 hk (by omega) (by omega), cv k 19 hk (by omega) (by omega)]
      exact (b3 k hk).2
section
variable {sc : av_Sr} {cd : List (Nat × av_E)} {Q : Option av_V → av_H → Prop} {pc p' : Nat} {lv : av_L} {r' : List av_V} {g h : av_H} {n a m : Int}
theorem xm_ws {q l : Nat} {x v : Int} (hx : cd.lookup pc = some (av_q (.iastore))) (hp : pc + 1 = p') (I : IMF n a m h) (F : FM g h) (hk : hK h q = (20, l)) (ha : 97 ≤ q ∧ q ≤ 107 ∧ q ≠ 100) (hv : wlo q ≤ v ∧ v ≤ whi q) (hi : 0 ≤ x ∧ x < l ∧ (l : Int) < 2147483648) (hw : ∀ h', IMF n a m h' → FM g h' → h' = hwA h q x.toNat v → av_wp sc cd p' lv r' h' Q) : av_wp sc cd pc lv (.inl v :: .inl x :: .inr (.inr (.inl (some q))) :: r') h Q :=
  wq_as hx hp hk hi (hw _ ⟨IM_wW I.1 ha hv, I.2⟩ (FM_wA F (mA_in (by omega) (by omega))) rfl)
end
