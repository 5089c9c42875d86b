/-! THE CLASS'S OWN CHANGES: frames with new cells; a case by its cells -/
def bA (a : Nat) : Bool := Nat.beq a 2 || Nat.beq a 23 || Nat.beq a 25 || Nat.beq a 27 || (Nat.ble 6 a && Nat.ble a 13) || (Nat.ble 15 a && Nat.ble a 20)
def bF (o f : Nat) : Bool := Nat.beq o 1 || Nat.beq o 22 || (Nat.beq o 0 && (Nat.beq f 7 || Nat.beq f 8)) || (Nat.beq o 3 && (Nat.ble 3 f && Nat.ble f 5))
def bR (o : Nat) : Bool := Nat.beq o 4 || Nat.beq o 21
def FB (g h : av_H) (n m : Nat) : Prop := h.1 = g.1 + n ∧ h.2.1 = g.2.1 + m ∧ (∀ q, q < g.1 → hK h q = hK g q) ∧ (∀ q, q < g.1 → bA q = false → hA h q = hA g q) ∧ (∀ q k, q < g.1 → bF q k = false → hF h q k = hF g q k) ∧ (∀ q, q < g.1 → hG h q = hG g q) ∧ (∀ q, q < g.1 → bR q = false → hR h q = hR g q)
section
variable {g h k : av_H} {n m n' m' : Nat}
theorem FB_rf (h : av_H) : FB h h 0 0 := ⟨rfl, rfl, fun _ _ => rfl, fun _ _ _ => rfl, fun _ _ _ _ => rfl, fun _ _ => rfl, fun _ _ _ => rfl⟩
theorem FB_tr (a : FB g h n m) (c : FB h k n' m') : FB g k (n + n') (m + m') := by
  have l : ∀ q, q < g.1 → q < h.1 := fun q hq => by rw [a.1]; omega
  refine ⟨by rw [c.1, a.1]; omega, by rw [c.2.1, a.2.1]; omega, fun q hq => (c.2.2.1 q (l q hq)).trans (a.2.2.1 q hq), fun q hq e => (c.2.2.2.1 q (l q hq) e).trans (a.2.2.2.1 q hq e), fun q j hq e => (c.2.2.2.2.1 q j (l q hq) e).trans (a.2.2.2.2.1 q j hq e), fun q hq => (c.2.2.2.2.2.1 q (l q hq)).trans (a.2.2.2.2.2.1 q hq), fun q hq e => (c.2.2.2.2.2.2 q (l q hq) e).trans (a.2.2.2.2.2.2 q hq e)⟩
theorem tF_bF {o f : Nat} (e : bF o f = false) : tF o f = false := by
  cases h : tF o f with
  | false => rfl
  | true =>
    simp only [tF, Bool.and_eq_true, Bool.or_eq_true] at h
    have h1 : o = 1 := Nat.eq_of_beq_eq_true h.1
    subst h1
    rcases h.2 with (((h2 | h2) | h2) | h2) | h2 <;> (have h3 := Nat.eq_of_beq_eq_true h2; subst h3; cases e)
theorem FB_T (F : FT g h) : FB g h 0 0 := ⟨F.1, F.2.1, fun q _ => congrFun F.2.2.1 q, fun q _ e => F.2.2.2.2.2.2 q (fun z => by subst z; cases e) (fun z => by subst z; cases e), fun q j _ e => F.2.2.2.2.2.1 q j (tF_bF e), fun q _ => congrFun F.2.2.2.2.1 q, fun q _ _ => congrFun F.2.2.2.1 q⟩
theorem FB_wF {o f : Nat} {v : Int} (e : bF o f = true) : FB h (hwF h o f v) 0 0 := ⟨rfl, rfl, fun _ _ => rfl, fun _ _ _ => rfl, fun q j _ ej => by
  show av_u2 h.2.2.2.2.1 o f v q j = _
  have hne : ¬ (q = o ∧ j = f) := fun z => by rw [z.1, z.2, e] at ej; cases ej
  rw [av_u2, if_neg hne], fun _ _ => rfl, fun _ _ _ => rfl⟩
theorem FB_wR {o j : Nat} {v : Option Nat} (e : bR o = true) : FB h (hwR h o j v) 0 0 := ⟨rfl, rfl, fun _ _ => rfl, fun _ _ _ => rfl, fun _ _ _ _ => rfl, fun _ _ => rfl, fun q _ ej => by
  show av_u2 h.2.2.2.2.2.2.1 o j v q = _
  have hne : q ≠ o := fun z => by rw [z, e] at ej; cases ej
  rw [av_u2_ne hne]⟩
theorem FB_A {A : Nat → Nat → Int} (e : ∀ q, bA q = false → A q = hA h q) : FB h (h.1, h.2.1, h.2.2.1, A, h.2.2.2.2) 0 0 := ⟨rfl, rfl, fun _ _ => rfl, fun q _ ej => e q ej, fun _ _ _ _ => rfl, fun _ _ => rfl, fun _ _ _ => rfl⟩
end
/-- a case: its object, its cells' array, how many sayings, what was told -/
def CX (h : av_H) (t c s : Nat) (f : Nat → Int) : Prop := hK h t = (1, 0) ∧ hF h t 1 = (s : Int) ∧ hF h t 3 = cbv f s ∧ hG h t 0 = some c ∧ hK h c = (20, 21 * s) ∧ hA h c = ctn f s
/-- cells as they may be -/
def FV (s : Nat) (f : Nat → Int) : Prop := s ≤ 12 ∧ (∀ j, -1 ≤ f j ∧ f j ≤ 100000) ∧ (∀ k j, j < 4 → f (21 * k + 15 + j) ≤ 16) ∧ ∀ j, j % 21 ≠ 20 → f j ≤ 2000
theorem ctn_v {s : Nat} {f : Nat → Int} (V : FV s f) : (∀ j, -1 ≤ ctn f s j ∧ ctn f s j ≤ 100000) ∧ ∀ k j, j < 4 → ctn f s (21 * k + 15 + j) ≤ 16 := by
  constructor
  · intro j
    unfold ctn
    split
    · have := tnv_b (f := f) (k := j / 21) (fun o h1 h2 => by have := V.2.2.1 (j / 21) (o - 15) (by omega); rw [show 21 * (j / 21) + 15 + (o - 15) = 21 * (j / 21) + o by omega] at this; exact this)
      omega
    · exact V.2.1 j
  · intro k j hj
    rw [ctn_o (by omega)]
    exact V.2.2.1 k j hj
theorem cx_co {h : av_H} {t c s : Nat} {f : Nat → Int} (X : CX h t c s f) (V : FV s f) (hc : c = 34 ∨ c = 76 ∨ 122 ≤ c) : CO h t c s (cbv f s) := by
  obtain ⟨x1, x2, x3, x4, x5, x6⟩ := X
  refine ⟨x1, x2, V.1, x3, cbv_b (fun q _ o h1 h2 => by have := V.2.2.1 q (o - 15) (by omega); rw [show 21 * q + 15 + (o - 15) = 21 * q + o by omega] at this; exact this), x4, x5, hc, ?_⟩
  rw [x6]
  exact ctn_v V
/-- new cells alone -/
def AL (g h : av_H) (n m : Nat) : Prop := h.1 = g.1 + n ∧ h.2.1 = g.2.1 + m ∧ ∀ q, q < g.1 → hK h q = hK g q ∧ hA h q = hA g q ∧ hF h q = hF g q ∧ hG h q = hG g q ∧ hR h q = hR g q
theorem AL_fb {g h : av_H} {n m : Nat} (a : AL g h n m) : FB g h n m := ⟨a.1, a.2.1, fun q hq => (a.2.2 q hq).1, fun q hq _ => (a.2.2 q hq).2.1, fun q k hq _ => congrFun (a.2.2 q hq).2.2.1 k, fun q hq => (a.2.2 q hq).2.2.2.1, fun q hq _ => (a.2.2 q hq).2.2.2.2⟩
theorem AL_tr {g h k : av_H} {n m n' m' : Nat} (a : AL g h n m) (c : AL h k n' m') : AL g k (n + n') (m + m') := by
  refine ⟨by rw [c.1, a.1]; omega, by rw [c.2.1, a.2.1]; omega, fun q hq => ?_⟩
  obtain ⟨a1, a2, a3, a4, a5⟩ := a.2.2 q hq
  obtain ⟨c1, c2, c3, c4, c5⟩ := c.2.2 q (by rw [a.1]; omega)
  exact ⟨c1.trans a1, c2.trans a2, c3.trans a3, c4.trans a4, c5.trans a5⟩
theorem FB_eq {g h : av_H} {n m n' m' : Nat} (a : FB g h n m) (e : n = n') (f : m = m') : FB g h n' m' := by
  subst e
  subst f
  exact a
theorem AL_eq {g h : av_H} {n m n' m' : Nat} (a : AL g h n m) (e : n = n') (f : m = m') : AL g h n' m' := by
  subst e
  subst f
  exact a
/-- from the making to the case -/
theorem nc_cx {g0 h : av_H} {s : Nat} {f : Nat → Int} (N : NC (av_newO 1 4 g0) g0.1 s (ctn f s) (s : Int) (cbv f s) h) : CX h g0.1 (g0.1 + 1) s f ∧ AL g0 h 2 (4 + 21 * s) := by
  refine ⟨⟨nc_kt N, N.2.2.2.2.2.2.2.1, N.2.2.2.2.2.2.2.2.1, nc_g N, nc_kc N, nc_a N⟩, ?_⟩
  obtain ⟨n1, n2, n3, n4, n5, n6, n7, _⟩ := N
  have e1 : (av_newO 1 4 g0).1 = g0.1 + 1 := rfl
  refine ⟨n1, by rw [n2]; show g0.2.1 + 4 + 21 * s = _; omega, fun q hq => ⟨?_, ?_, ?_, ?_, ?_⟩⟩
  · rw [n3]
    show av_u1 (av_u1 g0.2.2.1 g0.1 (1, 0)) (g0.1 + 1) _ q = _
    rw [show av_u1 (av_u1 g0.2.2.1 g0.1 (1, 0)) (g0.1 + 1) (20, 21 * s) q = av_u1 g0.2.2.1 g0.1 (1, 0) q from if_neg (by omega)]
    exact if_neg (by omega)
  · rw [n4]
    exact if_neg (by show ¬ q = g0.1 + 1; omega)
  · funext k
    rw [n7 q k (by omega)]
    show av_u1 g0.2.2.2.2.1 g0.1 (fun _ => 0) q k = _
    rw [show av_u1 g0.2.2.2.2.1 g0.1 (fun _ => 0) q = g0.2.2.2.2.1 q from if_neg (by omega)]
  · rw [n6]
    have e2 : av_u2 (hG (av_newO 1 4 g0)) g0.1 0 (some (av_newO 1 4 g0).1) q = hG (av_newO 1 4 g0) q := av_u2_ne (by omega)
    rw [e2]
    exact if_neg (by omega)
  · rw [n5]
    rfl
section
variable {g h : av_H} {n m : Nat}
theorem bF_case {g : av_H} {t c s : Nat} {cb : Int} (L : LY g) (o : CO g t c s cb) (f : Nat) : bF t f = false := by
  have e0 : t ≠ 0 := fun z => by have a := co_kt o; rw [z, L.1 0 rfl] at a; cases a
  have e1 : t ≠ 1 := fun z => by have a := co_kt o; rw [z, L.1 1 rfl] at a; cases a
  have e2 : t ≠ 22 := fun z => by have a := co_kt o; rw [z, L.1 22 rfl] at a; cases a
  have e3 : t ≠ 3 := fun z => by have a := co_kt o; rw [z, L.1 3 rfl] at a; cases a
  simp only [bF, nbeq e0, nbeq e1, nbeq e2, nbeq e3, Bool.false_and, Bool.or_false]
theorem bA_cells {c : Nat} (e : c = 34 ∨ c = 76 ∨ 122 ≤ c) : bA c = false := by
  rcases e with e | e | e
  · rw [e]; rfl
  · rw [e]; rfl
  · simp only [bA, nbeq (show c ≠ 2 by omega), nbeq (show c ≠ 23 by omega), nbeq (show c ≠ 25 by omega), nbeq (show c ≠ 27 by omega), nble (show 13 < c by omega), nble (show 20 < c by omega), Bool.and_false, Bool.or_false]
theorem gd_lt {a : Nat} (G : av_Gd g) {k l : Nat} (e : hK g a = (k, l)) (hk : k ≠ 99) : a < g.1 := G a (by rw [show g.2.2.1 a = (k, l) from e]; exact hk)
theorem CO_fb {t c s : Nat} {cb : Int} (G : av_Gd g) (L : LY g) (o : CO g t c s cb) (F : FB g h n m) : CO h t c s cb := by
  obtain ⟨o1, o2, o3, o4, o5, o6, o7, o8, o9⟩ := o
  have oo : CO g t c s cb := ⟨o1, o2, o3, o4, o5, o6, o7, o8, o9⟩
  have lt := gd_lt G o1 (by decide)
  have lc := gd_lt G o7 (by decide)
  refine ⟨(F.2.2.1 t lt).trans o1, (F.2.2.2.2.1 t 1 lt (bF_case L oo 1)).trans o2, o3, (F.2.2.2.2.1 t 3 lt (bF_case L oo 3)).trans o4, o5, (congrFun (F.2.2.2.2.2.1 t lt) 0).trans o6, (F.2.2.1 c lc).trans o7, o8, ?_⟩
  rw [F.2.2.2.1 c lc (bA_cells o8)]
  exact o9
theorem CX_fb {t c s : Nat} {f : Nat → Int} (G : av_Gd g) (L : LY g) (o : CX g t c s f) (V : FV s f) (hc : c = 34 ∨ c = 76 ∨ 122 ≤ c) (F : FB g h n m) : CX h t c s f := by
  have oo := cx_co o V hc
  obtain ⟨o1, o2, o3, o4, o5, o6⟩ := o
  have lt := gd_lt G o1 (by decide)
  have lc := gd_lt G o5 (by decide)
  exact ⟨(F.2.2.1 t lt).trans o1, (F.2.2.2.2.1 t 1 lt (bF_case L oo 1)).trans o2, (F.2.2.2.2.1 t 3 lt (bF_case L oo 3)).trans o3, (congrFun (F.2.2.2.2.2.1 t lt) 0).trans o4, (F.2.2.1 c lc).trans o5, (F.2.2.2.1 c lc (bA_cells hc)).trans o6⟩
theorem cK_99 : ∀ a, a < 122 → (c_K a).1 ≠ 99 := by decide
theorem ly_lt (G : av_Gd g) (L : LY g) {a : Nat} (ha : a < 122) : a < g.1 := by
  have e := L.1 a (Nat.ble_eq_true_of_le ha)
  exact G a (by rw [show g.2.2.1 a = c_K a from e]; exact cK_99 a ha)
theorem LY_fb (G : av_Gd g) (L : LY g) (F : FB g h n m) : LY h := by
  refine ⟨fun a ha => ?_, fun o f q e => ?_, fun i hi => ?_, fun i hi => ?_⟩
  · have ha' : a < 122 := Nat.le_of_ble_eq_true ha
    rw [F.2.2.1 a (ly_lt G L ha')]
    exact L.1 a ha
  · rw [F.2.2.2.2.2.1 o (ly_lt G L (cG_big e).1)]
    exact L.2.1 o f q e
  · rw [F.2.2.2.2.2.2 5 (ly_lt G L (by omega)) rfl]
    exact L.2.2.1 i hi
  · rw [F.2.2.2.2.2.2 14 (ly_lt G L (by omega)) rfl]
    exact L.2.2.2 i hi
theorem rwc_lt {a : Nat} (e : rwc a = true) : a < 122 := by
  by_cases h : a < 122
  · exact h
  · have h1 : rwc a = false := by
      simp only [rwc, nble (show 13 < a by omega), nble (show 20 < a by omega), nbeq (show a ≠ 25 by omega), nbeq (show a ≠ 30 by omega), nbeq (show a ≠ 47 by omega), nbeq (show a ≠ 60 by omega), nbeq (show a ≠ 73 by omega), Bool.and_false, Bool.or_false]
    rw [h1] at e
    cases e
theorem bn_lt {b : Nat} (e : bn b) : b < 122 := by rcases e with e | e | e <;> omega
theorem bF_bn {b f : Nat} (e : bn b) : bF b f = false := by rcases e with e | e | e <;> subst e <;> rfl
theorem IC_fb (G : av_Gd g) (I : IC g) (F : FB g h n m) (r : ∀ a, rwc a = true → bA a = true → ∀ j, -2 ≤ hA h a j ∧ hA h a j ≤ 999) (s : SH h) (c : CN h) : IC h := by
  obtain ⟨L, R, S, C, D, B⟩ := I
  refine ⟨LY_fb G L F, fun a ha j => ?_, s, c, ?_, fun b hb => ?_⟩
  · cases e : bA a with
    | true => exact r a ha e j
    | false =>
      rw [F.2.2.2.1 a (ly_lt G L (rwc_lt ha)) e]
      exact R a ha j
  · unfold HD at D ⊢
    rw [F.2.2.2.2.1 26 9 (ly_lt G L (by omega)) rfl, F.2.2.2.2.1 26 10 (ly_lt G L (by omega)) rfl]
    exact D
  · obtain ⟨x1, x2, t, c', s', cb, r', y1, y2, y3, y4, y5⟩ := B b hb
    have lb := ly_lt G L (bn_lt hb)
    have e13 : hF h b 13 = hF g b 13 := F.2.2.2.2.1 b 13 lb (bF_bn hb)
    have e14 : hF h b 14 = hF g b 14 := F.2.2.2.2.1 b 14 lb (bF_bn hb)
    rw [e13, e14, F.2.2.2.2.2.1 b lb]
    exact ⟨x1, x2, t, c', s', cb, r', y1, CO_fb G L y2 F, y3, (F.2.2.1 r' (gd_lt G y4 (by decide))).trans y4, y5⟩
end
theorem CT_al {g h : av_H} {n m lim : Nat} {b r d : Nat → Int} {t : TT} (G : av_Gd g) (C : CT b lim t r d g) (A : AL g h n m) : CT b lim t r d h := by
  have L := C.1
  have l1 := A.2.2 1 (ly_lt G L (by omega))
  have l2 := A.2.2 2 (ly_lt G L (by omega))
  have l23 := A.2.2 23 (ly_lt G L (by omega))
  have l25 := A.2.2 25 (ly_lt G L (by omega))
  refine ⟨LY_fb G L (AL_fb A), l2.2.1.trans C.2.1, C.2.2.1, ?_, ?_, ?_, ?_, ?_, l23.2.1.trans (ct_r C), l25.2.1.trans (ct_d C), ct_wf C, ct_rv C, ct_dv C⟩
  · rw [l1.2.2.1]; exact ct_l C
  · rw [l1.2.2.1]; exact ct_f C
  · rw [l1.2.2.1]; exact ct_p C
  · rw [l1.2.2.1]; exact ct_s C
  · rw [l1.2.2.1]; exact ct_w C
