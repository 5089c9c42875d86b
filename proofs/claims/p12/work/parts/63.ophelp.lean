/-! HELP FOR THE OPERATIONS -/
section
variable {h : av_H} {b r d : Nat → Int} {lim : Nat} {t : TT}
theorem CT_wF0 {o f : Nat} {v : Int} (C : CT b lim t r d h) (e : o ≠ 1 ∨ f = 1) : CT b lim t r d (hwF h o f v) := by
  have k : ∀ j, 2 ≤ j → hF (hwF h o f v) 1 j = hF h 1 j := fun j hj => by
    show av_u2 h.2.2.2.2.1 o f v 1 j = _
    have hne : ¬ (1 = o ∧ j = f) := by omega
    rw [av_u2, if_neg hne]
  obtain ⟨c1, c2, c3, c4, c5, c6, c7, c8, c9⟩ := C
  exact ⟨c1, c2, c3, (k 2 (by omega)).trans c4, (k 3 (by omega)).trans c5, (k 4 (by omega)).trans c6, (k 5 (by omega)).trans c7, (k 6 (by omega)).trans c8, c9⟩
theorem LY_wR {o j : Nat} {v : Option Nat} (L : LY h) (e5 : o ≠ 5) (e14 : o ≠ 14) : LY (hwR h o j v) := ⟨L.1, L.2.1, fun i hi => by
  show av_u2 h.2.2.2.2.2.2.1 o j v 5 i = _
  rw [av_u2_ne (Ne.symm e5)]
  exact L.2.2.1 i hi, fun i hi => by
  show av_u2 h.2.2.2.2.2.2.1 o j v 14 i = _
  rw [av_u2_ne (Ne.symm e14)]
  exact L.2.2.2 i hi⟩
theorem CT_wR {o j : Nat} {v : Option Nat} (C : CT b lim t r d h) (e5 : o ≠ 5) (e14 : o ≠ 14) : CT b lim t r d (hwR h o j v) := ⟨LY_wR C.1 e5 e14, C.2⟩
theorem KT_of (C : CT b lim t r d h) (e : 0 ≤ hF h 1 1 ∧ hF h 1 1 ≤ 900) (z : ∀ j, 252 ≤ j → r j = 0) (x : CX h 74 76 0 (fun _ => 0)) : KT h := by
  refine ⟨⟨lim, t, ?_⟩, e, by rw [ct_r C]; exact z, x⟩
  rw [C.2.1, ct_r C, ct_d C]
  exact C
theorem CC_wF {o k : Nat} {x : Int} {v : Option Nat} {t c s : Nat} {f : Nat → Int} (ho : o < 122) (X : CC h v t c s f) : CC (hwF h o k x) v t c s f := by
  obtain ⟨y1, ⟨o1, o2, o3, o4, o5, o6⟩, y3, y4, y5, y6⟩ := X
  have e : ∀ j, hF (hwF h o k x) t j = hF h t j := fun j => by
    show av_u2 h.2.2.2.2.1 o k x t j = _
    rw [av_u2_ne (by omega)]
  exact ⟨y1, ⟨o1, (e 1).trans o2, (e 3).trans o3, o4, o5, o6⟩, y3, y4, y5, y6⟩
theorem CC_wR {o k : Nat} {x v : Option Nat} {t c s : Nat} {f : Nat → Int} (X : CC h v t c s f) : CC (hwR h o k x) v t c s f := X
theorem cpr_0 {c : Nat} {r : Nat → Int} : cpr h c 0 r = r := by
  funext j
  exact if_neg (by omega)
end
theorem CX_fq {eA eR : Nat → Prop} {eF eG : Nat → Nat → Prop} {g h : av_H} {n m t c s : Nat} {f : Nat → Int} (G : av_Gd g) (F : FQ eA eR eF eG g h n m) (nF : ∀ j, ¬ eF t j) (nG : ∀ j, ¬ eG t j) (nA : ¬ eA c) (x : CX g t c s f) : CX h t c s f := by
  obtain ⟨o1, o2, o3, o4, o5, o6⟩ := x
  have lt := F.2.2 t (gd_lt G o1 (by decide))
  have lc := F.2.2 c (gd_lt G o5 (by decide))
  exact ⟨lt.1.trans o1, (lt.2.2.2.2 1 (nF 1)).trans o2, (lt.2.2.2.2 3 (nF 3)).trans o3, (lt.2.1 0 (nG 0)).trans o4, lc.1.trans o5, (lc.2.2.1 nA).trans o6⟩
/-- what reading changes: the reader's rows, its fields, the fault; a count and its row -/
def rdA2 (a : Nat) : Prop := a = 23 ∨ a = 25
def rdF2 (x : Nat) (o f : Nat) : Prop := o = 1 ∨ o = 22 ∨ (o = 0 ∧ f = 8) ∨ (o = 3 ∧ f = x)
theorem FQ_35 {eA eR : Nat → Prop} {eF eG : Nat → Nat → Prop} {g h : av_H} (B : FB g h 0 0) (f : ∀ q k, q ≠ 1 → q ≠ 22 → hF h q k = hF g q k) (r : hR h = hR g) (a : ∀ q, q ≠ 23 → hA h q = hA g q) (h1 : eA 23) (h2 : ∀ j, eF 1 j ∧ eF 22 j) : FQ eA eR eF eG g h 0 0 := ⟨B.1, B.2.1, fun q hq => ⟨B.2.2.1 q hq, fun j _ => congrFun (B.2.2.2.2.2.1 q hq) j, fun e => a q (fun z => by subst z; exact e h1), fun _ => congrFun r q, fun j e => f q j (fun z => by subst z; exact e (h2 j).1) (fun z => by subst z; exact e (h2 j).2)⟩⟩
theorem co_nt {h : av_H} (x : CX h 74 76 0 (fun _ => 0)) : CO h 74 76 0 (cbv (fun _ => 0) 0) := cx_co x ⟨by omega, fun _ => by show (-1 : Int) ≤ 0 ∧ (0 : Int) ≤ 100000; omega, fun _ _ _ => by show (0 : Int) ≤ 16; omega, fun _ _ => by show (0 : Int) ≤ 2000; omega⟩ (Or.inr (Or.inl rfl))
theorem gd_of {h : av_H} {sc : av_Sr} {cd : List (Nat × av_E)} {pc : Nat} {lv : av_L} {st : List av_V} {Q : Option av_V → av_H → Prop} (k : av_Gd h → av_wp sc cd pc lv st h Q) : av_wp sc cd pc lv st h Q := fun hg => k hg hg
