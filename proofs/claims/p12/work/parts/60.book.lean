/-! THE BOOK: frames by what may change; what class and reference hold, and that it is the same -/
def FQ (eA eR : Nat → Prop) (eF eG : Nat → Nat → Prop) (g h : av_H) (n m : Nat) : Prop := h.1 = g.1 + n ∧ h.2.1 = g.2.1 + m ∧ ∀ q, q < g.1 → hK h q = hK g q ∧ (∀ k, ¬ eG q k → hG h q k = hG g q k) ∧ (¬ eA q → hA h q = hA g q) ∧ (¬ eR q → hR h q = hR g q) ∧ ∀ k, ¬ eF q k → hF h q k = hF g q k
def nun1 : Nat → Prop := fun _ => False
def nun2 : Nat → Nat → Prop := fun _ _ => False
section
variable {eA eR eA' eR' : Nat → Prop} {eF eG eF' eG' : Nat → Nat → Prop} {g h k : av_H} {n m n' m' : Nat}
theorem FQ_rf (h : av_H) : FQ eA eR eF eG h h 0 0 := ⟨rfl, rfl, fun _ _ => ⟨rfl, fun _ _ => rfl, fun _ => rfl, fun _ => rfl, fun _ _ => rfl⟩⟩
theorem FQ_tr (a : FQ eA eR eF eG g h n m) (c : FQ eA eR eF eG h k n' m') : FQ eA eR eF eG g k (n + n') (m + m') := by
  refine ⟨by rw [c.1, a.1]; omega, by rw [c.2.1, a.2.1]; omega, fun q hq => ?_⟩
  obtain ⟨a1, a2, a3, a4, a5⟩ := a.2.2 q hq
  obtain ⟨c1, c2, c3, c4, c5⟩ := c.2.2 q (by rw [a.1]; omega)
  exact ⟨c1.trans a1, fun j e => (c2 j e).trans (a2 j e), fun e => (c3 e).trans (a3 e), fun e => (c4 e).trans (a4 e), fun j e => (c5 j e).trans (a5 j e)⟩
theorem FQ_mo (a : FQ eA eR eF eG g h n m) (h1 : ∀ q, eA q → eA' q) (h2 : ∀ q, eR q → eR' q) (h3 : ∀ q j, eF q j → eF' q j) (h4 : ∀ q j, eG q j → eG' q j) : FQ eA' eR' eF' eG' g h n m := ⟨a.1, a.2.1, fun q hq => ⟨(a.2.2 q hq).1, fun j e => (a.2.2 q hq).2.1 j (fun z => e (h4 q j z)), fun e => (a.2.2 q hq).2.2.1 (fun z => e (h1 q z)), fun e => (a.2.2 q hq).2.2.2.1 (fun z => e (h2 q z)), fun j e => (a.2.2 q hq).2.2.2.2 j (fun z => e (h3 q j z))⟩⟩
theorem FQ_eq (a : FQ eA eR eF eG g h n m) (e : n = n') (f : m = m') : FQ eA eR eF eG g h n' m' := by
  subst e
  subst f
  exact a
theorem FQ_al (a : AL g h n m) : FQ eA eR eF eG g h n m := ⟨a.1, a.2.1, fun q hq => ⟨(a.2.2 q hq).1, fun j _ => congrFun (a.2.2 q hq).2.2.2.1 j, fun _ => (a.2.2 q hq).2.1, fun _ => (a.2.2 q hq).2.2.2.2, fun j _ => congrFun (a.2.2 q hq).2.2.1 j⟩⟩
theorem FQ_wF {o f : Nat} {v : Int} (e : eF o f) : FQ eA eR eF eG h (hwF h o f v) 0 0 := ⟨rfl, rfl, fun q _ => ⟨rfl, fun _ _ => rfl, fun _ => rfl, fun _ => rfl, fun j ej => by
  show av_u2 h.2.2.2.2.1 o f v q j = _
  have hne : ¬ (q = o ∧ j = f) := fun z => by rw [z.1, z.2] at ej; exact ej e
  rw [av_u2, if_neg hne]⟩⟩
theorem FQ_wR {o j : Nat} {v : Option Nat} (e : eR o) : FQ eA eR eF eG h (hwR h o j v) 0 0 := ⟨rfl, rfl, fun q _ => ⟨rfl, fun _ _ => rfl, fun _ => rfl, fun ej => by
  show av_u2 h.2.2.2.2.2.2.1 o j v q = _
  have hne : q ≠ o := fun z => by rw [z] at ej; exact ej e
  rw [av_u2_ne hne], fun _ _ => rfl⟩⟩
theorem FQ_A {A : Nat → Nat → Int} (e : ∀ q, ¬ eA q → A q = hA h q) : FQ eA eR eF eG h (h.1, h.2.1, h.2.2.1, A, h.2.2.2.2) 0 0 := ⟨rfl, rfl, fun q _ => ⟨rfl, fun _ _ => rfl, fun ej => e q ej, fun _ => rfl, fun _ _ => rfl⟩⟩
theorem FQ_T (F : FT g h) (h1 : eA 23) (h2 : eA 25) (h3 : ∀ j, eF 1 j) : FQ eA eR eF eG g h 0 0 := ⟨F.1, F.2.1, fun q _ => ⟨congrFun F.2.2.1 q, fun j _ => congrFun (congrFun F.2.2.2.2.1 q) j, fun e => F.2.2.2.2.2.2 q (fun z => by subst z; exact e h1) (fun z => by subst z; exact e h2), fun _ => congrFun F.2.2.2.1 q, fun j e => F.2.2.2.2.2.1 q j (by
  have hq : q ≠ 1 := fun z => by subst z; exact e (h3 j)
  simp only [tF, nbeq hq, Bool.false_and])⟩⟩
theorem FQ_fb (a : FQ eA eR eF eG g h n m) (h1 : ∀ q, eA q → bA q = true) (h2 : ∀ q, eR q → bR q = true) (h3 : ∀ q j, eF q j → bF q j = true) (h4 : ∀ q j, ¬ eG q j) : FB g h n m := ⟨a.1, a.2.1, fun q hq => (a.2.2 q hq).1, fun q hq e => (a.2.2 q hq).2.2.1 (fun z => by rw [h1 q z] at e; cases e), fun q j hq e => (a.2.2 q hq).2.2.2.2 j (fun z => by rw [h3 q j z] at e; cases e), fun q hq => by funext j; exact (a.2.2 q hq).2.1 j (h4 q j), fun q hq e => (a.2.2 q hq).2.2.2.1 (fun z => by rw [h2 q z] at e; cases e)⟩
end
/-- the sets speak of the first 122 cells alone -/
def LOW (eA eR : Nat → Prop) (eF eG : Nat → Nat → Prop) : Prop := (∀ q, eA q → q < 122) ∧ (∀ q, eR q → q < 122) ∧ (∀ q j, eF q j → q < 122) ∧ (∀ q j, eG q j → q < 122)
/-! a shelf: its form, its cases, laws, clauses, as the reference's slot b has them -/
def SHP (h : av_H) (o : Nat) : Prop := hK h o = (5, 0) ∧ hG h o 0 = some (o + 1) ∧ hG h o 1 = some (o + 2) ∧ hG h o 2 = some (o + 11) ∧ hK h (o + 1) = (30, 16) ∧ hK h (o + 2) = (32, 8) ∧ hK h (o + 11) = (32, 6) ∧ (∀ i, i < 8 → hR h (o + 2) i = some (o + 3 + i) ∧ hK h (o + 3 + i) = (20, 14)) ∧ (∀ i, i < 6 → hR h (o + 11) i = some (o + 12 + i) ∧ hK h (o + 12 + i) = (20, 14))
/-- a case of the class in its place -/
def CC (h : av_H) (v : Option Nat) (t c s : Nat) (f : Nat → Int) : Prop := v = some t ∧ CX h t c s f ∧ FV s f ∧ SD s f ∧ 122 ≤ t ∧ 122 ≤ c ∧ 1 ≤ s
def CS (h : av_H) (A : Nat → Nat → Int) (o b i : Nat) : Prop := ∃ t c s f, CC h (hR h (o + 1) i) t c s f ∧ A 81 (16 * b + i) = (s : Int) ∧ ∀ j, j < s → RY (rwA A (192 * b + 12 * i + j)) f (j * 21)
def CW (h : av_H) (o i : Nat) : Prop := hR h (o + 1) i = none ∨ ∃ t c s f, CC h (hR h (o + 1) i) t c s f
def LW (h : av_H) (A : Nat → Nat → Int) (o b l : Nat) : Prop := (∀ k, k < 13 → hA h (o + 3 + l) k = if A 93 (196 * b + 14 * l + k) = -2 then av_plain k else A 93 (196 * b + 14 * l + k)) ∧ hA h (o + 3 + l) 13 = A 93 (196 * b + 14 * l + 13)
def QW (h : av_H) (A : Nat → Nat → Int) (o b c : Nat) : Prop := ∀ k, k < 14 → hA h (o + 12 + c) k = A 93 (196 * b + 112 + 14 * c + k)
def SLn (h : av_H) (A : Nat → Nat → Int) (o b : Nat) : Prop := (hF h o 3 = A 78 b ∧ hF h o 4 = A 79 b ∧ hF h o 5 = A 80 b) ∧ (0 ≤ hF h o 3 ∧ hF h o 3 ≤ 16) ∧ (0 ≤ hF h o 4 ∧ hF h o 4 ≤ 8) ∧ (0 ≤ hF h o 5 ∧ hF h o 5 ≤ 6)
def SLr (h : av_H) (o : Nat) : Prop := (∀ i, i < 16 → CW h o i) ∧ (∀ l, l < 8 → ∀ k, -2 ≤ hA h (o + 3 + l) k ∧ hA h (o + 3 + l) k ≤ 999) ∧ (∀ c, c < 6 → ∀ k, -2 ≤ hA h (o + 12 + c) k ∧ hA h (o + 12 + c) k ≤ 999)
def SL (h : av_H) (A : Nat → Nat → Int) (o b : Nat) : Prop := SLn h A o b ∧ SLr h o ∧ (∀ i : Nat, i < 16 → (i : Int) < hF h o 3 → CS h A o b i) ∧ (∀ l : Nat, l < 8 → (l : Int) < hF h o 4 → LW h A o b l) ∧ (∀ c : Nat, c < 6 → (c : Int) < hF h o 5 → QW h A o b c)
/-- the reference's slot b is the same -/
def AGB (b : Nat) (A A' : Nat → Nat → Int) : Prop := (A' 78 b = A 78 b ∧ A' 79 b = A 79 b ∧ A' 80 b = A 80 b) ∧ (∀ i, i < 16 → A' 81 (16 * b + i) = A 81 (16 * b + i)) ∧ (∀ i, i < 192 → ∀ o, o < 19 → rwA A' (192 * b + i) o = rwA A (192 * b + i) o) ∧ (∀ k, k < 196 → A' 93 (196 * b + k) = A 93 (196 * b + k))
theorem CS_ag {h : av_H} {A A' : Nat → Nat → Int} {o b i : Nat} (x : CS h A o b i) (hi : i < 16) (e1 : A' 81 (16 * b + i) = A 81 (16 * b + i)) (e2 : ∀ j, j < 12 → ∀ q, q < 19 → rwA A' (192 * b + 12 * i + j) q = rwA A (192 * b + 12 * i + j) q) : CS h A' o b i := by
  obtain ⟨t, c, s, f, x1, x2, x3⟩ := x
  have s12 : s ≤ 12 := x1.2.2.1.1
  exact ⟨t, c, s, f, x1, e1.trans x2, fun j hj => ry_eq (x3 j hj) (e2 j (by omega)) (fun _ _ => rfl)⟩
theorem LW_ag {h : av_H} {A A' : Nat → Nat → Int} {o b l : Nat} (x : LW h A o b l) (e : ∀ k, k < 14 → A' 93 (196 * b + 14 * l + k) = A 93 (196 * b + 14 * l + k)) : LW h A' o b l := ⟨fun k hk => by rw [e k (by omega)]; exact x.1 k hk, by rw [e 13 (by omega)]; exact x.2⟩
theorem QW_ag {h : av_H} {A A' : Nat → Nat → Int} {o b c : Nat} (x : QW h A o b c) (e : ∀ k, k < 14 → A' 93 (196 * b + 112 + 14 * c + k) = A 93 (196 * b + 112 + 14 * c + k)) : QW h A' o b c := fun k hk => by rw [e k hk]; exact x k hk
theorem SL_ag {h : av_H} {A A' : Nat → Nat → Int} {o b : Nat} (x : SL h A o b) (e : AGB b A A') : SL h A' o b := by
  obtain ⟨x1, x2, x3, x4, x5⟩ := x
  refine ⟨⟨⟨x1.1.1.trans e.1.1.symm, x1.1.2.1.trans e.1.2.1.symm, x1.1.2.2.trans e.1.2.2.symm⟩, x1.2⟩, x2, fun i hi h1 => CS_ag (x3 i hi h1) hi (e.2.1 i hi) (fun j hj q hq => ?_), fun l hl h1 => LW_ag (x4 l hl h1) (fun k hk => ?_), fun c hc h1 => QW_ag (x5 c hc h1) (fun k hk => ?_)⟩
  · rw [show 192 * b + 12 * i + j = 192 * b + (12 * i + j) by omega]
    exact e.2.2.1 (12 * i + j) (by omega) q hq
  · rw [show 196 * b + 14 * l + k = 196 * b + (14 * l + k) by omega]
    exact e.2.2.2 (14 * l + k) (by omega)
  · rw [show 196 * b + 112 + 14 * c + k = 196 * b + (112 + 14 * c + k) by omega]
    exact e.2.2.2 (112 + 14 * c + k) (by omega)
section
variable {eA eR : Nat → Prop} {eF eG : Nat → Nat → Prop} {g h : av_H} {n m : Nat}
theorem CC_fq {v : Option Nat} {t c s : Nat} {f : Nat → Int} (G : av_Gd g) (w : LOW eA eR eF eG) (F : FQ eA eR eF eG g h n m) (x : CC g v t c s f) : CC h v t c s f := by
  obtain ⟨y1, ⟨o1, o2, o3, o4, o5, o6⟩, y3, y4, y5, y6, y7⟩ := x
  have lt := F.2.2 t (gd_lt G o1 (by decide))
  have lc := F.2.2 c (gd_lt G o5 (by decide))
  have nF : ∀ j, ¬ eF t j := fun j z => by have := w.2.2.1 t j z; omega
  have nG : ∀ j, ¬ eG t j := fun j z => by have := w.2.2.2 t j z; omega
  have nA : ¬ eA c := fun z => by have := w.1 c z; omega
  exact ⟨y1, ⟨lt.1.trans o1, (lt.2.2.2.2 1 (nF 1)).trans o2, (lt.2.2.2.2 3 (nF 3)).trans o3, (lt.2.1 0 (nG 0)).trans o4, lc.1.trans o5, (lc.2.2.1 nA).trans o6⟩, y3, y4, y5, y6, y7⟩
theorem CS_fq {A : Nat → Nat → Int} {o b i : Nat} (G : av_Gd g) (w : LOW eA eR eF eG) (F : FQ eA eR eF eG g h n m) (e : hR h (o + 1) i = hR g (o + 1) i) (x : CS g A o b i) : CS h A o b i := by
  obtain ⟨t, c, s, f, x1, x2⟩ := x
  exact ⟨t, c, s, f, by rw [e]; exact CC_fq G w F x1, x2⟩
theorem CW_fq {o i : Nat} (G : av_Gd g) (w : LOW eA eR eF eG) (F : FQ eA eR eF eG g h n m) (e : hR h (o + 1) i = hR g (o + 1) i) (x : CW g o i) : CW h o i := by
  rcases x with x | ⟨t, c, s, f, x1⟩
  · exact Or.inl (e.trans x)
  · exact Or.inr ⟨t, c, s, f, by rw [e]; exact CC_fq G w F x1⟩
/-- a shelf of which nothing changed -/
theorem SL_fq {A : Nat → Nat → Int} {o b : Nat} (G : av_Gd g) (w : LOW eA eR eF eG) (F : FQ eA eR eF eG g h n m) (l : o + 18 ≤ g.1) (nF : ∀ j, ¬ eF o j) (nR : ¬ eR (o + 1)) (nA : ∀ j, 3 ≤ j → j < 18 → ¬ eA (o + j)) (x : SL g A o b) : SL h A o b := by
  obtain ⟨x1, ⟨y1, y2, y3⟩, x3, x4, x5⟩ := x
  have fo := F.2.2 o (by omega)
  have f3 := fo.2.2.2.2 3 (nF 3)
  have f4 := fo.2.2.2.2 4 (nF 4)
  have f5 := fo.2.2.2.2 5 (nF 5)
  have er : hR h (o + 1) = hR g (o + 1) := (F.2.2 (o + 1) (by omega)).2.2.2.1 nR
  have ea : ∀ j, 3 ≤ j → j < 18 → hA h (o + j) = hA g (o + j) := fun j h1 h2 => (F.2.2 (o + j) (by omega)).2.2.1 (nA j h1 h2)
  refine ⟨?_, ⟨fun i hi => CW_fq G w F (congrFun er i) (y1 i hi), fun l hl k => ?_, fun c hc k => ?_⟩, fun i hi h1 => CS_fq G w F (congrFun er i) (x3 i hi (by rw [← f3]; exact h1)), fun l hl h1 => ?_, fun c hc h1 => ?_⟩
  · unfold SLn at x1 ⊢
    rw [f3, f4, f5]
    exact x1
  · rw [show o + 3 + l = o + (3 + l) by omega, ea (3 + l) (by omega) (by omega), show o + (3 + l) = o + 3 + l by omega]
    exact y2 l hl k
  · rw [show o + 12 + c = o + (12 + c) by omega, ea (12 + c) (by omega) (by omega), show o + (12 + c) = o + 12 + c by omega]
    exact y3 c hc k
  · have z := x4 l hl (by rw [← f4]; exact h1)
    have e1 : hA h (o + 3 + l) = hA g (o + 3 + l) := by
      rw [show o + 3 + l = o + (3 + l) by omega]
      exact ea (3 + l) (by omega) (by omega)
    unfold LW at z ⊢
    rw [e1]
    exact z
  · have z := x5 c hc (by rw [← f5]; exact h1)
    have e1 : hA h (o + 12 + c) = hA g (o + 12 + c) := by
      rw [show o + 12 + c = o + (12 + c) by omega]
      exact ea (12 + c) (by omega) (by omega)
    unfold QW at z ⊢
    rw [e1]
    exact z
theorem SHP_fq {o : Nat} (F : FQ eA eR eF eG g h n m) (l : o + 18 ≤ g.1) (nG : ∀ j, ¬ eG o j) (nR : ¬ eR (o + 2) ∧ ¬ eR (o + 11)) (x : SHP g o) : SHP h o := by
  obtain ⟨x1, x2, x3, x4, x5, x6, x7, x8, x9⟩ := x
  have fk : ∀ j, j < 18 → hK h (o + j) = hK g (o + j) := fun j hj => (F.2.2 (o + j) (by omega)).1
  have fo := F.2.2 o (by omega)
  refine ⟨fo.1.trans x1, (fo.2.1 0 (nG 0)).trans x2, (fo.2.1 1 (nG 1)).trans x3, (fo.2.1 2 (nG 2)).trans x4, (fk 1 (by omega)).trans x5, (fk 2 (by omega)).trans x6, (fk 11 (by omega)).trans x7, fun i hi => ⟨?_, ?_⟩, fun i hi => ⟨?_, ?_⟩⟩
  · rw [(F.2.2 (o + 2) (by omega)).2.2.2.1 nR.1]; exact (x8 i hi).1
  · rw [show o + 3 + i = o + (3 + i) by omega, fk (3 + i) (by omega), show o + (3 + i) = o + 3 + i by omega]; exact (x8 i hi).2
  · rw [(F.2.2 (o + 11) (by omega)).2.2.2.1 nR.2]; exact (x9 i hi).1
  · rw [show o + 12 + i = o + (12 + i) by omega, fk (12 + i) (by omega), show o + (12 + i) = o + 12 + i by omega]; exact (x9 i hi).2
end
/-- the images: each a shelf of its own -/
def XI (h : av_H) (A : Nat → Nat → Int) : Prop := (0 ≤ hF h 0 7 ∧ hF h 0 7 ≤ 4) ∧ hF h 77 62 = hF h 0 7 ∧ ∀ i : Nat, i < 4 → (i : Int) < hF h 0 7 → ∃ o, hR h 21 i = some o ∧ 122 ≤ o ∧ o + 18 ≤ h.1 ∧ SHP h o ∧ SL h A o (i + 1)
theorem XI_fq {eA eR : Nat → Prop} {eF eG : Nat → Nat → Prop} {g h : av_H} {n m : Nat} {A : Nat → Nat → Int} (G : av_Gd g) (L : LY g) (w : LOW eA eR eF eG) (F : FQ eA eR eF eG g h n m) (n07 : ¬ eF 0 7) (n77 : ¬ eF 77 62) (n21 : ¬ eR 21) (x : XI g A) : XI h A := by
  obtain ⟨x1, x2, x3⟩ := x
  have f0 := (F.2.2 0 (ly_lt G L (by omega))).2.2.2.2 7 n07
  have f7 := (F.2.2 77 (ly_lt G L (by omega))).2.2.2.2 62 n77
  have fr := (F.2.2 21 (ly_lt G L (by omega))).2.2.2.1 n21
  unfold XI
  rw [f0, f7, fr]
  refine ⟨x1, x2, fun i hi h1 => ?_⟩
  obtain ⟨o, y1, y2, y3, y4, y5⟩ := x3 i hi h1
  refine ⟨o, y1, y2, by rw [F.1]; omega, SHP_fq F y3 (fun j z => ?_) ⟨fun z => ?_, fun z => ?_⟩ y4, SL_fq G w F y3 (fun j z => ?_) (fun z => ?_) (fun j h1 h2 z => ?_) y5⟩
  · have := w.2.2.2 _ _ z; omega
  · have := w.2.1 _ z; omega
  · have := w.2.1 _ z; omega
  · have := w.2.2.1 _ _ z; omega
  · have := w.2.1 _ z; omega
  · have := w.1 _ z; omega
theorem XI_ag {h : av_H} {A A' : Nat → Nat → Int} (x : XI h A) (e : ∀ i : Nat, i < 4 → (i : Int) < hF h 0 7 → AGB (i + 1) A A') : XI h A' := ⟨x.1, x.2.1, fun i hi h1 => by
  obtain ⟨o, y1, y2, y3, y4, y5⟩ := x.2.2 i hi h1
  exact ⟨o, y1, y2, y3, y4, SL_ag y5 (e i hi h1)⟩⟩
/-- the class's tape and its empty case -/
def KT (h : av_H) : Prop := (∃ lim t, CT (hA h 2) lim t (hA h 23) (hA h 25) h) ∧ (0 ≤ hF h 1 1 ∧ hF h 1 1 ≤ 900) ∧ (∀ j, 252 ≤ j → hA h 23 j = 0) ∧ CX h 74 76 0 (fun _ => 0)
/-- the tapes, the faults -/
def CP (h : av_H) : Prop := hA h 94 = hA h 2 ∧ hF h 77 17 = hF h 1 1 ∧ hF h 77 18 = hF h 0 8
def BK (h : av_H) : Prop := IC h ∧ KT h ∧ (∃ n a m, IMF n a m h) ∧ CP h ∧ SL h (hA h) 3 0 ∧ XI h (hA h)
