/-! IMAGE AND BACK KEEP THE BOOK -/
theorem cz_big {q : Nat} (h : 93 < q) : cz q = 0 := by
  unfold cz czt
  rw [List.getD_eq_getElem?_getD, List.getElem?_eq_none (by show 16 ≤ q - 78; omega)]
  rfl
theorem cp_in {A : Nat → Nat → Int} {a b q j : Nat} (hq : 78 ≤ q) (hj : j < cz q) : cpL A a b czt q (cz q * b + j) = A q (cz q * a + j) := by
  have e : cpL A a b czt q (cz q * b + j) = A q (cz q * b + j - cz q * b + cz q * a) := if_pos ⟨hq, by omega, by show _ < cz q * b + cz q; omega⟩
  rw [e, show cz q * b + j - cz q * b + cz q * a = cz q * a + j by omega]
theorem cp_ne {A : Nat → Nat → Int} {a b c q j : Nat} (hc : c ≠ b) (hj : j < cz q) : cpL A a b czt q (cz q * c + j) = A q (cz q * c + j) := by
  refine cp_r (fun z => ?_)
  have z2 : cz q * c + j < cz q * b + cz q := z.2
  have z1 := z.1
  rcases (show c + 1 ≤ b ∨ b + 1 ≤ c by omega) with y | y
  · have := Nat.mul_le_mul_left (cz q) y
    rw [Nat.mul_succ] at this
    omega
  · have := Nat.mul_le_mul_left (cz q) y
    rw [Nat.mul_succ] at this
    omega
theorem cp_lo {A : Nat → Nat → Int} {a b q : Nat} (h : q < 78 ∨ 93 < q) : cpL A a b czt q = A q := by
  funext j
  refine if_neg (fun z => ?_)
  have z1 := z.1
  have z2 := z.2.1
  have z3 : j < cz q * b + cz q := z.2.2
  rw [cz_big (by omega)] at z2 z3
  omega
theorem vq_cz : ∀ o, o < 19 → cz (vq o) = 192 * vm o ∧ vo o < vm o := by decide
theorem vm_le : ∀ o, o < 19 → vm o ≤ 5 := by decide
/-- what slot b of A' is, slot a of A was -/
def AGC (a b : Nat) (A A' : Nat → Nat → Int) : Prop := (A' 78 b = A 78 a ∧ A' 79 b = A 79 a ∧ A' 80 b = A 80 a) ∧ (∀ i, i < 16 → A' 81 (16 * b + i) = A 81 (16 * a + i)) ∧ (∀ i, i < 192 → ∀ o, o < 19 → rwA A' (192 * b + i) o = rwA A (192 * a + i) o) ∧ (∀ k, k < 196 → A' 93 (196 * b + k) = A 93 (196 * a + k))
theorem vk_sp {b i o : Nat} : vk (192 * b + i) o = 192 * vm o * b + (vm o * i + vo o) := by
  unfold vk
  rw [Nat.mul_add, show vm o * (192 * b) = 192 * vm o * b by rw [← Nat.mul_assoc, Nat.mul_comm (vm o) 192]]
  omega
theorem vk_lt {i o : Nat} (hi : i < 192) (ho : o < 19) : vm o * i + vo o < cz (vq o) := by
  have e := vq_cz o ho
  have := Nat.mul_le_mul_left (vm o) (show i + 1 ≤ 192 by omega)
  rw [Nat.mul_succ] at this
  omega
theorem cp_agc {A A0 : Nat → Nat → Int} {a b : Nat} (e : ∀ q, 78 ≤ q → q ≤ 93 → A q = A0 q) : AGC a b A0 (cpL A a b czt) := by
  refine ⟨⟨?_, ?_, ?_⟩, fun i hi => ?_, fun i hi o ho => ?_, fun k hk => ?_⟩
  · have x := cp_in (A := A) (a := a) (b := b) (q := 78) (j := 0) (by omega) (by decide)
    rw [show cz 78 = 1 from rfl, show 1 * b + 0 = b by omega, show 1 * a + 0 = a by omega, e 78 (by omega) (by omega)] at x
    exact x
  · have x := cp_in (A := A) (a := a) (b := b) (q := 79) (j := 0) (by omega) (by decide)
    rw [show cz 79 = 1 from rfl, show 1 * b + 0 = b by omega, show 1 * a + 0 = a by omega, e 79 (by omega) (by omega)] at x
    exact x
  · have x := cp_in (A := A) (a := a) (b := b) (q := 80) (j := 0) (by omega) (by decide)
    rw [show cz 80 = 1 from rfl, show 1 * b + 0 = b by omega, show 1 * a + 0 = a by omega, e 80 (by omega) (by omega)] at x
    exact x
  · have x := cp_in (A := A) (a := a) (b := b) (q := 81) (j := i) (by omega) (show i < 16 from hi)
    rw [show cz 81 = 16 from rfl, e 81 (by omega) (by omega)] at x
    exact x
  · have h1 := vq_in o ho
    have x := cp_in (A := A) (a := a) (b := b) (q := vq o) (j := vm o * i + vo o) (by omega) (vk_lt hi ho)
    rw [(vq_cz o ho).1, e (vq o) (by omega) (by omega)] at x
    show cpL A a b czt (vq o) (vk (192 * b + i) o) = A0 (vq o) (vk (192 * a + i) o)
    rw [vk_sp, vk_sp]
    exact x
  · have x := cp_in (A := A) (a := a) (b := b) (q := 93) (j := k) (by omega) (show k < 196 from hk)
    rw [show cz 93 = 196 from rfl, e 93 (by omega) (by omega)] at x
    exact x
theorem cp_agb {A A0 : Nat → Nat → Int} {a b c : Nat} (hc : c ≠ b) (e : ∀ q, 78 ≤ q → q ≤ 93 → A q = A0 q) : AGB c A0 (cpL A a b czt) := by
  refine ⟨⟨?_, ?_, ?_⟩, fun i hi => ?_, fun i hi o ho => ?_, fun k hk => ?_⟩
  · have x := cp_ne (A := A) (a := a) (b := b) (c := c) (q := 78) (j := 0) hc (by decide)
    rw [show cz 78 = 1 from rfl, show 1 * c + 0 = c by omega, e 78 (by omega) (by omega)] at x
    exact x
  · have x := cp_ne (A := A) (a := a) (b := b) (c := c) (q := 79) (j := 0) hc (by decide)
    rw [show cz 79 = 1 from rfl, show 1 * c + 0 = c by omega, e 79 (by omega) (by omega)] at x
    exact x
  · have x := cp_ne (A := A) (a := a) (b := b) (c := c) (q := 80) (j := 0) hc (by decide)
    rw [show cz 80 = 1 from rfl, show 1 * c + 0 = c by omega, e 80 (by omega) (by omega)] at x
    exact x
  · have x := cp_ne (A := A) (a := a) (b := b) (c := c) (q := 81) (j := i) hc (show i < 16 from hi)
    rw [show cz 81 = 16 from rfl, e 81 (by omega) (by omega)] at x
    exact x
  · have h1 := vq_in o ho
    have x := cp_ne (A := A) (a := a) (b := b) (c := c) (q := vq o) (j := vm o * i + vo o) hc (vk_lt hi ho)
    rw [(vq_cz o ho).1, e (vq o) (by omega) (by omega)] at x
    show cpL A a b czt (vq o) (vk (192 * c + i) o) = A0 (vq o) (vk (192 * c + i) o)
    rw [vk_sp]
    exact x
  · have x := cp_ne (A := A) (a := a) (b := b) (c := c) (q := 93) (j := k) hc (show k < 196 from hk)
    rw [show cz 93 = 196 from rfl, e 93 (by omega) (by omega)] at x
    exact x
/-- a shelf is another's copy, and so is its slot -/
theorem SL_copy {h h' : av_H} {A A' : Nat → Nat → Int} {p a o b : Nat} (S : SL h A p a) (ef : hF h' o 3 = hF h p 3 ∧ hF h' o 4 = hF h p 4 ∧ hF h' o 5 = hF h p 5) (e3 : ∀ q, q < 8 → ∀ k, k < 14 → hA h' (o + 3 + q) k = hA h (p + 3 + q) k) (e12 : ∀ q, q < 6 → ∀ k, k < 14 → hA h' (o + 12 + q) k = hA h (p + 12 + q) k) (b3 : ∀ q, q < 8 → ∀ k, -2 ≤ hA h' (o + 3 + q) k ∧ hA h' (o + 3 + q) k ≤ 999) (b12 : ∀ q, q < 6 → ∀ k, -2 ≤ hA h' (o + 12 + q) k ∧ hA h' (o + 12 + q) k ≤ 999) (er : ∀ i, i < 16 → hR h' (o + 1) i = hR h (p + 1) i) (cc : ∀ v t c s f, CC h v t c s f → CC h' v t c s f) (ag : AGC a b A A') : SL h' A' o b := by
  obtain ⟨⟨⟨x1, x2, x3⟩, y1, y2, y3⟩, ⟨r1, r2, r3⟩, s1, s2, s3⟩ := S
  obtain ⟨f3, f4, f5⟩ := ef
  obtain ⟨⟨g1, g2, g3⟩, g4, g5, g6⟩ := ag
  refine ⟨⟨⟨by rw [f3, g1]; exact x1, by rw [f4, g2]; exact x2, by rw [f5, g3]; exact x3⟩, by rw [f3]; exact y1, by rw [f4]; exact y2, by rw [f5]; exact y3⟩, ⟨fun i hi => ?_, b3, b12⟩, fun i hi hh => ?_, fun q hq hh => ⟨fun k hk => ?_, ?_⟩, fun q hq hh k hk => ?_⟩
  · rcases r1 i hi with e | ⟨t, c, s, f, e⟩
    · exact Or.inl ((er i hi).trans e)
    · exact Or.inr ⟨t, c, s, f, by rw [er i hi]; exact cc _ _ _ _ _ e⟩
  · rw [f3] at hh
    obtain ⟨t, c, s, f, e1, e2, e4⟩ := s1 i hi hh
    have s12 : s ≤ 12 := e1.2.2.1.1
    refine ⟨t, c, s, f, by rw [er i hi]; exact cc _ _ _ _ _ e1, (g4 i hi).trans e2, fun j hj => ry_eq (e4 j hj) (fun w hw => ?_) (fun _ _ => rfl)⟩
    rw [show 192 * b + 12 * i + j = 192 * b + (12 * i + j) by omega, show 192 * a + 12 * i + j = 192 * a + (12 * i + j) by omega]
    exact g5 (12 * i + j) (by omega) w hw
  · rw [f4] at hh
    have x := (s2 q hq hh).1 k hk
    rw [e3 q hq k (by omega), x, show 196 * b + 14 * q + k = 196 * b + (14 * q + k) by omega, g6 (14 * q + k) (by omega), show 196 * a + 14 * q + k = 196 * a + (14 * q + k) by omega]
  · rw [f4] at hh
    have x := (s2 q hq hh).2
    rw [e3 q hq 13 (by omega), x, show 196 * b + 14 * q + 13 = 196 * b + (14 * q + 13) by omega, g6 (14 * q + 13) (by omega), show 196 * a + 14 * q + 13 = 196 * a + (14 * q + 13) by omega]
  · rw [f5] at hh
    have x := s3 q hq hh k hk
    rw [e12 q hq k hk, x, show 196 * b + 112 + 14 * q + k = 196 * b + (112 + 14 * q + k) by omega, g6 (112 + 14 * q + k) (by omega), show 196 * a + 112 + 14 * q + k = 196 * a + (112 + 14 * q + k) by omega]
theorem plr_lt {f g : Nat → Int} {k : Nat} (hk : k < 14) : plr f g k = g k := if_pos hk
theorem plr_bd {f g : Nat → Int} (hf : ∀ k, -2 ≤ f k ∧ f k ≤ 999) (hg : ∀ k, -2 ≤ g k ∧ g k ≤ 999) (k : Nat) : -2 ≤ plr f g k ∧ plr f g k ≤ 999 := by
  unfold plr
  by_cases e : k < 14
  · rw [if_pos e]; exact hg k
  · rw [if_neg e]; exact hf k
theorem cw_k1 {h : av_H} {o i : Nat} (x : CW h o i) {q : Nat} (e : hR h (o + 1) i = some q) : (hK h q).1 = 1 := by
  rcases x with x | ⟨t, c, s, f, x⟩
  · rw [x] at e; cases e
  · rw [x.1] at e
    cases e
    rw [x.2.1.1]
