/-! THE BOOK BUILT AGAIN -/
theorem sh_cw {h : av_H} (x : ∀ i, i < 16 → CW h 3 i) : SH h := fun i hi => by
  rcases x i hi with e | ⟨t, c, s, f, y⟩
  · exact Or.inl e
  · exact Or.inr ⟨t, c, s, cbv f s, y.1, cx_co y.2.1 y.2.2.1 (Or.inr (Or.inr y.2.2.2.2.2.1))⟩
theorem rwc_bA {a : Nat} (h : rwc a = true) (h2 : bA a = true) : a = 25 ∨ (6 ≤ a ∧ a ≤ 13) ∨ (15 ≤ a ∧ a ≤ 20) := by
  have h3 := rwc_lt h
  have hh : ∀ a, a < 122 → rwc a = true → bA a = true → a = 25 ∨ (6 ≤ a ∧ a ≤ 13) ∨ (15 ≤ a ∧ a ≤ 20) := by decide
  exact hh a h3 h h2
/-- the class's part behind one of its operations -/
theorem IC_op {eA eR : Nat → Prop} {eF : Nat → Nat → Prop} {g h : av_H} {n m : Nat} (G : av_Gd g) (I : IC g) (F : FQ eA eR eF nun2 g h n m) (h1 : ∀ q, eA q → bA q = true) (h2 : ∀ q, eR q → bR q = true) (h3 : ∀ q j, eF q j → bF q j = true) (K : KT h) (r : SLr h 3) (c : CN h) : IC h := by
  refine IC_fb G I (FQ_fb F h1 h2 h3 (fun _ _ z => z)) (fun a ha hb j => ?_) (sh_cw r.1) c
  obtain ⟨⟨lim, t, C⟩, _⟩ := K
  rcases rwc_bA ha hb with e | e | e
  · subst e; exact ct_dv C j
  · have := r.2.1 (a - 6) (by omega) j
    rw [show 3 + 3 + (a - 6) = a by omega] at this
    exact this
  · have := r.2.2 (a - 15) (by omega) j
    rw [show 3 + 12 + (a - 15) = a by omega] at this
    exact this
theorem rdF2_bF {x : Nat} (hx : 3 ≤ x ∧ x ≤ 5) : ∀ q j, rdF2 x q j → bF q j = true := fun q j e => by
  rcases e with e | e | e | e
  · subst e; rfl
  · subst e; rfl
  · obtain ⟨e1, e2⟩ := e; subst e1; subst e2; rfl
  · obtain ⟨e1, e2⟩ := e
    subst e1; subst e2
    rcases (show j = 3 ∨ j = 4 ∨ j = 5 by omega) with e | e | e <;> subst e <;> rfl
theorem rdF2_low {x : Nat} {q j : Nat} (e : rdF2 x q j) : q < 122 := by unfold rdF2 at e; omega
theorem rd_low {x : Nat} : LOW rdA2 (fun q => q = 4) (rdF2 x) nun2 := ⟨fun q e => by unfold rdA2 at e; omega, fun q e => by omega, fun q j e => rdF2_low e, fun q j e => e.elim⟩
theorem rd_low0 {x : Nat} : LOW rdA2 nun1 (rdF2 x) nun2 := ⟨fun q e => by unfold rdA2 at e; omega, fun q e => e.elim, fun q j e => rdF2_low e, fun q j e => e.elim⟩
theorem mo_low {x : Nat} : LOW moA (fun q => q = 4) (rdF2 x) nun2 := ⟨fun q e => by unfold moA at e; omega, fun q e => by omega, fun q j e => rdF2_low e, fun q j e => e.elim⟩
theorem lw_low {x y : Nat} (hy : y < 122) : LOW (lwA y) nun1 (rdF2 x) nun2 := ⟨fun q e => by unfold lwA at e; omega, fun q e => e.elim, fun q j e => rdF2_low e, fun q j e => e.elim⟩
/-- the reference's part -/
theorem IMF_of {n a m : Int} {g h : av_H} (x : IMF n a m g) (L : LY h) (eA : ∀ q, 95 ≤ q → q ≤ 121 → hA h q = hA g q) (eF : ∀ k, mF 77 k = true → hF h 77 k = hF g 77 k) (V : MV h) : IMF n a m h := by
  obtain ⟨⟨⟨_, x2, x3, x4, x5⟩, x6⟩, x7, x8, x9⟩ := x
  refine ⟨⟨⟨L, V, fun q h1 h2 j => ?_, ?_, ?_⟩, WR_A x6 (eA 96 (by omega) (by omega)) (eA 100 (by omega) (by omega))⟩, (eF 27 rfl).trans x7, (eF 28 rfl).trans x8, (eF 29 rfl).trans x9⟩
  · rw [eA q (by omega) (by omega)]; exact x3 q h1 h2 j
  · unfold AK at x4 ⊢
    rw [eF 28 rfl, eF 29 rfl, eA 108 (by omega) (by omega)]
    exact x4
  · unfold NF at x5 ⊢
    rw [eF 27 rfl, eF 50 rfl, eF 51 rfl, eF 52 rfl]
    exact x5
theorem MV_of {h : av_H} (B : BN (hA h)) (m : ∀ j, 0 ≤ hA h 81 j ∧ hA h 81 j ≤ 12) (S : SL h (hA h) 3 0) : MV h := by
  obtain ⟨⟨⟨c1, c2, c3⟩, b1, b2, b3⟩, _, s3, _⟩ := S
  refine ⟨B, by rw [← c1]; exact b1, by rw [← c2]; exact b2, by rw [← c3]; exact b3, m, fun c k hc hk h2 => ?_⟩
  obtain ⟨t, cc, s, f, x1, x2, x3⟩ := s3 c (by omega) (by rw [c1]; exact hc)
  rw [show 16 * 0 + c = c by omega] at x2
  rw [x2] at hk
  have y := (x3 k (by omega) rfl).1
  have y0 : hA h 82 (1 * (192 * 0 + 12 * c + k) + 0) = f (k * 21 + 0) := y 0 (by omega) (by omega)
  have y3 : hA h 85 (1 * (192 * 0 + 12 * c + k) + 0) = f (k * 21 + 3) := y 3 (by omega) (by omega)
  rw [show 1 * (192 * 0 + 12 * c + k) + 0 = 12 * c + k by omega] at y0 y3
  rw [y0] at h2
  rw [y3]
  exact x1.2.2.2.1 k (by omega) h2
theorem im_bn {n a m : Int} {h : av_H} (x : IMF n a m h) : BN (hA h) := x.1.1.2.1.1
theorem im_m81 {n a m : Int} {h : av_H} (x : IMF n a m h) : ∀ j, 0 ≤ hA h 81 j ∧ hA h 81 j ≤ 12 := x.1.1.2.1.2.2.2.2.1
/-! the reference's reading changes rows of one case alone -/
theorem FR2_a {c k0 : Nat} {A A' : Nat → Nat → Int} (f : FR2 c k0 A A') {a : Nat} (ha : a < 82 ∨ 92 < a) : A' a = A a := by
  funext j
  exact f a j (fun k o _ _ ho z => by have := vq_in o ho; omega)
theorem CS_ag2 {h : av_H} {A A' : Nat → Nat → Int} {o b i : Nat} (x : CS h A o b i) (e1 : A' 81 (16 * b + i) = A 81 (16 * b + i)) (e2 : ∀ j : Nat, (j : Int) < A 81 (16 * b + i) → j < 12 → ∀ q, q < 19 → rwA A' (192 * b + 12 * i + j) q = rwA A (192 * b + 12 * i + j) q) : CS h A' o b i := by
  obtain ⟨t, c, s, f, x1, x2, x3⟩ := x
  have s12 : s ≤ 12 := x1.2.2.1.1
  exact ⟨t, c, s, f, x1, e1.trans x2, fun j hj => ry_eq (x3 j hj) (e2 j (by rw [x2]; omega) (by omega)) (fun _ _ => rfl)⟩
theorem AGB_fr2 {c k0 b : Nat} {A A' : Nat → Nat → Int} (f : FR2 c k0 A A') (hc : c ≤ 15) (hb : 1 ≤ b) : AGB b A A' := by
  refine ⟨⟨by rw [FR2_a f (by omega)], by rw [FR2_a f (by omega)], by rw [FR2_a f (by omega)]⟩, fun i _ => by rw [FR2_a f (by omega)], fun i hi o ho => FR2_row f (fun k h1 h2 => by omega) o ho, fun k _ => by rw [FR2_a f (by omega)]⟩
theorem SL_fr2 {h : av_H} {c k0 : Nat} {A A' : Nat → Nat → Int} (x : SL h A 3 0) (f : FR2 c k0 A A') (hc : c ≤ 15) (hk : (c : Int) < hF h 3 3 → A 81 c ≤ (k0 : Int)) : SL h A' 3 0 := by
  obtain ⟨x1, x2, x3, x4, x5⟩ := x
  refine ⟨by unfold SLn at x1 ⊢; rw [FR2_a f (a := 78) (by omega), FR2_a f (a := 79) (by omega), FR2_a f (a := 80) (by omega)]; exact x1, x2, fun i hi h1 => CS_ag2 (x3 i hi h1) (by rw [FR2_a f (a := 81) (by omega)]) (fun j hj h12 q hq => FR2_row f (fun k h2 h3 => ?_) q hq), fun l hl h1 => LW_ag (x4 l hl h1) (fun k _ => by rw [FR2_a f (a := 93) (by omega)]), fun l hl h1 => QW_ag (x5 l hl h1) (fun k _ => by rw [FR2_a f (a := 93) (by omega)])⟩
  intro z
  have ec : c = i := by omega
  subst ec
  have := hk h1
  rw [show 16 * 0 + c = c by omega] at hj
  omega
def fdA2 (a : Nat) : Prop := 82 ≤ a ∧ a ≤ 93
def fdF2 (o f : Nat) : Prop := o = 77 ∧ 17 ≤ f ∧ f ≤ 25
theorem FQ_FD {g h : av_H} (F : FD g h) : FQ fdA2 nun1 fdF2 nun2 g h 0 0 := ⟨F.1, F.2.1, fun q _ => ⟨congrFun F.2.2.1 q, fun j _ => congrFun (congrFun F.2.2.2.2.1 q) j, fun e => F.2.2.2.2.2.2 q (by
  cases z : rdA q with
  | false => rfl
  | true =>
    simp only [rdA, Bool.and_eq_true] at z
    exact absurd ⟨Nat.le_of_ble_eq_true z.1, Nat.le_of_ble_eq_true z.2⟩ e), fun _ => congrFun F.2.2.2.1 q, fun j e => F.2.2.2.2.2.1 q j (by
  cases z : rdF q j with
  | false => rfl
  | true =>
    simp only [rdF, Bool.and_eq_true] at z
    exact absurd ⟨Nat.eq_of_beq_eq_true z.1, Nat.le_of_ble_eq_true z.2.1, Nat.le_of_ble_eq_true z.2.2⟩ e)⟩⟩
theorem fd_low : LOW fdA2 nun1 fdF2 nun2 := ⟨fun q e => by unfold fdA2 at e; omega, fun q e => e.elim, fun q j e => by unfold fdF2 at e; omega, fun q j e => e.elim⟩
theorem IC_FD {g h : av_H} (F : FD g h) (x : IC g) : IC h := by
  have Q := FQ_FD F
  refine IC_eq ⟨fun q hq => by rw [F.2.2.1]; exact x.1.1 q hq, fun o f q e => by rw [F.2.2.2.2.1]; exact x.1.2.1 o f q e, fun i hi => by rw [F.2.2.2.1]; exact x.1.2.2.1 i hi, fun i hi => by rw [F.2.2.2.1]; exact x.1.2.2.2 i hi⟩ (fun q => congrFun F.2.2.1 q) (fun q hq => F.2.2.2.2.2.2 q (by
    cases z : rdA q with
    | false => rfl
    | true =>
      simp only [rdA, Bool.and_eq_true] at z
      have h1 := Nat.le_of_ble_eq_true z.1
      have h2 := Nat.le_of_ble_eq_true z.2
      omega)) (fun q k hq => F.2.2.2.2.2.1 q k (by simp only [rdF, nbeq hq, Bool.false_and])) (fun q => congrFun F.2.2.2.2.1 q) (fun q => congrFun F.2.2.2.1 q) x
