/-! THE REFERENCE LOOKS AT A CASE BY A LAW -/
theorem cbv_d (u : Nat → Int) (s : Nat) : (1024 < cbf u s ∧ cbv u s = -1) ∨ (cbf u s ≤ 1024 ∧ cbv u s = cbf u s) := by
  unfold cbv
  split
  · next z => exact Or.inl ⟨z, rfl⟩
  · next z => exact Or.inr ⟨by omega, rfl⟩
/-- cases and laws of the reference as pictures -/
def RXX (g : av_H) (U : Nat → Nat → Int) (S : Nat → Nat) (ro : Nat → Nat → Int) : Prop := (∀ c : Nat, (c : Int) < hA g 78 0 → RCA (hA g) U S c) ∧ (∀ c l : Nat, (c : Int) < hA g 78 0 → (l : Int) < hA g 79 0 → RWF (U c) (ro l) (S c)) ∧ (∀ c : Nat, (c : Int) < hA g 78 0 → ∀ k, k < S c → -1 ≤ U c (21 * k + 6) ∧ U c (21 * k + 6) < (c : Int)) ∧ (∀ l : Nat, (l : Int) < hA g 79 0 → ∀ j, j < 13 → lyb (hA g 93) (l : Int) j = ro l j) ∧ (∀ l j : Int, 0 ≤ l → l < hA g 79 0 → 0 ≤ j → j < 13 → -2 ≤ hA g 93 (Int.toNat (14 * l + j)) ∧ hA g 93 (Int.toNat (14 * l + j)) ≤ 999) ∧ (∀ c j : Int, 0 ≤ c → c < hA g 80 0 → 0 ≤ j → j < 13 → -2 ≤ hA g 93 (Int.toNat (112 + 14 * c + j)) ∧ hA g 93 (Int.toNat (112 + 14 * c + j)) ≤ 999)
/-- what the rules say of a case's barred ones -/
noncomputable def bxx (U : Nat → Nat → Int) (S : Nat → Nat) (ro : Nat → Int) (c : Nat) : Nat → Int := brv (U c) (srt U S ro c)
theorem cy_159 {g h : av_H} {n a m : Int} (I : IMF n a m h) (F : FM g h) (g8 : 0 ≤ hA g 79 0 ∧ hA g 79 0 ≤ 8) (g6 : 0 ≤ hA g 80 0 ∧ hA g 80 0 ≤ 6) {U : Nat → Nat → Int} {S : Nat → Nat} {ro : Nat → Nat → Int} (R : RXX g U S ro) (l : Int) (ql : 0 ≤ l ∧ l < hA g 79 0) {Q : Option av_V → av_H → Prop} (hq : ∀ h', IMF n a m h' → FM g h' → (∀ j, j < 13 → hA h' 95 j = ro (Int.toNat l) j) → ZE [95] [] h h' → Q none h') : av_wp none cd_159 0 [some (.inr (.inr (.inl (some (77))))), some (.inl l), some (.inl (0)), none, none] [] h Q := by
  refine cx_159 I F l (by omega) 0 (fun j h1 h2 => R.2.2.2.2.1 l j ql.1 ql.2 h1 h2) (fun c j h1 h2 h3 h4 => R.2.2.2.2.2 c j h1 h2 h3 h4) (fun h' I' F' e Z => hq h' I' F' (fun j hj => ?_) Z)
  have y := R.2.2.2.1 (Int.toNat l) (by omega) j hj
  rw [Int.toNat_of_nonneg ql.1] at y
  rw [e j hj, lyf_z _ _ (by omega)]
  exact y
theorem cy_185 {g h : av_H} {n a m : Int} (I : IMF n a m h) (F : FM g h) {U : Nat → Nat → Int} {S : Nat → Nat} {ro : Nat → Nat → Int} (R : RXX g U S ro) (g16 : hA g 78 0 ≤ 16) (x : Int) (qx : 0 ≤ x ∧ x < hA g 78 0) (l : Int) (ql : 0 ≤ l ∧ l < hA g 79 0) (RO : ∀ j, j < 13 → hA h 95 j = ro (Int.toNat l) j) {Q : Option av_V → av_H → Prop} (hq : ∀ n' a' m' h', n' = (S (Int.toNat x) : Int) → m' = cbf (U (Int.toNat x)) (S (Int.toNat x)) → RBA (U (Int.toNat x)) (ro (Int.toNat l)) (bxx U S (ro (Int.toNat l)) (Int.toNat x)) (S (Int.toNat x)) h' → IMF n' a' m' h' → FM g h' → Q none h') : av_wp none cd_185 0 [some (.inr (.inr (.inl (some (77))))), some (.inl x), none, none] [] h Q :=
  cx_185 I F x (by omega) qx.2 (fun c hc => R.1 c (by omega)) (fun c hc => R.2.1 c (Int.toNat l) (by omega) (by omega)) (fun c hc => R.2.2.1 c (by omega)) RO (fun n' a' m' h' e1 e2 ra _ I' F' => hq n' a' m' h' e1 e2 ra I' F')
