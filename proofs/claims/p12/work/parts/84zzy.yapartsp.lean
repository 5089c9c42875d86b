/-! APART, PART of the reference: what it keeps of the first law -/
def tt3 (t : T3) : Int := if t.2.2 = 9999 then -1 else t.2.2
def ww3 (u ro : Nat → Int) (t : T3) (w : Nat) : Int := if t.2.2 = 9999 then -1 else bwv u ro t.1 t.2.1 w
theorem tt3_n {t : T3} (e : t.2.2 = 9999) : tt3 t = -1 := if_pos e
theorem tt3_y {t : T3} (e : t.2.2 ≠ 9999) : tt3 t = t.2.2 := if_neg e
theorem ww3_n {u ro : Nat → Int} {t : T3} {w : Nat} (e : t.2.2 = 9999) : ww3 u ro t w = -1 := if_pos e
theorem ww3_y {u ro : Nat → Int} {t : T3} {w : Nat} (e : t.2.2 ≠ 9999) : ww3 u ro t w = bwv u ro t.1 t.2.1 w := if_neg e
theorem tt3_r {t : T3} (h : t.2.2 = 9999 ∨ (0 ≤ t.2.2 ∧ t.2.2 < 9999)) : -1 ≤ tt3 t ∧ tt3 t ≤ 9998 := by
  unfold tt3
  split <;> omega
theorem tt3_e {a b : T3} (h : a.2.2 = 9999 ∨ (0 ≤ a.2.2 ∧ a.2.2 < 9999)) (k : b.2.2 = 9999 ∨ (0 ≤ b.2.2 ∧ b.2.2 < 9999)) (e : tt3 a = tt3 b) : a.2.2 = b.2.2 := by
  unfold tt3 at e
  split at e <;> split at e <;> omega
section
variable {u ro bar : Nat → Int} {s k w : Nat} {A A' : Nat → Nat → Int} {g h h' : av_H}
theorem bw_r {x : Int} (W : UW u s) (hw : w < 5) (ne : (bgn u ro bar s x).2.2 ≠ 9999) : -1 ≤ bwv u ro (bgn u ro bar s x).1 (bgn u ro bar s x).2.1 w ∧ bwv u ro (bgn u ro bar s x).1 (bgn u ro bar s x).2.1 w ≤ 999 := by
  rcases bgn_f (u := u) (ro := ro) (bar := bar) (s := s) (x := x) with z | z
  · exact absurd z.1 ne
  · refine bwv_r W hw ?_ z.2.1.2.1
    rcases z.2.2 with y | y
    · rw [y]
      omega
    · exact y.2.1
theorem ww3_r {x : Int} (W : UW u s) (hw : w < 5) : -1 ≤ ww3 u ro (bgn u ro bar s x) w ∧ ww3 u ro (bgn u ro bar s x) w ≤ 999 := by
  by_cases c : (bgn u ro bar s x).2.2 = 9999
  · rw [ww3_n c]
    omega
  · rw [ww3_y c]
    exact bw_r W hw c
/-- the hours and words of the first k combos are kept -/
def APS (u ro bar : Nat → Int) (s k : Nat) (A : Nat → Nat → Int) : Prop := ∀ j : Nat, j < k → A 120 j = tt3 (bgn u ro bar s (j : Int)) ∧ ∀ w, w < 5 → A 121 (5 * j + w) = ww3 u ro (bgn u ro bar s (j : Int)) w
/-- and of the next one w words -/
def APW (u ro bar : Nat → Int) (s k w : Nat) (A : Nat → Nat → Int) : Prop := APS u ro bar s k A ∧ A 120 k = tt3 (bgn u ro bar s (k : Int)) ∧ ∀ i, i < w → A 121 (5 * k + i) = ww3 u ro (bgn u ro bar s (k : Int)) i
theorem APS_0 : APS u ro bar s 0 A := fun _ h => absurd h (Nat.not_lt_zero _)
theorem APS_c (x : APS u ro bar s k A) (e0 : A' 120 = A 120) (e1 : A' 121 = A 121) : APS u ro bar s k A' := by
  unfold APS
  rw [e0, e1]
  exact x
theorem APW_0 {v : Int} (x : APS u ro bar s k (hA h)) (e : h' = hwA h 120 k v) (ev : v = tt3 (bgn u ro bar s (k : Int))) : APW u ro bar s k 0 (hA h') := by
  refine ⟨fun j hj => ⟨?_, ?_⟩, ?_, fun i hi => absurd hi (Nat.not_lt_zero _)⟩
  · rw [hA_eu e, u1_ne (by omega)]
    exact (x j hj).1
  · rw [hA_en e (by decide)]
    exact (x j hj).2
  · rw [hA_eu e, u1_eq]
    exact ev
theorem APW_s {v : Int} (x : APW u ro bar s k w (hA h)) (e : h' = hwA h 121 (5 * k + w) v) (hw : w < 5) (ev : v = ww3 u ro (bgn u ro bar s (k : Int)) w) : APW u ro bar s k (w + 1) (hA h') := by
  refine ⟨fun j hj => ⟨?_, fun i hi => ?_⟩, ?_, fun i hi => ?_⟩
  · rw [hA_en e (by decide)]
    exact (x.1 j hj).1
  · rw [hA_eu e, u1_ne (by omega)]
    exact (x.1 j hj).2 i hi
  · rw [hA_en e (by decide)]
    exact x.2.1
  · by_cases c : i = w
    · rw [c, hA_eu e, u1_eq]
      exact ev
    · rw [hA_eu e, u1_ne (by omega)]
      exact x.2.2 i (by omega)
theorem APW_e {k' : Nat} (x : APW u ro bar s k w A) (e : w = 5) (e' : k' = k + 1) : APS u ro bar s k' A := fun j hj => by
  subst e
  by_cases c : j = k
  · rw [c]
    exact ⟨x.2.1, x.2.2⟩
  · exact x.1 j (by omega)
theorem APS_g (x : APS u ro bar s k A) (y : Int) (h0 : 0 ≤ y) (h1 : y.toNat < k) : A 120 y.toNat = tt3 (bgn u ro bar s y) ∧ ∀ w, w < 5 → A 121 (5 * y.toNat + w) = ww3 u ro (bgn u ro bar s y) w := by
  have z := x y.toNat h1
  rw [Int.toNat_of_nonneg h0] at z
  exact z
theorem RBA_t (x : RBA u ro bar s g) (Z : ZE [120, 121] [60, 61] g h) : RBA u ro bar s h := ⟨RBB_z x.1 (ZE_low Z (elem_12 ⟨rfl, rfl, rfl, rfl, rfl, rfl, rfl, rfl, rfl, rfl, rfl, rfl⟩)), by
  unfold AQL
  rw [Z.1 105 rfl, Z.1 106 rfl, Z.1 98 rfl, Z.1 107 rfl, Z.1 108 rfl, Z.2 28 rfl]
  exact x.2⟩
theorem LR_t {a : Nat → Nat → Int} (x : LR u ro a s (hA g)) (Z : ZE [120, 121] [60, 61] g h) : LR u ro a s (hA h) := LR_c x (fun q hq => by
  refine Z.1 q ?_
  rcases (show q = 95 ∨ q = 96 ∨ q = 97 ∨ q = 99 ∨ q = 100 ∨ q = 101 ∨ q = 102 ∨ q = 103 ∨ q = 104 ∨ q = 109 ∨ q = 110 ∨ q = 111 by omega) with e | e | e | e | e | e | e | e | e | e | e | e <;> subst e <;> rfl)
theorem BRR_t {t : T3} (x : BRR t g) (Z : ZE [120, 121] [60, 61] g h) : BRR t h := BRR_n x (fun k h1 h2 => by
  rcases (show k = 50 ∨ k = 51 ∨ k = 52 ∨ k = 53 by omega) with e | e | e | e <;> subst e <;> exact Z.2 _ rfl)
end
/-- whether they part in combo x: what the flag says behind w words -/
def PJ (u ro bar ro2 bar2 : Nat → Int) (s : Nat) (x v : Int) (w : Nat) : Prop := (v = 1 ∧ PRT u ro bar ro2 bar2 s x) ∨ (v = 0 ∧ (bgn u ro bar s x).2.2 = (bgn u ro2 bar2 s x).2.2 ∧ ∀ i, i < w → ww3 u ro (bgn u ro bar s x) i = bwv u ro2 (bgn u ro2 bar2 s x).1 (bgn u ro2 bar2 s x).2.1 i)
section
variable {u ro bar ro2 bar2 : Nat → Int} {s w w' : Nat} {x v : Int}
theorem PJ_0n (ne : tt3 (bgn u ro bar s x) ≠ tt3 (bgn u ro2 bar2 s x)) : PJ u ro bar ro2 bar2 s x 1 0 := Or.inl ⟨rfl, Or.inl (fun e => ne (by unfold tt3; rw [e]))⟩
theorem PJ_0y (h : (bgn u ro bar s x).2.2 = 9999 ∨ (0 ≤ (bgn u ro bar s x).2.2 ∧ (bgn u ro bar s x).2.2 < 9999)) (k : (bgn u ro2 bar2 s x).2.2 = 9999 ∨ (0 ≤ (bgn u ro2 bar2 s x).2.2 ∧ (bgn u ro2 bar2 s x).2.2 < 9999)) (e : tt3 (bgn u ro bar s x) = tt3 (bgn u ro2 bar2 s x)) : PJ u ro bar ro2 bar2 s x 0 0 := Or.inr ⟨rfl, tt3_e h k e, fun i hi => absurd hi (Nat.not_lt_zero _)⟩
theorem PJ_1 (J : PJ u ro bar ro2 bar2 s x v w) (h : v ≠ 0) : PJ u ro bar ro2 bar2 s x 1 w' := Or.inl ⟨rfl, J.elim (fun z => z.2) (fun z => absurd z.1 h)⟩
theorem PJ_n (J : PJ u ro bar ro2 bar2 s x v w) (h : v = 0) (hw : w < 5) (e' : w' = w + 1) (nb : (bgn u ro2 bar2 s x).2.2 ≠ 9999) (ne : ww3 u ro (bgn u ro bar s x) w ≠ bwv u ro2 (bgn u ro2 bar2 s x).1 (bgn u ro2 bar2 s x).2.1 w) : PJ u ro bar ro2 bar2 s x 1 w' := by
  rcases J with z | z
  · exact absurd z.1 (by omega)
  · have na : (bgn u ro bar s x).2.2 ≠ 9999 := by rw [z.2.1]; exact nb
    refine Or.inl ⟨rfl, Or.inr ⟨na, w, hw, ?_⟩⟩
    rw [ww3_y na] at ne
    exact ne
theorem PJ_y (J : PJ u ro bar ro2 bar2 s x v w) (h : v = 0) (e' : w' = w + 1) (ne : ww3 u ro (bgn u ro bar s x) w = bwv u ro2 (bgn u ro2 bar2 s x).1 (bgn u ro2 bar2 s x).2.1 w) : PJ u ro bar ro2 bar2 s x 0 w' := by
  subst e'
  rcases J with z | z
  · exact absurd z.1 (by omega)
  · refine Or.inr ⟨rfl, z.2.1, fun i hi => ?_⟩
    by_cases c : i = w
    · rw [c]
      exact ne
    · exact z.2.2 i (by omega)
theorem PJ_p (J : PJ u ro bar ro2 bar2 s x v w) (h : v ≠ 0) : PRT u ro bar ro2 bar2 s x := J.elim (fun z => z.2) (fun z => absurd z.1 h)
theorem PJ_z (J : PJ u ro bar ro2 bar2 s x v w) (h : v = 0) (e : (bgn u ro2 bar2 s x).2.2 = 9999 ∨ w = 5) : ¬ PRT u ro bar ro2 bar2 s x := by
  rcases J with z | z
  · exact absurd z.1 (by omega)
  · intro p
    rcases p with p | p
    · exact p z.2.1
    · obtain ⟨na, i, hi, q⟩ := p
      rcases e with e | e
      · exact na (z.2.1.trans e)
      · have y := z.2.2 i (by omega)
        rw [ww3_y na] at y
        exact q y
end
theorem cv_185 {g h : av_H} {n a m : Int} (I : IMF n a m h) (F : FM g h) {U : Nat → Nat → Int} {S : Nat → Nat} {ro : Nat → Nat → Int} (R : RXX g U S ro) (g16 : hA g 78 0 ≤ 16) (x : Int) (qx : 0 ≤ x ∧ x < hA g 78 0) (l : Int) (ql : 0 ≤ l ∧ l < hA g 79 0) (RO : ∀ j, j < 13 → hA h 95 j = ro (Int.toNat l) j) {Q : Option av_V → av_H → Prop} (hq : ∀ n' a' m' h', n' = (S (Int.toNat x) : Int) → m' = cbf (U (Int.toNat x)) (S (Int.toNat x)) → RBA (U (Int.toNat x)) (ro (Int.toNat l)) (bxx U S (ro (Int.toNat l)) (Int.toNat x)) (S (Int.toNat x)) h' → ZE [96, 97, 98, 99, 100, 101, 102, 103, 104, 105, 106, 107, 108, 109, 110, 111, 112, 113, 114, 115, 116, 117] [27, 28, 29, 50, 51, 52, 53] h h' → IMF n' a' m' h' → FM g h' → Q none h') : av_wp none cd_185 0 [some (.inr (.inr (.inl (some (77))))), some (.inl x), none, none] [] h Q :=
  cx_185 I F x (by omega) qx.2 (fun c hc => R.1 c (by omega)) (fun c hc => R.2.1 c (Int.toNat l) (by omega) (by omega)) (fun c hc => R.2.2.1 c (by omega)) RO hq
