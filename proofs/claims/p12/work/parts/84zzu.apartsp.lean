/-! TWO LAWS PART -/
theorem EB_fn {b b' t c s r : Nat} {cb : Int} {u ro : Nat → Int} {a : Nat → Nat → Int} {x y z : Int} {g h : av_H} (E : EB b t c s r cb u ro a x y z g) (hb : bn b') (ne : b ≠ b') (F : FN b' g h) (I : IC h) : EB b t c s r cb u ro a x y z h := by
  obtain ⟨e0, e1, e3, e4, e5, e6, e7⟩ := E
  have hb0 := e0.2.1
  refine ⟨ib_f1 e0 I F.1, ?_, ?_, fun j hj => ?_, ?_, ?_, ?_⟩
  · refine (F.2.1 c (fun j hj z => ?_)).trans e1
    have := e0.2.2.1.2.2.2.2.2.2.2.1
    rcases hb with w | w | w <;> omega
  · refine (F.2.1 r (fun j hj z => ?_)).trans e3
    have k2 := e0.2.2.2.2.2.2
    have := rwc_bn hb j (Nat.ble_eq_true_of_le hj)
    rw [← z, k2] at this
    cases this
  · refine (F.2.1 _ (fun i hi z => ?_)).trans (e4 j hj)
    rcases hb with w | w | w <;> rcases hb0 with q | q | q <;> omega
  · rw [F.2.2 b 13 ne]; exact e5
  · rw [F.2.2 b 14 ne]; exact e6
  · rw [F.2.2 b 15 ne]; exact e7
/-- both benches seated with one case, by two laws -/
def SBX (U : Nat → Nat → Int) (S : Nat → Nat) (n : Int) (sr nd : Nat → Int) (t c s : Nat) (cb : Int) (u : Nat → Int) (r : Nat) (ro bar : Nat → Int) (r2 : Nat) (ro2 bar2 : Nat → Int) (g h : av_H) : Prop := CJ U S n sr nd h ∧ Fr g h ∧ (∃ a x y z, EB 35 t c s r cb u ro a x y z h ∧ TKR u ro bar s a ∧ HZ u a) ∧ ∃ a x y z, EB 48 t c s r2 cb u ro2 a x y z h ∧ TKR u ro2 bar2 s a ∧ HZ u a
/-- in combo x they part -/
def PRT (u ro bar ro2 bar2 : Nat → Int) (s : Nat) (x : Int) : Prop := (bgn u ro bar s x).2.2 ≠ (bgn u ro2 bar2 s x).2.2 ∨ ((bgn u ro bar s x).2.2 ≠ 9999 ∧ ∃ w : Nat, w < 5 ∧ bwv u ro (bgn u ro bar s x).1 (bgn u ro bar s x).2.1 w ≠ bwv u ro2 (bgn u ro2 bar2 s x).1 (bgn u ro2 bar2 s x).2.1 w)
/-- how many of the first k; the first of them -/
noncomputable def cnP (P : Int → Prop) : Nat → Int
  | 0 => 0
  | k + 1 => cnP P k + @ite _ (P (k : Int)) (Classical.propDecidable _) 1 0
noncomputable def fsP (P : Int → Prop) : Nat → Int
  | 0 => -1
  | k + 1 => if fsP P k ≠ -1 then fsP P k else @ite _ (P (k : Int)) (Classical.propDecidable _) (k : Int) (-1)
section
variable {P : Int → Prop} {k : Nat}
theorem cnP_y (h : P (k : Int)) : cnP P (k + 1) = cnP P k + 1 := by
  show cnP P k + @ite _ (P (k : Int)) (Classical.propDecidable _) 1 0 = _
  rw [if_pos h]
theorem cnP_n (h : ¬ P (k : Int)) : cnP P (k + 1) = cnP P k := by
  show cnP P k + @ite _ (P (k : Int)) (Classical.propDecidable _) 1 0 = _
  rw [if_neg h, Int.add_zero]
theorem fsP_k (h : fsP P k ≠ -1) : fsP P (k + 1) = fsP P k := if_pos h
theorem fsP_y (e : fsP P k = -1) (h : P (k : Int)) : fsP P (k + 1) = (k : Int) := by
  have z : fsP P (k + 1) = if fsP P k ≠ -1 then fsP P k else @ite _ (P (k : Int)) (Classical.propDecidable _) (k : Int) (-1) := rfl
  rw [z, if_neg (fun y => y e), if_pos h]
theorem fsP_n (e : fsP P k = -1) (h : ¬ P (k : Int)) : fsP P (k + 1) = -1 := by
  have z : fsP P (k + 1) = if fsP P k ≠ -1 then fsP P k else @ite _ (P (k : Int)) (Classical.propDecidable _) (k : Int) (-1) := rfl
  rw [z, if_neg (fun y => y e), if_neg h]
theorem fsP_m {v : Int} (e : fsP P k = v) (h : v ≠ -1) : ∀ d, fsP P (k + d) = v := by
  intro d
  induction d with
  | zero => exact e
  | succ d ih => rw [show k + (d + 1) = (k + d) + 1 by omega, fsP_k (by rw [ih]; exact h)]; exact ih
theorem fsP_r : -1 ≤ fsP P k ∧ fsP P k < (k : Int) := by
  induction k with
  | zero => exact ⟨Int.le_refl _, by show (-1 : Int) < 0; omega⟩
  | succ k ih =>
    by_cases e : fsP P k = -1
    · by_cases h : P (k : Int)
      · rw [fsP_y e h]
        omega
      · rw [fsP_n e h]
        omega
    · rw [fsP_k e]
      omega
theorem cn_fs : (cnP P k = 0 ↔ fsP P k = -1) ∧ 0 ≤ cnP P k ∧ cnP P k ≤ (k : Int) := by
  induction k with
  | zero => exact ⟨⟨fun _ => rfl, fun _ => rfl⟩, Int.le_refl _, Int.le_refl _⟩
  | succ k ih =>
    have r := fsP_r (P := P) (k := k)
    by_cases h : P (k : Int)
    · rw [cnP_y h]
      by_cases e : fsP P k = -1
      · rw [fsP_y e h]
        omega
      · rw [fsP_k e]
        omega
    · rw [cnP_n h]
      by_cases e : fsP P k = -1
      · rw [fsP_n e h]
        omega
      · rw [fsP_k e]
        omega
end
theorem Fr_6 {g h : av_H} (F : Fr g h) : ∀ l, l < 8 → hA h (6 + l) = hA g (6 + l) := fun l hl => F.2.2.2.2.2.2 _ (by
  have hh : ∀ l, l < 8 → sA (6 + l) = false := by decide
  exact hh l hl)
theorem Fr_34 {g h : av_H} (F : Fr g h) : hF h 3 4 = hF g 3 4 := F.2.2.2.2.2.1 3 4 rfl
/-- a seated bench stays when another is seated -/
theorem EB_fp {b b' t c s r : Nat} {cb : Int} {u ro : Nat → Int} {a : Nat → Nat → Int} {x y z : Int} {g h : av_H} (E : EB b t c s r cb u ro a x y z g) (hb : bn b') (ne : b ≠ b') (n6 : b ≠ 61) (F : FP b' g h) (I : IC h) : EB b t c s r cb u ro a x y z h := by
  obtain ⟨e0, e1, e3, e4, e5, e6, e7⟩ := E
  have hb0 := e0.2.1
  refine ⟨ib_fr e0 I F.1 (F.2.2.2 b 12 n6 ne) (F.2.2.2 b 11 n6 ne), ?_, ?_, fun j hj => ?_, ?_, ?_, ?_⟩
  · have cc := e0.2.2.1.2.2.2.2.2.2.2.1
    refine (F.2.1 c (by omega) (by omega) (fun j hj => by omega) (fun j hj => ?_)).trans e1
    rcases hb with w | w | w <;> omega
  · exact (FP_row hb F e0.2.2.2.2.2.2).trans e3
  · refine (F.2.1 _ ?_ ?_ (fun i hi => ?_) (fun i hi => ?_)).trans (e4 j hj)
    · rcases hb0 with q | q | q <;> omega
    · rcases hb0 with q | q | q <;> omega
    · rcases hb0 with q | q | q <;> omega
    · rcases hb with w | w | w <;> rcases hb0 with q | q | q <;> omega
  · rw [F.2.2.1 b 13 n6 ne]; exact e5
  · rw [F.2.2.1 b 14 n6 ne]; exact e6
  · rw [F.2.2.1 b 15 n6 ne]; exact e7
/-- the shortest case of the first i at which they part (Q), the first of those -/
noncomputable def ptv (S : Nat → Nat) (Q : Nat → Prop) : Nat → Int
  | 0 => -1
  | i + 1 => @ite _ ((ptv S Q i = -1 ∨ S i < S (ptv S Q i).toNat) ∧ Q i) (Classical.propDecidable _) (i : Int) (ptv S Q i)
theorem ptv_y {S : Nat → Nat} {Q : Nat → Prop} {i : Nat} (h : ptv S Q i = -1 ∨ S i < S (ptv S Q i).toNat) (q : Q i) : ptv S Q (i + 1) = (i : Int) := if_pos ⟨h, q⟩
theorem ptv_n {S : Nat → Nat} {Q : Nat → Prop} {i : Nat} (h : ¬ ((ptv S Q i = -1 ∨ S i < S (ptv S Q i).toNat) ∧ Q i)) : ptv S Q (i + 1) = ptv S Q i := if_neg h
theorem ptv_r {S : Nat → Nat} {Q : Nat → Prop} : ∀ i, -1 ≤ ptv S Q i ∧ ptv S Q i < (i : Int) := by
  intro i
  induction i with
  | zero => exact ⟨Int.le_refl _, by show (-1 : Int) < 0; omega⟩
  | succ i ih =>
    by_cases h : (ptv S Q i = -1 ∨ S i < S (ptv S Q i).toNat) ∧ Q i
    · rw [ptv_y h.1 h.2]
      omega
    · rw [ptv_n h]
      omega
/-- what counts for part -/
def PTQ (U : Nat → Nat → Int) (S : Nat → Nat) (ro ro2 : Nat → Int) (i : Nat) : Prop := cbv (U i) (S i) ≠ -1 ∧ fsP (PRT (U i) ro (bxx U S ro i) ro2 (bxx U S ro2 i) (S i)) (Int.toNat (cbv (U i) (S i))) ≠ -1
