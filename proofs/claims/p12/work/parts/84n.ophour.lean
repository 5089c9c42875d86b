/-! HOUR: class and reference give the same -/
theorem CM_of {A : Nat → Nat → Int} {c s : Nat} {f lo hi ls : Nat → Int} (B : BL A c lo hi ls) (es : A 81 c = (s : Int)) (R : ∀ j, j < s → RY (rwA A (12 * c + j)) f (j * 21)) : cmf lo hi ls (4 * (A 81 c).toNat) = cbf f s := by
  rw [show (A 81 c).toNat = s by omega, LH_c (LH_of B es R) s (Nat.le_refl s), cbf_ct]
theorem BL_c {A A' : Nat → Nat → Int} {c : Nat} {lo hi ls : Nat → Int} (e : ∀ q, 78 ≤ q → q ≤ 93 → A' q = A q) (B : BL A' c lo hi ls) : BL A c lo hi ls := by
  unfold BL at B ⊢
  rw [e 81 (by omega) (by omega), e 91 (by omega) (by omega), e 92 (by omega) (by omega), e 89 (by omega) (by omega)] at B
  exact B
theorem ox_104 {h : av_H} (B : BK h) (x1 x2 x3 x4 : Int) (q1 : -2147483648 ≤ x1 ∧ x1 ≤ 2147483647) (q2 : -2147483648 ≤ x2 ∧ x2 ≤ 2147483647) (q3 : -2147483648 ≤ x3 ∧ x3 ≤ 2147483647) (q4 : -2147483648 ≤ x4 ∧ x4 ≤ 2147483647) : av_wp none cd_104 0 [some (.inr (.inr (.inl (some (0))))), some (.inl x1), some (.inl x2), some (.inl x3), some (.inl x4), none] [] h (OPr cd_189 [some (.inr (.inr (.inl (some (77))))), some (.inl x1), some (.inl x2), some (.inl x3), some (.inl x4)] h (fun x y => x = y)) := by
  refine gd_of (fun hg => ?_)
  obtain ⟨n, a, m, M⟩ := B.2.2.1
  have S := B.2.2.2.2.1
  have c78 : hF h 3 3 = hA h 78 0 := S.1.1.1
  refine cx_104 B.1 S x1 q1 x2 q2 x3 q3 x4 q4 (fun z => ⟨_, rfl, ly_k B.1.1 77 rfl, ?_⟩) (fun z1 z2 z3 t c s f y1 y2 y3 z4 => ⟨_, rfl, ly_k B.1.1 77 rfl, ?_⟩) (fun z1 z2 z3 t c s f y1 y2 y3 z4 z5 z6 h1 I1 Y1 => ⟨_, rfl, ly_k I1.1 77 rfl, gd_of (fun hg1 => ?_)⟩)
  · exact cx_189 M (FM_rf h) x1 q1 x2 q2 x3 q3 x4 q4 (fun n' a' m' h' _ M2 F2 => ⟨_, rfl, rfl, BK_FM hg B F2 M2, RM_0 F2.1 F2.2.1⟩) (fun n' a' m' h' lo hi ls w _ _ _ _ => by exfalso; omega) (fun v n' a' m' h' lo hi ls w _ _ _ _ _ _ _ => by exfalso; omega)
  · refine cx_189 M (FM_rf h) x1 q1 x2 q2 x3 q3 x4 q4 (fun n' a' m' h' _ M2 F2 => ⟨_, rfl, rfl, BK_FM hg B F2 M2, RM_0 F2.1 F2.2.1⟩) (fun n' a' m' h' lo hi ls _ _ _ M2 F2 => ⟨_, rfl, rfl, BK_FM hg B F2 M2, RM_0 F2.1 F2.2.1⟩) (fun v n' a' m' h' lo hi ls w1 w2 w3 w4 w5 _ _ _ => ?_)
    exfalso
    have e := CM_of w2 y2 y3
    rw [e] at w3
    have ev : cbv f s = cbf f s := if_neg (by omega)
    omega
  · have e78 : ∀ q, 78 ≤ q → q ≤ 93 → hA h1 q = hA h q := fun q w1 w2 => Y1.2.1 q (fun j hj => by omega)
    have B1 := BK_Fr hg B Y1.1.1 I1
    obtain ⟨n1, a1, m1, M1⟩ := B1.2.2.1
    have f78 := congrFun (e78 78 (by omega) (by omega)) 0
    have f81 := congrFun (e78 81 (by omega) (by omega)) (Int.toNat x1)
    have ev : ∀ lo hi ls, BL (hA h1) (Int.toNat x1) lo hi ls → cmf lo hi ls (4 * (hA h1 81 (Int.toNat x1)).toNat) = cbf f s := fun lo hi ls w => by
      rw [f81]
      exact CM_of (BL_c e78 w) y2 y3
    have z5' := z5
    unfold cbv at z5'
    refine cx_189 M1 (FM_rf h1) x1 q1 x2 q2 x3 q3 x4 q4 (fun n' a' m' h' w _ _ => by exfalso; omega) (fun n' a' m' h' lo hi ls w1 w2 w3 _ _ => ?_) (fun v n' a' m' h' lo hi ls w1 w2 w3 w4 w5 w6 M2 F2 => ⟨_, rfl, ?_, BK_FM hg1 B1 F2 M2, RM_0 (F2.1.trans Y1.1.1.1) (F2.2.1.trans Y1.1.1.2.1)⟩)
    · exfalso
      rw [ev lo hi ls w2] at w3
      split at z5' <;> omega
    · rw [w6]
      exact (LH_h (LH_of (BL_c e78 w2) y2 y3) (by omega) (by omega)).symm
