section
/-! WRITE, exactly: the class -/
theorem pw_64 : ∀ c : Nat, c ≤ 6 → 2 ^ c ≤ 64 := by decide
theorem shl_k : ∀ c : Nat, c ≤ 6 → av_shl 1 (c : Int) = ((2 ^ c : Nat) : Int) := by decide +kernel
theorem shl_2 {y z : Int} (h : 0 ≤ y ∧ y ≤ 6) (e : y = z) : av_shl 1 y = ((2 ^ Int.toNat z : Nat) : Int) := by
  subst e
  have w := shl_k y.toNat (by omega)
  rw [Int.toNat_of_nonneg h.1] at w
  exact w
theorem MXL_f {g h : av_H} {f30 : Nat → Int} {x : Int} {l : Nat} (F : Fr g h) (I : IC g) (hl : l < 8) : MXL h f30 x l = MXL g f30 x l := by
  have k6 := ic_kc I
  unfold MXL
  rw [Fr_35 F, Fr_6 F l hl]
  exact mxf_c _ (fun q hq => Fr_15 F q (by omega))
theorem MXL_all {U : Nat → Nat → Int} {S : Nat → Nat} {f30 : Nat → Int} {k : Nat} {b : Int} {g h : av_H} (F : Fr g h) (I : IC g) : (∀ l : Int, 0 ≤ l → l < hF h 3 4 → SRE (U k) (MXL h f30 b (Int.toNat l)) (bxx U S (MXL h f30 b (Int.toNat l)) k) (S k)) = (∀ l : Int, 0 ≤ l → l < hF g 3 4 → SRE (U k) (MXL g f30 b (Int.toNat l)) (bxx U S (MXL g f30 b (Int.toNat l)) k) (S k)) := by
  have l8 := ic_lc I
  refine propext ⟨fun z l h0 h1 => ?_, fun z l h0 h1 => ?_⟩
  · rw [← MXL_f F I (l := Int.toNat l) (by omega)]
    exact z l h0 (by rw [Fr_34 F]; exact h1)
  · rw [Fr_34 F] at h1
    rw [MXL_f F I (l := Int.toNat l) (by omega)]
    exact z l h0 h1
theorem bc_k : ∀ k : Nat, k < 64 → (av_and (((av_and (((av_and ((k : Int) - (av_and (av_ushr (k : Int) (1)) (1431655765))) (858993459)) + (av_and (av_ushr ((k : Int) - (av_and (av_ushr (k : Int) (1)) (1431655765))) (2)) (858993459))) + (av_ushr ((av_and ((k : Int) - (av_and (av_ushr (k : Int) (1)) (1431655765))) (858993459)) + (av_and (av_ushr ((k : Int) - (av_and (av_ushr (k : Int) (1)) (1431655765))) (2)) (858993459))) (4))) (252645135)) + (av_ushr (av_and (((av_and ((k : Int) - (av_and (av_ushr (k : Int) (1)) (1431655765))) (858993459)) + (av_and (av_ushr ((k : Int) - (av_and (av_ushr (k : Int) (1)) (1431655765))) (2)) (858993459))) + (av_ushr ((av_and ((k : Int) - (av_and (av_ushr (k : Int) (1)) (1431655765))) (858993459)) + (av_and (av_ushr ((k : Int) - (av_and (av_ushr (k : Int) (1)) (1431655765))) (2)) (858993459))) (4))) (252645135)) (8))) + (av_ushr ((av_and (((av_and ((k : Int) - (av_and (av_ushr (k : Int) (1)) (1431655765))) (858993459)) + (av_and (av_ushr ((k : Int) - (av_and (av_ushr (k : Int) (1)) (1431655765))) (2)) (858993459))) + (av_ushr ((av_and ((k : Int) - (av_and (av_ushr (k : Int) (1)) (1431655765))) (858993459)) + (av_and (av_ushr ((k : Int) - (av_and (av_ushr (k : Int) (1)) (1431655765))) (2)) (858993459))) (4))) (252645135)) + (av_ushr (av_and (((av_and ((k : Int) - (av_and (av_ushr (k : Int) (1)) (1431655765))) (858993459)) + (av_and (av_ushr ((k : Int) - (av_and (av_ushr (k : Int) (1)) (1431655765))) (2)) (858993459))) + (av_ushr ((av_and ((k : Int) - (av_and (av_ushr (k : Int) (1)) (1431655765))) (858993459)) + (av_and (av_ushr ((k : Int) - (av_and (av_ushr (k : Int) (1)) (1431655765))) (2)) (858993459))) (4))) (252645135)) (8))) (16))) (63)) = (pcn k : Int) := by decide +kernel
theorem bc_v {x : Int} (q : 0 ≤ x ∧ x ≤ 63) : (av_and (((av_and (((av_and (x - (av_and (av_ushr x (1)) (1431655765))) (858993459)) + (av_and (av_ushr (x - (av_and (av_ushr x (1)) (1431655765))) (2)) (858993459))) + (av_ushr ((av_and (x - (av_and (av_ushr x (1)) (1431655765))) (858993459)) + (av_and (av_ushr (x - (av_and (av_ushr x (1)) (1431655765))) (2)) (858993459))) (4))) (252645135)) + (av_ushr (av_and (((av_and (x - (av_and (av_ushr x (1)) (1431655765))) (858993459)) + (av_and (av_ushr (x - (av_and (av_ushr x (1)) (1431655765))) (2)) (858993459))) + (av_ushr ((av_and (x - (av_and (av_ushr x (1)) (1431655765))) (858993459)) + (av_and (av_ushr (x - (av_and (av_ushr x (1)) (1431655765))) (2)) (858993459))) (4))) (252645135)) (8))) + (av_ushr ((av_and (((av_and (x - (av_and (av_ushr x (1)) (1431655765))) (858993459)) + (av_and (av_ushr (x - (av_and (av_ushr x (1)) (1431655765))) (2)) (858993459))) + (av_ushr ((av_and (x - (av_and (av_ushr x (1)) (1431655765))) (858993459)) + (av_and (av_ushr (x - (av_and (av_ushr x (1)) (1431655765))) (2)) (858993459))) (4))) (252645135)) + (av_ushr (av_and (((av_and (x - (av_and (av_ushr x (1)) (1431655765))) (858993459)) + (av_and (av_ushr (x - (av_and (av_ushr x (1)) (1431655765))) (2)) (858993459))) + (av_ushr ((av_and (x - (av_and (av_ushr x (1)) (1431655765))) (858993459)) + (av_and (av_ushr (x - (av_and (av_ushr x (1)) (1431655765))) (2)) (858993459))) (4))) (252645135)) (8))) (16))) (63)) = (pcn x.toNat : Int) := by
  have z := bc_k x.toNat (by omega)
  rw [Int.toNat_of_nonneg q.1] at z
  exact z

set_option maxRecDepth 100000 in
set_option maxHeartbeats 4000000 in
theorem cx_218 {h : av_H}  (x : Int) (qx : 0 ≤ x ∧ x ≤ 63) {Q : Option av_V → av_H → Prop} (hq : ∀ v : Int, v = (pcn (Int.toNat x) : Int) → Q (some (.inl v)) h) : av_wp none cd_218 0 [some (.inl x)] [] h Q := by
  refine av_wp_sqF ck_218 12 (pc' := 16) (lv' := [some (.inl (x - (av_and (av_ushr x (1)) (1431655765))))]) (st' := [.inl (x - (av_and (av_ushr x (1)) (1431655765))), .inl (av_and (x - (av_and (av_ushr x (1)) (1431655765))) (858993459))]) (h' := h) rfl ?_
  refine av_wp_sqF ck_218 12 (pc' := 32) (lv' := [some (.inl ((av_and (x - (av_and (av_ushr x (1)) (1431655765))) (858993459)) + (av_and (av_ushr (x - (av_and (av_ushr x (1)) (1431655765))) (2)) (858993459))))]) (st' := [.inl (252645135), .inl (((av_and (x - (av_and (av_ushr x (1)) (1431655765))) (858993459)) + (av_and (av_ushr (x - (av_and (av_ushr x (1)) (1431655765))) (2)) (858993459))) + (av_ushr ((av_and (x - (av_and (av_ushr x (1)) (1431655765))) (858993459)) + (av_and (av_ushr (x - (av_and (av_ushr x (1)) (1431655765))) (2)) (858993459))) (4)))]) (h' := h) rfl ?_
  refine av_wp_sqF ck_218 12 (pc' := 46) (lv' := [some (.inl ((av_and (((av_and (x - (av_and (av_ushr x (1)) (1431655765))) (858993459)) + (av_and (av_ushr (x - (av_and (av_ushr x (1)) (1431655765))) (2)) (858993459))) + (av_ushr ((av_and (x - (av_and (av_ushr x (1)) (1431655765))) (858993459)) + (av_and (av_ushr (x - (av_and (av_ushr x (1)) (1431655765))) (2)) (858993459))) (4))) (252645135)) + (av_ushr (av_and (((av_and (x - (av_and (av_ushr x (1)) (1431655765))) (858993459)) + (av_and (av_ushr (x - (av_and (av_ushr x (1)) (1431655765))) (2)) (858993459))) + (av_ushr ((av_and (x - (av_and (av_ushr x (1)) (1431655765))) (858993459)) + (av_and (av_ushr (x - (av_and (av_ushr x (1)) (1431655765))) (2)) (858993459))) (4))) (252645135)) (8))))]) (st' := [.inl (av_ushr ((av_and (((av_and (x - (av_and (av_ushr x (1)) (1431655765))) (858993459)) + (av_and (av_ushr (x - (av_and (av_ushr x (1)) (1431655765))) (2)) (858993459))) + (av_ushr ((av_and (x - (av_and (av_ushr x (1)) (1431655765))) (858993459)) + (av_and (av_ushr (x - (av_and (av_ushr x (1)) (1431655765))) (2)) (858993459))) (4))) (252645135)) + (av_ushr (av_and (((av_and (x - (av_and (av_ushr x (1)) (1431655765))) (858993459)) + (av_and (av_ushr (x - (av_and (av_ushr x (1)) (1431655765))) (2)) (858993459))) + (av_ushr ((av_and (x - (av_and (av_ushr x (1)) (1431655765))) (858993459)) + (av_and (av_ushr (x - (av_and (av_ushr x (1)) (1431655765))) (2)) (858993459))) (4))) (252645135)) (8))) (16)), .inl ((av_and (((av_and (x - (av_and (av_ushr x (1)) (1431655765))) (858993459)) + (av_and (av_ushr (x - (av_and (av_ushr x (1)) (1431655765))) (2)) (858993459))) + (av_ushr ((av_and (x - (av_and (av_ushr x (1)) (1431655765))) (858993459)) + (av_and (av_ushr (x - (av_and (av_ushr x (1)) (1431655765))) (2)) (858993459))) (4))) (252645135)) + (av_ushr (av_and (((av_and (x - (av_and (av_ushr x (1)) (1431655765))) (858993459)) + (av_and (av_ushr (x - (av_and (av_ushr x (1)) (1431655765))) (2)) (858993459))) + (av_ushr ((av_and (x - (av_and (av_ushr x (1)) (1431655765))) (858993459)) + (av_and (av_ushr (x - (av_and (av_ushr x (1)) (1431655765))) (2)) (858993459))) (4))) (252645135)) (8)))]) (h' := h) rfl ?_
  refine av_wp_sqF ck_218 5 (pc' := 52) (lv' := [some (.inl (((av_and (((av_and (x - (av_and (av_ushr x (1)) (1431655765))) (858993459)) + (av_and (av_ushr (x - (av_and (av_ushr x (1)) (1431655765))) (2)) (858993459))) + (av_ushr ((av_and (x - (av_and (av_ushr x (1)) (1431655765))) (858993459)) + (av_and (av_ushr (x - (av_and (av_ushr x (1)) (1431655765))) (2)) (858993459))) (4))) (252645135)) + (av_ushr (av_and (((av_and (x - (av_and (av_ushr x (1)) (1431655765))) (858993459)) + (av_and (av_ushr (x - (av_and (av_ushr x (1)) (1431655765))) (2)) (858993459))) + (av_ushr ((av_and (x - (av_and (av_ushr x (1)) (1431655765))) (858993459)) + (av_and (av_ushr (x - (av_and (av_ushr x (1)) (1431655765))) (2)) (858993459))) (4))) (252645135)) (8))) + (av_ushr ((av_and (((av_and (x - (av_and (av_ushr x (1)) (1431655765))) (858993459)) + (av_and (av_ushr (x - (av_and (av_ushr x (1)) (1431655765))) (2)) (858993459))) + (av_ushr ((av_and (x - (av_and (av_ushr x (1)) (1431655765))) (858993459)) + (av_and (av_ushr (x - (av_and (av_ushr x (1)) (1431655765))) (2)) (858993459))) (4))) (252645135)) + (av_ushr (av_and (((av_and (x - (av_and (av_ushr x (1)) (1431655765))) (858993459)) + (av_and (av_ushr (x - (av_and (av_ushr x (1)) (1431655765))) (2)) (858993459))) + (av_ushr ((av_and (x - (av_and (av_ushr x (1)) (1431655765))) (858993459)) + (av_and (av_ushr (x - (av_and (av_ushr x (1)) (1431655765))) (2)) (858993459))) (4))) (252645135)) (8))) (16))))]) (st' := [.inl (av_and (((av_and (((av_and (x - (av_and (av_ushr x (1)) (1431655765))) (858993459)) + (av_and (av_ushr (x - (av_and (av_ushr x (1)) (1431655765))) (2)) (858993459))) + (av_ushr ((av_and (x - (av_and (av_ushr x (1)) (1431655765))) (858993459)) + (av_and (av_ushr (x - (av_and (av_ushr x (1)) (1431655765))) (2)) (858993459))) (4))) (252645135)) + (av_ushr (av_and (((av_and (x - (av_and (av_ushr x (1)) (1431655765))) (858993459)) + (av_and (av_ushr (x - (av_and (av_ushr x (1)) (1431655765))) (2)) (858993459))) + (av_ushr ((av_and (x - (av_and (av_ushr x (1)) (1431655765))) (858993459)) + (av_and (av_ushr (x - (av_and (av_ushr x (1)) (1431655765))) (2)) (858993459))) (4))) (252645135)) (8))) + (av_ushr ((av_and (((av_and (x - (av_and (av_ushr x (1)) (1431655765))) (858993459)) + (av_and (av_ushr (x - (av_and (av_ushr x (1)) (1431655765))) (2)) (858993459))) + (av_ushr ((av_and (x - (av_and (av_ushr x (1)) (1431655765))) (858993459)) + (av_and (av_ushr (x - (av_and (av_ushr x (1)) (1431655765))) (2)) (858993459))) (4))) (252645135)) + (av_ushr (av_and (((av_and (x - (av_and (av_ushr x (1)) (1431655765))) (858993459)) + (av_and (av_ushr (x - (av_and (av_ushr x (1)) (1431655765))) (2)) (858993459))) + (av_ushr ((av_and (x - (av_and (av_ushr x (1)) (1431655765))) (858993459)) + (av_and (av_ushr (x - (av_and (av_ushr x (1)) (1431655765))) (2)) (858993459))) (4))) (252645135)) (8))) (16))) (63))]) (h' := h) rfl ?_
  refine av_wp_ret (v := some (.inl (av_and (((av_and (((av_and (x - (av_and (av_ushr x (1)) (1431655765))) (858993459)) + (av_and (av_ushr (x - (av_and (av_ushr x (1)) (1431655765))) (2)) (858993459))) + (av_ushr ((av_and (x - (av_and (av_ushr x (1)) (1431655765))) (858993459)) + (av_and (av_ushr (x - (av_and (av_ushr x (1)) (1431655765))) (2)) (858993459))) (4))) (252645135)) + (av_ushr (av_and (((av_and (x - (av_and (av_ushr x (1)) (1431655765))) (858993459)) + (av_and (av_ushr (x - (av_and (av_ushr x (1)) (1431655765))) (2)) (858993459))) + (av_ushr ((av_and (x - (av_and (av_ushr x (1)) (1431655765))) (858993459)) + (av_and (av_ushr (x - (av_and (av_ushr x (1)) (1431655765))) (2)) (858993459))) (4))) (252645135)) (8))) + (av_ushr ((av_and (((av_and (x - (av_and (av_ushr x (1)) (1431655765))) (858993459)) + (av_and (av_ushr (x - (av_and (av_ushr x (1)) (1431655765))) (2)) (858993459))) + (av_ushr ((av_and (x - (av_and (av_ushr x (1)) (1431655765))) (858993459)) + (av_and (av_ushr (x - (av_and (av_ushr x (1)) (1431655765))) (2)) (858993459))) (4))) (252645135)) + (av_ushr (av_and (((av_and (x - (av_and (av_ushr x (1)) (1431655765))) (858993459)) + (av_and (av_ushr (x - (av_and (av_ushr x (1)) (1431655765))) (2)) (858993459))) + (av_ushr ((av_and (x - (av_and (av_ushr x (1)) (1431655765))) (858993459)) + (av_and (av_ushr (x - (av_and (av_ushr x (1)) (1431655765))) (2)) (858993459))) (4))) (252645135)) (8))) (16))) (63)))) (ck_218 _ _ rfl) rfl rfl ?_
  exact hq _ (bc_v qx)

set_option maxRecDepth 100000 in
set_option maxHeartbeats 4000000 in
theorem cx_63 {h : av_H} {U : Nat → Nat → Int} {S : Nat → Nat} {n : Int} {sr nd : Nat → Int} (C : CJ U S n sr nd h) (k : Int) (qk : 0 ≤ k ∧ k < n) (x : Int) (CR : CRT U S n (hF h 3 4) (fun k => hA h (6 + k))) (SU : SUA U S n (hF h 3 4) (fun k => hA h (6 + k)) sr) {f30 : Nat → Int} (e30 : (∀ j, 14 ≤ j → hA h 30 j = f30 j)) (RM : ∀ l : Int, 0 ≤ l → l < (hF h 3 4) → RLW (MXL h f30 x (Int.toNat l))) (L1 : 1 ≤ (hF h 3 4)) {t c : Nat} (o : CO h t c (S (Int.toNat k)) (cbv (U (Int.toNat k)) (S (Int.toNat k)))) (hu : hA h c = U (Int.toNat k)) (cb1 : (cbv (U (Int.toNat k)) (S (Int.toNat k))) ≠ -1) {Q : Option av_V → av_H → Prop} (hq : ∀ (v : Int) h' sr' nd', CJ U S n sr' nd' h' → Fr h h' → SUA U S n (hF h 3 4) (fun k => hA h (6 + k)) sr' → (∀ j, 14 ≤ j → hA h' 30 j = f30 j) → ((v = 1 ∧ (∀ l : Int, 0 ≤ l → l < (hF h 3 4) → SRE (U (Int.toNat k)) (MXL h f30 x (Int.toNat l)) (bxx U S (MXL h f30 x (Int.toNat l)) (Int.toNat k)) (S (Int.toNat k)))) ∨ (v = 0 ∧ ¬ (∀ l : Int, 0 ≤ l → l < (hF h 3 4) → SRE (U (Int.toNat k)) (MXL h f30 x (Int.toNat l)) (bxx U S (MXL h f30 x (Int.toNat l)) (Int.toNat k)) (S (Int.toNat k))))) → Q (some (.inl v)) h') : av_wp none cd_63 0 [some (.inr (.inr (.inl (some (26))))), some (.inr (.inr (.inl (some (t))))), some (.inl k), some (.inl x), none, none, none] [] h Q := by
  have F := Fr_rf h
  have nr := C.2.1.2.1
  have l8 := ic_lc C.1
  have cbr := co_cbr o
  have s12 := co_s12 o
  refine av_wp_sqF ck_63 1 (pc' := 1) (lv' := [some (.inr (.inr (.inl (some (26))))), some (.inr (.inr (.inl (some (t))))), some (.inl k), some (.inl x), none, none, none]) (st' := [.inr (.inr (.inl (some (26))))]) (h' := h) rfl ?_
  obtain ⟨v1, e2⟩ : ∃ v, hF h 26 9 = v := ⟨_, rfl⟩
  have g3 := ic_hl C.1
  rw [e2] at g3
  refine wq_gi (p' := 4) (ck_63 _ _ rfl) rfl (congrArg Prod.fst (ly_k C.1.1 26 rfl)) rfl (e2) ?_
  refine av_wp_sqF ck_63 1 (pc' := 6) (lv' := [some (.inr (.inr (.inl (some (26))))), some (.inr (.inr (.inl (some (t))))), some (.inl k), some (.inl x), some (.inl v1), none, none]) (st' := []) (h' := h) rfl ?_
  obtain ⟨l0, hl0⟩ : ∃ l0 : Int, (v1 < (hF h 3 4) ∧ l0 = v1) ∨ ((hF h 3 4) ≤ v1 ∧ l0 = 0) := by
    by_cases c : v1 < (hF h 3 4)
    · exact ⟨v1, Or.inl ⟨c, rfl⟩⟩
    · exact ⟨0, Or.inr ⟨by omega, rfl⟩⟩
  refine av_wp_sqF ck_63 2 (pc' := 9) (lv' := [some (.inr (.inr (.inl (some (26))))), some (.inr (.inr (.inl (some (t))))), some (.inl k), some (.inl x), some (.inl v1), some (.inl (0)), none]) (st' := []) (h' := h) rfl ?_
  have L18 : ∀ (m17 : Nat) (k4 : Int) (k5 : Int) (a6 : Option av_V) (h7 : av_H) (r8 : Nat → Int) (n9 : Nat → Int) (l14 : Int), av_lg a6 = false → (0 ≤ k5 ∧ k5 ≤ 8) → (0 ≤ k4 ∧ k4 ≤ 8) → CJ U S n r8 n9 h7 → Fr h h7 → SUA U S n (hF h 3 4) (fun k => hA h (6 + k)) r8 → (∀ j, 14 ≤ j → hA h7 30 j = f30 j) → ((0 ≤ l14 ∧ l14 < (hF h 3 4)) ∧ k5 ≤ (hF h 3 4) ∧ ((k4 < (hF h 3 4) ∧ (k4 = l14 + k5 ∨ k4 = l14 + k5 - (hF h 3 4))) ∨ ((hF h 3 4) ≤ k4 ∧ (l14 + k5 = (hF h 3 4) ∨ (k5 = 0 ∧ l14 = 0))))) → (∀ l : Int, 0 ≤ l → l < (hF h 3 4) → ((l14 ≤ l ∧ l < l14 + k5) ∨ l + (hF h 3 4) < l14 + k5) → SRE (U (Int.toNat k)) (MXL h f30 x (Int.toNat l)) (bxx U S (MXL h f30 x (Int.toNat l)) (Int.toNat k)) (S (Int.toNat k))) → (8 - k5).toNat = m17 → av_wp none cd_63 9 [some (.inr (.inr (.inl (some (26))))), some (.inr (.inr (.inl (some (t))))), some (.inl k), some (.inl x), some (.inl k4), some (.inl k5), a6] [] h7 Q := by
    intro m17
    induction m17 using Nat.strongRecOn with
    | _ m17 I19 =>
      intro k4 k5 a6 h7 r8 n9 l14 g21 g22 g23 C10 F11 U12 x13 X15 X16 e20
      have la6 := g21
      refine av_wp_sqF ck_63 2 (pc' := 12) (lv' := [some (.inr (.inr (.inl (some (26))))), some (.inr (.inr (.inl (some (t))))), some (.inl k), some (.inl x), some (.inl k4), some (.inl k5), a6]) (st' := [.inr (.inr (.inl (some (26)))), .inl k5]) (h' := h7) rfl ?_
      refine wq_gr (p' := 15) (ck_63 _ _ rfl) rfl (congrArg Prod.fst (ly_k C10.1.1 26 rfl)) rfl (ly_g C10.1.1 26 0 3 rfl) ?_
      obtain ⟨v24, e25⟩ : ∃ v, hF h7 3 4 = v := ⟨_, rfl⟩
      have g26 := ic_lc C10.1
      rw [e25] at g26
      have y27 : v24 = hF h 3 4 := e25.symm.trans (Fr_34 F11)
      refine wq_gi (p' := 18) (ck_63 _ _ rfl) rfl (congrArg Prod.fst (ly_k C10.1.1 3 rfl)) rfl (e25) ?_
      refine wq_k2 (p' := 21) (ck_63 _ _ rfl) rfl ⟨by omega, by omega⟩ ⟨by omega, by omega⟩ (fun c28 => ?_) (fun c29 => ?_)
      · have c28 : v24 ≤ k5 := c28
        refine av_wp_sqF ck_63 1 (pc' := 144) (lv' := [some (.inr (.inr (.inl (some (26))))), some (.inr (.inr (.inl (some (t))))), some (.inl k), some (.inl x), some (.inl k4), some (.inl k5), a6]) (st' := [.inl (1)]) (h' := h7) rfl ?_
        refine av_wp_ret (v := some (.inl (1))) (ck_63 _ _ rfl) rfl rfl ?_
        exact hq _ h7 _ _ C10 F11 U12 x13 (Or.inl ⟨rfl, fun l h0 h1 => X16 l h0 h1 (by omega)⟩)
      · have c29 : k5 < v24 := c29
        refine av_wp_sqF ck_63 1 (pc' := 22) (lv' := [some (.inr (.inr (.inl (some (26))))), some (.inr (.inr (.inl (some (t))))), some (.inl k), some (.inl x), some (.inl k4), some (.inl k5), a6]) (st' := [.inr (.inr (.inl (some (26))))]) (h' := h7) rfl ?_
        refine wq_gr (p' := 25) (ck_63 _ _ rfl) rfl (congrArg Prod.fst (ly_k C10.1.1 26 rfl)) rfl (ly_g C10.1.1 26 0 3 rfl) ?_
        refine av_wp_sqF ck_63 1 (pc' := 27) (lv' := [some (.inr (.inr (.inl (some (26))))), some (.inr (.inr (.inl (some (t))))), some (.inl k), some (.inl x), some (.inl k4), some (.inl k5), a6]) (st' := [.inl k4, .inr (.inr (.inl (some (3))))]) (h' := h7) rfl ?_
        refine wq_cv (p' := 30) (av_qc (.invokevirtual 93) 70 1 0 5) 2 cd_70 [.inl k4] (3) 5 [some (.inr (.inr (.inl (some (3))))), some (.inl k4)] (ck_63 _ _ rfl) rfl rfl pp_70 rfl rfl rfl (congrArg Prod.fst (ly_k C10.1.1 3 rfl)) rfl rfl rfl rfl ?_
        refine cx_70 C10.1 (k4) (by omega) (fun v30 p31 => ?_)
        have g32 := Fr_34 F11
        show av_wp _ cd_63 30 [some (.inr (.inr (.inl (some (26))))), some (.inr (.inr (.inl (some (t))))), some (.inl k), some (.inl x), some (.inl k4), some (.inl k5), a6] [.inl v30] h7 _
        have J36 : ∀ (j33 : Int), (0 ≤ j33 ∧ j33 ≤ 8) → (j33 < (hF h 3 4) ∧ (j33 = l14 + k5 ∨ j33 = l14 + k5 - (hF h 3 4))) →  av_wp none cd_63 39 [some (.inr (.inr (.inl (some (26))))), some (.inr (.inr (.inl (some (t))))), some (.inl k), some (.inl x), some (.inl k4), some (.inl k5), a6] [.inl j33] h7 Q := by
          intro j33 g34 g35
          refine av_wp_sqF ck_63 2 (pc' := 42) (lv' := [some (.inr (.inr (.inl (some (26))))), some (.inr (.inr (.inl (some (t))))), some (.inl k), some (.inl x), some (.inl j33), some (.inl k5), a6]) (st' := [.inr (.inr (.inl (some (26))))]) (h' := h7) rfl ?_
          refine wq_gr (p' := 45) (ck_63 _ _ rfl) rfl (congrArg Prod.fst (ly_k C10.1.1 26 rfl)) rfl (ly_g C10.1.1 26 0 3 rfl) ?_
          refine av_wp_sqF ck_63 1 (pc' := 46) (lv' := [some (.inr (.inr (.inl (some (26))))), some (.inr (.inr (.inl (some (t))))), some (.inl k), some (.inl x), some (.inl j33), some (.inl k5), a6]) (st' := [.inr (.inr (.inl (some (26)))), .inr (.inr (.inl (some (3))))]) (h' := h7) rfl ?_
          refine wq_gr (p' := 49) (ck_63 _ _ rfl) rfl (congrArg Prod.fst (ly_k C10.1.1 26 rfl)) rfl (ly_g C10.1.1 26 7 30 rfl) ?_
          refine av_wp_sqF ck_63 2 (pc' := 52) (lv' := [some (.inr (.inr (.inl (some (26))))), some (.inr (.inr (.inl (some (t))))), some (.inl k), some (.inl x), some (.inl j33), some (.inl k5), a6]) (st' := [.inl x, .inl j33, .inr (.inr (.inl (some (30)))), .inr (.inr (.inl (some (3))))]) (h' := h7) rfl ?_
          refine wq_cv (p' := 55) (av_qc (.invokevirtual 161) 75 3 0 5) 5 cd_75 [.inl x, .inl j33, .inr (.inr (.inl (some (30))))] (3) 5 [some (.inr (.inr (.inl (some (3))))), some (.inr (.inr (.inl (some (30))))), some (.inl j33), some (.inl x), none] (ck_63 _ _ rfl) rfl rfl pp_75 rfl rfl rfl (congrArg Prod.fst (ly_k C10.1.1 3 rfl)) rfl rfl rfl rfl ?_
          have g44 := Fr_34 F11
          refine cx_75 C10.1 (j33) (by omega) (x) (fun h37 e38 => ?_)
          have B39 := mxf_bd (R := fun c => hA h7 (15 + c)) (b := plr (hA h7 30) (hA h7 (6 + Int.toNat j33))) (x := x) (plr_bd (C10.1.2.1 30 rfl) (C10.1.2.1 _ (rwc_l (by omega)))) (Int.toNat (hF h7 3 5)) (fun q hq => C10.1.2.1 _ (rwc_q (by have := ic_kc C10.1; omega)))
          obtain ⟨C40, F41⟩ := CJ_30 C10 B39 e38
          have M42 : hA h37 30 = (MXL h f30 x (Int.toNat j33)) := by rw [e38, hrw_s]; exact MXL_c F11 C.1 x13 (by omega)
          have x43 : (∀ j, 14 ≤ j → hA h37 30 j = f30 j) := fun j hj => by rw [M42]; exact MXL_h j hj
          have F45 := Fr_tr F11 F41.1
          show av_wp _ cd_63 55 [some (.inr (.inr (.inl (some (26))))), some (.inr (.inr (.inl (some (t))))), some (.inl k), some (.inl x), some (.inl j33), some (.inl k5), a6] [] h37 _
          refine av_wp_sqF ck_63 1 (pc' := 56) (lv' := [some (.inr (.inr (.inl (some (26))))), some (.inr (.inr (.inl (some (t))))), some (.inl k), some (.inl x), some (.inl j33), some (.inl k5), a6]) (st' := [.inr (.inr (.inl (some (26))))]) (h' := h37) rfl ?_
          refine wq_gr (p' := 59) (ck_63 _ _ rfl) rfl (congrArg Prod.fst (ly_k C40.1.1 26 rfl)) rfl (ly_g C40.1.1 26 4 27 rfl) ?_
          refine av_wp_sqF ck_63 3 (pc' := 66) (lv' := [some (.inr (.inr (.inl (some (26))))), some (.inr (.inr (.inl (some (t))))), some (.inl k), some (.inl x), some (.inl j33), some (.inl k5), a6]) (st' := [.inl (0), .inl (144), .inl (128), .inr (.inr (.inl (some (27))))]) (h' := h37) rfl ?_
          refine wq_cs (p' := 69) (av_qc (.invokestatic 126) 221 4 2 10) 5 cd_221 [.inr (.inr (.inl (some (27)))), .inl (128), .inl (144), .inl (0)] [.inl (0), .inl (144), .inl (128), .inr (.inr (.inl (some (27))))] [some (.inr (.inr (.inl (some (27))))), some (.inl (128)), some (.inl (144)), some (.inl (0)), none] (ck_63 _ _ rfl) rfl rfl pp_221 (fun _ => rfl) rfl rfl ?_
          refine cy_221 C40 (fun h46 e47 => ?_)
          obtain ⟨C48, F49⟩ := CJ_fl C40 e47
          have U50 := SUA_fl U12 C40.2.2.1 e47
          have u51 := SUI_fl (U := U) (S := S) (ro := (MXL h f30 x (Int.toNat j33))) (m := Int.toNat k) (by omega) e47
          have F52 := Fr_tr F45 F49.1
          have M53 := (show hA h46 30 = hA h37 30 by rw [e47]; exact hfil_ne (by decide)).trans M42
          have x54 : (∀ j, 14 ≤ j → hA h46 30 j = f30 j) := fun j hj => by rw [M53]; exact MXL_h j hj
          show av_wp _ cd_63 69 [some (.inr (.inr (.inl (some (26))))), some (.inr (.inr (.inl (some (t))))), some (.inl k), some (.inl x), some (.inl j33), some (.inl k5), a6] [] h46 _
          refine av_wp_sqF ck_63 4 (pc' := 73) (lv' := [some (.inr (.inr (.inl (some (26))))), some (.inr (.inr (.inl (some (t))))), some (.inl k), some (.inl x), some (.inl j33), some (.inl k5), a6]) (st' := [.inr (.inr (.inl (some (26)))), .inl k, .inr (.inr (.inl (some (t)))), .inr (.inr (.inl (some (26))))]) (h' := h46) rfl ?_
          refine wq_gr (p' := 76) (ck_63 _ _ rfl) rfl (congrArg Prod.fst (ly_k C48.1.1 26 rfl)) rfl (ly_g C48.1.1 26 7 30 rfl) ?_
          refine av_wp_sqF ck_63 1 (pc' := 79) (lv' := [some (.inr (.inr (.inl (some (26))))), some (.inr (.inr (.inl (some (t))))), some (.inl k), some (.inl x), some (.inl j33), some (.inl k5), a6]) (st' := [.inl (128), .inr (.inr (.inl (some (30)))), .inl k, .inr (.inr (.inl (some (t)))), .inr (.inr (.inl (some (26))))]) (h' := h46) rfl ?_
          refine wq_cv (p' := 82) (av_qc (.invokevirtual 100) 52 4 0 3) 8 cd_52 [.inl (128), .inr (.inr (.inl (some (30)))), .inl k, .inr (.inr (.inl (some (t))))] (26) 3 [some (.inr (.inr (.inl (some (26))))), some (.inr (.inr (.inl (some (t))))), some (.inl k), some (.inr (.inr (.inl (some (30))))), some (.inl (128)), none, none, none] (ck_63 _ _ rfl) rfl rfl pp_52 rfl rfl rfl (congrArg Prod.fst (ly_k C48.1.1 26 rfl)) rfl rfl rfl rfl ?_
          have r63 : -1 ≤ (MXL h f30 x (Int.toNat j33)) 8 := (rl_8 (RM j33 (by omega) (by omega))).1
          refine cx_52 C48 (CO_fr C.1.1 o F52) ((F52.2.2.2.2.2.2 c (sA_cells o.2.2.2.2.2.2.2.1)).trans hu) (k) (by omega) (by omega) CR.1 (fun q hq => (CR.1 (Int.toNat k) (by omega)).2.2.1 q hq |> fun w => ⟨w.1, by omega⟩) CR.2.1 CR.2.2.1 (r := 30) (ly_k C48.1.1 30 rfl) rfl M53 r63 (128) (by omega) u51 (fun h55 r56 n57 C58 F59 u60 o61 K62 => ?_)
          have U64 := SUA_hi U50 (fun q hq => o61 q (Or.inl (by omega)))
          have F65 := Fr_tr F52 F59.1
          have M66 := (FS_row F59 rfl).trans M53
          have x67 : (∀ j, 14 ≤ j → hA h55 30 j = f30 j) := fun j hj => by rw [M66]; exact MXL_h j hj
          show av_wp _ cd_63 82 [some (.inr (.inr (.inl (some (26))))), some (.inr (.inr (.inl (some (t))))), some (.inl k), some (.inl x), some (.inl j33), some (.inl k5), a6] [] h55 _
          refine av_wp_sqF ck_63 1 (pc' := 83) (lv' := [some (.inr (.inr (.inl (some (26))))), some (.inr (.inr (.inl (some (t))))), some (.inl k), some (.inl x), some (.inl j33), some (.inl k5), a6]) (st' := [.inr (.inr (.inl (some (26))))]) (h' := h55) rfl ?_
          refine wq_gr (p' := 86) (ck_63 _ _ rfl) rfl (congrArg Prod.fst (ly_k C58.1.1 26 rfl)) rfl (ly_g C58.1.1 26 1 35 rfl) ?_
          refine av_wp_sqF ck_63 2 (pc' := 88) (lv' := [some (.inr (.inr (.inl (some (26))))), some (.inr (.inr (.inl (some (t))))), some (.inl k), some (.inl x), some (.inl j33), some (.inl k5), a6]) (st' := [.inr (.inr (.inl (some (26)))), .inr (.inr (.inl (some (t)))), .inr (.inr (.inl (some (35))))]) (h' := h55) rfl ?_
          refine wq_gr (p' := 91) (ck_63 _ _ rfl) rfl (congrArg Prod.fst (ly_k C58.1.1 26 rfl)) rfl (ly_g C58.1.1 26 7 30 rfl) ?_
          refine av_wp_sqF ck_63 1 (pc' := 92) (lv' := [some (.inr (.inr (.inl (some (26))))), some (.inr (.inr (.inl (some (t))))), some (.inl k), some (.inl x), some (.inl j33), some (.inl k5), a6]) (st' := [.inr (.inr (.inl (some (26)))), .inr (.inr (.inl (some (30)))), .inr (.inr (.inl (some (t)))), .inr (.inr (.inl (some (35))))]) (h' := h55) rfl ?_
          refine wq_gr (p' := 95) (ck_63 _ _ rfl) rfl (congrArg Prod.fst (ly_k C58.1.1 26 rfl)) rfl (ly_g C58.1.1 26 4 27 rfl) ?_
          refine av_wp_sqF ck_63 1 (pc' := 98) (lv' := [some (.inr (.inr (.inl (some (26))))), some (.inr (.inr (.inl (some (t))))), some (.inl k), some (.inl x), some (.inl j33), some (.inl k5), a6]) (st' := [.inl (128), .inr (.inr (.inl (some (27)))), .inr (.inr (.inl (some (30)))), .inr (.inr (.inl (some (t)))), .inr (.inr (.inl (some (35))))]) (h' := h55) rfl ?_
          refine wq_cv (p' := 101) (av_qc (.invokevirtual 64) 1 4 0 0) 9 cd_1 [.inl (128), .inr (.inr (.inl (some (27)))), .inr (.inr (.inl (some (30)))), .inr (.inr (.inl (some (t))))] (35) 0 [some (.inr (.inr (.inl (some (35))))), some (.inr (.inr (.inl (some (t))))), some (.inr (.inr (.inl (some (30))))), some (.inr (.inr (.inl (some (27))))), some (.inl (128)), none, none, none, none] (ck_63 _ _ rfl) rfl rfl pp_1 rfl rfl rfl (congrArg Prod.fst (bn_k0 C58.1.1 (Or.inl rfl))) rfl rfl rfl rfl ?_
          refine cx_1 C58.1 (Or.inl rfl) (CO_fr C.1.1 o F65) (ly_k C58.1.1 30 rfl) rfl (128) (by omega) (fun h68 a69 E70 Y71 T72 => ?_)
          have w73 := ((F65.2.2.2.2.2.2 c (sA_cells o.2.2.2.2.2.2.2.1)).trans hu)
          rw [w73, M66] at E70
          rw [w73, M66, C58.2.2.1] at T72
          have C74 := CJ_by (Or.inl rfl) C58 Y71 (ib_ic E70.1)
          have T75 := TKR_of T72 (by omega) K62
          have G76 := CWF_sea (ro := (MXL h f30 x (Int.toNat j33))) (CR.1 (Int.toNat k) (by omega)) r63 (brv_b (U (Int.toNat k)) (srt U S (MXL h f30 x (Int.toNat j33)) (Int.toNat k)))
          have F77 := Fr_tr F65 Y71.1.1
          have M78 := (Y71.2.1 30 (fun j hj => by omega)).trans M66
          have x79 : (∀ j, 14 ≤ j → hA h68 30 j = f30 j) := fun j hj => by rw [M78]; exact MXL_h j hj
          show av_wp _ cd_63 101 [some (.inr (.inr (.inl (some (26))))), some (.inr (.inr (.inl (some (t))))), some (.inl k), some (.inl x), some (.inl j33), some (.inl k5), a6] [] h68 _
          refine av_wp_sqF ck_63 1 (pc' := 102) (lv' := [some (.inr (.inr (.inl (some (26))))), some (.inr (.inr (.inl (some (t))))), some (.inl k), some (.inl x), some (.inl j33), some (.inl k5), a6]) (st' := [.inr (.inr (.inl (some (26))))]) (h' := h68) rfl ?_
          refine wq_gr (p' := 105) (ck_63 _ _ rfl) rfl (congrArg Prod.fst (ly_k C74.1.1 26 rfl)) rfl (ly_g C74.1.1 26 1 35 rfl) ?_
          refine av_wp_sqF ck_63 1 (pc' := 106) (lv' := [some (.inr (.inr (.inl (some (26))))), some (.inr (.inr (.inl (some (t))))), some (.inl k), some (.inl x), some (.inl j33), some (.inl k5), a6]) (st' := [.inr (.inr (.inl (some (26)))), .inr (.inr (.inl (some (35))))]) (h' := h68) rfl ?_
          obtain ⟨v80, e81⟩ : ∃ v, hF h68 26 10 = v := ⟨_, rfl⟩
          have g82 := ic_hc C74.1
          rw [e81] at g82
          refine wq_gi (p' := 109) (ck_63 _ _ rfl) rfl (congrArg Prod.fst (ly_k C74.1.1 26 rfl)) rfl (e81) ?_
          refine wq_cs (p' := 112) (av_qc (.invokestatic 108) 55 2 2 3) 4 cd_55 [.inr (.inr (.inl (some (35)))), .inl v80] [.inl v80, .inr (.inr (.inl (some (35))))] [some (.inr (.inr (.inl (some (35))))), some (.inl v80), none, none] (ck_63 _ _ rfl) rfl rfl pp_55 (fun _ => rfl) rfl rfl ?_
          refine cx_55 E70 (FN_rf 35 h68) G76 T75 (fun q hq => Or.inl (T72.1 q hq)) (v80) (by omega) (fun v83 h84 a85 m86 m87 m88 E89 F90 Z91 T92 p93 => ?_)
          have C94 := CJ_bn (Or.inl rfl) C74 F90 (ib_ic E89.1)
          have g95 : -1 ≤ v83 ∧ v83 ≤ 1023 := by rcases p93 with z | z <;> omega
          have F96 := Fr_tr F77 F90.1.1
          have M97 := (F90.2.1 30 (fun j hj => by omega)).trans M78
          have x98 : (∀ j, 14 ≤ j → hA h84 30 j = f30 j) := fun j hj => by rw [M97]; exact MXL_h j hj
          show av_wp _ cd_63 112 [some (.inr (.inr (.inl (some (26))))), some (.inr (.inr (.inl (some (t))))), some (.inl k), some (.inl x), some (.inl j33), some (.inl k5), a6] [.inl v83] h84 _
          refine av_wp_sqF ck_63 3 (pc' := 117) (lv' := [some (.inr (.inr (.inl (some (26))))), some (.inr (.inr (.inl (some (t))))), some (.inl k), some (.inl x), some (.inl j33), some (.inl k5), some (.inl v83)]) (st' := [.inl (-1), .inl v83]) (h' := h84) rfl ?_
          refine wq_k2 (p' := 120) (ck_63 _ _ rfl) rfl ⟨by omega, by omega⟩ ⟨by omega, by omega⟩ (fun c99 => ?_) (fun c100 => ?_)
          · have c99 : v83 = (-1) := c99
            have G101 : SRE (U (Int.toNat k)) (MXL h f30 x (Int.toNat j33)) (bxx U S (MXL h f30 x (Int.toNat j33)) (Int.toNat k)) (S (Int.toNat k)) := (SRE_cb cb1).mpr (p93.elim (fun y => y.2) (fun y => absurd y.1.1 (by omega)))
            refine av_wp_sqF ck_63 3 (pc' := 9) (lv' := [some (.inr (.inr (.inl (some (26))))), some (.inr (.inr (.inl (some (t))))), some (.inl k), some (.inl x), some (.inl (j33 + (1))), some (.inl (k5 + (1))), some (.inl v83)]) (st' := []) (h' := h84) rfl ?_
            exact I19 _ (by omega) ((j33 + (1))) ((k5 + (1))) (some (.inl v83)) h84 r56 n57 l14 rfl (by omega) (by omega) C94 F96 U64 x98 (by omega) (fun l h0 h1 hv => by by_cases c : l = j33; (· rw [c]; exact G101); exact X16 l h0 h1 (by omega)) rfl
          · have c100 : v83 ≠ (-1) := c100
            refine av_wp_sqF ck_63 2 (pc' := 123) (lv' := [some (.inr (.inr (.inl (some (26))))), some (.inr (.inr (.inl (some (t))))), some (.inl k), some (.inl x), some (.inl j33), some (.inl k5), some (.inl v83)]) (st' := [.inl j33, .inr (.inr (.inl (some (26))))]) (h' := h84) rfl ?_
            refine xj_ph (p' := 126) rfl rfl C94 (by omega) (fun h102 C103 F104 e105 => ?_)
            have F106 := Fr_tr F96 F104
            have x107 : (∀ j, 14 ≤ j → hA h102 30 j = f30 j) := by rw [e105]; exact x98
            refine av_wp_sqF ck_63 2 (pc' := 129) (lv' := [some (.inr (.inr (.inl (some (26))))), some (.inr (.inr (.inl (some (t))))), some (.inl k), some (.inl x), some (.inl j33), some (.inl k5), some (.inl v83)]) (st' := [.inl v83, .inr (.inr (.inl (some (26))))]) (h' := h102) rfl ?_
            refine xj_ph (p' := 132) rfl rfl C103 (by omega) (fun h108 C109 F110 e111 => ?_)
            have F112 := Fr_tr F106 F110
            have x113 : (∀ j, 14 ≤ j → hA h108 30 j = f30 j) := by rw [e111]; exact x107
            refine av_wp_sqF ck_63 1 (pc' := 133) (lv' := [some (.inr (.inr (.inl (some (26))))), some (.inr (.inr (.inl (some (t))))), some (.inl k), some (.inl x), some (.inl j33), some (.inl k5), some (.inl v83)]) (st' := [.inl (0)]) (h' := h108) rfl ?_
            refine av_wp_ret (v := some (.inl (0))) (ck_63 _ _ rfl) rfl rfl ?_
            exact hq _ h108 _ _ C109 F112 U64 x113 (Or.inr ⟨rfl, fun z => p93.elim (fun y => absurd y.1 (by omega)) (fun y => y.2 ((SRE_cb cb1).mp (z j33 (by omega) (by omega)) _ y.1.1 y.1.2))⟩)
        refine wq_k1 (p' := 33) (ck_63 _ _ rfl) rfl ⟨by omega, by omega⟩ (fun c114 => ?_) (fun c115 => ?_)
        · have c114 : v30 = (0) := c114
          refine av_wp_sqF ck_63 1 (pc' := 39) (lv' := [some (.inr (.inr (.inl (some (26))))), some (.inr (.inr (.inl (some (t))))), some (.inl k), some (.inl x), some (.inl k4), some (.inl k5), a6]) (st' := [.inl (0)]) (h' := h7) rfl ?_
          exact J36 ((0)) (by omega) (by omega)
        · have c115 : v30 ≠ (0) := c115
          refine av_wp_sqF ck_63 2 (pc' := 39) (lv' := [some (.inr (.inr (.inl (some (26))))), some (.inr (.inr (.inl (some (t))))), some (.inl k), some (.inl x), some (.inl k4), some (.inl k5), a6]) (st' := [.inl k4]) (h' := h7) rfl ?_
          exact J36 (k4) (by omega) (by omega)
  exact L18 _ (v1) ((0)) (none) h sr nd l0 rfl (by omega) (by omega) C F SU e30 (by omega) (fun l h0 h1 hv => absurd hv (by omega)) rfl

set_option maxRecDepth 100000 in
set_option maxHeartbeats 4000000 in
theorem cx_115 {h : av_H} {U : Nat → Nat → Int} {S : Nat → Nat} {n : Int} {sr nd : Nat → Int} (C : CJ U S n sr nd h) (k : Int) (qk : -2147483648 ≤ k ∧ k ≤ 2147483647) (CR : CRT U S n (hF h 3 4) (fun k => hA h (6 + k))) (SU : SUA U S n (hF h 3 4) (fun k => hA h (6 + k)) sr) {f30 : Nat → Int} (e30 : (∀ j, 14 ≤ j → hA h 30 j = f30 j)) (RM : ∀ b : Nat, b < 64 → ∀ l : Int, 0 ≤ l → l < (hF h 3 4) → RLW (MXL h f30 (b : Int) (Int.toNat l))) {Q : Option av_V → av_H → Prop} (hq : ∀ (v : Int) h' sr' nd', CJ U S n sr' nd' h' → Fr h h' → SUA U S n (hF h 3 4) (fun k => hA h (6 + k)) sr' → RSP ((0 ≤ k ∧ k < n) ∧ (cbv (U (Int.toNat k)) (S (Int.toNat k))) ≠ -1 ∧ (hF h 3 4) ≠ 0) (-2) (ptv pcn (fun b => ∀ l : Int, 0 ≤ l → l < (hF h 3 4) → SRE (U (Int.toNat k)) (MXL h f30 (b : Int) (Int.toNat l)) (bxx U S (MXL h f30 (b : Int) (Int.toNat l)) (Int.toNat k)) (S (Int.toNat k))) (2 ^ Int.toNat (hF h 3 5))) v → Q (some (.inl v)) h') : av_wp none cd_115 0 [some (.inr (.inr (.inl (some (0))))), some (.inl k), none, none, none, none] [] h Q := by
  have F := Fr_rf h
  have nr := C.2.1.2.1
  have l8 := ic_lc C.1
  have k6 := ic_kc C.1
  have p64 : (2 ^ Int.toNat (hF h 3 5)) ≤ 64 := pw_64 _ (by omega)
  refine av_wp_sqF ck_115 1 (pc' := 1) (lv' := [some (.inr (.inr (.inl (some (0))))), some (.inl k), none, none, none, none]) (st' := [.inr (.inr (.inl (some (0))))]) (h' := h) rfl ?_
  refine wq_gr (p' := 4) (ck_115 _ _ rfl) rfl (congrArg Prod.fst (ly_k C.1.1 0 rfl)) rfl (ly_g C.1.1 0 1 3 rfl) ?_
  refine av_wp_sqF ck_115 1 (pc' := 5) (lv' := [some (.inr (.inr (.inl (some (0))))), some (.inl k), none, none, none, none]) (st' := [.inl k, .inr (.inr (.inl (some (3))))]) (h' := h) rfl ?_
  refine wq_cv (p' := 8) (av_qc (.invokevirtual 96) 69 1 0 5) 2 cd_69 [.inl k] (3) 5 [some (.inr (.inr (.inl (some (3))))), some (.inl k)] (ck_115 _ _ rfl) rfl rfl pp_69 rfl rfl rfl (congrArg Prod.fst (ly_k C.1.1 3 rfl)) rfl rfl rfl rfl ?_
  refine cz_69 C (k) (by omega) (fun z1 => ?_) (fun z1 z2 t3 c4 y5 y6 => ?_)
  · show av_wp _ cd_115 8 [some (.inr (.inr (.inl (some (0))))), some (.inl k), none, none, none, none] [.inr (.inr (.inl none))] h _
    refine av_wp_sqF ck_115 4 (pc' := 33) (lv' := [some (.inr (.inr (.inl (some (0))))), some (.inl k), some (.inr (.inr (.inl none))), none, none, none]) (st' := [.inl (-2)]) (h' := h) rfl ?_
    refine av_wp_ret (v := some (.inl (-2))) (ck_115 _ _ rfl) rfl rfl ?_
    exact hq _ h _ _ C F SU (Or.inr ⟨by omega, rfl⟩)
  · have g7 := co_s12 y5
    have g8 := co_cbr y5
    show av_wp _ cd_115 8 [some (.inr (.inr (.inl (some (0))))), some (.inl k), none, none, none, none] [.inr (.inr (.inl (some (t3))))] h _
    refine av_wp_sqF ck_115 4 (pc' := 14) (lv' := [some (.inr (.inr (.inl (some (0))))), some (.inl k), some (.inr (.inr (.inl (some (t3))))), none, none, none]) (st' := [.inr (.inr (.inl (some (t3))))]) (h' := h) rfl ?_
    refine wq_gi (p' := 17) (ck_115 _ _ rfl) rfl (congrArg Prod.fst (co_kt (CO_fr C.1.1 y5 F))) rfl (co_cb (CO_fr C.1.1 y5 F)) ?_
    refine av_wp_sqF ck_115 1 (pc' := 18) (lv' := [some (.inr (.inr (.inl (some (0))))), some (.inl k), some (.inr (.inr (.inl (some (t3))))), none, none, none]) (st' := [.inl (-1), .inl (cbv (U (Int.toNat (k))) (S (Int.toNat (k))))]) (h' := h) rfl ?_
    refine wq_k2 (p' := 21) (ck_115 _ _ rfl) rfl ⟨by omega, by omega⟩ ⟨by omega, by omega⟩ (fun c9 => ?_) (fun c10 => ?_)
    · have c9 : (cbv (U (Int.toNat (k))) (S (Int.toNat (k)))) = (-1) := c9
      refine av_wp_sqF ck_115 1 (pc' := 33) (lv' := [some (.inr (.inr (.inl (some (0))))), some (.inl k), some (.inr (.inr (.inl (some (t3))))), none, none, none]) (st' := [.inl (-2)]) (h' := h) rfl ?_
      refine av_wp_ret (v := some (.inl (-2))) (ck_115 _ _ rfl) rfl rfl ?_
      exact hq _ h _ _ C F SU (Or.inr ⟨by omega, rfl⟩)
    · have c10 : (cbv (U (Int.toNat (k))) (S (Int.toNat (k)))) ≠ (-1) := c10
      refine av_wp_sqF ck_115 1 (pc' := 22) (lv' := [some (.inr (.inr (.inl (some (0))))), some (.inl k), some (.inr (.inr (.inl (some (t3))))), none, none, none]) (st' := [.inr (.inr (.inl (some (0))))]) (h' := h) rfl ?_
      refine wq_gr (p' := 25) (ck_115 _ _ rfl) rfl (congrArg Prod.fst (ly_k C.1.1 0 rfl)) rfl (ly_g C.1.1 0 1 3 rfl) ?_
      obtain ⟨v11, e12⟩ : ∃ v, hF h 3 4 = v := ⟨_, rfl⟩
      have g13 := ic_lc C.1
      rw [e12] at g13
      have y14 : v11 = hF h 3 4 := e12.symm.trans (Fr_34 F)
      refine wq_gi (p' := 28) (ck_115 _ _ rfl) rfl (congrArg Prod.fst (ly_k C.1.1 3 rfl)) rfl (e12) ?_
      refine wq_k1 (p' := 31) (ck_115 _ _ rfl) rfl ⟨by omega, by omega⟩ (fun c15 => ?_) (fun c16 => ?_)
      · have c15 : v11 ≠ (0) := c15
        refine av_wp_sqF ck_115 2 (pc' := 36) (lv' := [some (.inr (.inr (.inl (some (0))))), some (.inl k), some (.inr (.inr (.inl (some (t3))))), none, none, none]) (st' := [.inr (.inr (.inl (some (0)))), .inl (1)]) (h' := h) rfl ?_
        refine wq_gr (p' := 39) (ck_115 _ _ rfl) rfl (congrArg Prod.fst (ly_k C.1.1 0 rfl)) rfl (ly_g C.1.1 0 1 3 rfl) ?_
        obtain ⟨v17, e18⟩ : ∃ v, hF h 3 5 = v := ⟨_, rfl⟩
        have g19 := ic_kc C.1
        rw [e18] at g19
        have y20 : v17 = hF h 3 5 := e18.symm.trans (Fr_35 F)
        refine wq_gi (p' := 42) (ck_115 _ _ rfl) rfl (congrArg Prod.fst (ly_k C.1.1 3 rfl)) rfl (e18) ?_
        refine av_wp_sqF ck_115 1 (pc' := 43) (lv' := [some (.inr (.inr (.inl (some (0))))), some (.inl k), some (.inr (.inr (.inl (some (t3))))), none, none, none]) (st' := [.inl (av_shl (1) v17)]) (h' := h) rfl ?_
        have g23 := shl_le (n := v17) (by omega)
        generalize e22 : av_shl (1) v17 = v21 at g23 ⊢
        refine av_wp_sqF ck_115 1 (pc' := 44) (lv' := [some (.inr (.inr (.inl (some (0))))), some (.inl k), some (.inr (.inr (.inl (some (t3))))), some (.inl v21), none, none]) (st' := []) (h' := h) rfl ?_
        have y24 : v21 = (((2 ^ Int.toNat (hF h 3 5)) : Nat) : Int) := by rw [← e22]; exact shl_2 (by omega) (by omega)
        refine av_wp_sqF ck_115 2 (pc' := 47) (lv' := [some (.inr (.inr (.inl (some (0))))), some (.inl k), some (.inr (.inr (.inl (some (t3))))), some (.inl v21), some (.inl (0)), none]) (st' := []) (h' := h) rfl ?_
        have L36 : ∀ (m35 : Nat) (k25 : Int) (a26 : Option av_V) (h27 : av_H) (r28 : Nat → Int) (n29 : Nat → Int), av_lg a26 = false → (0 ≤ k25 ∧ k25 ≤ 7) → CJ U S n r28 n29 h27 → Fr h h27 → SUA U S n (hF h 3 4) (fun k => hA h (6 + k)) r28 → (∀ j, 14 ≤ j → hA h27 30 j = f30 j) → (∀ q : Nat, q < (2 ^ Int.toNat (hF h 3 5)) → ((pcn q : Int) < k25 ∨ ((pcn q : Int) = k25 ∧ (q : Int) < 0)) → ¬ (fun b => ∀ l : Int, 0 ≤ l → l < (hF h 3 4) → SRE (U (Int.toNat k)) (MXL h f30 (b : Int) (Int.toNat l)) (bxx U S (MXL h f30 (b : Int) (Int.toNat l)) (Int.toNat k)) (S (Int.toNat k))) q) → (7 - k25).toNat = m35 → av_wp none cd_115 47 [some (.inr (.inr (.inl (some (0))))), some (.inl k), some (.inr (.inr (.inl (some (t3))))), some (.inl v21), some (.inl k25), a26] [] h27 Q := by
          intro m35
          induction m35 using Nat.strongRecOn with
          | _ m35 I37 =>
            intro k25 a26 h27 r28 n29 g39 g40 C30 F31 U32 x33 X34 e38
            have la26 := g39
            refine av_wp_sqF ck_115 2 (pc' := 50) (lv' := [some (.inr (.inr (.inl (some (0))))), some (.inl k), some (.inr (.inr (.inl (some (t3))))), some (.inl v21), some (.inl k25), a26]) (st' := [.inr (.inr (.inl (some (0)))), .inl k25]) (h' := h27) rfl ?_
            refine wq_gr (p' := 53) (ck_115 _ _ rfl) rfl (congrArg Prod.fst (ly_k C30.1.1 0 rfl)) rfl (ly_g C30.1.1 0 1 3 rfl) ?_
            obtain ⟨v41, e42⟩ : ∃ v, hF h27 3 5 = v := ⟨_, rfl⟩
            have g43 := ic_kc C30.1
            rw [e42] at g43
            have y44 : v41 = hF h 3 5 := e42.symm.trans (Fr_35 F31)
            refine wq_gi (p' := 56) (ck_115 _ _ rfl) rfl (congrArg Prod.fst (ly_k C30.1.1 3 rfl)) rfl (e42) ?_
            refine wq_k2 (p' := 59) (ck_115 _ _ rfl) rfl ⟨by omega, by omega⟩ ⟨by omega, by omega⟩ (fun c45 => ?_) (fun c46 => ?_)
            · have c45 : v41 < k25 := c45
              refine av_wp_sqF ck_115 1 (pc' := 108) (lv' := [some (.inr (.inr (.inl (some (0))))), some (.inl k), some (.inr (.inr (.inl (some (t3))))), some (.inl v21), some (.inl k25), a26]) (st' := [.inl (-1)]) (h' := h27) rfl ?_
              refine av_wp_ret (v := some (.inl (-1))) (ck_115 _ _ rfl) rfl rfl ?_
              exact hq _ h27 _ _ C30 F31 U32 (Or.inl ⟨by omega, (ptv_no (S := pcn) (Q := (fun b => ∀ l : Int, 0 ≤ l → l < (hF h 3 4) → SRE (U (Int.toNat k)) (MXL h f30 (b : Int) (Int.toNat l)) (bxx U S (MXL h f30 (b : Int) (Int.toNat l)) (Int.toNat k)) (S (Int.toNat k)))) (2 ^ Int.toNat (hF h 3 5)) (fun q hq => X34 q hq (Or.inl (by have := pcn_c (Int.toNat (hF h 3 5)) (by omega) q hq; omega)))).symm⟩)
            · have c46 : k25 ≤ v41 := c46
              refine av_wp_sqF ck_115 2 (pc' := 62) (lv' := [some (.inr (.inr (.inl (some (0))))), some (.inl k), some (.inr (.inr (.inl (some (t3))))), some (.inl v21), some (.inl k25), some (.inl (0))]) (st' := []) (h' := h27) rfl ?_
              have L57 : ∀ (m56 : Nat) (k47 : Int) (h48 : av_H) (r49 : Nat → Int) (n50 : Nat → Int), k47 ≤ v21 → (0 ≤ k47 ∧ k47 ≤ 64) → CJ U S n r49 n50 h48 → Fr h h48 → SUA U S n (hF h 3 4) (fun k => hA h (6 + k)) r49 → (∀ j, 14 ≤ j → hA h48 30 j = f30 j) → (∀ q : Nat, q < (2 ^ Int.toNat (hF h 3 5)) → ((pcn q : Int) < k25 ∨ ((pcn q : Int) = k25 ∧ (q : Int) < k47)) → ¬ (fun b => ∀ l : Int, 0 ≤ l → l < (hF h 3 4) → SRE (U (Int.toNat k)) (MXL h f30 (b : Int) (Int.toNat l)) (bxx U S (MXL h f30 (b : Int) (Int.toNat l)) (Int.toNat k)) (S (Int.toNat k))) q) → (64 - k47).toNat = m56 → av_wp none cd_115 62 [some (.inr (.inr (.inl (some (0))))), some (.inl k), some (.inr (.inr (.inl (some (t3))))), some (.inl v21), some (.inl k25), some (.inl k47)] [] h48 Q := by
                intro m56
                induction m56 using Nat.strongRecOn with
                | _ m56 I58 =>
                  intro k47 h48 r49 n50 g60 g61 C51 F52 U53 x54 X55 e59
                  refine av_wp_sqF ck_115 2 (pc' := 65) (lv' := [some (.inr (.inr (.inl (some (0))))), some (.inl k), some (.inr (.inr (.inl (some (t3))))), some (.inl v21), some (.inl k25), some (.inl k47)]) (st' := [.inl v21, .inl k47]) (h' := h48) rfl ?_
                  refine wq_k2 (p' := 68) (ck_115 _ _ rfl) rfl ⟨by omega, by omega⟩ ⟨by omega, by omega⟩ (fun c62 => ?_) (fun c63 => ?_)
                  · have c62 : v21 ≤ k47 := c62
                    refine av_wp_sqF ck_115 2 (pc' := 47) (lv' := [some (.inr (.inr (.inl (some (0))))), some (.inl k), some (.inr (.inr (.inl (some (t3))))), some (.inl v21), some (.inl (k25 + (1))), some (.inl k47)]) (st' := []) (h' := h48) rfl ?_
                    exact I37 _ (by omega) ((k25 + (1))) (some (.inl k47)) h48 r49 n50 rfl (by omega) C51 F52 U53 x54 (fun q hq hv => X55 q hq (by omega)) rfl
                  · have c63 : k47 < v21 := c63
                    refine av_wp_sqF ck_115 1 (pc' := 70) (lv' := [some (.inr (.inr (.inl (some (0))))), some (.inl k), some (.inr (.inr (.inl (some (t3))))), some (.inl v21), some (.inl k25), some (.inl k47)]) (st' := [.inl k47]) (h' := h48) rfl ?_
                    refine wq_cs (p' := 73) (av_qc (.invokestatic 231) 218 1 2 11) 1 cd_218 [.inl k47] [.inl k47] [some (.inl k47)] (ck_115 _ _ rfl) rfl rfl pp_218 (fun _ => rfl) rfl rfl ?_
                    refine cx_218 (k47) (by omega) (fun v64 p65 => ?_)
                    have g66 := pcn_r (Int.toNat k47) (by omega)
                    show av_wp _ cd_115 73 [some (.inr (.inr (.inl (some (0))))), some (.inl k), some (.inr (.inr (.inl (some (t3))))), some (.inl v21), some (.inl k25), some (.inl k47)] [.inl v64] h48 _
                    refine av_wp_sqF ck_115 1 (pc' := 75) (lv' := [some (.inr (.inr (.inl (some (0))))), some (.inl k), some (.inr (.inr (.inl (some (t3))))), some (.inl v21), some (.inl k25), some (.inl k47)]) (st' := [.inl k25, .inl v64]) (h' := h48) rfl ?_
                    refine wq_k2 (p' := 78) (ck_115 _ _ rfl) rfl ⟨by omega, by omega⟩ ⟨by omega, by omega⟩ (fun c67 => ?_) (fun c68 => ?_)
                    · have c67 : v64 ≠ k25 := c67
                      refine av_wp_sqF ck_115 2 (pc' := 62) (lv' := [some (.inr (.inr (.inl (some (0))))), some (.inl k), some (.inr (.inr (.inl (some (t3))))), some (.inl v21), some (.inl k25), some (.inl (k47 + (1)))]) (st' := []) (h' := h48) rfl ?_
                      exact I58 _ (by omega) ((k47 + (1))) h48 r49 n50 (by omega) (by omega) C51 F52 U53 x54 (fun q hq hv => X55 q hq (by have c : (q : Int) = k47 → (pcn q : Int) = v64 := (fun y => by rw [p65, show Int.toNat k47 = q by omega]); omega)) rfl
                    · have c68 : v64 = k25 := c68
                      refine av_wp_sqF ck_115 1 (pc' := 79) (lv' := [some (.inr (.inr (.inl (some (0))))), some (.inl k), some (.inr (.inr (.inl (some (t3))))), some (.inl v21), some (.inl k25), some (.inl k47)]) (st' := [.inr (.inr (.inl (some (0))))]) (h' := h48) rfl ?_
                      refine wq_gr (p' := 82) (ck_115 _ _ rfl) rfl (congrArg Prod.fst (ly_k C51.1.1 0 rfl)) rfl (ly_g C51.1.1 0 5 26 rfl) ?_
                      refine av_wp_sqF ck_115 3 (pc' := 86) (lv' := [some (.inr (.inr (.inl (some (0))))), some (.inl k), some (.inr (.inr (.inl (some (t3))))), some (.inl v21), some (.inl k25), some (.inl k47)]) (st' := [.inl k47, .inl k, .inr (.inr (.inl (some (t3)))), .inr (.inr (.inl (some (26))))]) (h' := h48) rfl ?_
                      refine wq_cv (p' := 89) (av_qc (.invokevirtual 236) 63 3 0 3) 7 cd_63 [.inl k47, .inl k, .inr (.inr (.inl (some (t3))))] (26) 3 [some (.inr (.inr (.inl (some (26))))), some (.inr (.inr (.inl (some (t3))))), some (.inl k), some (.inl k47), none, none, none] (ck_115 _ _ rfl) rfl rfl pp_63 rfl rfl rfl (congrArg Prod.fst (ly_k C51.1.1 26 rfl)) rfl rfl rfl rfl ?_
                      have R78 : CRT U S n (hF h48 3 4) (fun k => hA h48 (6 + k)) := by rw [Fr_34 F52]; exact CRT_c CR (by omega) (Fr_6 F52)
                      have U79 : SUA U S n (hF h48 3 4) (fun k => hA h48 (6 + k)) r49 := by rw [Fr_34 F52]; exact SUA_c U53 (fun l hl _ => Fr_6 F52 l hl)
                      have M80 : ∀ l : Int, 0 ≤ l → l < hF h48 3 4 → RLW (MXL h48 f30 k47 (Int.toNat l)) := fun l h0 h1 => by rw [MXL_f (l := Int.toNat l) F52 C.1 (by have := Fr_34 F52; omega)]; exact RM (Int.toNat k47) (by omega) l h0 (by have := Fr_34 F52; omega) |> fun w => by rw [show ((Int.toNat k47 : Nat) : Int) = k47 by omega] at w; exact w
                      refine cx_63 C51 (k) (by omega) (k47) R78 U79 x54 M80 (by have := Fr_34 F52; omega) (CO_fr C.1.1 y5 F52) ((F52.2.2.2.2.2.2 c4 (sA_cells y5.2.2.2.2.2.2.2.1)).trans y6) (by omega) (fun v69 h70 r71 n72 C73 F74 U75 x76 p77 => ?_)
                      have p77 : (v69 = 1 ∧ (∀ l : Int, 0 ≤ l → l < (hF h 3 4) → SRE (U (Int.toNat k)) (MXL h f30 k47 (Int.toNat l)) (bxx U S (MXL h f30 k47 (Int.toNat l)) (Int.toNat k)) (S (Int.toNat k)))) ∨ (v69 = 0 ∧ ¬ (∀ l : Int, 0 ≤ l → l < (hF h 3 4) → SRE (U (Int.toNat k)) (MXL h f30 k47 (Int.toNat l)) (bxx U S (MXL h f30 k47 (Int.toNat l)) (Int.toNat k)) (S (Int.toNat k)))) := p77.elim (fun z => Or.inl ⟨z.1, (MXL_all F52 C.1).mp z.2⟩) (fun z => Or.inr ⟨z.1, fun y => z.2 ((MXL_all F52 C.1).mpr y)⟩)
                      rw [Fr_34 F52] at U75
                      have U81 := SUA_c U75 (fun l hl _ => (Fr_6 F52 l hl).symm)
                      have g82 : v69 = 0 ∨ v69 = 1 := p77.elim (fun z => Or.inr z.1) (fun z => Or.inl z.1)
                      have F83 := Fr_tr F52 F74
                      show av_wp _ cd_115 89 [some (.inr (.inr (.inl (some (0))))), some (.inl k), some (.inr (.inr (.inl (some (t3))))), some (.inl v21), some (.inl k25), some (.inl k47)] [.inl v69] h70 _
                      refine wq_k1 (p' := 92) (ck_115 _ _ rfl) rfl ⟨by omega, by omega⟩ (fun c84 => ?_) (fun c85 => ?_)
                      · have c84 : v69 = (0) := c84
                        refine av_wp_sqF ck_115 2 (pc' := 62) (lv' := [some (.inr (.inr (.inl (some (0))))), some (.inl k), some (.inr (.inr (.inl (some (t3))))), some (.inl v21), some (.inl k25), some (.inl (k47 + (1)))]) (st' := []) (h' := h70) rfl ?_
                        exact I58 _ (by omega) ((k47 + (1))) h70 r71 n72 (by omega) (by omega) C73 F83 U81 x76 (fun q hq hv => by by_cases c : (q : Int) = k47; (· intro w; exact (p77.elim (fun z => absurd z.1 (by omega)) (fun z => z.2)) (by rw [← c]; exact w)); exact X55 q hq (by omega)) rfl
                      · have c85 : v69 ≠ (0) := c85
                        refine av_wp_sqF ck_115 1 (pc' := 94) (lv' := [some (.inr (.inr (.inl (some (0))))), some (.inl k), some (.inr (.inr (.inl (some (t3))))), some (.inl v21), some (.inl k25), some (.inl k47)]) (st' := [.inl k47]) (h' := h70) rfl ?_
                        refine av_wp_ret (v := some (.inl k47)) (ck_115 _ _ rfl) rfl rfl ?_
                        exact hq _ h70 _ _ C73 F83 U81 (Or.inl ⟨by omega, by rw [ptv_is (S := pcn) (Q := (fun b => ∀ l : Int, 0 ≤ l → l < (hF h 3 4) → SRE (U (Int.toNat k)) (MXL h f30 (b : Int) (Int.toNat l)) (bxx U S (MXL h f30 (b : Int) (Int.toNat l)) (Int.toNat k)) (S (Int.toNat k)))) (b := Int.toNat k47) (by have w := p77.elim (fun z => z.2) (fun z => absurd z.1 (by omega)); rw [show k47 = ((Int.toNat k47 : Nat) : Int) by omega] at w; exact w) (2 ^ Int.toNat (hF h 3 5)) (by omega) (fun q hq w => Classical.byContradiction (fun y => X55 q hq (by omega) w))]; omega⟩)
              exact L57 _ ((0)) h27 r28 n29 (by omega) (by omega) C30 F31 U32 x33 X34 rfl
        exact L36 _ ((0)) (none) h sr nd rfl (by omega) C F SU e30 (fun q hq hv => absurd hv (by omega)) rfl
      · have c16 : v11 = (0) := c16
        refine av_wp_sqF ck_115 1 (pc' := 33) (lv' := [some (.inr (.inr (.inl (some (0))))), some (.inl k), some (.inr (.inr (.inl (some (t3))))), none, none, none]) (st' := [.inl (-2)]) (h' := h) rfl ?_
        refine av_wp_ret (v := some (.inl (-2))) (ck_115 _ _ rfl) rfl rfl ?_
        exact hq _ h _ _ C F SU (Or.inr ⟨by omega, rfl⟩)
end
section
/-! LOOKS: the compared one in class and reference, of the others that the book stays -/
theorem CLS_lk {g h : av_H} {U : Nat → Nat → Int} {S : Nat → Nat} {sr nd : Nat → Int} (G : av_Gd g) (I : IC g) (C : CLU U S g) (J : CJ U S (hF g 3 3) sr nd h) (F : Fr g h) (SU : SUA U S (hF g 3 3) (hF g 3 4) (fun k => hA g (6 + k)) sr) : CLU U S h ∧ CLS h := by
  have cf := CF0_Fr G I.1 F
  have c := CLU_cf G cf C
  refine ⟨c, U, S, c, ?_⟩
  rw [cf.2.1.1, cf.2.1.2.1, J.2.2.1]
  exact SUA_c SU (fun l hl _ => cf.2.2.2.1 _ (by omega) (by omega))
theorem c78_of {g h : av_H} (G : av_Gd g) (I : IC g) (F : Fr g h) (B : BK h) : hA h 78 0 = hF g 3 3 ∧ hA h 79 0 = hF g 3 4 ∧ hA h 80 0 = hF g 3 5 := by
  have cf := CF0_Fr G I.1 F
  exact ⟨B.2.2.2.2.1.1.1.1.symm.trans cf.2.1.1, B.2.2.2.2.1.1.1.2.1.symm.trans cf.2.1.2.1, B.2.2.2.2.1.1.1.2.2.symm.trans cf.2.1.2.2.1⟩
/-! LOOKS: the others -/
theorem CWB_al {h : av_H} {U : Nat → Nat → Int} {S : Nat → Nat} (I : IC h) (x : CLU U S h) : ∀ i : Nat, (i : Int) < hF h 3 3 → CWB (U i) (S i) := fun i hi => by
  have n16 := ic_cc I
  obtain ⟨t, c, f, y1, y2, y3⟩ := x.1 i (by omega) hi
  rw [y2]
  exact CWB_of y3
/-! WRITE: class and reference give the same -/
theorem RLW_g {ro : Nat → Int} (R : RLW ro) : ∀ j, j < 13 → rlo j ≤ ro j ∧ ro j ≤ rhi j := by
  obtain ⟨r0, r6, r7, r8, r9, r10, r11, r12⟩ := R
  intro j hj
  by_cases c : j < 6
  · have h := r0 j c
    have e1 : rlo j = 0 := if_neg (by omega)
    have e2 : rhi j = 2 := (if_neg (by omega)).trans (if_neg (by omega))
    omega
  · rcases (show j = 6 ∨ j = 7 ∨ j = 8 ∨ j = 9 ∨ j = 10 ∨ j = 11 ∨ j = 12 by omega) with e | e | e | e | e | e | e <;> subst e <;> simp [rlo, rhi] <;> omega
theorem RLW_mx {R : Nat → Nat → Int} {b : Nat → Int} {x : Int} (hb : RLW b) : ∀ c : Nat, (∀ q, q < c → RQW (R q)) → RLW (mxf R b x c) := by
  intro c
  induction c with
  | zero => intro _; exact hb
  | succ c ih =>
    intro hR
    have i := ih (fun q hq => hR q (by omega))
    by_cases e : av_w (av_and (av_shr x (c : Int)) 1) = 1
    · rw [mxf_y e]
      refine RLW_of (fun j hj => ?_)
      show rlo j ≤ (if j < 14 ∧ R c j ≠ -2 then R c j else mxf R b x c j) ∧ (if j < 14 ∧ R c j ≠ -2 then R c j else mxf R b x c j) ≤ rhi j
      split
      · next z => exact (hR c (by omega) j hj).resolve_left z.2
      · exact RLW_g i j hj
    · rw [mxf_n e]
      exact i
theorem RLW_pl {f p : Nat → Int} (R : RLW p) : RLW (plr f p) := RLW_of (fun j hj => by rw [plr_lt (by omega)]; exact RLW_g R j hj)
section
variable {h : av_H} {U : Nat → Nat → Int} {S : Nat → Nat}
theorem RLW_al (I : IC h) (x : CLU U S h) (f : Nat → Int) (b : Int) (l : Nat) (hl : (l : Int) < hF h 3 4) : RLW (MXL h f b l) := by
  have n8 := ic_lc I
  have n6 := ic_kc I
  exact RLW_mx (RLW_pl (x.2.1 l (by omega) hl)) _ (fun q hq => x.2.2.1 q (by omega) (by omega))
end
theorem oz_106 {h : av_H} (B : BX h) (x1 x2 x3 x4 : Int) (q1 : -2147483648 ≤ x1 ∧ x1 ≤ 2147483647) (q2 : -2147483648 ≤ x2 ∧ x2 ≤ 2147483647) (q3 : -2147483648 ≤ x3 ∧ x3 ≤ 2147483647) (q4 : -2147483648 ≤ x4 ∧ x4 ≤ 2147483647) : av_wp none cd_106 0 [some (.inr (.inr (.inl (some (0))))), some (.inl x1), some (.inl x2), some (.inl x3), some (.inl x4), none, none] [] h (OPX cd_190 [some (.inr (.inr (.inl (some (77))))), some (.inl x1), some (.inl x2), some (.inl x3), some (.inl x4)] h (fun x y => True)) := by
  refine gd_of (fun hg => ?_)
  obtain ⟨B0, U, S, C, SU⟩ := B
  refine cx_106 (CJ_of B0.1 C) x1 q1 x2 q2 x3 q3 x4 q4 (CRT_of B0.1 C) SU (fun v h1 sr' nd' J1 F1 SU1 p1 => ⟨v, rfl, ly_k J1.1.1 77 rfl, gd_of (fun hg1 => ?_)⟩)
  have B1 := BK_Fr hg B0 F1.1 J1.1
  obtain ⟨C1, C2⟩ := CLS_lk hg B0.1 C J1 F1.1 SU1
  obtain ⟨n, a, m, M⟩ := B1.2.2.1
  exact ct_190 M (FM_rf h1) x1 q1 x2 q2 x3 q3 x4 q4 (fun w n' a' m' h2 M2 F2 => ⟨w, rfl, trivial, ⟨BK_FM hg1 B1 F2 M2, CLS_FM hg1 F2 C2⟩, RM_0 (F2.1.trans F1.1.1) (F2.2.1.trans F1.1.2.1)⟩)
theorem oz_107 {h : av_H} (B : BX h) (x1 x2 x3 x4 x5 : Int) (q1 : -2147483648 ≤ x1 ∧ x1 ≤ 2147483647) (q2 : -2147483648 ≤ x2 ∧ x2 ≤ 2147483647) (q3 : -2147483648 ≤ x3 ∧ x3 ≤ 2147483647) (q4 : -2147483648 ≤ x4 ∧ x4 ≤ 2147483647) (q5 : -2147483648 ≤ x5 ∧ x5 ≤ 2147483647) : av_wp none cd_107 0 [some (.inr (.inr (.inl (some (0))))), some (.inl x1), some (.inl x2), some (.inl x3), some (.inl x4), some (.inl x5)] [] h (OPX cd_191 [some (.inr (.inr (.inl (some (77))))), some (.inl x1), some (.inl x2), some (.inl x3), some (.inl x4), some (.inl x5)] h (fun x y => True)) := by
  refine gd_of (fun hg => ?_)
  obtain ⟨B0, U, S, C, SU⟩ := B
  refine cx_107 (CJ_of B0.1 C) x1 q1 x2 q2 x3 q3 x4 q4 x5 q5 (CRT_of B0.1 C) SU (fun v h1 sr' nd' J1 F1 SU1 p1 => ⟨v, rfl, ly_k J1.1.1 77 rfl, gd_of (fun hg1 => ?_)⟩)
  have B1 := BK_Fr hg B0 F1.1 J1.1
  obtain ⟨C1, C2⟩ := CLS_lk hg B0.1 C J1 F1.1 SU1
  obtain ⟨n, a, m, M⟩ := B1.2.2.1
  exact ct_191 M (FM_rf h1) x1 q1 x2 q2 x3 q3 x4 q4 x5 q5 (fun w n' a' m' h2 M2 F2 => ⟨w, rfl, trivial, ⟨BK_FM hg1 B1 F2 M2, CLS_FM hg1 F2 C2⟩, RM_0 (F2.1.trans F1.1.1) (F2.2.1.trans F1.1.2.1)⟩)
theorem oz_108 {h : av_H} (B : BX h) (x1 x2 x3 : Int) (q1 : -2147483648 ≤ x1 ∧ x1 ≤ 2147483647) (q2 : -2147483648 ≤ x2 ∧ x2 ≤ 2147483647) (q3 : -2147483648 ≤ x3 ∧ x3 ≤ 2147483647) : av_wp none cd_108 0 [some (.inr (.inr (.inl (some (0))))), some (.inl x1), some (.inl x2), some (.inl x3)] [] h (OPX cd_192 [some (.inr (.inr (.inl (some (77))))), some (.inl x1), some (.inl x2), some (.inl x3)] h (fun x y => True)) := by
  refine gd_of (fun hg => ?_)
  obtain ⟨B0, U, S, C, SU⟩ := B
  refine cx_108 (CJ_of B0.1 C) x1 q1 x2 q2 x3 q3 (CRT_of B0.1 C) SU (UHW_al B0.1 C) (fun v h1 sr' nd' J1 F1 SU1 p1 => ⟨v, rfl, ly_k J1.1.1 77 rfl, gd_of (fun hg1 => ?_)⟩)
  have B1 := BK_Fr hg B0 F1.1 J1.1
  obtain ⟨C1, C2⟩ := CLS_lk hg B0.1 C J1 F1.1 SU1
  obtain ⟨n, a, m, M⟩ := B1.2.2.1
  exact ct_192 M (FM_rf h1) x1 q1 x2 q2 x3 q3 (fun w n' a' m' h2 M2 F2 => ⟨w, rfl, trivial, ⟨BK_FM hg1 B1 F2 M2, CLS_FM hg1 F2 C2⟩, RM_0 (F2.1.trans F1.1.1) (F2.2.1.trans F1.1.2.1)⟩)
theorem oz_109 {h : av_H} (B : BX h) (x1 x2 x3 : Int) (q1 : -2147483648 ≤ x1 ∧ x1 ≤ 2147483647) (q2 : -2147483648 ≤ x2 ∧ x2 ≤ 2147483647) (q3 : -2147483648 ≤ x3 ∧ x3 ≤ 2147483647) : av_wp none cd_109 0 [some (.inr (.inr (.inl (some (0))))), some (.inl x1), some (.inl x2), some (.inl x3)] [] h (OPX cd_193 [some (.inr (.inr (.inl (some (77))))), some (.inl x1), some (.inl x2), some (.inl x3), none, none, none, none, none, none] h (fun x y => True)) := by
  refine gd_of (fun hg => ?_)
  obtain ⟨B0, U, S, C, SU⟩ := B
  refine cx_109 (CJ_of B0.1 C) x1 q1 x2 q2 x3 q3 (CRT_of B0.1 C) SU (fun v h1 sr' nd' J1 F1 SU1 p1 => ⟨v, rfl, ly_k J1.1.1 77 rfl, gd_of (fun hg1 => ?_)⟩)
  have B1 := BK_Fr hg B0 F1 J1.1
  obtain ⟨C1, C2⟩ := CLS_lk hg B0.1 C J1 F1 SU1
  obtain ⟨n, a, m, M⟩ := B1.2.2.1
  exact ct_193 M (FM_rf h1) x1 q1 x2 q2 x3 q3 (fun w n' a' m' h2 M2 F2 => ⟨w, rfl, trivial, ⟨BK_FM hg1 B1 F2 M2, CLS_FM hg1 F2 C2⟩, RM_0 (F2.1.trans F1.1) (F2.2.1.trans F1.2.1)⟩)
theorem oz_110 {h : av_H} (B : BX h) (x1 x2 : Int) (q1 : -2147483648 ≤ x1 ∧ x1 ≤ 2147483647) (q2 : -2147483648 ≤ x2 ∧ x2 ≤ 2147483647) : av_wp none cd_110 0 [some (.inr (.inr (.inl (some (0))))), some (.inl x1), some (.inl x2)] [] h (OPX cd_197 [some (.inr (.inr (.inl (some (77))))), some (.inl x1), some (.inl x2), none, none] h (fun x y => True)) := by
  refine gd_of (fun hg => ?_)
  obtain ⟨B0, U, S, C, SU⟩ := B
  refine cx_110 (CJ_of B0.1 C) x1 q1 x2 q2 (CRT_of B0.1 C) SU (fun v h1 sr' nd' J1 F1 SU1 => ⟨v, rfl, ly_k J1.1.1 77 rfl, gd_of (fun hg1 => ?_)⟩)
  have B1 := BK_Fr hg B0 F1 J1.1
  obtain ⟨C1, C2⟩ := CLS_lk hg B0.1 C J1 F1 SU1
  obtain ⟨n, a, m, M⟩ := B1.2.2.1
  exact ct_197 M (FM_rf h1) x1 q1 x2 q2 (fun w n' a' m' h2 M2 F2 => ⟨w, rfl, trivial, ⟨BK_FM hg1 B1 F2 M2, CLS_FM hg1 F2 C2⟩, RM_0 (F2.1.trans F1.1) (F2.2.1.trans F1.2.1)⟩)
theorem oz_111 {h : av_H} (B : BX h) (x1 x2 x3 x4 : Int) (q1 : -2147483648 ≤ x1 ∧ x1 ≤ 2147483647) (q2 : -2147483648 ≤ x2 ∧ x2 ≤ 2147483647) (q3 : -2147483648 ≤ x3 ∧ x3 ≤ 2147483647) (q4 : -2147483648 ≤ x4 ∧ x4 ≤ 2147483647) : av_wp none cd_111 0 [some (.inr (.inr (.inl (some (0))))), some (.inl x1), some (.inl x2), some (.inl x3), some (.inl x4)] [] h (OPX cd_198 [some (.inr (.inr (.inl (some (77))))), some (.inl x1), some (.inl x2), some (.inl x3), some (.inl x4), none, none, none] h (fun x y => True)) := by
  refine gd_of (fun hg => ?_)
  obtain ⟨B0, U, S, C, SU⟩ := B
  refine cx_111 (CJ_of B0.1 C) x1 q1 x2 q2 x3 q3 x4 q4 (CRT_of B0.1 C) SU (fun v h1 sr' nd' J1 F1 SU1 p1 => ⟨v, rfl, ly_k J1.1.1 77 rfl, gd_of (fun hg1 => ?_)⟩)
  have B1 := BK_Fr hg B0 F1.1 J1.1
  obtain ⟨C1, C2⟩ := CLS_lk hg B0.1 C J1 F1.1 SU1
  obtain ⟨n, a, m, M⟩ := B1.2.2.1
  exact ct_198 M (FM_rf h1) x1 q1 x2 q2 x3 q3 x4 q4 (fun w n' a' m' h2 M2 F2 => ⟨w, rfl, trivial, ⟨BK_FM hg1 B1 F2 M2, CLS_FM hg1 F2 C2⟩, RM_0 (F2.1.trans F1.1.1) (F2.2.1.trans F1.1.2.1)⟩)
theorem oz_112 {h : av_H} (B : BX h) (x1 x2 x3 x4 x5 : Int) (q1 : -2147483648 ≤ x1 ∧ x1 ≤ 2147483647) (q2 : -2147483648 ≤ x2 ∧ x2 ≤ 2147483647) (q3 : -2147483648 ≤ x3 ∧ x3 ≤ 2147483647) (q4 : -2147483648 ≤ x4 ∧ x4 ≤ 2147483647) (q5 : -2147483648 ≤ x5 ∧ x5 ≤ 2147483647) : av_wp none cd_112 0 [some (.inr (.inr (.inl (some (0))))), some (.inl x1), some (.inl x2), some (.inl x3), some (.inl x4), some (.inl x5), none, none] [] h (OPX cd_199 [some (.inr (.inr (.inl (some (77))))), some (.inl x1), some (.inl x2), some (.inl x3), some (.inl x4), some (.inl x5)] h (fun x y => True)) := by
  refine gd_of (fun hg => ?_)
  obtain ⟨B0, U, S, C, SU⟩ := B
  refine cx_112 (CJ_of B0.1 C) x1 q1 x2 q2 x3 q3 x4 q4 x5 q5 (CRT_of B0.1 C) SU (fun v h1 sr' nd' J1 F1 SU1 p1 => ⟨v, rfl, ly_k J1.1.1 77 rfl, gd_of (fun hg1 => ?_)⟩)
  have B1 := BK_Fr hg B0 F1.1 J1.1
  obtain ⟨C1, C2⟩ := CLS_lk hg B0.1 C J1 F1.1 SU1
  obtain ⟨n, a, m, M⟩ := B1.2.2.1
  exact ct_199 M (FM_rf h1) x1 q1 x2 q2 x3 q3 x4 x5 (fun w n' a' m' h2 M2 F2 => ⟨w, rfl, trivial, ⟨BK_FM hg1 B1 F2 M2, CLS_FM hg1 F2 C2⟩, RM_0 (F2.1.trans F1.1.1) (F2.2.1.trans F1.1.2.1)⟩)
theorem oz_113 {h : av_H} (B : BX h) (x1 x2 x3 x4 : Int) (q1 : -2147483648 ≤ x1 ∧ x1 ≤ 2147483647) (q2 : -2147483648 ≤ x2 ∧ x2 ≤ 2147483647) (q3 : -2147483648 ≤ x3 ∧ x3 ≤ 2147483647) (q4 : -2147483648 ≤ x4 ∧ x4 ≤ 2147483647) : av_wp none cd_113 0 [some (.inr (.inr (.inl (some (0))))), some (.inl x1), some (.inl x2), some (.inl x3), some (.inl x4)] [] h (OPX cd_201 [some (.inr (.inr (.inl (some (77))))), some (.inl x1), some (.inl x2), some (.inl x3), some (.inl x4)] h (fun x y => True)) := by
  refine gd_of (fun hg => ?_)
  obtain ⟨B0, U, S, C, SU⟩ := B
  refine cx_113 (CJ_of B0.1 C) x1 q1 x2 q2 x3 q3 x4 q4 (CRT_of B0.1 C) SU (fun v h1 sr' nd' J1 F1 SU1 p1 => ⟨v, rfl, ly_k J1.1.1 77 rfl, gd_of (fun hg1 => ?_)⟩)
  have B1 := BK_Fr hg B0 F1 J1.1
  obtain ⟨C1, C2⟩ := CLS_lk hg B0.1 C J1 F1 SU1
  obtain ⟨n, a, m, M⟩ := B1.2.2.1
  exact ct_201 M (FM_rf h1) x1 q1 x2 q2 x3 q3 x4 q4 (fun w n' a' m' h2 M2 F2 => ⟨w, rfl, trivial, ⟨BK_FM hg1 B1 F2 M2, CLS_FM hg1 F2 C2⟩, RM_0 (F2.1.trans F1.1) (F2.2.1.trans F1.2.1)⟩)
theorem oz_114 {h : av_H} (B : BX h) (x1 x2 : Int) (q1 : -2147483648 ≤ x1 ∧ x1 ≤ 2147483647) (q2 : -2147483648 ≤ x2 ∧ x2 ≤ 2147483647) : av_wp none cd_114 0 [some (.inr (.inr (.inl (some (0))))), some (.inl x1), some (.inl x2), none, none, none, none, none] [] h (OPX cd_202 [some (.inr (.inr (.inl (some (77))))), some (.inl x1), some (.inl x2), none, none] h (fun x y => True)) := by
  refine gd_of (fun hg => ?_)
  obtain ⟨B0, U, S, C, SU⟩ := B
  refine cx_114 (CJ_of B0.1 C) x1 q1 x2 q2 (CRT_of B0.1 C) SU (fun v h1 sr' nd' J1 F1 SU1 p1 => ⟨v, rfl, ly_k J1.1.1 77 rfl, gd_of (fun hg1 => ?_)⟩)
  have B1 := BK_Fr hg B0 F1 J1.1
  obtain ⟨C1, C2⟩ := CLS_lk hg B0.1 C J1 F1 SU1
  obtain ⟨n, a, m, M⟩ := B1.2.2.1
  exact ct_202 M (FM_rf h1) x1 q1 x2 q2 (fun w n' a' m' h2 M2 F2 => ⟨w, rfl, trivial, ⟨BK_FM hg1 B1 F2 M2, CLS_FM hg1 F2 C2⟩, RM_0 (F2.1.trans F1.1) (F2.2.1.trans F1.2.1)⟩)
theorem oz_115 {h : av_H} (B : BX h) (x1 : Int) (q1 : -2147483648 ≤ x1 ∧ x1 ≤ 2147483647) : av_wp none cd_115 0 [some (.inr (.inr (.inl (some (0))))), some (.inl x1), none, none, none, none] [] h (OPX cd_204 [some (.inr (.inr (.inl (some (77))))), some (.inl x1), none, none] h (fun x y => True)) := by
  refine gd_of (fun hg => ?_)
  obtain ⟨B0, U, S, C, SU⟩ := B
  refine cx_115 (CJ_of B0.1 C) x1 q1 (CRT_of B0.1 C) SU (f30 := hA h 30) (fun _ _ => rfl) (fun b _ l h0 h1 => RLW_al B0.1 C (hA h 30) (b : Int) (Int.toNat l) (by omega)) (fun v h1 sr' nd' J1 F1 SU1 p1 => ⟨v, rfl, ly_k J1.1.1 77 rfl, gd_of (fun hg1 => ?_)⟩)
  have B1 := BK_Fr hg B0 F1 J1.1
  obtain ⟨C1, C2⟩ := CLS_lk hg B0.1 C J1 F1 SU1
  obtain ⟨n, a, m, M⟩ := B1.2.2.1
  exact ct_204 M (FM_rf h1) x1 q1 (fun w n' a' m' h2 M2 F2 => ⟨w, rfl, trivial, ⟨BK_FM hg1 B1 F2 M2, CLS_FM hg1 F2 C2⟩, RM_0 (F2.1.trans F1.1) (F2.2.1.trans F1.2.1)⟩)
theorem oz_116 {h : av_H} (B : BX h) (x1 x2 x3 x4 : Int) (q1 : -2147483648 ≤ x1 ∧ x1 ≤ 2147483647) (q2 : -2147483648 ≤ x2 ∧ x2 ≤ 2147483647) (q3 : -2147483648 ≤ x3 ∧ x3 ≤ 2147483647) (q4 : -2147483648 ≤ x4 ∧ x4 ≤ 2147483647) : av_wp none cd_116 0 [some (.inr (.inr (.inl (some (0))))), some (.inl x1), some (.inl x2), some (.inl x3), some (.inl x4)] [] h (OPX cd_205 [some (.inr (.inr (.inl (some (77))))), some (.inl x1), some (.inl x2), some (.inl x3), some (.inl x4), none, none, none, none] h (fun x y => True)) := by
  refine gd_of (fun hg => ?_)
  obtain ⟨B0, U, S, C, SU⟩ := B
  refine cx_116 (CJ_of B0.1 C) x1 q1 x2 q2 x3 q3 x4 q4 (CRT_of B0.1 C) SU (fun v h1 sr' nd' J1 F1 SU1 p1 => ⟨v, rfl, ly_k J1.1.1 77 rfl, gd_of (fun hg1 => ?_)⟩)
  have B1 := BK_Fr hg B0 F1.1 J1.1
  obtain ⟨C1, C2⟩ := CLS_lk hg B0.1 C J1 F1.1 SU1
  obtain ⟨n, a, m, M⟩ := B1.2.2.1
  exact ct_205 M (FM_rf h1) x1 q1 x2 q2 x3 q3 x4 q4 (fun w n' a' m' h2 M2 F2 => ⟨w, rfl, trivial, ⟨BK_FM hg1 B1 F2 M2, CLS_FM hg1 F2 C2⟩, RM_0 (F2.1.trans F1.1.1) (F2.2.1.trans F1.1.2.1)⟩)
theorem oz_117 {h : av_H} (B : BX h) (x1 x2 x3 x4 x5 : Int) (q1 : -2147483648 ≤ x1 ∧ x1 ≤ 2147483647) (q2 : -2147483648 ≤ x2 ∧ x2 ≤ 2147483647) (q3 : -2147483648 ≤ x3 ∧ x3 ≤ 2147483647) (q4 : -2147483648 ≤ x4 ∧ x4 ≤ 2147483647) (q5 : -2147483648 ≤ x5 ∧ x5 ≤ 2147483647) : av_wp none cd_117 0 [some (.inr (.inr (.inl (some (0))))), some (.inl x1), some (.inl x2), some (.inl x3), some (.inl x4), some (.inl x5), none] [] h (OPX cd_207 [some (.inr (.inr (.inl (some (77))))), some (.inl x1), some (.inl x2), some (.inl x3), some (.inl x4), some (.inl x5)] h (fun x y => True)) := by
  refine gd_of (fun hg => ?_)
  obtain ⟨B0, U, S, C, SU⟩ := B
  refine cx_117 (CJ_of B0.1 C) x1 q1 x2 q2 x3 q3 x4 q4 x5 q5 (CRT_of B0.1 C) SU (fun v h1 sr' nd' J1 F1 SU1 p1 => ⟨v, rfl, ly_k J1.1.1 77 rfl, gd_of (fun hg1 => ?_)⟩)
  have B1 := BK_Fr hg B0 F1.1 J1.1
  obtain ⟨C1, C2⟩ := CLS_lk hg B0.1 C J1 F1.1 SU1
  obtain ⟨n, a, m, M⟩ := B1.2.2.1
  exact ct_207 M (FM_rf h1) x1 q1 x2 q2 x3 q3 x4 q4 x5 q5 (fun w n' a' m' h2 M2 F2 => ⟨w, rfl, trivial, ⟨BK_FM hg1 B1 F2 M2, CLS_FM hg1 F2 C2⟩, RM_0 (F2.1.trans F1.1.1) (F2.2.1.trans F1.1.2.1)⟩)
theorem oz_118 {h : av_H} (B : BX h) (x1 x2 x3 x4 x5 : Int) (q1 : -2147483648 ≤ x1 ∧ x1 ≤ 2147483647) (q2 : -2147483648 ≤ x2 ∧ x2 ≤ 2147483647) (q3 : -2147483648 ≤ x3 ∧ x3 ≤ 2147483647) (q4 : -2147483648 ≤ x4 ∧ x4 ≤ 2147483647) (q5 : -2147483648 ≤ x5 ∧ x5 ≤ 2147483647) : av_wp none cd_118 0 [some (.inr (.inr (.inl (some (0))))), some (.inl x1), some (.inl x2), some (.inl x3), some (.inl x4), some (.inl x5)] [] h (OPX cd_208 [some (.inr (.inr (.inl (some (77))))), some (.inl x1), some (.inl x2), some (.inl x3), some (.inl x4), some (.inl x5), none] h (fun x y => True)) := by
  refine gd_of (fun hg => ?_)
  obtain ⟨B0, U, S, C, SU⟩ := B
  refine cx_118 (CJ_of B0.1 C) x1 q1 x2 q2 x3 q3 x4 q4 x5 q5 (CRT_of B0.1 C) SU (fun v h1 sr' nd' J1 F1 SU1 p1 => ⟨v, rfl, ly_k J1.1.1 77 rfl, gd_of (fun hg1 => ?_)⟩)
  have B1 := BK_Fr hg B0 F1.1 J1.1
  obtain ⟨C1, C2⟩ := CLS_lk hg B0.1 C J1 F1.1 SU1
  obtain ⟨n, a, m, M⟩ := B1.2.2.1
  exact ct_208 M (FM_rf h1) x1 q1 x2 q2 x3 q3 x4 q4 x5 q5 (fun w n' a' m' h2 M2 F2 => ⟨w, rfl, trivial, ⟨BK_FM hg1 B1 F2 M2, CLS_FM hg1 F2 C2⟩, RM_0 (F2.1.trans F1.1.1) (F2.2.1.trans F1.1.2.1)⟩)
theorem oz_120 {h : av_H} (B : BX h) (x1 x2 x3 : Int) (q1 : -2147483648 ≤ x1 ∧ x1 ≤ 2147483647) (q2 : -2147483648 ≤ x2 ∧ x2 ≤ 2147483647) (q3 : -2147483648 ≤ x3 ∧ x3 ≤ 2147483647) : av_wp none cd_120 0 [some (.inr (.inr (.inl (some (0))))), some (.inl x1), some (.inl x2), some (.inl x3), none] [] h (OPX cd_211 [some (.inr (.inr (.inl (some (77))))), some (.inl x1), some (.inl x2), some (.inl x3)] h (fun x y => True)) := by
  refine gd_of (fun hg => ?_)
  obtain ⟨B0, U, S, C, SU⟩ := B
  refine cx_120 (CJ_of B0.1 C) x1 q1 x2 q2 x3 q3 (CRT_of B0.1 C) SU (CWB_al B0.1 C) (fun v g h1 a b sr' nd' ha hb A J1 F1 SU1 p1 => ⟨v, rfl, ly_k J1.1.1 77 rfl, gd_of (fun hg1 => ?_)⟩)
  have G0 : av_Gd g := fun q hq => by rw [show g.1 = h1.1 from F1.1.symm]; exact hg1 q (by rw [show h1.2.2.1 q = g.2.2.1 q from congrFun F1.2.2.1 q]; exact hq)
  have Bg := BK_al hg B0 A
  have cfa := CF0_al hg B0.1.1 A
  have Cg := CLU_cf hg cfa C
  have B1 := BK_Fr G0 Bg F1 J1.1
  obtain ⟨C1, C2⟩ := CLS_lk G0 Bg.1 Cg (by rw [cfa.2.1.1]; exact J1) F1 (by rw [cfa.2.1.1, cfa.2.1.2.1]; exact SUA_c SU1 (fun l hl _ => cfa.2.2.2.1 _ (by omega) (by omega)))
  have rm : ∀ h2 : av_H, FM h1 h2 → RM h h2 := fun h2 F2 => by
    have e1 := F2.1
    have e2 := F2.2.1
    have e3 := F1.1
    have e4 := F1.2.1
    have e5 := A.1
    have e6 := A.2.1
    exact ⟨by omega, by omega⟩
  obtain ⟨n, a', m, M⟩ := B1.2.2.1
  exact ct_211 M (FM_rf h1) x1 q1 x2 q2 x3 q3 (fun w n' a'' m' h2 M2 F2 => ⟨w, rfl, trivial, ⟨BK_FM hg1 B1 F2 M2, CLS_FM hg1 F2 C2⟩, rm h2 F2⟩)
theorem oz_121 {h : av_H} (B : BX h) (x1 x2 x3 : Int) (q1 : -2147483648 ≤ x1 ∧ x1 ≤ 2147483647) (q2 : -2147483648 ≤ x2 ∧ x2 ≤ 2147483647) (q3 : -2147483648 ≤ x3 ∧ x3 ≤ 2147483647) : av_wp none cd_121 0 [some (.inr (.inr (.inl (some (0))))), some (.inl x1), some (.inl x2), some (.inl x3), none] [] h (OPX cd_212 [some (.inr (.inr (.inl (some (77))))), some (.inl x1), some (.inl x2), some (.inl x3), none] h (fun x y => x = y)) := by
  refine gd_of (fun hg => ?_)
  obtain ⟨B0, U, S, C, SU⟩ := B
  refine cx_121 (CJ_of B0.1 C) x1 q1 x2 q2 x3 q3 (CRT_of B0.1 C) SU (CWB_al B0.1 C) (fun v g h1 a b sr' nd' ha hb A J1 F1 SU1 p1 => ⟨v, rfl, ly_k J1.1.1 77 rfl, gd_of (fun hg1 => ?_)⟩)
  have G0 : av_Gd g := fun q hq => by rw [show g.1 = h1.1 from F1.1.symm]; exact hg1 q (by rw [show h1.2.2.1 q = g.2.2.1 q from congrFun F1.2.2.1 q]; exact hq)
  have Bg := BK_al hg B0 A
  have cfa := CF0_al hg B0.1.1 A
  have Cg := CLU_cf hg cfa C
  have B1 := BK_Fr G0 Bg F1 J1.1
  obtain ⟨C1, C2⟩ := CLS_lk G0 Bg.1 Cg (by rw [cfa.2.1.1]; exact J1) F1 (by rw [cfa.2.1.1, cfa.2.1.2.1]; exact SUA_c SU1 (fun l hl _ => cfa.2.2.2.1 _ (by omega) (by omega)))
  have RX := RXX_of B1 C1 (ro := fun k => hA h (6 + k)) (fun l hl => (((CF0_Fr G0 Bg.1.1 F1).2.2.2.1 (6 + l) (by omega) (by omega)).trans (cfa.2.2.2.1 (6 + l) (by omega) (by omega))).symm)
  obtain ⟨c78, c79, c80⟩ := c78_of G0 Bg.1 F1 B1
  rw [cfa.2.1.1] at c78
  rw [cfa.2.1.2.1] at c79
  have CB1 : ∀ c : Nat, (c : Int) < hA h1 78 0 → CWB (U c) (S c) := fun c hc => CWB_al B0.1 C c (by rw [← c78]; exact hc)
  have rm : ∀ h2 : av_H, FM h1 h2 → RM h h2 := fun h2 F2 => by
    have e1 := F2.1
    have e2 := F2.2.1
    have e3 := F1.1
    have e4 := F1.2.1
    have e5 := A.1
    have e6 := A.2.1
    exact ⟨by omega, by omega⟩
  obtain ⟨n, a', m, M⟩ := B1.2.2.1
  rcases p1 with p1 | p1
  · obtain ⟨no, e⟩ := p1
    refine cx_212 M (FM_rf h1) RX x1 q1 x2 q2 x3 q3 CB1 (V := fun _ => 0) (fun z => absurd (by rw [c78, c79] at z; exact z) no) (fun w n' a'' m' h2 p2 M2 F2 => ⟨w, rfl, ?_, ⟨BK_FM hg1 B1 F2 M2, CLS_FM hg1 F2 C2⟩, rm h2 F2⟩)
    rw [c78, c79] at p2
    rcases p2 with z | z
    · exact absurd z.1 no
    · exact e.trans z.2.symm
  · obtain ⟨ok, u, hu, e⟩ := p1
    refine cx_212 M (FM_rf h1) RX x1 q1 x2 q2 x3 q3 CB1 (V := u) (fun _ => hu) (fun w n' a'' m' h2 p2 M2 F2 => ⟨w, rfl, ?_, ⟨BK_FM hg1 B1 F2 M2, CLS_FM hg1 F2 C2⟩, rm h2 F2⟩)
    rw [c78, c79] at p2
    rcases p2 with z | z
    · exact e.trans z.2.symm
    · exact absurd ok z.1
end
section
/-! THE BOOK AT THE START, with the class's own -/
set_option maxRecDepth 100000 in
set_option maxHeartbeats 16000000 in
theorem h3_27 : ∀ j, j < 144 → hA av_h3 27 j = 0 := by decide +kernel
theorem h3_CLS : CLS av_h3 := by
  refine ⟨fun _ _ => 0, fun _ => 0, ⟨fun i _ hi => ?_, fun l _ hl => ?_, fun c _ hc => ?_, fun i _ hi => ?_⟩, SUA_0 h3_27⟩
  · rw [h3_F.2.2.2.2.2.2.2.2.1] at hi
    omega
  · rw [h3_F.2.2.2.2.2.2.2.2.2.1] at hl
    omega
  · rw [h3_F.2.2.2.2.2.2.2.2.2.2.1] at hc
    omega
  · rw [h3_F.1] at hi
    omega
theorem h3_BX : BX av_h3 := ⟨h3_BK, h3_CLS⟩
end
