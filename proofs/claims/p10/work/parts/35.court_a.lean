/-! COURT, SHELF AND THE CLASS ITSELF: looks come back -/
set_option maxRecDepth 100000 in
set_option maxHeartbeats 4000000 in
theorem ct_102 {h : av_H} (x : Int) (qx : -2147483648 ≤ x ∧ x ≤ 2147483647) {Q : Option av_V → av_H → Prop} (hq : ∀ v : Int, ((v = 1 ∧ 10 ≤ x ∧ x ≤ 14) ∨ (v = 0 ∧ (x < 10 ∨ 14 < x))) → Q (some (.inl v)) h) : av_wp none cd_102 0 [some (.inl x)] [] h Q := by
  have F := Fr1_rf h
  refine av_wp_sqF ck_102 2 (pc' := 3) (lv' := [some (.inl x)]) (st' := [.inl (10), .inl x]) (h' := h) rfl ?_
  refine wq_k2 (p' := 6) (ck_102 _ _ rfl) rfl ⟨by omega, by omega⟩ ⟨by omega, by omega⟩ (fun c1 => ?_) (fun c2 => ?_)
  · have c1 : x < (10) := c1
    refine av_wp_sqF ck_102 1 (pc' := 17) (lv' := [some (.inl x)]) (st' := [.inl (0)]) (h' := h) rfl ?_
    refine av_wp_ret (v := some (.inl (0))) (ck_102 _ _ rfl) rfl rfl ?_
    exact hq _ (by omega)
  · have c2 : (10) ≤ x := c2
    refine av_wp_sqF ck_102 2 (pc' := 9) (lv' := [some (.inl x)]) (st' := [.inl (15), .inl x]) (h' := h) rfl ?_
    refine wq_k2 (p' := 12) (ck_102 _ _ rfl) rfl ⟨by omega, by omega⟩ ⟨by omega, by omega⟩ (fun c3 => ?_) (fun c4 => ?_)
    · have c3 : (15) ≤ x := c3
      refine av_wp_sqF ck_102 1 (pc' := 17) (lv' := [some (.inl x)]) (st' := [.inl (0)]) (h' := h) rfl ?_
      refine av_wp_ret (v := some (.inl (0))) (ck_102 _ _ rfl) rfl rfl ?_
      exact hq _ (by omega)
    · have c4 : x < (15) := c4
      refine av_wp_sqF ck_102 2 (pc' := 17) (lv' := [some (.inl x)]) (st' := [.inl (1)]) (h' := h) rfl ?_
      refine av_wp_ret (v := some (.inl (1))) (ck_102 _ _ rfl) rfl rfl ?_
      exact hq _ (by omega)

set_option maxRecDepth 100000 in
set_option maxHeartbeats 4000000 in
theorem ct_119 {h : av_H} (x : Int) (qx : -2147483648 ≤ x ∧ x ≤ 2147483647) {Q : Option av_V → av_H → Prop} (hq : ∀ v : Int, ((v = 1 ∧ 0 ≤ x ∧ x ≤ 2) ∨ (v = 0 ∧ (x < 0 ∨ 2 < x))) → Q (some (.inl v)) h) : av_wp none cd_119 0 [some (.inl x)] [] h Q := by
  have F := Fr1_rf h
  refine av_wp_sqF ck_119 1 (pc' := 1) (lv' := [some (.inl x)]) (st' := [.inl x]) (h' := h) rfl ?_
  refine wq_k1 (p' := 4) (ck_119 _ _ rfl) rfl ⟨by omega, by omega⟩ (fun c1 => ?_) (fun c2 => ?_)
  · have c1 : x < (0) := c1
    refine av_wp_sqF ck_119 1 (pc' := 14) (lv' := [some (.inl x)]) (st' := [.inl (0)]) (h' := h) rfl ?_
    refine av_wp_ret (v := some (.inl (0))) (ck_119 _ _ rfl) rfl rfl ?_
    exact hq _ (by omega)
  · have c2 : (0) ≤ x := c2
    refine av_wp_sqF ck_119 2 (pc' := 6) (lv' := [some (.inl x)]) (st' := [.inl (3), .inl x]) (h' := h) rfl ?_
    refine wq_k2 (p' := 9) (ck_119 _ _ rfl) rfl ⟨by omega, by omega⟩ ⟨by omega, by omega⟩ (fun c3 => ?_) (fun c4 => ?_)
    · have c3 : (3) ≤ x := c3
      refine av_wp_sqF ck_119 1 (pc' := 14) (lv' := [some (.inl x)]) (st' := [.inl (0)]) (h' := h) rfl ?_
      refine av_wp_ret (v := some (.inl (0))) (ck_119 _ _ rfl) rfl rfl ?_
      exact hq _ (by omega)
    · have c4 : x < (3) := c4
      refine av_wp_sqF ck_119 2 (pc' := 14) (lv' := [some (.inl x)]) (st' := [.inl (1)]) (h' := h) rfl ?_
      refine av_wp_ret (v := some (.inl (1))) (ck_119 _ _ rfl) rfl rfl ?_
      exact hq _ (by omega)

set_option maxRecDepth 100000 in
set_option maxHeartbeats 4000000 in
theorem ct_218 {h : av_H} (x : Int) {Q : Option av_V → av_H → Prop} (hq : ∀ v : Int, Q (some (.inl v)) h) : av_wp none cd_218 0 [some (.inl x)] [] h Q := by
  have F := Fr1_rf h
  refine av_wp_sqF ck_218 12 (pc' := 16) (lv' := [some (.inl (x - (av_and (av_ushr x (1)) (1431655765))))]) (st' := [.inl (x - (av_and (av_ushr x (1)) (1431655765))), .inl (av_and (x - (av_and (av_ushr x (1)) (1431655765))) (858993459))]) (h' := h) rfl ?_
  refine av_wp_sqF ck_218 12 (pc' := 32) (lv' := [some (.inl ((av_and (x - (av_and (av_ushr x (1)) (1431655765))) (858993459)) + (av_and (av_ushr (x - (av_and (av_ushr x (1)) (1431655765))) (2)) (858993459))))]) (st' := [.inl (252645135), .inl (((av_and (x - (av_and (av_ushr x (1)) (1431655765))) (858993459)) + (av_and (av_ushr (x - (av_and (av_ushr x (1)) (1431655765))) (2)) (858993459))) + (av_ushr ((av_and (x - (av_and (av_ushr x (1)) (1431655765))) (858993459)) + (av_and (av_ushr (x - (av_and (av_ushr x (1)) (1431655765))) (2)) (858993459))) (4)))]) (h' := h) rfl ?_
  refine av_wp_sqF ck_218 12 (pc' := 46) (lv' := [some (.inl ((av_and (((av_and (x - (av_and (av_ushr x (1)) (1431655765))) (858993459)) + (av_and (av_ushr (x - (av_and (av_ushr x (1)) (1431655765))) (2)) (858993459))) + (av_ushr ((av_and (x - (av_and (av_ushr x (1)) (1431655765))) (858993459)) + (av_and (av_ushr (x - (av_and (av_ushr x (1)) (1431655765))) (2)) (858993459))) (4))) (252645135)) + (av_ushr (av_and (((av_and (x - (av_and (av_ushr x (1)) (1431655765))) (858993459)) + (av_and (av_ushr (x - (av_and (av_ushr x (1)) (1431655765))) (2)) (858993459))) + (av_ushr ((av_and (x - (av_and (av_ushr x (1)) (1431655765))) (858993459)) + (av_and (av_ushr (x - (av_and (av_ushr x (1)) (1431655765))) (2)) (858993459))) (4))) (252645135)) (8))))]) (st' := [.inl (av_ushr ((av_and (((av_and (x - (av_and (av_ushr x (1)) (1431655765))) (858993459)) + (av_and (av_ushr (x - (av_and (av_ushr x (1)) (1431655765))) (2)) (858993459))) + (av_ushr ((av_and (x - (av_and (av_ushr x (1)) (1431655765))) (858993459)) + (av_and (av_ushr (x - (av_and (av_ushr x (1)) (1431655765))) (2)) (858993459))) (4))) (252645135)) + (av_ushr (av_and (((av_and (x - (av_and (av_ushr x (1)) (1431655765))) (858993459)) + (av_and (av_ushr (x - (av_and (av_ushr x (1)) (1431655765))) (2)) (858993459))) + (av_ushr ((av_and (x - (av_and (av_ushr x (1)) (1431655765))) (858993459)) + (av_and (av_ushr (x - (av_and (av_ushr x (1)) (1431655765))) (2)) (858993459))) (4))) (252645135)) (8))) (16)), .inl ((av_and (((av_and (x - (av_and (av_ushr x (1)) (1431655765))) (858993459)) + (av_and (av_ushr (x - (av_and (av_ushr x (1)) (1431655765))) (2)) (858993459))) + (av_ushr ((av_and (x - (av_and (av_ushr x (1)) (1431655765))) (858993459)) + (av_and (av_ushr (x - (av_and (av_ushr x (1)) (1431655765))) (2)) (858993459))) (4))) (252645135)) + (av_ushr (av_and (((av_and (x - (av_and (av_ushr x (1)) (1431655765))) (858993459)) + (av_and (av_ushr (x - (av_and (av_ushr x (1)) (1431655765))) (2)) (858993459))) + (av_ushr ((av_and (x - (av_and (av_ushr x (1)) (1431655765))) (858993459)) + (av_and (av_ushr (x - (av_and (av_ushr x (1)) (1431655765))) (2)) (858993459))) (4))) (252645135)) (8)))]) (h' := h) rfl ?_
  refine av_wp_sqF ck_218 5 (pc' := 52) (lv' := [some (.inl (((av_and (((av_and (x - (av_and (av_ushr x (1)) (1431655765))) (858993459)) + (av_and (av_ushr (x - (av_and (av_ushr x (1)) (1431655765))) (2)) (858993459))) + (av_ushr ((av_and (x - (av_and (av_ushr x (1)) (1431655765))) (858993459)) + (av_and (av_ushr (x - (av_and (av_ushr x (1)) (1431655765))) (2)) (858993459))) (4))) (252645135)) + (av_ushr (av_and (((av_and (x - (av_and (av_ushr x (1)) (1431655765))) (858993459)) + (av_and (av_ushr (x - (av_and (av_ushr x (1)) (1431655765))) (2)) (858993459))) + (av_ushr ((av_and (x - (av_and (av_ushr x (1)) (1431655765))) (858993459)) + (av_and (av_ushr (x - (av_and (av_ushr x (1)) (1431655765))) (2)) (858993459))) (4))) (252645135)) (8))) + (av_ushr ((av_and (((av_and (x - (av_and (av_ushr x (1)) (1431655765))) (858993459)) + (av_and (av_ushr (x - (av_and (av_ushr x (1)) (1431655765))) (2)) (858993459))) + (av_ushr ((av_and (x - (av_and (av_ushr x (1)) (1431655765))) (858993459)) + (av_and (av_ushr (x - (av_and (av_ushr x (1)) (1431655765))) (2)) (858993459))) (4))) (252645135)) + (av_ushr (av_and (((av_and (x - (av_and (av_ushr x (1)) (1431655765))) (858993459)) + (av_and (av_ushr (x - (av_and (av_ushr x (1)) (1431655765))) (2)) (858993459))) + (av_ushr ((av_and (x - (av_and (av_ushr x (1)) (1431655765))) (858993459)) + (av_and (av_ushr (x - (av_and (av_ushr x (1)) (1431655765))) (2)) (858993459))) (4))) (252645135)) (8))) (16))))]) (st' := [.inl (av_and (((av_and (((av_and (x - (av_and (av_ushr x (1)) (1431655765))) (858993459)) + (av_and (av_ushr (x - (av_and (av_ushr x (1)) (1431655765))) (2)) (858993459))) + (av_ushr ((av_and (x - (av_and (av_ushr x (1)) (1431655765))) (858993459)) + (av_and (av_ushr (x - (av_and (av_ushr x (1)) (1431655765))) (2)) (858993459))) (4))) (252645135)) + (av_ushr (av_and (((av_and (x - (av_and (av_ushr x (1)) (1431655765))) (858993459)) + (av_and (av_ushr (x - (av_and (av_ushr x (1)) (1431655765))) (2)) (858993459))) + (av_ushr ((av_and (x - (av_and (av_ushr x (1)) (1431655765))) (858993459)) + (av_and (av_ushr (x - (av_and (av_ushr x (1)) (1431655765))) (2)) (858993459))) (4))) (252645135)) (8))) + (av_ushr ((av_and (((av_and (x - (av_and (av_ushr x (1)) (1431655765))) (858993459)) + (av_and (av_ushr (x - (av_and (av_ushr x (1)) (1431655765))) (2)) (858993459))) + (av_ushr ((av_and (x - (av_and (av_ushr x (1)) (1431655765))) (858993459)) + (av_and (av_ushr (x - (av_and (av_ushr x (1)) (1431655765))) (2)) (858993459))) (4))) (252645135)) + (av_ushr (av_and (((av_and (x - (av_and (av_ushr x (1)) (1431655765))) (858993459)) + (av_and (av_ushr (x - (av_and (av_ushr x (1)) (1431655765))) (2)) (858993459))) + (av_ushr ((av_and (x - (av_and (av_ushr x (1)) (1431655765))) (858993459)) + (av_and (av_ushr (x - (av_and (av_ushr x (1)) (1431655765))) (2)) (858993459))) (4))) (252645135)) (8))) (16))) (63))]) (h' := h) rfl ?_
  refine av_wp_ret (v := some (.inl (av_and (((av_and (((av_and (x - (av_and (av_ushr x (1)) (1431655765))) (858993459)) + (av_and (av_ushr (x - (av_and (av_ushr x (1)) (1431655765))) (2)) (858993459))) + (av_ushr ((av_and (x - (av_and (av_ushr x (1)) (1431655765))) (858993459)) + (av_and (av_ushr (x - (av_and (av_ushr x (1)) (1431655765))) (2)) (858993459))) (4))) (252645135)) + (av_ushr (av_and (((av_and (x - (av_and (av_ushr x (1)) (1431655765))) (858993459)) + (av_and (av_ushr (x - (av_and (av_ushr x (1)) (1431655765))) (2)) (858993459))) + (av_ushr ((av_and (x - (av_and (av_ushr x (1)) (1431655765))) (858993459)) + (av_and (av_ushr (x - (av_and (av_ushr x (1)) (1431655765))) (2)) (858993459))) (4))) (252645135)) (8))) + (av_ushr ((av_and (((av_and (x - (av_and (av_ushr x (1)) (1431655765))) (858993459)) + (av_and (av_ushr (x - (av_and (av_ushr x (1)) (1431655765))) (2)) (858993459))) + (av_ushr ((av_and (x - (av_and (av_ushr x (1)) (1431655765))) (858993459)) + (av_and (av_ushr (x - (av_and (av_ushr x (1)) (1431655765))) (2)) (858993459))) (4))) (252645135)) + (av_ushr (av_and (((av_and (x - (av_and (av_ushr x (1)) (1431655765))) (858993459)) + (av_and (av_ushr (x - (av_and (av_ushr x (1)) (1431655765))) (2)) (858993459))) + (av_ushr ((av_and (x - (av_and (av_ushr x (1)) (1431655765))) (858993459)) + (av_and (av_ushr (x - (av_and (av_ushr x (1)) (1431655765))) (2)) (858993459))) (4))) (252645135)) (8))) (16))) (63)))) (ck_218 _ _ rfl) rfl rfl ?_
  exact hq _

set_option maxRecDepth 100000 in
set_option maxHeartbeats 4000000 in
theorem ct_69 {h : av_H} (I : IC h) (k : Int) (qk : -2147483648 ≤ k ∧ k ≤ 2147483647) {Q : Option av_V → av_H → Prop} (hq0 : Q (some (.inr (.inr (.inl none)))) h) (hq1 : ∀ t c s cb, CO h t c s cb → 0 ≤ k → k ≤ 15 → Q (some (.inr (.inr (.inl (some t))))) h) : av_wp none cd_69 0 [some (.inr (.inr (.inl (some (3))))), some (.inl k)] [] h Q := by
  have F := Fr1_rf h
  refine av_wp_sqF ck_69 1 (pc' := 1) (lv' := [some (.inr (.inr (.inl (some (3))))), some (.inl k)]) (st' := [.inl k]) (h' := h) rfl ?_
  refine wq_k1 (p' := 4) (ck_69 _ _ rfl) rfl ⟨by omega, by omega⟩ (fun c1 => ?_) (fun c2 => ?_)
  · have c1 : k < (0) := c1
    refine av_wp_sqF ck_69 1 (pc' := 22) (lv' := [some (.inr (.inr (.inl (some (3))))), some (.inl k)]) (st' := [.inr (.inr (.inl none))]) (h' := h) rfl ?_
    refine av_wp_ret (v := some (.inr (.inr (.inl none)))) rfl rfl rfl ?_
    exact hq0
  · have c2 : (0) ≤ k := c2
    refine av_wp_sqF ck_69 2 (pc' := 6) (lv' := [some (.inr (.inr (.inl (some (3))))), some (.inl k)]) (st' := [.inr (.inr (.inl (some (3)))), .inl k]) (h' := h) rfl ?_
    obtain ⟨v3, e4⟩ : ∃ v, hF h 3 3 = v := ⟨_, rfl⟩
    have g5 := ic_cc I
    rw [e4] at g5
    refine wq_gi (p' := 9) (ck_69 _ _ rfl) rfl (congrArg Prod.fst (ly_k I.1 3 rfl)) rfl (e4) ?_
    refine wq_k2 (p' := 12) (ck_69 _ _ rfl) rfl ⟨by omega, by omega⟩ ⟨by omega, by omega⟩ (fun c6 => ?_) (fun c7 => ?_)
    · have c6 : v3 ≤ k := c6
      refine av_wp_sqF ck_69 1 (pc' := 22) (lv' := [some (.inr (.inr (.inl (some (3))))), some (.inl k)]) (st' := [.inr (.inr (.inl none))]) (h' := h) rfl ?_
      refine av_wp_ret (v := some (.inr (.inr (.inl none)))) rfl rfl rfl ?_
      exact hq0
    · have c7 : k < v3 := c7
      refine av_wp_sqF ck_69 1 (pc' := 13) (lv' := [some (.inr (.inr (.inl (some (3))))), some (.inl k)]) (st' := [.inr (.inr (.inl (some (3))))]) (h' := h) rfl ?_
      refine wq_gr (p' := 16) (ck_69 _ _ rfl) rfl (congrArg Prod.fst (ly_k I.1 3 rfl)) rfl (ly_g I.1 3 0 4 rfl) ?_
      refine av_wp_sqF ck_69 1 (pc' := 17) (lv' := [some (.inr (.inr (.inl (some (3))))), some (.inl k)]) (st' := [.inl k, .inr (.inr (.inl (some (4))))]) (h' := h) rfl ?_
      rcases I.2.2.1 (Int.toNat (k)) (by omega) with e8 | ⟨t9, c10, s11, d12, e8, o13⟩
      · refine wq_ar (p' := 18) (n := 16) (k := 30) (ck_69 _ _ rfl) rfl (ly_k I.1 4 rfl) (by omega) (by omega) e8 ?_
        refine av_wp_sqF ck_69 1 (pc' := 22) (lv' := [some (.inr (.inr (.inl (some (3))))), some (.inl k)]) (st' := [.inr (.inr (.inl none))]) (h' := h) rfl ?_
        refine av_wp_ret (v := some (.inr (.inr (.inl none)))) rfl rfl rfl ?_
        exact hq0
      · refine wq_ar (p' := 18) (n := 16) (k := 30) (ck_69 _ _ rfl) rfl (ly_k I.1 4 rfl) (by omega) (by omega) e8 ?_
        have g14 := co_s12 o13
        have g15 := co_cbr o13
        refine av_wp_sqF ck_69 1 (pc' := 22) (lv' := [some (.inr (.inr (.inl (some (3))))), some (.inl k)]) (st' := [.inr (.inr (.inl (some (t9))))]) (h' := h) rfl ?_
        refine av_wp_ret (v := some (.inr (.inr (.inl (some (t9)))))) rfl rfl rfl ?_
        exact hq1 _ _ _ _ o13 (by omega) (by omega)

set_option maxRecDepth 100000 in
set_option maxHeartbeats 4000000 in
theorem ct_70 {h : av_H} (I : IC h) (k : Int) (qk : -2147483648 ≤ k ∧ k ≤ 2147483647) {Q : Option av_V → av_H → Prop} (hq : ∀ v : Int, ((v = 1 ∧ 0 ≤ k ∧ k ≤ 7) ∨ v = 0) → Q (some (.inl v)) h) : av_wp none cd_70 0 [some (.inr (.inr (.inl (some (3))))), some (.inl k)] [] h Q := by
  have F := Fr1_rf h
  refine av_wp_sqF ck_70 1 (pc' := 1) (lv' := [some (.inr (.inr (.inl (some (3))))), some (.inl k)]) (st' := [.inl k]) (h' := h) rfl ?_
  refine wq_k1 (p' := 4) (ck_70 _ _ rfl) rfl ⟨by omega, by omega⟩ (fun c1 => ?_) (fun c2 => ?_)
  · have c1 : k < (0) := c1
    refine av_wp_sqF ck_70 1 (pc' := 17) (lv' := [some (.inr (.inr (.inl (some (3))))), some (.inl k)]) (st' := [.inl (0)]) (h' := h) rfl ?_
    refine av_wp_ret (v := some (.inl (0))) (ck_70 _ _ rfl) rfl rfl ?_
    exact hq _ (by omega)
  · have c2 : (0) ≤ k := c2
    refine av_wp_sqF ck_70 2 (pc' := 6) (lv' := [some (.inr (.inr (.inl (some (3))))), some (.inl k)]) (st' := [.inr (.inr (.inl (some (3)))), .inl k]) (h' := h) rfl ?_
    obtain ⟨v3, e4⟩ : ∃ v, hF h 3 4 = v := ⟨_, rfl⟩
    have g5 := ic_lc I
    rw [e4] at g5
    refine wq_gi (p' := 9) (ck_70 _ _ rfl) rfl (congrArg Prod.fst (ly_k I.1 3 rfl)) rfl (e4) ?_
    refine wq_k2 (p' := 12) (ck_70 _ _ rfl) rfl ⟨by omega, by omega⟩ ⟨by omega, by omega⟩ (fun c6 => ?_) (fun c7 => ?_)
    · have c6 : v3 ≤ k := c6
      refine av_wp_sqF ck_70 1 (pc' := 17) (lv' := [some (.inr (.inr (.inl (some (3))))), some (.inl k)]) (st' := [.inl (0)]) (h' := h) rfl ?_
      refine av_wp_ret (v := some (.inl (0))) (ck_70 _ _ rfl) rfl rfl ?_
      exact hq _ (by omega)
    · have c7 : k < v3 := c7
      refine av_wp_sqF ck_70 2 (pc' := 17) (lv' := [some (.inr (.inr (.inl (some (3))))), some (.inl k)]) (st' := [.inl (1)]) (h' := h) rfl ?_
      refine av_wp_ret (v := some (.inl (1))) (ck_70 _ _ rfl) rfl rfl ?_
      exact hq _ (by omega)

set_option maxRecDepth 100000 in
set_option maxHeartbeats 4000000 in
theorem ct_54 {h : av_H} (I : IC h) {t c s : Nat} {cb : Int} (o : CO h t c s cb) {Q : Option av_V → av_H → Prop} (hq : ∀ (v : Int) h', (v = 0 ∨ v = 1) → IC h' → Fr1 h h' → Q (some (.inl v)) h') : av_wp none cd_54 0 [some (.inr (.inr (.inl (some (26))))), some (.inr (.inr (.inl (some (t))))), none, none, none] [] h Q := by
  have F := Fr1_rf h
  have g1 := co_s12 o
  have g2 := co_cbr o
  refine av_wp_sqF ck_54 4 (pc' := 4) (lv' := [some (.inr (.inr (.inl (some (26))))), some (.inr (.inr (.inl (some (t))))), some (.inl (0)), some (.inl (0)), none]) (st' := []) (h' := h) rfl ?_
  have L11 : ∀ (m10 : Nat) (k3 : Int) (k4 : Int) (a5 : Option av_V) (h6 : av_H), av_lg a5 = false → k4 ≤ (s : Int) → (0 ≤ k4 ∧ k4 ≤ 12) → (0 ≤ k3 ∧ k3 ≤ 1) → IC h6 → Fr1 h h6 → CO h6 t c s cb → ((s : Int) - k4).toNat = m10 → av_wp none cd_54 4 [some (.inr (.inr (.inl (some (26))))), some (.inr (.inr (.inl (some (t))))), some (.inl k3), some (.inl k4), a5] [] h6 Q := by
    intro m10
    induction m10 using Nat.strongRecOn with
    | _ m10 I12 =>
      intro k3 k4 a5 h6 g14 g15 g16 g17 I7 F8 o9 e13
      have la5 := g14
      refine av_wp_sqF ck_54 2 (pc' := 6) (lv' := [some (.inr (.inr (.inl (some (26))))), some (.inr (.inr (.inl (some (t))))), some (.inl k3), some (.inl k4), a5]) (st' := [.inr (.inr (.inl (some (t)))), .inl k4]) (h' := h6) rfl ?_
      refine wq_gi (p' := 9) (ck_54 _ _ rfl) rfl (congrArg Prod.fst (co_kt o9)) rfl (co_s o9) ?_
      refine wq_k2 (p' := 12) (ck_54 _ _ rfl) rfl ⟨by omega, by omega⟩ ⟨by omega, by omega⟩ (fun c18 => ?_) (fun c19 => ?_)
      · have c18 : (s : Int) ≤ k4 := c18
        refine av_wp_sqF ck_54 1 (pc' := 50) (lv' := [some (.inr (.inr (.inl (some (26))))), some (.inr (.inr (.inl (some (t))))), some (.inl k3), some (.inl k4), a5]) (st' := [.inl k3]) (h' := h6) rfl ?_
        refine wq_rb rfl (by omega) ?_
        exact hq _ h6 (by omega) I7 F8
      · have c19 : k4 < (s : Int) := c19
        refine av_wp_sqF ck_54 3 (pc' := 16) (lv' := [some (.inr (.inr (.inl (some (26))))), some (.inr (.inr (.inl (some (t))))), some (.inl k3), some (.inl k4), a5]) (st' := [.inl (6), .inl k4, .inr (.inr (.inl (some (t))))]) (h' := h6) rfl ?_
        refine wq_cv (p' := 19) (av_qc (.invokevirtual 119) 29 2 0 1) 3 cd_29 [.inl (6), .inl k4] (t) 1 [some (.inr (.inr (.inl (some (t))))), some (.inl k4), some (.inl (6))] (ck_54 _ _ rfl) rfl rfl pp_29 rfl rfl rfl (congrArg Prod.fst (co_kt o9)) rfl rfl rfl rfl ?_
        refine ct_29 o9 (k4) ((6)) (by omega) (by omega) (fun v20 p21 => ?_)
        show av_wp _ cd_54 19 [some (.inr (.inr (.inl (some (26))))), some (.inr (.inr (.inl (some (t))))), some (.inl k3), some (.inl k4), a5] [.inl v20] h6 _
        refine av_wp_sqF ck_54 2 (pc' := 23) (lv' := [some (.inr (.inr (.inl (some (26))))), some (.inr (.inr (.inl (some (t))))), some (.inl k3), some (.inl k4), some (.inl v20)]) (st' := [.inl v20]) (h' := h6) rfl ?_
        have J28 : ∀ (j22 : Int) (h23 : av_H), (0 ≤ j22 ∧ j22 ≤ 1) → IC h23 → Fr1 h h23 → CO h23 t c s cb →  av_wp none cd_54 43 [some (.inr (.inr (.inl (some (26))))), some (.inr (.inr (.inl (some (t))))), some (.inl j22), some (.inl k4), some (.inl v20)] [] h23 Q := by
          intro j22 h23 g27 I24 F25 o26
          refine av_wp_sqF ck_54 2 (pc' := 4) (lv' := [some (.inr (.inr (.inl (some (26))))), some (.inr (.inr (.inl (some (t))))), some (.inl j22), some (.inl (k4 + (1))), some (.inl v20)]) (st' := []) (h' := h23) rfl ?_
          exact I12 _ (by omega) (j22) ((k4 + (1))) (some (.inl v20)) h23 rfl (by omega) (by omega) (by omega) I24 F25 o26 rfl
        refine wq_k1 (p' := 26) (ck_54 _ _ rfl) rfl ⟨by omega, by omega⟩ (fun c29 => ?_) (fun c30 => ?_)
        · have c29 : v20 < (0) := c29
          exact J28 (k3) h6 (by omega) I7 F8 o9
        · have c30 : (0) ≤ v20 := c30
          refine av_wp_sqF ck_54 2 (pc' := 30) (lv' := [some (.inr (.inr (.inl (some (26))))), some (.inr (.inr (.inl (some (t))))), some (.inl k3), some (.inl k4), some (.inl v20)]) (st' := [.inl (16), .inl v20]) (h' := h6) rfl ?_
          refine wq_k2 (p' := 33) (ck_54 _ _ rfl) rfl ⟨by omega, by omega⟩ ⟨by omega, by omega⟩ (fun c31 => ?_) (fun c32 => ?_)
          · have c31 : (16) ≤ v20 := c31
            exact J28 (k3) h6 (by omega) I7 F8 o9
          · have c32 : v20 < (16) := c32
            refine av_wp_sqF ck_54 1 (pc' := 34) (lv' := [some (.inr (.inr (.inl (some (26))))), some (.inr (.inr (.inl (some (t))))), some (.inl k3), some (.inl k4), some (.inl v20)]) (st' := [.inr (.inr (.inl (some (26))))]) (h' := h6) rfl ?_
            refine wq_gr (p' := 37) (ck_54 _ _ rfl) rfl (congrArg Prod.fst (ly_k I7.1 26 rfl)) rfl (ly_g I7.1 26 5 28 rfl) ?_
            refine av_wp_sqF ck_54 2 (pc' := 40) (lv' := [some (.inr (.inr (.inl (some (26))))), some (.inr (.inr (.inl (some (t))))), some (.inl k3), some (.inl k4), some (.inl v20)]) (st' := [.inl (1), .inl v20, .inr (.inr (.inl (some (28))))]) (h' := h6) rfl ?_
            refine ic_zs (p' := 41) (n := 16) rfl rfl I7 (ly_k I7.1 28 rfl) rfl (fun z => by cases z) (by omega) (by omega) (fun h33 I34 F35 => ?_)
            have F36 := Fr1_tr F8 F35
            have o37 := CO_fr I7.1 o9 F35.1
            refine av_wp_sqF ck_54 2 (pc' := 43) (lv' := [some (.inr (.inr (.inl (some (26))))), some (.inr (.inr (.inl (some (t))))), some (.inl (1)), some (.inl k4), some (.inl v20)]) (st' := []) (h' := h33) rfl ?_
            exact J28 ((1)) h33 (by omega) I34 F36 o37
  exact L11 _ ((0)) ((0)) (none) h rfl (by omega) (by omega) (by omega) I F o rfl

set_option maxRecDepth 100000 in
set_option maxHeartbeats 4000000 in
theorem ct_53 {h : av_H} (I : IC h) {t c s : Nat} {cb : Int} (o : CO h t c s cb) (n : Int) (qn : 0 ≤ n ∧ n ≤ 15) {Q : Option av_V → av_H → Prop} (hq : ∀ (v : Int) h', (v = 0 ∨ v = 1) → IC h' → Fr1 h h' → Q (some (.inl v)) h') : av_wp none cd_53 0 [some (.inr (.inr (.inl (some (26))))), some (.inr (.inr (.inl (some (t))))), some (.inl n), none, none, none] [] h Q := by
  have F := Fr1_rf h
  have g1 := co_s12 o
  have g2 := co_cbr o
  refine av_wp_sqF ck_53 2 (pc' := 2) (lv' := [some (.inr (.inr (.inl (some (26))))), some (.inr (.inr (.inl (some (t))))), some (.inl n), some (.inl (0)), none, none]) (st' := []) (h' := h) rfl ?_
  have L9 : ∀ (m8 : Nat) (k3 : Int) (h4 : av_H), (0 ≤ k3 ∧ k3 ≤ 16) → IC h4 → Fr1 h h4 → CO h4 t c s cb → ((16 : Int) - k3).toNat = m8 → av_wp none cd_53 2 [some (.inr (.inr (.inl (some (26))))), some (.inr (.inr (.inl (some (t))))), some (.inl n), some (.inl k3), none, none] [] h4 Q := by
    intro m8
    induction m8 using Nat.strongRecOn with
    | _ m8 I10 =>
      intro k3 h4 g12 I5 F6 o7 e11
      refine av_wp_sqF ck_53 2 (pc' := 5) (lv' := [some (.inr (.inr (.inl (some (26))))), some (.inr (.inr (.inl (some (t))))), some (.inl n), some (.inl k3), none, none]) (st' := [.inl (16), .inl k3]) (h' := h4) rfl ?_
      refine wq_k2 (p' := 8) (ck_53 _ _ rfl) rfl ⟨by omega, by omega⟩ ⟨by omega, by omega⟩ (fun c13 => ?_) (fun c14 => ?_)
      · have c13 : (16) ≤ k3 := c13
        refine av_wp_sqF ck_53 2 (pc' := 23) (lv' := [some (.inr (.inr (.inl (some (26))))), some (.inr (.inr (.inl (some (t))))), some (.inl n), some (.inl k3), none, none]) (st' := [.inr (.inr (.inl (some (t)))), .inr (.inr (.inl (some (26))))]) (h' := h4) rfl ?_
        refine wq_cv (p' := 26) (av_qc (.invokevirtual 112) 54 1 0 3) 5 cd_54 [.inr (.inr (.inl (some (t))))] (26) 3 [some (.inr (.inr (.inl (some (26))))), some (.inr (.inr (.inl (some (t))))), none, none, none] (ck_53 _ _ rfl) rfl rfl pp_54 rfl rfl rfl (congrArg Prod.fst (ly_k I5.1 26 rfl)) rfl rfl rfl rfl ?_
        refine ct_54 I5 o7 (fun v18 h15 p19 I16 F17 => ?_)
        have F20 := Fr1_tr F6 F17
        have o21 := CO_fr I5.1 o7 F17.1
        show av_wp _ cd_53 26 [some (.inr (.inr (.inl (some (26))))), some (.inr (.inr (.inl (some (t))))), some (.inl n), some (.inl k3), none, none] [.inl v18] h15 _
        refine av_wp_sqF ck_53 5 (pc' := 32) (lv' := [some (.inr (.inr (.inl (some (26))))), some (.inr (.inr (.inl (some (t))))), some (.inl n), some (.inl v18), some (.inl (n - (1))), none]) (st' := []) (h' := h15) rfl ?_
        have L29 : ∀ (m28 : Nat) (k22 : Int) (a23 : Option av_V) (h24 : av_H), av_lg a23 = false → (-1 ≤ k22 ∧ k22 ≤ 15) → IC h24 → Fr1 h h24 → CO h24 t c s cb → (k22 + 1).toNat = m28 → av_wp none cd_53 32 [some (.inr (.inr (.inl (some (26))))), some (.inr (.inr (.inl (some (t))))), some (.inl n), some (.inl v18), some (.inl k22), a23] [] h24 Q := by
          intro m28
          induction m28 using Nat.strongRecOn with
          | _ m28 I30 =>
            intro k22 a23 h24 g32 g33 I25 F26 o27 e31
            have la23 := g32
            refine av_wp_sqF ck_53 1 (pc' := 33) (lv' := [some (.inr (.inr (.inl (some (26))))), some (.inr (.inr (.inl (some (t))))), some (.inl n), some (.inl v18), some (.inl k22), a23]) (st' := [.inl v18]) (h' := h24) rfl ?_
            refine wq_k1 (p' := 36) (ck_53 _ _ rfl) rfl ⟨by omega, by omega⟩ (fun c34 => ?_) (fun c35 => ?_)
            · have c34 : v18 = (0) := c34
              refine av_wp_sqF ck_53 1 (pc' := 81) (lv' := [some (.inr (.inr (.inl (some (26))))), some (.inr (.inr (.inl (some (t))))), some (.inl n), some (.inl v18), some (.inl k22), a23]) (st' := [.inl v18]) (h' := h24) rfl ?_
              refine wq_rb rfl (by omega) ?_
              exact hq _ h24 (by omega) I25 F26
            · have c35 : v18 ≠ (0) := c35
              refine av_wp_sqF ck_53 1 (pc' := 38) (lv' := [some (.inr (.inr (.inl (some (26))))), some (.inr (.inr (.inl (some (t))))), some (.inl n), some (.inl v18), some (.inl k22), a23]) (st' := [.inl k22]) (h' := h24) rfl ?_
              refine wq_k1 (p' := 41) (ck_53 _ _ rfl) rfl ⟨by omega, by omega⟩ (fun c36 => ?_) (fun c37 => ?_)
              · have c36 : k22 < (0) := c36
                refine av_wp_sqF ck_53 1 (pc' := 81) (lv' := [some (.inr (.inr (.inl (some (26))))), some (.inr (.inr (.inl (some (t))))), some (.inl n), some (.inl v18), some (.inl k22), a23]) (st' := [.inl v18]) (h' := h24) rfl ?_
                refine wq_rb rfl (by omega) ?_
                exact hq _ h24 (by omega) I25 F26
              · have c37 : (0) ≤ k22 := c37
                refine av_wp_sqF ck_53 1 (pc' := 42) (lv' := [some (.inr (.inr (.inl (some (26))))), some (.inr (.inr (.inl (some (t))))), some (.inl n), some (.inl v18), some (.inl k22), a23]) (st' := [.inr (.inr (.inl (some (26))))]) (h' := h24) rfl ?_
                refine wq_gr (p' := 45) (ck_53 _ _ rfl) rfl (congrArg Prod.fst (ly_k I25.1 26 rfl)) rfl (ly_g I25.1 26 0 3 rfl) ?_
                refine av_wp_sqF ck_53 1 (pc' := 47) (lv' := [some (.inr (.inr (.inl (some (26))))), some (.inr (.inr (.inl (some (t))))), some (.inl n), some (.inl v18), some (.inl k22), a23]) (st' := [.inl k22, .inr (.inr (.inl (some (3))))]) (h' := h24) rfl ?_
                refine wq_cv (p' := 50) (av_qc (.invokevirtual 76) 69 1 0 5) 2 cd_69 [.inl k22] (3) 5 [some (.inr (.inr (.inl (some (3))))), some (.inl k22)] (ck_53 _ _ rfl) rfl rfl pp_69 rfl rfl rfl (congrArg Prod.fst (ly_k I25.1 3 rfl)) rfl rfl rfl rfl ?_
                refine ct_69 I25 (k22) (by omega) ?_ (fun t38 c39 s40 d41 o42 z43 z44 => ?_)
                · show av_wp _ cd_53 50 [some (.inr (.inr (.inl (some (26))))), some (.inr (.inr (.inl (some (t))))), some (.inl n), some (.inl v18), some (.inl k22), a23] [.inr (.inr (.inl none))] h24 _
                  refine av_wp_sqF ck_53 5 (pc' := 32) (lv' := [some (.inr (.inr (.inl (some (26))))), some (.inr (.inr (.inl (some (t))))), some (.inl n), some (.inl v18), some (.inl (k22 + (-1))), some (.inr (.inr (.inl none)))]) (st' := []) (h' := h24) rfl ?_
                  exact I30 _ (by omega) ((k22 + (-1))) (some (.inr (.inr (.inl none)))) h24 rfl (by omega) I25 F26 o27 rfl
                · have g45 := co_s12 o42
                  have g46 := co_cbr o42
                  show av_wp _ cd_53 50 [some (.inr (.inr (.inl (some (26))))), some (.inr (.inr (.inl (some (t))))), some (.inl n), some (.inl v18), some (.inl k22), a23] [.inr (.inr (.inl (some (t38))))] h24 _
                  refine av_wp_sqF ck_53 4 (pc' := 58) (lv' := [some (.inr (.inr (.inl (some (26))))), some (.inr (.inr (.inl (some (t))))), some (.inl n), some (.inl v18), some (.inl k22), some (.inr (.inr (.inl (some (t38)))))]) (st' := [.inr (.inr (.inl (some (26))))]) (h' := h24) rfl ?_
                  refine wq_gr (p' := 61) (ck_53 _ _ rfl) rfl (congrArg Prod.fst (ly_k I25.1 26 rfl)) rfl (ly_g I25.1 26 5 28 rfl) ?_
                  refine av_wp_sqF ck_53 1 (pc' := 63) (lv' := [some (.inr (.inr (.inl (some (26))))), some (.inr (.inr (.inl (some (t))))), some (.inl n), some (.inl v18), some (.inl k22), some (.inr (.inr (.inl (some (t38)))))]) (st' := [.inl k22, .inr (.inr (.inl (some (28))))]) (h' := h24) rfl ?_
                  obtain ⟨v47, e48⟩ : ∃ v, hA h24 (28) (Int.toNat (k22)) = v := ⟨_, rfl⟩
                  refine wq_bl (p' := 64) (n := 16) (ck_53 _ _ rfl) rfl ((Or.inr (ly_k I25.1 28 rfl))) (by omega) (e48) ?_
                  have J55 : ∀  (h50 : av_H), IC h50 → Fr1 h h50 → CO h50 t c s cb → CO h50 t38 c39 s40 d41 →  av_wp none cd_53 74 [some (.inr (.inr (.inl (some (26))))), some (.inr (.inr (.inl (some (t))))), some (.inl n), some (.inl v18), some (.inl k22), some (.inr (.inr (.inl (some (t38)))))] [] h50 Q := by
                    intro h50 I51 F52 o53 o54
                    refine av_wp_sqF ck_53 2 (pc' := 32) (lv' := [some (.inr (.inr (.inl (some (26))))), some (.inr (.inr (.inl (some (t))))), some (.inl n), some (.inl v18), some (.inl (k22 + (-1))), some (.inr (.inr (.inl (some (t38)))))]) (st' := []) (h' := h50) rfl ?_
                    exact I30 _ (by omega) ((k22 + (-1))) (some (.inr (.inr (.inl (some (t38)))))) h50 rfl (by omega) I51 F52 o53 rfl
                  refine wq_c1 (p' := 67) (ck_53 _ _ rfl) rfl ?_ ?_
                  · exact J55 h24 I25 F26 o27 o42
                  · refine av_wp_sqF ck_53 2 (pc' := 70) (lv' := [some (.inr (.inr (.inl (some (26))))), some (.inr (.inr (.inl (some (t))))), some (.inl n), some (.inl v18), some (.inl k22), some (.inr (.inr (.inl (some (t38)))))]) (st' := [.inr (.inr (.inl (some (t38)))), .inr (.inr (.inl (some (26))))]) (h' := h24) rfl ?_
                    refine wq_cv (p' := 73) (av_qc (.invokevirtual 112) 54 1 0 3) 5 cd_54 [.inr (.inr (.inl (some (t38))))] (26) 3 [some (.inr (.inr (.inl (some (26))))), some (.inr (.inr (.inl (some (t38))))), none, none, none] (ck_53 _ _ rfl) rfl rfl pp_54 rfl rfl rfl (congrArg Prod.fst (ly_k I25.1 26 rfl)) rfl rfl rfl rfl ?_
                    refine ct_54 I25 o42 (fun v59 h56 p60 I57 F58 => ?_)
                    have F61 := Fr1_tr F26 F58
                    have o62 := CO_fr I25.1 o27 F58.1
                    have o63 := CO_fr I25.1 o42 F58.1
                    show av_wp _ cd_53 73 [some (.inr (.inr (.inl (some (26))))), some (.inr (.inr (.inl (some (t))))), some (.inl n), some (.inl v18), some (.inl k22), some (.inr (.inr (.inl (some (t38)))))] [.inl v59] h56 _
                    refine av_wp_sqF ck_53 1 (pc' := 74) (lv' := [some (.inr (.inr (.inl (some (26))))), some (.inr (.inr (.inl (some (t))))), some (.inl n), some (.inl v18), some (.inl k22), some (.inr (.inr (.inl (some (t38)))))]) (st' := []) (h' := h56) rfl ?_
                    exact J55 h56 I57 F61 o62 o63
        exact L29 _ ((n - (1))) (none) h15 rfl (by omega) I16 F20 o21 rfl
      · have c14 : k3 < (16) := c14
        refine av_wp_sqF ck_53 1 (pc' := 9) (lv' := [some (.inr (.inr (.inl (some (26))))), some (.inr (.inr (.inl (some (t))))), some (.inl n), some (.inl k3), none, none]) (st' := [.inr (.inr (.inl (some (26))))]) (h' := h4) rfl ?_
        refine wq_gr (p' := 12) (ck_53 _ _ rfl) rfl (congrArg Prod.fst (ly_k I5.1 26 rfl)) rfl (ly_g I5.1 26 5 28 rfl) ?_
        refine av_wp_sqF ck_53 2 (pc' := 14) (lv' := [some (.inr (.inr (.inl (some (26))))), some (.inr (.inr (.inl (some (t))))), some (.inl n), some (.inl k3), none, none]) (st' := [.inl (0), .inl k3, .inr (.inr (.inl (some (28))))]) (h' := h4) rfl ?_
        refine ic_zs (p' := 15) (n := 16) rfl rfl I5 (ly_k I5.1 28 rfl) rfl (fun z => by cases z) (by omega) (by omega) (fun h64 I65 F66 => ?_)
        have F67 := Fr1_tr F6 F66
        have o68 := CO_fr I5.1 o7 F66.1
        refine av_wp_sqF ck_53 2 (pc' := 2) (lv' := [some (.inr (.inr (.inl (some (26))))), some (.inr (.inr (.inl (some (t))))), some (.inl n), some (.inl (k3 + (1))), none, none]) (st' := []) (h' := h64) rfl ?_
        exact I10 _ (by omega) ((k3 + (1))) h64 (by omega) I65 F67 o68 rfl
  exact L9 _ ((0)) h (by omega) I F o rfl

set_option maxRecDepth 100000 in
set_option maxHeartbeats 4000000 in
theorem ct_55 {h : av_H} {b : Nat} {t c s r : Nat} {cb : Int} (i : IB b t c s r cb h) (x : Int) (qx : 0 ≤ x ∧ x ≤ 1023) {Q : Option av_V → av_H → Prop} (hq : ∀ (v : Int) h', (-1 ≤ v ∧ v ≤ 1023) → IB b t c s r cb h' → Fr1 h h' → Q (some (.inl v)) h') : av_wp none cd_55 0 [some (.inr (.inr (.inl (some (b))))), some (.inl x), none, none] [] h Q := by
  have F := Fr1_rf h
  have g1 := co_s12 (ib_co i)
  have g2 := co_cbr (ib_co i)
  refine av_wp_sqF ck_55 4 (pc' := 4) (lv' := [some (.inr (.inr (.inl (some (b))))), some (.inl x), some (.inl x), some (.inl (0))]) (st' := []) (h' := h) rfl ?_
  have L10 : ∀ (m9 : Nat) (k3 : Int) (k4 : Int) (h5 : av_H), (0 ≤ k3 ∧ k3 ≤ 1024) → (0 ≤ k4 ∧ k4 ≤ 1024) → IC h5 → Fr1 h h5 → IB b t c s r cb h5 → (1024 - k4).toNat = m9 → av_wp none cd_55 4 [some (.inr (.inr (.inl (some (b))))), some (.inl x), some (.inl k3), some (.inl k4)] [] h5 Q := by
    intro m9
    induction m9 using Nat.strongRecOn with
    | _ m9 I11 =>
      intro k3 k4 h5 g13 g14 I6 F7 i8 e12
      refine av_wp_sqF ck_55 2 (pc' := 6) (lv' := [some (.inr (.inr (.inl (some (b))))), some (.inl x), some (.inl k3), some (.inl k4)]) (st' := [.inr (.inr (.inl (some (b)))), .inl k4]) (h' := h5) rfl ?_
      refine wq_gr (p' := 9) (ck_55 _ _ rfl) rfl (congrArg Prod.fst (bn_k0 I6.1 (ib_bn i))) rfl (ib_t i8) ?_
      refine wq_gi (p' := 12) (ck_55 _ _ rfl) rfl (congrArg Prod.fst (co_kt (ib_co i8))) rfl (co_cb (ib_co i8)) ?_
      refine wq_k2 (p' := 15) (ck_55 _ _ rfl) rfl ⟨by omega, by omega⟩ ⟨by omega, by omega⟩ (fun c15 => ?_) (fun c16 => ?_)
      · have c15 : cb ≤ k4 := c15
        refine av_wp_sqF ck_55 1 (pc' := 56) (lv' := [some (.inr (.inr (.inl (some (b))))), some (.inl x), some (.inl k3), some (.inl k4)]) (st' := [.inl (-1)]) (h' := h5) rfl ?_
        refine av_wp_ret (v := some (.inl (-1))) (ck_55 _ _ rfl) rfl rfl ?_
        exact hq _ h5 (by omega) i8 F7
      · have c16 : k4 < cb := c16
        refine av_wp_sqF ck_55 1 (pc' := 16) (lv' := [some (.inr (.inr (.inl (some (b))))), some (.inl x), some (.inl k3), some (.inl k4)]) (st' := [.inl k3]) (h' := h5) rfl ?_
        refine wq_k1 (p' := 19) (ck_55 _ _ rfl) rfl ⟨by omega, by omega⟩ (fun c17 => ?_) (fun c18 => ?_)
        · have c17 : k3 < (0) := c17
          exfalso; omega
        · have c18 : (0) ≤ k3 := c18
          refine av_wp_sqF ck_55 2 (pc' := 21) (lv' := [some (.inr (.inr (.inl (some (b))))), some (.inl x), some (.inl k3), some (.inl k4)]) (st' := [.inr (.inr (.inl (some (b)))), .inl k3]) (h' := h5) rfl ?_
          refine wq_gr (p' := 24) (ck_55 _ _ rfl) rfl (congrArg Prod.fst (bn_k0 I6.1 (ib_bn i))) rfl (ib_t i8) ?_
          refine wq_gi (p' := 27) (ck_55 _ _ rfl) rfl (congrArg Prod.fst (co_kt (ib_co i8))) rfl (co_cb (ib_co i8)) ?_
          have J21 : ∀ (j19 : Int), (0 ≤ j19 ∧ j19 ≤ 1023) →  av_wp none cd_55 35 [some (.inr (.inr (.inl (some (b))))), some (.inl x), some (.inl k3), some (.inl k4)] [.inl j19] h5 Q := by
            intro j19 g20
            refine av_wp_sqF ck_55 3 (pc' := 38) (lv' := [some (.inr (.inr (.inl (some (b))))), some (.inl x), some (.inl j19), some (.inl k4)]) (st' := [.inl j19, .inr (.inr (.inl (some (b))))]) (h' := h5) rfl ?_
            refine wq_cv (p' := 41) (av_qc (.invokevirtual 89) 2 1 0 0) 2 cd_2 [.inl j19] (b) 0 [some (.inr (.inr (.inl (some (b))))), some (.inl j19)] (ck_55 _ _ rfl) rfl rfl pp_2 rfl rfl rfl (congrArg Prod.fst (bn_k0 I6.1 (ib_bn i))) rfl rfl rfl rfl ?_
            refine ct_2 i8 (Fr1_rf h5) (j19)  (fun v22 h24 p23 i25 F26 => ?_)
            have F27 := Fr1_tr F7 F26
            have o28 := CO_fr I6.1 (ib_co i8) F26.1
            show av_wp _ cd_55 41 [some (.inr (.inr (.inl (some (b))))), some (.inl x), some (.inl j19), some (.inl k4)] [.inl v22] h24 _
            refine wq_k1 (p' := 44) (ck_55 _ _ rfl) rfl ⟨by omega, by omega⟩ (fun c29 => ?_) (fun c30 => ?_)
            · have c29 : v22 ≠ (0) := c29
              refine av_wp_sqF ck_55 3 (pc' := 4) (lv' := [some (.inr (.inr (.inl (some (b))))), some (.inl x), some (.inl (j19 + (1))), some (.inl (k4 + (1)))]) (st' := []) (h' := h24) rfl ?_
              exact I11 _ (by omega) ((j19 + (1))) ((k4 + (1))) h24 (by omega) (by omega) (ib_ic i25) F27 i25 rfl
            · have c30 : v22 = (0) := c30
              refine av_wp_sqF ck_55 1 (pc' := 45) (lv' := [some (.inr (.inr (.inl (some (b))))), some (.inl x), some (.inl j19), some (.inl k4)]) (st' := [.inl j19]) (h' := h24) rfl ?_
              refine av_wp_ret (v := some (.inl j19)) (ck_55 _ _ rfl) rfl rfl ?_
              exact hq _ h24 (by omega) i25 F27
          refine wq_k2 (p' := 30) (ck_55 _ _ rfl) rfl ⟨by omega, by omega⟩ ⟨by omega, by omega⟩ (fun c31 => ?_) (fun c32 => ?_)
          · have c31 : cb ≤ k3 := c31
            refine av_wp_sqF ck_55 1 (pc' := 35) (lv' := [some (.inr (.inr (.inl (some (b))))), some (.inl x), some (.inl k3), some (.inl k4)]) (st' := [.inl (0)]) (h' := h5) rfl ?_
            exact J21 ((0)) (by omega)
          · have c32 : k3 < cb := c32
            refine av_wp_sqF ck_55 2 (pc' := 35) (lv' := [some (.inr (.inr (.inl (some (b))))), some (.inl x), some (.inl k3), some (.inl k4)]) (st' := [.inl k3]) (h' := h5) rfl ?_
            exact J21 (k3) (by omega)
  exact L10 _ (x) ((0)) h (by omega) (by omega) (ib_ic i) F i rfl

set_option maxRecDepth 100000 in
set_option maxHeartbeats 4000000 in
theorem ct_1 {h : av_H} (I : IC h) {b : Nat} (hb : bn b) {t c s r : Nat} {cb : Int} (co : CO h t c s cb) (kr : hK h r = (20, 14)) (k2 : rwc r = true) (y : Int) (qy : 0 ≤ y ∧ y ≤ 128) {Q : Option av_V → av_H → Prop} (hq : ∀ h', IB b t c s r cb h' → FX b h h' → Q none h') : av_wp none cd_1 0 [some (.inr (.inr (.inl (some (b))))), some (.inr (.inr (.inl (some (t))))), some (.inr (.inr (.inl (some (r))))), some (.inr (.inr (.inl (some (27))))), some (.inl y), none, none, none, none] [] h Q := by
  have s12 := co_s12 co
  have cbr := co_cbr co
  refine av_wp_sqF ck_1 2 (pc' := 2) (lv' := [some (.inr (.inr (.inl (some (b))))), some (.inr (.inr (.inl (some (t))))), some (.inr (.inr (.inl (some (r))))), some (.inr (.inr (.inl (some (27))))), some (.inl y), none, none, none, none]) (st' := [.inr (.inr (.inl (some t))), .inr (.inr (.inl (some b)))]) (h' := h) rfl ?_
  refine ic_pt (p' := 5) rfl rfl I hb co (fun h1 I1 F1 e1 => ?_)
  refine av_wp_sqF ck_1 2 (pc' := 7) (lv' := [some (.inr (.inr (.inl (some (b))))), some (.inr (.inr (.inl (some (t))))), some (.inr (.inr (.inl (some (r))))), some (.inr (.inr (.inl (some (27))))), some (.inl y), none, none, none, none]) (st' := [.inr (.inr (.inl (some r))), .inr (.inr (.inl (some b)))]) (h' := h1) rfl ?_
  refine ic_pu (p' := 10) rfl rfl I1 hb (by rw [F1.1.2.2.1]; exact kr) k2 e1 (fun h2 I2 F2 e2 e3 => ?_)
  have i2 : IB b t c s r cb h2 := ⟨I2, hb, CO_fr I1.1 (CO_fr I.1 co F1.1) F2.1, e2, e3, by rw [F2.1.2.2.1, F1.1.2.2.1]; exact kr, k2⟩
  have F3 := FX_tr F1 F2
  have hq' : ∀ h', IB b t c s r cb h' → Fr1 h2 h' → Q none h' := fun h' i' f' => hq h' i' (FX_1 F3 f')
  refine av_wp_sqF ck_1 1 (pc' := 11) (lv' := [some (.inr (.inr (.inl (some (b))))), some (.inr (.inr (.inl (some (t))))), some (.inr (.inr (.inl (some (r))))), some (.inr (.inr (.inl (some (27))))), some (.inl y), none, none, none, none]) (st' := [.inr (.inr (.inl (some b)))]) (h' := h2) rfl ?_
  refine wq_gr (p' := 14) (ck_1 _ _ rfl) rfl (congrArg Prod.fst (ib_k0 i2)) rfl (ib_g i2 1 rfl) ?_
  refine av_wp_sqF ck_1 1 (pc' := 15) (lv' := [some (.inr (.inr (.inl (some (b))))), some (.inr (.inr (.inl (some (t))))), some (.inr (.inr (.inl (some (r))))), some (.inr (.inr (.inl (some (27))))), some (.inl y), none, none, none, none]) (st' := [.inl (-1), .inr (.inr (.inl (some (b + 1 + 1))))]) (h' := h2) rfl ?_
  refine wq_cs (p' := 18) (av_qc (.invokestatic 63) 220 2 2 10) 4 cd_220 [.inr (.inr (.inl (some (b + 1 + 1)))), .inl (-1)] [.inl (-1), .inr (.inr (.inl (some (b + 1 + 1))))] [some (.inr (.inr (.inl (some (b + 1 + 1))))), some (.inl (-1)), none, none] (ck_1 _ _ rfl) rfl rfl pp_220 (fun _ => rfl) rfl rfl ?_
  refine ct_220 (n := 12) (ib_k i2 1 rfl) (by omega) ?_
  obtain ⟨I4, F4⟩ := IC_fil (a := b + 1 + 1) (lo := 0) (hi := 12) (v := (-1)) I2 (sA_bn hb 1 rfl) (fun z => by rw [rwc_bn hb 1 rfl] at z; cases z) (by omega)
  have i := ib_f1 i2 I4 F4
  have F := F4
  generalize hfil h2 (b + 1 + 1) 0 12 (-1) = h4 at i F ⊢
  show av_wp _ cd_1 18 [some (.inr (.inr (.inl (some (b))))), some (.inr (.inr (.inl (some (t))))), some (.inr (.inr (.inl (some (r))))), some (.inr (.inr (.inl (some (27))))), some (.inl y), none, none, none, none] [] h4 _
  refine av_wp_sqF ck_1 2 (pc' := 21) (lv' := [some (.inr (.inr (.inl (some (b))))), some (.inr (.inr (.inl (some (t))))), some (.inr (.inr (.inl (some (r))))), some (.inr (.inr (.inl (some (27))))), some (.inl y), some (.inl (0)), none, none, none]) (st' := []) (h' := h4) rfl ?_
  have L109 : ∀ (m108 : Nat) (k101 : Int) (a102 : Option av_V) (a103 : Option av_V) (a104 : Option av_V) (h105 : av_H), av_lg a102 = false → av_lg a103 = false → av_lg a104 = false → k101 ≤ (s : Int) → (0 ≤ k101 ∧ k101 ≤ 12) → IB b t c s r cb h105 → Fr1 h2 h105 → ((s : Int) - k101).toNat = m108 → av_wp none cd_1 21 [some (.inr (.inr (.inl (some (b))))), some (.inr (.inr (.inl (some (t))))), some (.inr (.inr (.inl (some (r))))), some (.inr (.inr (.inl (some (27))))), some (.inl y), some (.inl k101), a102, a103, a104] [] h105 Q := by
    intro m108
    induction m108 using Nat.strongRecOn with
    | _ m108 I110 =>
      intro k101 a102 a103 a104 h105 g112 g113 g114 g115 g116 i106 F107 e111
      have la102 := g112
      have la103 := g113
      have la104 := g114
      refine av_wp_sqF ck_1 2 (pc' := 24) (lv' := [some (.inr (.inr (.inl (some (b))))), some (.inr (.inr (.inl (some (t))))), some (.inr (.inr (.inl (some (r))))), some (.inr (.inr (.inl (some (27))))), some (.inl y), some (.inl k101), a102, a103, a104]) (st' := [.inr (.inr (.inl (some (b)))), .inl k101]) (h' := h105) rfl ?_
      refine wq_gr (p' := 27) (ck_1 _ _ rfl) rfl (congrArg Prod.fst (ib_k0 i106)) rfl (ib_t i106) ?_
      refine wq_gi (p' := 30) (ck_1 _ _ rfl) rfl (congrArg Prod.fst (co_kt (ib_co i106))) rfl (co_s (ib_co i106)) ?_
      refine wq_k2 (p' := 33) (ck_1 _ _ rfl) rfl ⟨by omega, by omega⟩ ⟨by omega, by omega⟩ (fun c117 => ?_) (fun c118 => ?_)
      · have c117 : (s : Int) ≤ k101 := c117
        refine av_wp_ret (v := none) (ck_1 _ _ rfl) rfl rfl ?_
        exact hq' h105 i106 F107
      · have c118 : k101 < (s : Int) := c118
        refine av_wp_sqF ck_1 1 (pc' := 34) (lv' := [some (.inr (.inr (.inl (some (b))))), some (.inr (.inr (.inl (some (t))))), some (.inr (.inr (.inl (some (r))))), some (.inr (.inr (.inl (some (27))))), some (.inl y), some (.inl k101), a102, a103, a104]) (st' := [.inr (.inr (.inl (some (b))))]) (h' := h105) rfl ?_
        refine wq_gr (p' := 37) (ck_1 _ _ rfl) rfl (congrArg Prod.fst (ib_k0 i106)) rfl (ib_t i106) ?_
        refine av_wp_sqF ck_1 2 (pc' := 40) (lv' := [some (.inr (.inr (.inl (some (b))))), some (.inr (.inr (.inl (some (t))))), some (.inr (.inr (.inl (some (r))))), some (.inr (.inr (.inl (some (27))))), some (.inl y), some (.inl k101), a102, a103, a104]) (st' := [.inl (0), .inl k101, .inr (.inr (.inl (some (t))))]) (h' := h105) rfl ?_
        refine wq_cv (p' := 43) (av_qc (.invokevirtual 74) 29 2 0 1) 3 cd_29 [.inl (0), .inl k101] (t) 1 [some (.inr (.inr (.inl (some (t))))), some (.inl k101), some (.inl (0))] (ck_1 _ _ rfl) rfl rfl pp_29 rfl rfl rfl (congrArg Prod.fst (co_kt (ib_co i106))) rfl rfl rfl rfl ?_
        refine ct_29 (ib_co i106) (k101) ((0)) (by omega) (by omega) (fun v119 p120 => ?_)
        show av_wp _ cd_1 43 [some (.inr (.inr (.inl (some (b))))), some (.inr (.inr (.inl (some (t))))), some (.inr (.inr (.inl (some (r))))), some (.inr (.inr (.inl (some (27))))), some (.inl y), some (.inl k101), a102, a103, a104] [.inl v119] h105 _
        refine av_wp_sqF ck_1 3 (pc' := 48) (lv' := [some (.inr (.inr (.inl (some (b))))), some (.inr (.inr (.inl (some (t))))), some (.inr (.inr (.inl (some (r))))), some (.inr (.inr (.inl (some (27))))), some (.inl y), some (.inl k101), some (.inl v119), a103, a104]) (st' := [.inl (3), .inl v119]) (h' := h105) rfl ?_
        have J123 : ∀ (j121 : Int), (0 ≤ j121 ∧ j121 ≤ 1) →  av_wp none cd_1 79 [some (.inr (.inr (.inl (some (b))))), some (.inr (.inr (.inl (some (t))))), some (.inr (.inr (.inl (some (r))))), some (.inr (.inr (.inl (some (27))))), some (.inl y), some (.inl k101), some (.inl v119), a103, a104] [.inl j121] h105 Q := by
          intro j121 g122
          refine av_wp_sqF ck_1 2 (pc' := 82) (lv' := [some (.inr (.inr (.inl (some (b))))), some (.inr (.inr (.inl (some (t))))), some (.inr (.inr (.inl (some (r))))), some (.inr (.inr (.inl (some (27))))), some (.inl y), some (.inl k101), some (.inl v119), some (.inl j121), a104]) (st' := [.inr (.inr (.inl (some (b))))]) (h' := h105) rfl ?_
          refine wq_gr (p' := 85) (ck_1 _ _ rfl) rfl (congrArg Prod.fst (ib_k0 i106)) rfl (ib_g i106 2 rfl) ?_
          refine av_wp_sqF ck_1 2 (pc' := 89) (lv' := [some (.inr (.inr (.inl (some (b))))), some (.inr (.inr (.inl (some (t))))), some (.inr (.inr (.inl (some (r))))), some (.inr (.inr (.inl (some (27))))), some (.inl y), some (.inl k101), some (.inl v119), some (.inl j121), a104]) (st' := [.inl v119, .inl k101, .inr (.inr (.inl (some (b + 1 + 2))))]) (h' := h105) rfl ?_
          have J126 : ∀ (j124 : Int), (0 ≤ j124 ∧ j124 ≤ 1) →  av_wp none cd_1 108 [some (.inr (.inr (.inl (some (b))))), some (.inr (.inr (.inl (some (t))))), some (.inr (.inr (.inl (some (r))))), some (.inr (.inr (.inl (some (27))))), some (.inl y), some (.inl k101), some (.inl v119), some (.inl j121), a104] [.inl j124, .inl k101, .inr (.inr (.inl (some (b + 1 + 2))))] h105 Q := by
            intro j124 g125
            refine ib_zs (p' := 109) (n := 12) rfl rfl i106 F107 2 rfl rfl (by omega) (by omega) (fun h127 i128 F129 => ?_)
            refine av_wp_sqF ck_1 1 (pc' := 110) (lv' := [some (.inr (.inr (.inl (some (b))))), some (.inr (.inr (.inl (some (t))))), some (.inr (.inr (.inl (some (r))))), some (.inr (.inr (.inl (some (27))))), some (.inl y), some (.inl k101), some (.inl v119), some (.inl j121), a104]) (st' := [.inr (.inr (.inl (some (b))))]) (h' := h127) rfl ?_
            refine wq_gr (p' := 113) (ck_1 _ _ rfl) rfl (congrArg Prod.fst (ib_k0 i128)) rfl (ib_g i128 3 rfl) ?_
            refine av_wp_sqF ck_1 3 (pc' := 118) (lv' := [some (.inr (.inr (.inl (some (b))))), some (.inr (.inr (.inl (some (t))))), some (.inr (.inr (.inl (some (r))))), some (.inr (.inr (.inl (some (27))))), some (.inl y), some (.inl k101), some (.inl v119), some (.inl j121), a104]) (st' := [.inl (2), .inl v119, .inl k101, .inr (.inr (.inl (some (b + 1 + 3))))]) (h' := h127) rfl ?_
            have J132 : ∀ (j130 : Int), (0 ≤ j130 ∧ j130 ≤ 1) →  av_wp none cd_1 149 [some (.inr (.inr (.inl (some (b))))), some (.inr (.inr (.inl (some (t))))), some (.inr (.inr (.inl (some (r))))), some (.inr (.inr (.inl (some (27))))), some (.inl y), some (.inl k101), some (.inl v119), some (.inl j121), a104] [.inl j130, .inl k101, .inr (.inr (.inl (some (b + 1 + 3))))] h127 Q := by
              intro j130 g131
              refine ib_zs (p' := 150) (n := 12) rfl rfl i128 F129 3 rfl rfl (by omega) (by omega) (fun h133 i134 F135 => ?_)
              refine av_wp_sqF ck_1 1 (pc' := 151) (lv' := [some (.inr (.inr (.inl (some (b))))), some (.inr (.inr (.inl (some (t))))), some (.inr (.inr (.inl (some (r))))), some (.inr (.inr (.inl (some (27))))), some (.inl y), some (.inl k101), some (.inl v119), some (.inl j121), a104]) (st' := [.inr (.inr (.inl (some (b))))]) (h' := h133) rfl ?_
              refine wq_gr (p' := 154) (ck_1 _ _ rfl) rfl (congrArg Prod.fst (ib_k0 i134)) rfl (ib_t i134) ?_
              refine av_wp_sqF ck_1 2 (pc' := 158) (lv' := [some (.inr (.inr (.inl (some (b))))), some (.inr (.inr (.inl (some (t))))), some (.inr (.inr (.inl (some (r))))), some (.inr (.inr (.inl (some (27))))), some (.inl y), some (.inl k101), some (.inl v119), some (.inl j121), a104]) (st' := [.inl (6), .inl k101, .inr (.inr (.inl (some (t))))]) (h' := h133) rfl ?_
              refine wq_cv (p' := 161) (av_qc (.invokevirtual 74) 29 2 0 1) 3 cd_29 [.inl (6), .inl k101] (t) 1 [some (.inr (.inr (.inl (some (t))))), some (.inl k101), some (.inl (6))] (ck_1 _ _ rfl) rfl rfl pp_29 rfl rfl rfl (congrArg Prod.fst (co_kt (ib_co i134))) rfl rfl rfl rfl ?_
              refine ct_29 (ib_co i134) (k101) ((6)) (by omega) (by omega) (fun v136 p137 => ?_)
              show av_wp _ cd_1 161 [some (.inr (.inr (.inl (some (b))))), some (.inr (.inr (.inl (some (t))))), some (.inr (.inr (.inl (some (r))))), some (.inr (.inr (.inl (some (27))))), some (.inl y), some (.inl k101), some (.inl v119), some (.inl j121), a104] [.inl v136] h133 _
              refine av_wp_sqF ck_1 2 (pc' := 164) (lv' := [some (.inr (.inr (.inl (some (b))))), some (.inr (.inr (.inl (some (t))))), some (.inr (.inr (.inl (some (r))))), some (.inr (.inr (.inl (some (27))))), some (.inl y), some (.inl k101), some (.inl v119), some (.inl j121), some (.inl v136)]) (st' := [.inr (.inr (.inl (some (b))))]) (h' := h133) rfl ?_
              refine wq_gr (p' := 167) (ck_1 _ _ rfl) rfl (congrArg Prod.fst (ib_k0 i134)) rfl (ib_g i134 4 rfl) ?_
              refine av_wp_sqF ck_1 2 (pc' := 171) (lv' := [some (.inr (.inr (.inl (some (b))))), some (.inr (.inr (.inl (some (t))))), some (.inr (.inr (.inl (some (r))))), some (.inr (.inr (.inl (some (27))))), some (.inl y), some (.inl k101), some (.inl v119), some (.inl j121), some (.inl v136)]) (st' := [.inl v136, .inl k101, .inr (.inr (.inl (some (b + 1 + 4))))]) (h' := h133) rfl ?_
              have J140 : ∀ (j138 : Int), (0 ≤ j138 ∧ j138 ≤ 1) →  av_wp none cd_1 197 [some (.inr (.inr (.inl (some (b))))), some (.inr (.inr (.inl (some (t))))), some (.inr (.inr (.inl (some (r))))), some (.inr (.inr (.inl (some (27))))), some (.inl y), some (.inl k101), some (.inl v119), some (.inl j121), some (.inl v136)] [.inl j138, .inl k101, .inr (.inr (.inl (some (b + 1 + 4))))] h133 Q := by
                intro j138 g139
                refine ib_zs (p' := 198) (n := 12) rfl rfl i134 F135 4 rfl rfl (by omega) (by omega) (fun h141 i142 F143 => ?_)
                refine av_wp_sqF ck_1 2 (pc' := 21) (lv' := [some (.inr (.inr (.inl (some (b))))), some (.inr (.inr (.inl (some (t))))), some (.inr (.inr (.inl (some (r))))), some (.inr (.inr (.inl (some (27))))), some (.inl y), some (.inl (k101 + (1))), some (.inl v119), some (.inl j121), some (.inl v136)]) (st' := []) (h' := h141) rfl ?_
                exact I110 _ (by omega) ((k101 + (1))) (some (.inl v119)) (some (.inl j121)) (some (.inl v136)) h141 rfl rfl rfl (by omega) (by omega) i142 F143 rfl
              refine wq_k1 (p' := 174) (ck_1 _ _ rfl) rfl ⟨by omega, by omega⟩ (fun c144 => ?_) (fun c145 => ?_)
              · have c144 : v136 < (0) := c144
                refine av_wp_sqF ck_1 1 (pc' := 197) (lv' := [some (.inr (.inr (.inl (some (b))))), some (.inr (.inr (.inl (some (t))))), some (.inr (.inr (.inl (some (r))))), some (.inr (.inr (.inl (some (27))))), some (.inl y), some (.inl k101), some (.inl v119), some (.inl j121), some (.inl v136)]) (st' := [.inl (0), .inl k101, .inr (.inr (.inl (some (b + 1 + 4))))]) (h' := h133) rfl ?_
                exact J140 ((0)) (by omega)
              · have c145 : (0) ≤ v136 := c145
                refine av_wp_sqF ck_1 2 (pc' := 178) (lv' := [some (.inr (.inr (.inl (some (b))))), some (.inr (.inr (.inl (some (t))))), some (.inr (.inr (.inl (some (r))))), some (.inr (.inr (.inl (some (27))))), some (.inl y), some (.inl k101), some (.inl v119), some (.inl j121), some (.inl v136)]) (st' := [.inl (16), .inl v136, .inl k101, .inr (.inr (.inl (some (b + 1 + 4))))]) (h' := h133) rfl ?_
                refine wq_k2 (p' := 181) (ck_1 _ _ rfl) rfl ⟨by omega, by omega⟩ ⟨by omega, by omega⟩ (fun c146 => ?_) (fun c147 => ?_)
                · have c146 : (16) ≤ v136 := c146
                  refine av_wp_sqF ck_1 1 (pc' := 197) (lv' := [some (.inr (.inr (.inl (some (b))))), some (.inr (.inr (.inl (some (t))))), some (.inr (.inr (.inl (some (r))))), some (.inr (.inr (.inl (some (27))))), some (.inl y), some (.inl k101), some (.inl v119), some (.inl j121), some (.inl v136)]) (st' := [.inl (0), .inl k101, .inr (.inr (.inl (some (b + 1 + 4))))]) (h' := h133) rfl ?_
                  exact J140 ((0)) (by omega)
                · have c147 : v136 < (16) := c147
                  refine av_wp_sqF ck_1 4 (pc' := 187) (lv' := [some (.inr (.inr (.inl (some (b))))), some (.inr (.inr (.inl (some (t))))), some (.inr (.inr (.inl (some (r))))), some (.inr (.inr (.inl (some (27))))), some (.inl y), some (.inl k101), some (.inl v119), some (.inl j121), some (.inl v136)]) (st' := [.inl (y + v136), .inr (.inr (.inl (some (27)))), .inl k101, .inr (.inr (.inl (some (b + 1 + 4))))]) (h' := h133) rfl ?_
                  obtain ⟨v148, e149⟩ : ∃ v, hA h133 (27) (Int.toNat ((y + v136))) = v := ⟨_, rfl⟩
                  refine wq_al (p' := 188) (n := 144) (ck_1 _ _ rfl) rfl (ly_k (ib_ic i134).1 27 rfl) (by omega) (e149) ?_
                  refine av_wp_sqF ck_1 1 (pc' := 189) (lv' := [some (.inr (.inr (.inl (some (b))))), some (.inr (.inr (.inl (some (t))))), some (.inr (.inr (.inl (some (r))))), some (.inr (.inr (.inl (some (27))))), some (.inl y), some (.inl k101), some (.inl v119), some (.inl j121), some (.inl v136)]) (st' := [.inl (2), .inl v148, .inl k101, .inr (.inr (.inl (some (b + 1 + 4))))]) (h' := h133) rfl ?_
                  refine wq_c2 (p' := 192) (ck_1 _ _ rfl) rfl ?_ ?_
                  · refine av_wp_sqF ck_1 1 (pc' := 197) (lv' := [some (.inr (.inr (.inl (some (b))))), some (.inr (.inr (.inl (some (t))))), some (.inr (.inr (.inl (some (r))))), some (.inr (.inr (.inl (some (27))))), some (.inl y), some (.inl k101), some (.inl v119), some (.inl j121), some (.inl v136)]) (st' := [.inl (0), .inl k101, .inr (.inr (.inl (some (b + 1 + 4))))]) (h' := h133) rfl ?_
                    exact J140 ((0)) (by omega)
                  · refine av_wp_sqF ck_1 2 (pc' := 197) (lv' := [some (.inr (.inr (.inl (some (b))))), some (.inr (.inr (.inl (some (t))))), some (.inr (.inr (.inl (some (r))))), some (.inr (.inr (.inl (some (27))))), some (.inl y), some (.inl k101), some (.inl v119), some (.inl j121), some (.inl v136)]) (st' := [.inl (1), .inl k101, .inr (.inr (.inl (some (b + 1 + 4))))]) (h' := h133) rfl ?_
                    exact J140 ((1)) (by omega)
            refine wq_k2 (p' := 121) (ck_1 _ _ rfl) rfl ⟨by omega, by omega⟩ ⟨by omega, by omega⟩ (fun c151 => ?_) (fun c152 => ?_)
            · have c151 : v119 = (2) := c151
              refine av_wp_sqF ck_1 2 (pc' := 149) (lv' := [some (.inr (.inr (.inl (some (b))))), some (.inr (.inr (.inl (some (t))))), some (.inr (.inr (.inl (some (r))))), some (.inr (.inr (.inl (some (27))))), some (.inl y), some (.inl k101), some (.inl v119), some (.inl j121), a104]) (st' := [.inl (1), .inl k101, .inr (.inr (.inl (some (b + 1 + 3))))]) (h' := h127) rfl ?_
              exact J132 ((1)) (by omega)
            · have c152 : v119 ≠ (2) := c152
              refine av_wp_sqF ck_1 1 (pc' := 123) (lv' := [some (.inr (.inr (.inl (some (b))))), some (.inr (.inr (.inl (some (t))))), some (.inr (.inr (.inl (some (r))))), some (.inr (.inr (.inl (some (27))))), some (.inl y), some (.inl k101), some (.inl v119), some (.inl j121), a104]) (st' := [.inl j121, .inl k101, .inr (.inr (.inl (some (b + 1 + 3))))]) (h' := h127) rfl ?_
              refine wq_k1 (p' := 126) (ck_1 _ _ rfl) rfl ⟨by omega, by omega⟩ (fun c153 => ?_) (fun c154 => ?_)
              · have c153 : j121 ≠ (0) := c153
                refine av_wp_sqF ck_1 2 (pc' := 149) (lv' := [some (.inr (.inr (.inl (some (b))))), some (.inr (.inr (.inl (some (t))))), some (.inr (.inr (.inl (some (r))))), some (.inr (.inr (.inl (some (27))))), some (.inl y), some (.inl k101), some (.inl v119), some (.inl j121), a104]) (st' := [.inl (1), .inl k101, .inr (.inr (.inl (some (b + 1 + 3))))]) (h' := h127) rfl ?_
                exact J132 ((1)) (by omega)
              · have c154 : j121 = (0) := c154
                refine av_wp_sqF ck_1 2 (pc' := 130) (lv' := [some (.inr (.inr (.inl (some (b))))), some (.inr (.inr (.inl (some (t))))), some (.inr (.inr (.inl (some (r))))), some (.inr (.inr (.inl (some (27))))), some (.inl y), some (.inl k101), some (.inl v119), some (.inl j121), a104]) (st' := [.inl (6), .inl v119, .inl k101, .inr (.inr (.inl (some (b + 1 + 3))))]) (h' := h127) rfl ?_
                refine wq_k2 (p' := 133) (ck_1 _ _ rfl) rfl ⟨by omega, by omega⟩ ⟨by omega, by omega⟩ (fun c155 => ?_) (fun c156 => ?_)
                · have c155 : v119 ≠ (6) := c155
                  refine av_wp_sqF ck_1 1 (pc' := 149) (lv' := [some (.inr (.inr (.inl (some (b))))), some (.inr (.inr (.inl (some (t))))), some (.inr (.inr (.inl (some (r))))), some (.inr (.inr (.inl (some (27))))), some (.inl y), some (.inl k101), some (.inl v119), some (.inl j121), a104]) (st' := [.inl (0), .inl k101, .inr (.inr (.inl (some (b + 1 + 3))))]) (h' := h127) rfl ?_
                  exact J132 ((0)) (by omega)
                · have c156 : v119 = (6) := c156
                  refine av_wp_sqF ck_1 1 (pc' := 134) (lv' := [some (.inr (.inr (.inl (some (b))))), some (.inr (.inr (.inl (some (t))))), some (.inr (.inr (.inl (some (r))))), some (.inr (.inr (.inl (some (27))))), some (.inl y), some (.inl k101), some (.inl v119), some (.inl j121), a104]) (st' := [.inr (.inr (.inl (some (b)))), .inl k101, .inr (.inr (.inl (some (b + 1 + 3))))]) (h' := h127) rfl ?_
                  refine wq_gr (p' := 137) (ck_1 _ _ rfl) rfl (congrArg Prod.fst (ib_k0 i128)) rfl (ib_r i128) ?_
                  refine av_wp_sqF ck_1 1 (pc' := 139) (lv' := [some (.inr (.inr (.inl (some (b))))), some (.inr (.inr (.inl (some (t))))), some (.inr (.inr (.inl (some (r))))), some (.inr (.inr (.inl (some (27))))), some (.inl y), some (.inl k101), some (.inl v119), some (.inl j121), a104]) (st' := [.inl (11), .inr (.inr (.inl (some (r)))), .inl k101, .inr (.inr (.inl (some (b + 1 + 3))))]) (h' := h127) rfl ?_
                  obtain ⟨v157, e158⟩ : ∃ v, hA h127 (r) (Int.toNat ((11))) = v := ⟨_, rfl⟩
                  have g159 := ib_rv i128 (Int.toNat ((11)))
                  rw [e158] at g159
                  refine wq_al (p' := 140) (n := 14) (ck_1 _ _ rfl) rfl (ib_kr i128) (by omega) (e158) ?_
                  refine av_wp_sqF ck_1 1 (pc' := 141) (lv' := [some (.inr (.inr (.inl (some (b))))), some (.inr (.inr (.inl (some (t))))), some (.inr (.inr (.inl (some (r))))), some (.inr (.inr (.inl (some (27))))), some (.inl y), some (.inl k101), some (.inl v119), some (.inl j121), a104]) (st' := [.inl (1), .inl v157, .inl k101, .inr (.inr (.inl (some (b + 1 + 3))))]) (h' := h127) rfl ?_
                  refine wq_k2 (p' := 144) (ck_1 _ _ rfl) rfl ⟨by omega, by omega⟩ ⟨by omega, by omega⟩ (fun c160 => ?_) (fun c161 => ?_)
                  · have c160 : v157 ≠ (1) := c160
                    refine av_wp_sqF ck_1 1 (pc' := 149) (lv' := [some (.inr (.inr (.inl (some (b))))), some (.inr (.inr (.inl (some (t))))), some (.inr (.inr (.inl (some (r))))), some (.inr (.inr (.inl (some (27))))), some (.inl y), some (.inl k101), some (.inl v119), some (.inl j121), a104]) (st' := [.inl (0), .inl k101, .inr (.inr (.inl (some (b + 1 + 3))))]) (h' := h127) rfl ?_
                    exact J132 ((0)) (by omega)
                  · have c161 : v157 = (1) := c161
                    refine av_wp_sqF ck_1 2 (pc' := 149) (lv' := [some (.inr (.inr (.inl (some (b))))), some (.inr (.inr (.inl (some (t))))), some (.inr (.inr (.inl (some (r))))), some (.inr (.inr (.inl (some (27))))), some (.inl y), some (.inl k101), some (.inl v119), some (.inl j121), a104]) (st' := [.inl (1), .inl k101, .inr (.inr (.inl (some (b + 1 + 3))))]) (h' := h127) rfl ?_
                    exact J132 ((1)) (by omega)
          refine wq_k1 (p' := 92) (ck_1 _ _ rfl) rfl ⟨by omega, by omega⟩ (fun c162 => ?_) (fun c163 => ?_)
          · have c162 : v119 = (0) := c162
            refine av_wp_sqF ck_1 2 (pc' := 108) (lv' := [some (.inr (.inr (.inl (some (b))))), some (.inr (.inr (.inl (some (t))))), some (.inr (.inr (.inl (some (r))))), some (.inr (.inr (.inl (some (27))))), some (.inl y), some (.inl k101), some (.inl v119), some (.inl j121), a104]) (st' := [.inl (1), .inl k101, .inr (.inr (.inl (some (b + 1 + 2))))]) (h' := h105) rfl ?_
            exact J126 ((1)) (by omega)
          · have c163 : v119 ≠ (0) := c163
            refine av_wp_sqF ck_1 2 (pc' := 95) (lv' := [some (.inr (.inr (.inl (some (b))))), some (.inr (.inr (.inl (some (t))))), some (.inr (.inr (.inl (some (r))))), some (.inr (.inr (.inl (some (27))))), some (.inl y), some (.inl k101), some (.inl v119), some (.inl j121), a104]) (st' := [.inl (3), .inl v119, .inl k101, .inr (.inr (.inl (some (b + 1 + 2))))]) (h' := h105) rfl ?_
            refine wq_k2 (p' := 98) (ck_1 _ _ rfl) rfl ⟨by omega, by omega⟩ ⟨by omega, by omega⟩ (fun c164 => ?_) (fun c165 => ?_)
            · have c164 : v119 ≠ (3) := c164
              refine av_wp_sqF ck_1 1 (pc' := 108) (lv' := [some (.inr (.inr (.inl (some (b))))), some (.inr (.inr (.inl (some (t))))), some (.inr (.inr (.inl (some (r))))), some (.inr (.inr (.inl (some (27))))), some (.inl y), some (.inl k101), some (.inl v119), some (.inl j121), a104]) (st' := [.inl (0), .inl k101, .inr (.inr (.inl (some (b + 1 + 2))))]) (h' := h105) rfl ?_
              exact J126 ((0)) (by omega)
            · have c165 : v119 = (3) := c165
              refine av_wp_sqF ck_1 1 (pc' := 100) (lv' := [some (.inr (.inr (.inl (some (b))))), some (.inr (.inr (.inl (some (t))))), some (.inr (.inr (.inl (some (r))))), some (.inr (.inr (.inl (some (27))))), some (.inl y), some (.inl k101), some (.inl v119), some (.inl j121), a104]) (st' := [.inl j121, .inl k101, .inr (.inr (.inl (some (b + 1 + 2))))]) (h' := h105) rfl ?_
              refine wq_k1 (p' := 103) (ck_1 _ _ rfl) rfl ⟨by omega, by omega⟩ (fun c166 => ?_) (fun c167 => ?_)
              · have c166 : j121 ≠ (0) := c166
                refine av_wp_sqF ck_1 1 (pc' := 108) (lv' := [some (.inr (.inr (.inl (some (b))))), some (.inr (.inr (.inl (some (t))))), some (.inr (.inr (.inl (some (r))))), some (.inr (.inr (.inl (some (27))))), some (.inl y), some (.inl k101), some (.inl v119), some (.inl j121), a104]) (st' := [.inl (0), .inl k101, .inr (.inr (.inl (some (b + 1 + 2))))]) (h' := h105) rfl ?_
                exact J126 ((0)) (by omega)
              · have c167 : j121 = (0) := c167
                refine av_wp_sqF ck_1 2 (pc' := 108) (lv' := [some (.inr (.inr (.inl (some (b))))), some (.inr (.inr (.inl (some (t))))), some (.inr (.inr (.inl (some (r))))), some (.inr (.inr (.inl (some (27))))), some (.inl y), some (.inl k101), some (.inl v119), some (.inl j121), a104]) (st' := [.inl (1), .inl k101, .inr (.inr (.inl (some (b + 1 + 2))))]) (h' := h105) rfl ?_
                exact J126 ((1)) (by omega)
        refine wq_k2 (p' := 51) (ck_1 _ _ rfl) rfl ⟨by omega, by omega⟩ ⟨by omega, by omega⟩ (fun c168 => ?_) (fun c169 => ?_)
        · have c168 : v119 ≠ (3) := c168
          refine av_wp_sqF ck_1 1 (pc' := 79) (lv' := [some (.inr (.inr (.inl (some (b))))), some (.inr (.inr (.inl (some (t))))), some (.inr (.inr (.inl (some (r))))), some (.inr (.inr (.inl (some (27))))), some (.inl y), some (.inl k101), some (.inl v119), a103, a104]) (st' := [.inl (0)]) (h' := h105) rfl ?_
          exact J123 ((0)) (by omega)
        · have c169 : v119 = (3) := c169
          refine av_wp_sqF ck_1 1 (pc' := 52) (lv' := [some (.inr (.inr (.inl (some (b))))), some (.inr (.inr (.inl (some (t))))), some (.inr (.inr (.inl (some (r))))), some (.inr (.inr (.inl (some (27))))), some (.inl y), some (.inl k101), some (.inl v119), a103, a104]) (st' := [.inr (.inr (.inl (some (b))))]) (h' := h105) rfl ?_
          refine wq_gr (p' := 55) (ck_1 _ _ rfl) rfl (congrArg Prod.fst (ib_k0 i106)) rfl (ib_r i106) ?_
          refine av_wp_sqF ck_1 1 (pc' := 57) (lv' := [some (.inr (.inr (.inl (some (b))))), some (.inr (.inr (.inl (some (t))))), some (.inr (.inr (.inl (some (r))))), some (.inr (.inr (.inl (some (27))))), some (.inl y), some (.inl k101), some (.inl v119), a103, a104]) (st' := [.inl (9), .inr (.inr (.inl (some (r))))]) (h' := h105) rfl ?_
          obtain ⟨v170, e171⟩ : ∃ v, hA h105 (r) (Int.toNat ((9))) = v := ⟨_, rfl⟩
          have g172 := ib_rv i106 (Int.toNat ((9)))
          rw [e171] at g172
          refine wq_al (p' := 58) (n := 14) (ck_1 _ _ rfl) rfl (ib_kr i106) (by omega) (e171) ?_
          refine av_wp_sqF ck_1 1 (pc' := 59) (lv' := [some (.inr (.inr (.inl (some (b))))), some (.inr (.inr (.inl (some (t))))), some (.inr (.inr (.inl (some (r))))), some (.inr (.inr (.inl (some (27))))), some (.inl y), some (.inl k101), some (.inl v119), a103, a104]) (st' := [.inl (1), .inl v170]) (h' := h105) rfl ?_
          refine wq_k2 (p' := 62) (ck_1 _ _ rfl) rfl ⟨by omega, by omega⟩ ⟨by omega, by omega⟩ (fun c173 => ?_) (fun c174 => ?_)
          · have c173 : v170 ≠ (1) := c173
            refine av_wp_sqF ck_1 1 (pc' := 79) (lv' := [some (.inr (.inr (.inl (some (b))))), some (.inr (.inr (.inl (some (t))))), some (.inr (.inr (.inl (some (r))))), some (.inr (.inr (.inl (some (27))))), some (.inl y), some (.inl k101), some (.inl v119), a103, a104]) (st' := [.inl (0)]) (h' := h105) rfl ?_
            exact J123 ((0)) (by omega)
          · have c174 : v170 = (1) := c174
            refine av_wp_sqF ck_1 1 (pc' := 63) (lv' := [some (.inr (.inr (.inl (some (b))))), some (.inr (.inr (.inl (some (t))))), some (.inr (.inr (.inl (some (r))))), some (.inr (.inr (.inl (some (27))))), some (.inl y), some (.inl k101), some (.inl v119), a103, a104]) (st' := [.inr (.inr (.inl (some (b))))]) (h' := h105) rfl ?_
            refine wq_gr (p' := 66) (ck_1 _ _ rfl) rfl (congrArg Prod.fst (ib_k0 i106)) rfl (ib_t i106) ?_
            refine av_wp_sqF ck_1 1 (pc' := 68) (lv' := [some (.inr (.inr (.inl (some (b))))), some (.inr (.inr (.inl (some (t))))), some (.inr (.inr (.inl (some (r))))), some (.inr (.inr (.inl (some (27))))), some (.inl y), some (.inl k101), some (.inl v119), a103, a104]) (st' := [.inl k101, .inr (.inr (.inl (some (t))))]) (h' := h105) rfl ?_
            refine wq_cv (p' := 71) (av_qc (.invokevirtual 78) 30 1 0 1) 3 cd_30 [.inl k101] (t) 1 [some (.inr (.inr (.inl (some (t))))), some (.inl k101), none] (ck_1 _ _ rfl) rfl rfl pp_30 rfl rfl rfl (congrArg Prod.fst (co_kt (ib_co i106))) rfl rfl rfl rfl ?_
            refine ct_30 (ib_co i106) (k101) (by omega) (fun v175 p176 => ?_)
            show av_wp _ cd_1 71 [some (.inr (.inr (.inl (some (b))))), some (.inr (.inr (.inl (some (t))))), some (.inr (.inr (.inl (some (r))))), some (.inr (.inr (.inl (some (27))))), some (.inl y), some (.inl k101), some (.inl v119), a103, a104] [.inl v175] h105 _
            refine wq_k1 (p' := 74) (ck_1 _ _ rfl) rfl ⟨by omega, by omega⟩ (fun c177 => ?_) (fun c178 => ?_)
            · have c177 : v175 = (0) := c177
              refine av_wp_sqF ck_1 1 (pc' := 79) (lv' := [some (.inr (.inr (.inl (some (b))))), some (.inr (.inr (.inl (some (t))))), some (.inr (.inr (.inl (some (r))))), some (.inr (.inr (.inl (some (27))))), some (.inl y), some (.inl k101), some (.inl v119), a103, a104]) (st' := [.inl (0)]) (h' := h105) rfl ?_
              exact J123 ((0)) (by omega)
            · have c178 : v175 ≠ (0) := c178
              refine av_wp_sqF ck_1 2 (pc' := 79) (lv' := [some (.inr (.inr (.inl (some (b))))), some (.inr (.inr (.inl (some (t))))), some (.inr (.inr (.inl (some (r))))), some (.inr (.inr (.inl (some (27))))), some (.inl y), some (.inl k101), some (.inl v119), a103, a104]) (st' := [.inl (1)]) (h' := h105) rfl ?_
              exact J123 ((1)) (by omega)
  exact L109 _ ((0)) (none) (none) (none) h4 rfl rfl rfl (by omega) (by omega) i F rfl
