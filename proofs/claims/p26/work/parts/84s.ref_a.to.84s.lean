section
/-! THE REFERENCE DECIDES, exactly -/
set_option maxRecDepth 100000 in
set_option maxHeartbeats 4000000 in
theorem cx_167 {g h : av_H} {n a m : Int} (I : IMF n a m h) (F : FM g h) {u ro : Nat → Int} {a0 : Nat → Nat → Int} {s : Nat} (en : n = (s : Int)) (X : LR u ro a0 s (hA h)) (W : UW u s) (R : RLW ro) (H : HBd s a0) (k : Int) (qk : 0 ≤ k ∧ k < (s : Int)) {Q : Option av_V → av_H → Prop} (hq : ∀ v : Int, (v = smv u ro (Int.toNat k)) → Q (some (.inl v)) h) : av_wp none cd_167 0 [some (.inr (.inr (.inl (some (77))))), some (.inl k), none] [] h Q := by
  have gn := im_n I.1.1
  rw [I.2.1] at gn
  have ga := im_a I.1.1
  rw [I.2.2.1] at ga
  have gm := im_cm I.1.1
  rw [I.2.2.2] at gm
  have s12 : s ≤ 12 := by omega
  have Z := ZE_rf (L := [113, 114, 115]) (K := [50, 51, 52, 53]) h
  refine av_wp_sqF ck_167 1 (pc' := 1) (lv' := [some (.inr (.inr (.inl (some (77))))), some (.inl k), none]) (st' := [.inr (.inr (.inl (some (77))))]) (h' := h) rfl ?_
  refine wq_gr (p' := 4) (ck_167 _ _ rfl) rfl (congrArg Prod.fst (ly_k I.1.1.1 77 rfl)) rfl (ly_g I.1.1.1 77 30 96 rfl) ?_
  refine av_wp_sqF ck_167 1 (pc' := 5) (lv' := [some (.inr (.inr (.inl (some (77))))), some (.inl k), none]) (st' := [.inl k, .inr (.inr (.inl (some (96))))]) (h' := h) rfl ?_
  obtain ⟨v1, e2⟩ : ∃ v, hA h 96 (Int.toNat (k)) = v := ⟨_, rfl⟩
  have g3 : 0 ≤ hA h 96 (Int.toNat (k)) ∧ hA h 96 (Int.toNat (k)) ≤ 7 := im_w I.1.1 96 (by decide) (by decide) _
  rw [e2] at g3
  have y4 : hA h 96 (Int.toNat (k)) = v1 := (congrFun (Z.1 96 rfl) _).symm.trans e2
  have y5 := (X.1 (Int.toNat (k)) (by omega)).1.1
  rw [e2] at y5
  refine wq_al (p' := 6) (n := 12) (ck_167 _ _ rfl) rfl (ly_k I.1.1.1 96 rfl) (by omega) (e2) ?_
  refine av_wp_sqF ck_167 1 (pc' := 7) (lv' := [some (.inr (.inr (.inl (some (77))))), some (.inl k), none]) (st' := [.inl (3), .inl v1]) (h' := h) rfl ?_
  refine wq_k2 (p' := 10) (ck_167 _ _ rfl) rfl ⟨by omega, by omega⟩ ⟨by omega, by omega⟩ (fun c7 => ?_) (fun c8 => ?_)
  · have c7 : v1 ≠ (3) := c7
    refine av_wp_sqF ck_167 1 (pc' := 21) (lv' := [some (.inr (.inr (.inl (some (77))))), some (.inl k), none]) (st' := [.inl (0)]) (h' := h) rfl ?_
    refine av_wp_ret (v := some (.inl (0))) (ck_167 _ _ rfl) rfl rfl ?_
    exact hq _ (by unfold smv; split <;> omega)
  · have c8 : v1 = (3) := c8
    refine av_wp_sqF ck_167 1 (pc' := 11) (lv' := [some (.inr (.inr (.inl (some (77))))), some (.inl k), none]) (st' := [.inr (.inr (.inl (some (77))))]) (h' := h) rfl ?_
    refine wq_gr (p' := 14) (ck_167 _ _ rfl) rfl (congrArg Prod.fst (ly_k I.1.1.1 77 rfl)) rfl (ly_g I.1.1.1 77 26 95 rfl) ?_
    refine av_wp_sqF ck_167 1 (pc' := 16) (lv' := [some (.inr (.inr (.inl (some (77))))), some (.inl k), none]) (st' := [.inl (9), .inr (.inr (.inl (some (95))))]) (h' := h) rfl ?_
    obtain ⟨v9, e10⟩ : ∃ v, hA h 95 (Int.toNat ((9))) = v := ⟨_, rfl⟩
    have y12 : hA h 95 (Int.toNat ((9))) = v9 := (congrFun (Z.1 95 rfl) _).symm.trans e10
    have y13 : ro 9 = v9 := (X.2 9 (by omega)).symm.trans e10
    have g14 := rl_9 R
    refine wq_al (p' := 17) (n := 13) (ck_167 _ _ rfl) rfl (ly_k I.1.1.1 95 rfl) (by omega) (e10) ?_
    refine wq_k1 (p' := 20) (ck_167 _ _ rfl) rfl ⟨by omega, by omega⟩ (fun c15 => ?_) (fun c16 => ?_)
    · have c15 : v9 ≠ (0) := c15
      refine av_wp_sqF ck_167 5 (pc' := 27) (lv' := [some (.inr (.inr (.inl (some (77))))), some (.inl k), some (.inl ((5) * k))]) (st' := [.inr (.inr (.inl (some (77))))]) (h' := h) rfl ?_
      refine wq_gr (p' := 30) (ck_167 _ _ rfl) rfl (congrArg Prod.fst (ly_k I.1.1.1 77 rfl)) rfl (ly_g I.1.1.1 77 38 104 rfl) ?_
      refine av_wp_sqF ck_167 1 (pc' := 31) (lv' := [some (.inr (.inr (.inl (some (77))))), some (.inl k), some (.inl ((5) * k))]) (st' := [.inl ((5) * k), .inr (.inr (.inl (some (104))))]) (h' := h) rfl ?_
      obtain ⟨v17, e18⟩ : ∃ v, hA h 104 (Int.toNat (((5) * k))) = v := ⟨_, rfl⟩
      have g19 : -1 ≤ hA h 104 (Int.toNat (((5) * k))) ∧ hA h 104 (Int.toNat (((5) * k))) ≤ 999 := im_w I.1.1 104 (by decide) (by decide) _
      rw [e18] at g19
      have y20 : hA h 104 (Int.toNat (((5) * k))) = v17 := (congrFun (Z.1 104 rfl) _).symm.trans e18
      have y21 : u (21 * (Int.toNat k) + 10) = v17 := ((X.1 (Int.toNat k) (by omega)).2.1 0 (by omega)).symm.trans ((congrArg (hA h 104) (by omega)).trans e18)
      refine wq_al (p' := 32) (n := 60) (ck_167 _ _ rfl) rfl (ly_k I.1.1.1 104 rfl) (by omega) (e18) ?_
      refine wq_k1 (p' := 35) (ck_167 _ _ rfl) rfl ⟨by omega, by omega⟩ (fun c22 => ?_) (fun c23 => ?_)
      · have c22 : (0) ≤ v17 := c22
        refine av_wp_sqF ck_167 1 (pc' := 62) (lv' := [some (.inr (.inr (.inl (some (77))))), some (.inl k), some (.inl ((5) * k))]) (st' := [.inl (0)]) (h' := h) rfl ?_
        refine av_wp_ret (v := some (.inl (0))) (ck_167 _ _ rfl) rfl rfl ?_
        exact hq _ (by unfold smv; split <;> omega)
      · have c23 : v17 < (0) := c23
        refine av_wp_sqF ck_167 1 (pc' := 36) (lv' := [some (.inr (.inr (.inl (some (77))))), some (.inl k), some (.inl ((5) * k))]) (st' := [.inr (.inr (.inl (some (77))))]) (h' := h) rfl ?_
        refine wq_gr (p' := 39) (ck_167 _ _ rfl) rfl (congrArg Prod.fst (ly_k I.1.1.1 77 rfl)) rfl (ly_g I.1.1.1 77 38 104 rfl) ?_
        refine av_wp_sqF ck_167 3 (pc' := 42) (lv' := [some (.inr (.inr (.inl (some (77))))), some (.inl k), some (.inl ((5) * k))]) (st' := [.inl (((5) * k) + (1)), .inr (.inr (.inl (some (104))))]) (h' := h) rfl ?_
        obtain ⟨v24, e25⟩ : ∃ v, hA h 104 (Int.toNat ((((5) * k) + (1)))) = v := ⟨_, rfl⟩
        have g26 : -1 ≤ hA h 104 (Int.toNat ((((5) * k) + (1)))) ∧ hA h 104 (Int.toNat ((((5) * k) + (1)))) ≤ 999 := im_w I.1.1 104 (by decide) (by decide) _
        rw [e25] at g26
        have y27 : hA h 104 (Int.toNat ((((5) * k) + (1)))) = v24 := (congrFun (Z.1 104 rfl) _).symm.trans e25
        have y28 : u (21 * (Int.toNat k) + 11) = v24 := ((X.1 (Int.toNat k) (by omega)).2.1 1 (by omega)).symm.trans ((congrArg (hA h 104) (by omega)).trans e25)
        refine wq_al (p' := 43) (n := 60) (ck_167 _ _ rfl) rfl (ly_k I.1.1.1 104 rfl) (by omega) (e25) ?_
        refine wq_k1 (p' := 46) (ck_167 _ _ rfl) rfl ⟨by omega, by omega⟩ (fun c29 => ?_) (fun c30 => ?_)
        · have c29 : (0) ≤ v24 := c29
          refine av_wp_sqF ck_167 1 (pc' := 62) (lv' := [some (.inr (.inr (.inl (some (77))))), some (.inl k), some (.inl ((5) * k))]) (st' := [.inl (0)]) (h' := h) rfl ?_
          refine av_wp_ret (v := some (.inl (0))) (ck_167 _ _ rfl) rfl rfl ?_
          exact hq _ (by unfold smv; split <;> omega)
        · have c30 : v24 < (0) := c30
          refine av_wp_sqF ck_167 1 (pc' := 47) (lv' := [some (.inr (.inr (.inl (some (77))))), some (.inl k), some (.inl ((5) * k))]) (st' := [.inr (.inr (.inl (some (77))))]) (h' := h) rfl ?_
          refine wq_gr (p' := 50) (ck_167 _ _ rfl) rfl (congrArg Prod.fst (ly_k I.1.1.1 77 rfl)) rfl (ly_g I.1.1.1 77 38 104 rfl) ?_
          refine av_wp_sqF ck_167 3 (pc' := 53) (lv' := [some (.inr (.inr (.inl (some (77))))), some (.inl k), some (.inl ((5) * k))]) (st' := [.inl (((5) * k) + (2)), .inr (.inr (.inl (some (104))))]) (h' := h) rfl ?_
          obtain ⟨v31, e32⟩ : ∃ v, hA h 104 (Int.toNat ((((5) * k) + (2)))) = v := ⟨_, rfl⟩
          have g33 : -1 ≤ hA h 104 (Int.toNat ((((5) * k) + (2)))) ∧ hA h 104 (Int.toNat ((((5) * k) + (2)))) ≤ 999 := im_w I.1.1 104 (by decide) (by decide) _
          rw [e32] at g33
          have y34 : hA h 104 (Int.toNat ((((5) * k) + (2)))) = v31 := (congrFun (Z.1 104 rfl) _).symm.trans e32
          have y35 : u (21 * (Int.toNat k) + 12) = v31 := ((X.1 (Int.toNat k) (by omega)).2.1 2 (by omega)).symm.trans ((congrArg (hA h 104) (by omega)).trans e32)
          refine wq_al (p' := 54) (n := 60) (ck_167 _ _ rfl) rfl (ly_k I.1.1.1 104 rfl) (by omega) (e32) ?_
          refine wq_k1 (p' := 57) (ck_167 _ _ rfl) rfl ⟨by omega, by omega⟩ (fun c36 => ?_) (fun c37 => ?_)
          · have c36 : (0) ≤ v31 := c36
            refine av_wp_sqF ck_167 1 (pc' := 62) (lv' := [some (.inr (.inr (.inl (some (77))))), some (.inl k), some (.inl ((5) * k))]) (st' := [.inl (0)]) (h' := h) rfl ?_
            refine av_wp_ret (v := some (.inl (0))) (ck_167 _ _ rfl) rfl rfl ?_
            exact hq _ (by unfold smv; split <;> omega)
          · have c37 : v31 < (0) := c37
            refine av_wp_sqF ck_167 2 (pc' := 62) (lv' := [some (.inr (.inr (.inl (some (77))))), some (.inl k), some (.inl ((5) * k))]) (st' := [.inl (1)]) (h' := h) rfl ?_
            refine av_wp_ret (v := some (.inl (1))) (ck_167 _ _ rfl) rfl rfl ?_
            exact hq _ (by unfold smv; split <;> omega)
    · have c16 : v9 = (0) := c16
      refine av_wp_sqF ck_167 1 (pc' := 21) (lv' := [some (.inr (.inr (.inl (some (77))))), some (.inl k), none]) (st' := [.inl (0)]) (h' := h) rfl ?_
      refine av_wp_ret (v := some (.inl (0))) (ck_167 _ _ rfl) rfl rfl ?_
      exact hq _ (by unfold smv; split <;> omega)

set_option maxRecDepth 100000 in
set_option maxHeartbeats 4000000 in
theorem cx_168 {g h : av_H} {n a m : Int} (I : IMF n a m h) (F : FM g h) {u ro : Nat → Int} {a0 : Nat → Nat → Int} {s : Nat} (en : n = (s : Int)) (X : LR u ro a0 s (hA h)) (W : UW u s) (R : RLW ro) (H : HBd s a0) (k : Int) (qk : 0 ≤ k ∧ k < (s : Int)) {Q : Option av_V → av_H → Prop} (hq : ∀ v : Int, (v = a0 2 (Int.toNat k)) → Q (some (.inl v)) h) : av_wp none cd_168 0 [some (.inr (.inr (.inl (some (77))))), some (.inl k)] [] h Q := by
  have gn := im_n I.1.1
  rw [I.2.1] at gn
  have ga := im_a I.1.1
  rw [I.2.2.1] at ga
  have gm := im_cm I.1.1
  rw [I.2.2.2] at gm
  have s12 : s ≤ 12 := by omega
  have Z := ZE_rf (L := [113, 114, 115]) (K := [50, 51, 52, 53]) h
  refine av_wp_sqF ck_168 1 (pc' := 1) (lv' := [some (.inr (.inr (.inl (some (77))))), some (.inl k)]) (st' := [.inr (.inr (.inl (some (77))))]) (h' := h) rfl ?_
  refine wq_gr (p' := 4) (ck_168 _ _ rfl) rfl (congrArg Prod.fst (ly_k I.1.1.1 77 rfl)) rfl (ly_g I.1.1.1 77 30 96 rfl) ?_
  refine av_wp_sqF ck_168 1 (pc' := 5) (lv' := [some (.inr (.inr (.inl (some (77))))), some (.inl k)]) (st' := [.inl k, .inr (.inr (.inl (some (96))))]) (h' := h) rfl ?_
  obtain ⟨v1, e2⟩ : ∃ v, hA h 96 (Int.toNat (k)) = v := ⟨_, rfl⟩
  have g3 : 0 ≤ hA h 96 (Int.toNat (k)) ∧ hA h 96 (Int.toNat (k)) ≤ 7 := im_w I.1.1 96 (by decide) (by decide) _
  rw [e2] at g3
  have y4 : hA h 96 (Int.toNat (k)) = v1 := (congrFun (Z.1 96 rfl) _).symm.trans e2
  have y5 := (X.1 (Int.toNat (k)) (by omega)).1.1
  rw [e2] at y5
  refine wq_al (p' := 6) (n := 12) (ck_168 _ _ rfl) rfl (ly_k I.1.1.1 96 rfl) (by omega) (e2) ?_
  refine wq_k1 (p' := 9) (ck_168 _ _ rfl) rfl ⟨by omega, by omega⟩ (fun c7 => ?_) (fun c8 => ?_)
  · have c7 : v1 = (0) := c7
    refine av_wp_sqF ck_168 2 (pc' := 32) (lv' := [some (.inr (.inr (.inl (some (77))))), some (.inl k)]) (st' := [.inl (1)]) (h' := h) rfl ?_
    refine av_wp_ret (v := some (.inl (1))) (ck_168 _ _ rfl) rfl rfl ?_
    exact hq _ (by rw [(X.1 (Int.toNat k) (by omega)).2.2.2.1]; unfold ofv; split <;> omega)
  · have c8 : v1 ≠ (0) := c8
    refine av_wp_sqF ck_168 1 (pc' := 10) (lv' := [some (.inr (.inr (.inl (some (77))))), some (.inl k)]) (st' := [.inr (.inr (.inl (some (77))))]) (h' := h) rfl ?_
    refine wq_gr (p' := 13) (ck_168 _ _ rfl) rfl (congrArg Prod.fst (ly_k I.1.1.1 77 rfl)) rfl (ly_g I.1.1.1 77 30 96 rfl) ?_
    refine av_wp_sqF ck_168 1 (pc' := 14) (lv' := [some (.inr (.inr (.inl (some (77))))), some (.inl k)]) (st' := [.inl k, .inr (.inr (.inl (some (96))))]) (h' := h) rfl ?_
    obtain ⟨v9, e10⟩ : ∃ v, hA h 96 (Int.toNat (k)) = v := ⟨_, rfl⟩
    have g11 : 0 ≤ hA h 96 (Int.toNat (k)) ∧ hA h 96 (Int.toNat (k)) ≤ 7 := im_w I.1.1 96 (by decide) (by decide) _
    rw [e10] at g11
    have y12 : hA h 96 (Int.toNat (k)) = v9 := (congrFun (Z.1 96 rfl) _).symm.trans e10
    have y13 := (X.1 (Int.toNat (k)) (by omega)).1.1
    rw [e10] at y13
    refine wq_al (p' := 15) (n := 12) (ck_168 _ _ rfl) rfl (ly_k I.1.1.1 96 rfl) (by omega) (e10) ?_
    refine av_wp_sqF ck_168 1 (pc' := 16) (lv' := [some (.inr (.inr (.inl (some (77))))), some (.inl k)]) (st' := [.inl (3), .inl v9]) (h' := h) rfl ?_
    refine wq_k2 (p' := 19) (ck_168 _ _ rfl) rfl ⟨by omega, by omega⟩ ⟨by omega, by omega⟩ (fun c15 => ?_) (fun c16 => ?_)
    · have c15 : v9 ≠ (3) := c15
      refine av_wp_sqF ck_168 1 (pc' := 32) (lv' := [some (.inr (.inr (.inl (some (77))))), some (.inl k)]) (st' := [.inl (0)]) (h' := h) rfl ?_
      refine av_wp_ret (v := some (.inl (0))) (ck_168 _ _ rfl) rfl rfl ?_
      exact hq _ (by rw [(X.1 (Int.toNat k) (by omega)).2.2.2.1]; unfold ofv; split <;> omega)
    · have c16 : v9 = (3) := c16
      refine av_wp_sqF ck_168 2 (pc' := 21) (lv' := [some (.inr (.inr (.inl (some (77))))), some (.inl k)]) (st' := [.inl k, .inr (.inr (.inl (some (77))))]) (h' := h) rfl ?_
      refine wq_cv (p' := 24) (av_qc (.invokevirtual 360) 167 1 0 8) 3 cd_167 [.inl k] (77) 8 [some (.inr (.inr (.inl (some (77))))), some (.inl k), none] (ck_168 _ _ rfl) rfl rfl pp_167 rfl rfl rfl (congrArg Prod.fst (ly_k I.1.1.1 77 rfl)) rfl rfl rfl rfl ?_
      refine cx_167 I F en X W R H (k) (by omega) (fun v17 p18 => ?_)
      have p18b := smv_b u ro (Int.toNat (k))
      show av_wp _ cd_168 24 [some (.inr (.inr (.inl (some (77))))), some (.inl k)] [.inl v17] h _
      refine wq_k1 (p' := 27) (ck_168 _ _ rfl) rfl ⟨by omega, by omega⟩ (fun c19 => ?_) (fun c20 => ?_)
      · have c19 : v17 ≠ (0) := c19
        refine av_wp_sqF ck_168 1 (pc' := 32) (lv' := [some (.inr (.inr (.inl (some (77))))), some (.inl k)]) (st' := [.inl (0)]) (h' := h) rfl ?_
        refine av_wp_ret (v := some (.inl (0))) (ck_168 _ _ rfl) rfl rfl ?_
        exact hq _ (by rw [(X.1 (Int.toNat k) (by omega)).2.2.2.1]; unfold ofv; split <;> omega)
      · have c20 : v17 = (0) := c20
        refine av_wp_sqF ck_168 2 (pc' := 32) (lv' := [some (.inr (.inr (.inl (some (77))))), some (.inl k)]) (st' := [.inl (1)]) (h' := h) rfl ?_
        refine av_wp_ret (v := some (.inl (1))) (ck_168 _ _ rfl) rfl rfl ?_
        exact hq _ (by rw [(X.1 (Int.toNat k) (by omega)).2.2.2.1]; unfold ofv; split <;> omega)

set_option maxRecDepth 100000 in
set_option maxHeartbeats 4000000 in
theorem cx_169 {g h : av_H} {n a m : Int} (I : IMF n a m h) (F : FM g h) {u ro : Nat → Int} {a0 : Nat → Nat → Int} {s : Nat} (en : n = (s : Int)) (X : LR u ro a0 s (hA h)) (W : UW u s) (R : RLW ro) (H : HBd s a0) (k : Int) (qk : 0 ≤ k ∧ k < (s : Int)) {Q : Option av_V → av_H → Prop} (hq : ∀ v : Int, (v = noV u ro (Int.toNat k)) → Q (some (.inl v)) h) : av_wp none cd_169 0 [some (.inr (.inr (.inl (some (77))))), some (.inl k)] [] h Q := by
  have gn := im_n I.1.1
  rw [I.2.1] at gn
  have ga := im_a I.1.1
  rw [I.2.2.1] at ga
  have gm := im_cm I.1.1
  rw [I.2.2.2] at gm
  have s12 : s ≤ 12 := by omega
  have Z := ZE_rf (L := [113, 114, 115]) (K := [50, 51, 52, 53]) h
  refine av_wp_sqF ck_169 1 (pc' := 1) (lv' := [some (.inr (.inr (.inl (some (77))))), some (.inl k)]) (st' := [.inr (.inr (.inl (some (77))))]) (h' := h) rfl ?_
  refine wq_gr (p' := 4) (ck_169 _ _ rfl) rfl (congrArg Prod.fst (ly_k I.1.1.1 77 rfl)) rfl (ly_g I.1.1.1 77 30 96 rfl) ?_
  refine av_wp_sqF ck_169 1 (pc' := 5) (lv' := [some (.inr (.inr (.inl (some (77))))), some (.inl k)]) (st' := [.inl k, .inr (.inr (.inl (some (96))))]) (h' := h) rfl ?_
  obtain ⟨v1, e2⟩ : ∃ v, hA h 96 (Int.toNat (k)) = v := ⟨_, rfl⟩
  have g3 : 0 ≤ hA h 96 (Int.toNat (k)) ∧ hA h 96 (Int.toNat (k)) ≤ 7 := im_w I.1.1 96 (by decide) (by decide) _
  rw [e2] at g3
  have y4 : hA h 96 (Int.toNat (k)) = v1 := (congrFun (Z.1 96 rfl) _).symm.trans e2
  have y5 := (X.1 (Int.toNat (k)) (by omega)).1.1
  rw [e2] at y5
  refine wq_al (p' := 6) (n := 12) (ck_169 _ _ rfl) rfl (ly_k I.1.1.1 96 rfl) (by omega) (e2) ?_
  refine av_wp_sqF ck_169 1 (pc' := 7) (lv' := [some (.inr (.inr (.inl (some (77))))), some (.inl k)]) (st' := [.inl (4), .inl v1]) (h' := h) rfl ?_
  refine wq_k2 (p' := 10) (ck_169 _ _ rfl) rfl ⟨by omega, by omega⟩ ⟨by omega, by omega⟩ (fun c7 => ?_) (fun c8 => ?_)
  · have c7 : v1 = (4) := c7
    refine av_wp_sqF ck_169 2 (pc' := 33) (lv' := [some (.inr (.inr (.inl (some (77))))), some (.inl k)]) (st' := [.inl (1)]) (h' := h) rfl ?_
    refine av_wp_ret (v := some (.inl (1))) (ck_169 _ _ rfl) rfl rfl ?_
    exact hq _ (by unfold noV; split <;> omega)
  · have c8 : v1 ≠ (4) := c8
    refine av_wp_sqF ck_169 1 (pc' := 11) (lv' := [some (.inr (.inr (.inl (some (77))))), some (.inl k)]) (st' := [.inr (.inr (.inl (some (77))))]) (h' := h) rfl ?_
    refine wq_gr (p' := 14) (ck_169 _ _ rfl) rfl (congrArg Prod.fst (ly_k I.1.1.1 77 rfl)) rfl (ly_g I.1.1.1 77 30 96 rfl) ?_
    refine av_wp_sqF ck_169 1 (pc' := 15) (lv' := [some (.inr (.inr (.inl (some (77))))), some (.inl k)]) (st' := [.inl k, .inr (.inr (.inl (some (96))))]) (h' := h) rfl ?_
    obtain ⟨v9, e10⟩ : ∃ v, hA h 96 (Int.toNat (k)) = v := ⟨_, rfl⟩
    have g11 : 0 ≤ hA h 96 (Int.toNat (k)) ∧ hA h 96 (Int.toNat (k)) ≤ 7 := im_w I.1.1 96 (by decide) (by decide) _
    rw [e10] at g11
    have y12 : hA h 96 (Int.toNat (k)) = v9 := (congrFun (Z.1 96 rfl) _).symm.trans e10
    have y13 := (X.1 (Int.toNat (k)) (by omega)).1.1
    rw [e10] at y13
    refine wq_al (p' := 16) (n := 12) (ck_169 _ _ rfl) rfl (ly_k I.1.1.1 96 rfl) (by omega) (e10) ?_
    refine av_wp_sqF ck_169 1 (pc' := 17) (lv' := [some (.inr (.inr (.inl (some (77))))), some (.inl k)]) (st' := [.inl (3), .inl v9]) (h' := h) rfl ?_
    refine wq_k2 (p' := 20) (ck_169 _ _ rfl) rfl ⟨by omega, by omega⟩ ⟨by omega, by omega⟩ (fun c15 => ?_) (fun c16 => ?_)
    · have c15 : v9 ≠ (3) := c15
      refine av_wp_sqF ck_169 1 (pc' := 33) (lv' := [some (.inr (.inr (.inl (some (77))))), some (.inl k)]) (st' := [.inl (0)]) (h' := h) rfl ?_
      refine av_wp_ret (v := some (.inl (0))) (ck_169 _ _ rfl) rfl rfl ?_
      exact hq _ (by unfold noV; split <;> omega)
    · have c16 : v9 = (3) := c16
      refine av_wp_sqF ck_169 2 (pc' := 22) (lv' := [some (.inr (.inr (.inl (some (77))))), some (.inl k)]) (st' := [.inl k, .inr (.inr (.inl (some (77))))]) (h' := h) rfl ?_
      refine wq_cv (p' := 25) (av_qc (.invokevirtual 360) 167 1 0 8) 3 cd_167 [.inl k] (77) 8 [some (.inr (.inr (.inl (some (77))))), some (.inl k), none] (ck_169 _ _ rfl) rfl rfl pp_167 rfl rfl rfl (congrArg Prod.fst (ly_k I.1.1.1 77 rfl)) rfl rfl rfl rfl ?_
      refine cx_167 I F en X W R H (k) (by omega) (fun v17 p18 => ?_)
      have p18b := smv_b u ro (Int.toNat (k))
      show av_wp _ cd_169 25 [some (.inr (.inr (.inl (some (77))))), some (.inl k)] [.inl v17] h _
      refine wq_k1 (p' := 28) (ck_169 _ _ rfl) rfl ⟨by omega, by omega⟩ (fun c19 => ?_) (fun c20 => ?_)
      · have c19 : v17 ≠ (0) := c19
        refine av_wp_sqF ck_169 1 (pc' := 33) (lv' := [some (.inr (.inr (.inl (some (77))))), some (.inl k)]) (st' := [.inl (0)]) (h' := h) rfl ?_
        refine av_wp_ret (v := some (.inl (0))) (ck_169 _ _ rfl) rfl rfl ?_
        exact hq _ (by unfold noV; split <;> omega)
      · have c20 : v17 = (0) := c20
        refine av_wp_sqF ck_169 2 (pc' := 33) (lv' := [some (.inr (.inr (.inl (some (77))))), some (.inl k)]) (st' := [.inl (1)]) (h' := h) rfl ?_
        refine av_wp_ret (v := some (.inl (1))) (ck_169 _ _ rfl) rfl rfl ?_
        exact hq _ (by unfold noV; split <;> omega)

set_option maxRecDepth 100000 in
set_option maxHeartbeats 4000000 in
theorem cx_170 {g h : av_H} {n a m : Int} (I : IMF n a m h) (F : FM g h) {u ro : Nat → Int} {a0 : Nat → Nat → Int} {s : Nat} (en : n = (s : Int)) (X : LR u ro a0 s (hA h)) (W : UW u s) (R : RLW ro) (H : HBd s a0) (k : Int) (qk : 0 ≤ k ∧ k < (s : Int)) {Q : Option av_V → av_H → Prop} (hq : ∀ v : Int, (v = a0 3 (Int.toNat k)) → Q (some (.inl v)) h) : av_wp none cd_170 0 [some (.inr (.inr (.inl (some (77))))), some (.inl k)] [] h Q := by
  have gn := im_n I.1.1
  rw [I.2.1] at gn
  have ga := im_a I.1.1
  rw [I.2.2.1] at ga
  have gm := im_cm I.1.1
  rw [I.2.2.2] at gm
  have s12 : s ≤ 12 := by omega
  have Z := ZE_rf (L := [113, 114, 115]) (K := [50, 51, 52, 53]) h
  refine av_wp_sqF ck_170 1 (pc' := 1) (lv' := [some (.inr (.inr (.inl (some (77))))), some (.inl k)]) (st' := [.inr (.inr (.inl (some (77))))]) (h' := h) rfl ?_
  refine wq_gr (p' := 4) (ck_170 _ _ rfl) rfl (congrArg Prod.fst (ly_k I.1.1.1 77 rfl)) rfl (ly_g I.1.1.1 77 30 96 rfl) ?_
  refine av_wp_sqF ck_170 1 (pc' := 5) (lv' := [some (.inr (.inr (.inl (some (77))))), some (.inl k)]) (st' := [.inl k, .inr (.inr (.inl (some (96))))]) (h' := h) rfl ?_
  obtain ⟨v1, e2⟩ : ∃ v, hA h 96 (Int.toNat (k)) = v := ⟨_, rfl⟩
  have g3 : 0 ≤ hA h 96 (Int.toNat (k)) ∧ hA h 96 (Int.toNat (k)) ≤ 7 := im_w I.1.1 96 (by decide) (by decide) _
  rw [e2] at g3
  have y4 : hA h 96 (Int.toNat (k)) = v1 := (congrFun (Z.1 96 rfl) _).symm.trans e2
  have y5 := (X.1 (Int.toNat (k)) (by omega)).1.1
  rw [e2] at y5
  refine wq_al (p' := 6) (n := 12) (ck_170 _ _ rfl) rfl (ly_k I.1.1.1 96 rfl) (by omega) (e2) ?_
  refine av_wp_sqF ck_170 1 (pc' := 7) (lv' := [some (.inr (.inr (.inl (some (77))))), some (.inl k)]) (st' := [.inl (2), .inl v1]) (h' := h) rfl ?_
  refine wq_k2 (p' := 10) (ck_170 _ _ rfl) rfl ⟨by omega, by omega⟩ ⟨by omega, by omega⟩ (fun c7 => ?_) (fun c8 => ?_)
  · have c7 : v1 = (2) := c7
    refine av_wp_sqF ck_170 2 (pc' := 45) (lv' := [some (.inr (.inr (.inl (some (77))))), some (.inl k)]) (st' := [.inl (1)]) (h' := h) rfl ?_
    refine av_wp_ret (v := some (.inl (1))) (ck_170 _ _ rfl) rfl rfl ?_
    exact hq _ (by rw [(X.1 (Int.toNat k) (by omega)).2.2.2.2]; unfold ysv; split <;> omega)
  · have c8 : v1 ≠ (2) := c8
    refine av_wp_sqF ck_170 2 (pc' := 12) (lv' := [some (.inr (.inr (.inl (some (77))))), some (.inl k)]) (st' := [.inl k, .inr (.inr (.inl (some (77))))]) (h' := h) rfl ?_
    refine wq_cv (p' := 15) (av_qc (.invokevirtual 360) 167 1 0 8) 3 cd_167 [.inl k] (77) 8 [some (.inr (.inr (.inl (some (77))))), some (.inl k), none] (ck_170 _ _ rfl) rfl rfl pp_167 rfl rfl rfl (congrArg Prod.fst (ly_k I.1.1.1 77 rfl)) rfl rfl rfl rfl ?_
    refine cx_167 I F en X W R H (k) (by omega) (fun v9 p10 => ?_)
    have p10b := smv_b u ro (Int.toNat (k))
    show av_wp _ cd_170 15 [some (.inr (.inr (.inl (some (77))))), some (.inl k)] [.inl v9] h _
    refine wq_k1 (p' := 18) (ck_170 _ _ rfl) rfl ⟨by omega, by omega⟩ (fun c11 => ?_) (fun c12 => ?_)
    · have c11 : v9 ≠ (0) := c11
      refine av_wp_sqF ck_170 2 (pc' := 45) (lv' := [some (.inr (.inr (.inl (some (77))))), some (.inl k)]) (st' := [.inl (1)]) (h' := h) rfl ?_
      refine av_wp_ret (v := some (.inl (1))) (ck_170 _ _ rfl) rfl rfl ?_
      exact hq _ (by rw [(X.1 (Int.toNat k) (by omega)).2.2.2.2]; unfold ysv; split <;> omega)
    · have c12 : v9 = (0) := c12
      refine av_wp_sqF ck_170 1 (pc' := 19) (lv' := [some (.inr (.inr (.inl (some (77))))), some (.inl k)]) (st' := [.inr (.inr (.inl (some (77))))]) (h' := h) rfl ?_
      refine wq_gr (p' := 22) (ck_170 _ _ rfl) rfl (congrArg Prod.fst (ly_k I.1.1.1 77 rfl)) rfl (ly_g I.1.1.1 77 30 96 rfl) ?_
      refine av_wp_sqF ck_170 1 (pc' := 23) (lv' := [some (.inr (.inr (.inl (some (77))))), some (.inl k)]) (st' := [.inl k, .inr (.inr (.inl (some (96))))]) (h' := h) rfl ?_
      obtain ⟨v13, e14⟩ : ∃ v, hA h 96 (Int.toNat (k)) = v := ⟨_, rfl⟩
      have g15 : 0 ≤ hA h 96 (Int.toNat (k)) ∧ hA h 96 (Int.toNat (k)) ≤ 7 := im_w I.1.1 96 (by decide) (by decide) _
      rw [e14] at g15
      have y16 : hA h 96 (Int.toNat (k)) = v13 := (congrFun (Z.1 96 rfl) _).symm.trans e14
      have y17 := (X.1 (Int.toNat (k)) (by omega)).1.1
      rw [e14] at y17
      refine wq_al (p' := 24) (n := 12) (ck_170 _ _ rfl) rfl (ly_k I.1.1.1 96 rfl) (by omega) (e14) ?_
      refine av_wp_sqF ck_170 1 (pc' := 26) (lv' := [some (.inr (.inr (.inl (some (77))))), some (.inl k)]) (st' := [.inl (6), .inl v13]) (h' := h) rfl ?_
      refine wq_k2 (p' := 29) (ck_170 _ _ rfl) rfl ⟨by omega, by omega⟩ ⟨by omega, by omega⟩ (fun c19 => ?_) (fun c20 => ?_)
      · have c19 : v13 ≠ (6) := c19
        refine av_wp_sqF ck_170 1 (pc' := 45) (lv' := [some (.inr (.inr (.inl (some (77))))), some (.inl k)]) (st' := [.inl (0)]) (h' := h) rfl ?_
        refine av_wp_ret (v := some (.inl (0))) (ck_170 _ _ rfl) rfl rfl ?_
        exact hq _ (by rw [(X.1 (Int.toNat k) (by omega)).2.2.2.2]; unfold ysv; split <;> omega)
      · have c20 : v13 = (6) := c20
        refine av_wp_sqF ck_170 1 (pc' := 30) (lv' := [some (.inr (.inr (.inl (some (77))))), some (.inl k)]) (st' := [.inr (.inr (.inl (some (77))))]) (h' := h) rfl ?_
        refine wq_gr (p' := 33) (ck_170 _ _ rfl) rfl (congrArg Prod.fst (ly_k I.1.1.1 77 rfl)) rfl (ly_g I.1.1.1 77 26 95 rfl) ?_
        refine av_wp_sqF ck_170 1 (pc' := 35) (lv' := [some (.inr (.inr (.inl (some (77))))), some (.inl k)]) (st' := [.inl (11), .inr (.inr (.inl (some (95))))]) (h' := h) rfl ?_
        obtain ⟨v21, e22⟩ : ∃ v, hA h 95 (Int.toNat ((11))) = v := ⟨_, rfl⟩
        have y24 : hA h 95 (Int.toNat ((11))) = v21 := (congrFun (Z.1 95 rfl) _).symm.trans e22
        have y25 : ro 11 = v21 := (X.2 11 (by omega)).symm.trans e22
        have g26 := rl_11 R
        refine wq_al (p' := 36) (n := 13) (ck_170 _ _ rfl) rfl (ly_k I.1.1.1 95 rfl) (by omega) (e22) ?_
        refine av_wp_sqF ck_170 1 (pc' := 37) (lv' := [some (.inr (.inr (.inl (some (77))))), some (.inl k)]) (st' := [.inl (1), .inl v21]) (h' := h) rfl ?_
        refine wq_k2 (p' := 40) (ck_170 _ _ rfl) rfl ⟨by omega, by omega⟩ ⟨by omega, by omega⟩ (fun c27 => ?_) (fun c28 => ?_)
        · have c27 : v21 ≠ (1) := c27
          refine av_wp_sqF ck_170 1 (pc' := 45) (lv' := [some (.inr (.inr (.inl (some (77))))), some (.inl k)]) (st' := [.inl (0)]) (h' := h) rfl ?_
          refine av_wp_ret (v := some (.inl (0))) (ck_170 _ _ rfl) rfl rfl ?_
          exact hq _ (by rw [(X.1 (Int.toNat k) (by omega)).2.2.2.2]; unfold ysv; split <;> omega)
        · have c28 : v21 = (1) := c28
          refine av_wp_sqF ck_170 2 (pc' := 45) (lv' := [some (.inr (.inr (.inl (some (77))))), some (.inl k)]) (st' := [.inl (1)]) (h' := h) rfl ?_
          refine av_wp_ret (v := some (.inl (1))) (ck_170 _ _ rfl) rfl rfl ?_
          exact hq _ (by rw [(X.1 (Int.toNat k) (by omega)).2.2.2.2]; unfold ysv; split <;> omega)

set_option maxRecDepth 100000 in
set_option maxHeartbeats 4000000 in
theorem cx_171 {g h : av_H} {n a m : Int} (I : IMF n a m h) (F : FM g h) {u ro : Nat → Int} {a0 : Nat → Nat → Int} {s : Nat} (en : n = (s : Int)) (X : LR u ro a0 s (hA h)) (W : UW u s) (R : RLW ro) (H : HBd s a0) (k : Int) (qk : 0 ≤ k ∧ k < (s : Int)) (o : Int) (qo : 0 ≤ o ∧ o < (s : Int)) {Q : Option av_V → av_H → Prop} (hq : ∀ v : Int, (v = bkv u ro a0 (Int.toNat k) o) → Q (some (.inl v)) h) : av_wp none cd_171 0 [some (.inr (.inr (.inl (some (77))))), some (.inl k), some (.inl o), none] [] h Q := by
  have gn := im_n I.1.1
  rw [I.2.1] at gn
  have ga := im_a I.1.1
  rw [I.2.2.1] at ga
  have gm := im_cm I.1.1
  rw [I.2.2.2] at gm
  have s12 : s ≤ 12 := by omega
  have Z := ZE_rf (L := [113, 114, 115]) (K := [50, 51, 52, 53]) h
  refine av_wp_sqF ck_171 1 (pc' := 1) (lv' := [some (.inr (.inr (.inl (some (77))))), some (.inl k), some (.inl o), none]) (st' := [.inr (.inr (.inl (some (77))))]) (h' := h) rfl ?_
  refine wq_gr (p' := 4) (ck_171 _ _ rfl) rfl (congrArg Prod.fst (ly_k I.1.1.1 77 rfl)) rfl (ly_g I.1.1.1 77 30 96 rfl) ?_
  refine av_wp_sqF ck_171 1 (pc' := 5) (lv' := [some (.inr (.inr (.inl (some (77))))), some (.inl k), some (.inl o), none]) (st' := [.inl k, .inr (.inr (.inl (some (96))))]) (h' := h) rfl ?_
  obtain ⟨v1, e2⟩ : ∃ v, hA h 96 (Int.toNat (k)) = v := ⟨_, rfl⟩
  have g3 : 0 ≤ hA h 96 (Int.toNat (k)) ∧ hA h 96 (Int.toNat (k)) ≤ 7 := im_w I.1.1 96 (by decide) (by decide) _
  rw [e2] at g3
  have y4 : hA h 96 (Int.toNat (k)) = v1 := (congrFun (Z.1 96 rfl) _).symm.trans e2
  have y5 := (X.1 (Int.toNat (k)) (by omega)).1.1
  rw [e2] at y5
  refine wq_al (p' := 6) (n := 12) (ck_171 _ _ rfl) rfl (ly_k I.1.1.1 96 rfl) (by omega) (e2) ?_
  refine av_wp_sqF ck_171 1 (pc' := 7) (lv' := [some (.inr (.inr (.inl (some (77))))), some (.inl k), some (.inl o), none]) (st' := [.inl (5), .inl v1]) (h' := h) rfl ?_
  refine wq_k2 (p' := 10) (ck_171 _ _ rfl) rfl ⟨by omega, by omega⟩ ⟨by omega, by omega⟩ (fun c7 => ?_) (fun c8 => ?_)
  · have c7 : v1 ≠ (5) := c7
    refine av_wp_sqF ck_171 1 (pc' := 21) (lv' := [some (.inr (.inr (.inl (some (77))))), some (.inl k), some (.inl o), none]) (st' := [.inl (-1)]) (h' := h) rfl ?_
    refine av_wp_ret (v := some (.inl (-1))) (ck_171 _ _ rfl) rfl rfl ?_
    exact hq _ (by unfold bkv; (repeat' split) <;> omega)
  · have c8 : v1 = (5) := c8
    refine av_wp_sqF ck_171 1 (pc' := 11) (lv' := [some (.inr (.inr (.inl (some (77))))), some (.inl k), some (.inl o), none]) (st' := [.inr (.inr (.inl (some (77))))]) (h' := h) rfl ?_
    refine wq_gr (p' := 14) (ck_171 _ _ rfl) rfl (congrArg Prod.fst (ly_k I.1.1.1 77 rfl)) rfl (ly_g I.1.1.1 77 34 100 rfl) ?_
    refine av_wp_sqF ck_171 1 (pc' := 15) (lv' := [some (.inr (.inr (.inl (some (77))))), some (.inl k), some (.inl o), none]) (st' := [.inl k, .inr (.inr (.inl (some (100))))]) (h' := h) rfl ?_
    obtain ⟨v9, e10⟩ : ∃ v, hA h 100 (Int.toNat (k)) = v := ⟨_, rfl⟩
    have g11 : -1 ≤ hA h 100 (Int.toNat (k)) ∧ hA h 100 (Int.toNat (k)) ≤ 11 := im_w I.1.1 100 (by decide) (by decide) _
    rw [e10] at g11
    have w12 := im_wr I.1 (Int.toNat (k)) (by omega)
    rw [e10] at w12
    have y13 : hA h 100 (Int.toNat (k)) = v9 := (congrFun (Z.1 100 rfl) _).symm.trans e10
    have y14 := (X.1 (Int.toNat (k)) (by omega)).1.2.2.2.1
    rw [e10] at y14
    refine wq_al (p' := 16) (n := 12) (ck_171 _ _ rfl) rfl (ly_k I.1.1.1 100 rfl) (by omega) (e10) ?_
    refine av_wp_sqF ck_171 1 (pc' := 17) (lv' := [some (.inr (.inr (.inl (some (77))))), some (.inl k), some (.inl o), none]) (st' := [.inl o, .inl v9]) (h' := h) rfl ?_
    refine wq_k2 (p' := 20) (ck_171 _ _ rfl) rfl ⟨by omega, by omega⟩ ⟨by omega, by omega⟩ (fun c16 => ?_) (fun c17 => ?_)
    · have c16 : v9 = o := c16
      refine av_wp_sqF ck_171 3 (pc' := 25) (lv' := [some (.inr (.inr (.inl (some (77))))), some (.inl k), some (.inl o), none]) (st' := [.inr (.inr (.inl (some (77)))), .inl k, .inr (.inr (.inl (some (77))))]) (h' := h) rfl ?_
      refine wq_gr (p' := 28) (ck_171 _ _ rfl) rfl (congrArg Prod.fst (ly_k I.1.1.1 77 rfl)) rfl (ly_g I.1.1.1 77 26 95 rfl) ?_
      refine av_wp_sqF ck_171 1 (pc' := 29) (lv' := [some (.inr (.inr (.inl (some (77))))), some (.inl k), some (.inl o), none]) (st' := [.inl (4), .inr (.inr (.inl (some (95)))), .inl k, .inr (.inr (.inl (some (77))))]) (h' := h) rfl ?_
      obtain ⟨v18, e19⟩ : ∃ v, hA h 95 (Int.toNat ((4))) = v := ⟨_, rfl⟩
      have y21 : hA h 95 (Int.toNat ((4))) = v18 := (congrFun (Z.1 95 rfl) _).symm.trans e19
      have y22 : ro 4 = v18 := (X.2 4 (by omega)).symm.trans e19
      have g23 := rl_4 R
      refine wq_al (p' := 30) (n := 13) (ck_171 _ _ rfl) rfl (ly_k I.1.1.1 95 rfl) (by omega) (e19) ?_
      refine wq_cv (p' := 33) (av_qc (.invokevirtual 363) 166 2 0 8) 3 cd_166 [.inl v18, .inl k] (77) 8 [some (.inr (.inr (.inl (some (77))))), some (.inl k), some (.inl v18)] (ck_171 _ _ rfl) rfl rfl pp_166 rfl rfl rfl (congrArg Prod.fst (ly_k I.1.1.1 77 rfl)) rfl rfl rfl rfl ?_
      refine cx_166 I F (k) (by omega) (v18) (by omega) (fun v24 p25 => ?_)
      have y26 : v24 = hw a0 (Int.toNat (k)) v18 := LR_w X (by omega) (by omega) s12 p25
      have g27 := hw_r H (k := (Int.toNat (k))) (by omega) v18
      rw [← y26] at g27
      rw [← y22] at y26
      show av_wp _ cd_171 33 [some (.inr (.inr (.inl (some (77))))), some (.inl k), some (.inl o), none] [.inl v24] h _
      refine av_wp_sqF ck_171 2 (pc' := 35) (lv' := [some (.inr (.inr (.inl (some (77))))), some (.inl k), some (.inl o), some (.inl v24)]) (st' := [.inr (.inr (.inl (some (77))))]) (h' := h) rfl ?_
      refine wq_gr (p' := 38) (ck_171 _ _ rfl) rfl (congrArg Prod.fst (ly_k I.1.1.1 77 rfl)) rfl (ly_g I.1.1.1 77 33 99 rfl) ?_
      refine av_wp_sqF ck_171 1 (pc' := 39) (lv' := [some (.inr (.inr (.inl (some (77))))), some (.inl k), some (.inl o), some (.inl v24)]) (st' := [.inl o, .inr (.inr (.inl (some (99))))]) (h' := h) rfl ?_
      obtain ⟨v28, e29⟩ : ∃ v, hA h 99 (Int.toNat (o)) = v := ⟨_, rfl⟩
      have g30 : -1 ≤ hA h 99 (Int.toNat (o)) ∧ hA h 99 (Int.toNat (o)) ≤ 1999 := im_w I.1.1 99 (by decide) (by decide) _
      rw [e29] at g30
      have y31 : hA h 99 (Int.toNat (o)) = v28 := (congrFun (Z.1 99 rfl) _).symm.trans e29
      have y32 := (X.1 (Int.toNat (o)) (by omega)).1.2.2.1
      rw [e29] at y32
      have g33 := W (Int.toNat (o)) (by omega)
      rw [← y32] at g33
      refine wq_al (p' := 40) (n := 12) (ck_171 _ _ rfl) rfl (ly_k I.1.1.1 99 rfl) (by omega) (e29) ?_
      refine wq_k1 (p' := 43) (ck_171 _ _ rfl) rfl ⟨by omega, by omega⟩ (fun c34 => ?_) (fun c35 => ?_)
      · have c34 : v28 < (0) := c34
        refine av_wp_sqF ck_171 1 (pc' := 69) (lv' := [some (.inr (.inr (.inl (some (77))))), some (.inl k), some (.inl o), some (.inl v24)]) (st' := [.inl v24]) (h' := h) rfl ?_
        refine av_wp_ret (v := some (.inl v24)) (ck_171 _ _ rfl) rfl rfl ?_
        exact hq _ (by unfold bkv; (repeat' split) <;> omega)
      · have c35 : (0) ≤ v28 := c35
        refine av_wp_sqF ck_171 1 (pc' := 44) (lv' := [some (.inr (.inr (.inl (some (77))))), some (.inl k), some (.inl o), some (.inl v24)]) (st' := [.inr (.inr (.inl (some (77))))]) (h' := h) rfl ?_
        refine wq_gr (p' := 47) (ck_171 _ _ rfl) rfl (congrArg Prod.fst (ly_k I.1.1.1 77 rfl)) rfl (ly_g I.1.1.1 77 26 95 rfl) ?_
        refine av_wp_sqF ck_171 1 (pc' := 49) (lv' := [some (.inr (.inr (.inl (some (77))))), some (.inl k), some (.inl o), some (.inl v24)]) (st' := [.inl (6), .inr (.inr (.inl (some (95))))]) (h' := h) rfl ?_
        obtain ⟨v36, e37⟩ : ∃ v, hA h 95 (Int.toNat ((6))) = v := ⟨_, rfl⟩
        have y39 : hA h 95 (Int.toNat ((6))) = v36 := (congrFun (Z.1 95 rfl) _).symm.trans e37
        have y40 : ro 6 = v36 := (X.2 6 (by omega)).symm.trans e37
        have g41 := rl_6 R
        refine wq_al (p' := 50) (n := 13) (ck_171 _ _ rfl) rfl (ly_k I.1.1.1 95 rfl) (by omega) (e37) ?_
        refine av_wp_sqF ck_171 1 (pc' := 51) (lv' := [some (.inr (.inr (.inl (some (77))))), some (.inl k), some (.inl o), some (.inl v24)]) (st' := [.inl (1), .inl v36]) (h' := h) rfl ?_
        refine wq_k2 (p' := 54) (ck_171 _ _ rfl) rfl ⟨by omega, by omega⟩ ⟨by omega, by omega⟩ (fun c42 => ?_) (fun c43 => ?_)
        · have c42 : v36 ≠ (1) := c42
          refine av_wp_sqF ck_171 1 (pc' := 69) (lv' := [some (.inr (.inr (.inl (some (77))))), some (.inl k), some (.inl o), some (.inl v24)]) (st' := [.inl v24]) (h' := h) rfl ?_
          refine av_wp_ret (v := some (.inl v24)) (ck_171 _ _ rfl) rfl rfl ?_
          exact hq _ (by unfold bkv; (repeat' split) <;> omega)
        · have c43 : v36 = (1) := c43
          refine av_wp_sqF ck_171 2 (pc' := 56) (lv' := [some (.inr (.inr (.inl (some (77))))), some (.inl k), some (.inl o), some (.inl v24)]) (st' := [.inr (.inr (.inl (some (77)))), .inl v24]) (h' := h) rfl ?_
          refine wq_gr (p' := 59) (ck_171 _ _ rfl) rfl (congrArg Prod.fst (ly_k I.1.1.1 77 rfl)) rfl (ly_g I.1.1.1 77 33 99 rfl) ?_
          refine av_wp_sqF ck_171 1 (pc' := 60) (lv' := [some (.inr (.inr (.inl (some (77))))), some (.inl k), some (.inl o), some (.inl v24)]) (st' := [.inl o, .inr (.inr (.inl (some (99)))), .inl v24]) (h' := h) rfl ?_
          obtain ⟨v44, e45⟩ : ∃ v, hA h 99 (Int.toNat (o)) = v := ⟨_, rfl⟩
          have g46 : -1 ≤ hA h 99 (Int.toNat (o)) ∧ hA h 99 (Int.toNat (o)) ≤ 1999 := im_w I.1.1 99 (by decide) (by decide) _
          rw [e45] at g46
          have y47 : hA h 99 (Int.toNat (o)) = v44 := (congrFun (Z.1 99 rfl) _).symm.trans e45
          have y48 := (X.1 (Int.toNat (o)) (by omega)).1.2.2.1
          rw [e45] at y48
          have g49 := W (Int.toNat (o)) (by omega)
          rw [← y48] at g49
          refine wq_al (p' := 61) (n := 12) (ck_171 _ _ rfl) rfl (ly_k I.1.1.1 99 rfl) (by omega) (e45) ?_
          refine wq_k2 (p' := 64) (ck_171 _ _ rfl) rfl ⟨by omega, by omega⟩ ⟨by omega, by omega⟩ (fun c50 => ?_) (fun c51 => ?_)
          · have c50 : v44 < v24 := c50
            refine av_wp_sqF ck_171 1 (pc' := 69) (lv' := [some (.inr (.inr (.inl (some (77))))), some (.inl k), some (.inl o), some (.inl v24)]) (st' := [.inl v24]) (h' := h) rfl ?_
            refine av_wp_ret (v := some (.inl v24)) (ck_171 _ _ rfl) rfl rfl ?_
            exact hq _ (by unfold bkv; (repeat' split) <;> omega)
          · have c51 : v24 ≤ v44 := c51
            refine av_wp_sqF ck_171 2 (pc' := 69) (lv' := [some (.inr (.inr (.inl (some (77))))), some (.inl k), some (.inl o), some (.inl v24)]) (st' := [.inl (-1)]) (h' := h) rfl ?_
            refine av_wp_ret (v := some (.inl (-1))) (ck_171 _ _ rfl) rfl rfl ?_
            exact hq _ (by unfold bkv; (repeat' split) <;> omega)
    · have c17 : v9 ≠ o := c17
      refine av_wp_sqF ck_171 1 (pc' := 21) (lv' := [some (.inr (.inr (.inl (some (77))))), some (.inl k), some (.inl o), none]) (st' := [.inl (-1)]) (h' := h) rfl ?_
      refine av_wp_ret (v := some (.inl (-1))) (ck_171 _ _ rfl) rfl rfl ?_
      exact hq _ (by unfold bkv; (repeat' split) <;> omega)

set_option maxRecDepth 100000 in
set_option maxHeartbeats 4000000 in
theorem cx_172 {g h : av_H} {n a m : Int} (I : IMF n a m h) (F : FM g h) {u ro : Nat → Int} {a0 : Nat → Nat → Int} {s : Nat} (en : n = (s : Int)) (X : LR u ro a0 s (hA h)) (W : UW u s) (R : RLW ro) (H : HBd s a0) (k : Int) (qk : 0 ≤ k ∧ k < (s : Int)) (o : Int) (qo : 0 ≤ o ∧ o < (s : Int)) {Q : Option av_V → av_H → Prop} (hq : ∀ v : Int, (v = nov u ro a0 (Int.toNat k) o) → Q (some (.inl v)) h) : av_wp none cd_172 0 [some (.inr (.inr (.inl (some (77))))), some (.inl k), some (.inl o)] [] h Q := by
  have gn := im_n I.1.1
  rw [I.2.1] at gn
  have ga := im_a I.1.1
  rw [I.2.2.1] at ga
  have gm := im_cm I.1.1
  rw [I.2.2.2] at gm
  have s12 : s ≤ 12 := by omega
  have Z := ZE_rf (L := [113, 114, 115]) (K := [50, 51, 52, 53]) h
  refine av_wp_sqF ck_172 2 (pc' := 2) (lv' := [some (.inr (.inr (.inl (some (77))))), some (.inl k), some (.inl o)]) (st' := [.inl k, .inr (.inr (.inl (some (77))))]) (h' := h) rfl ?_
  refine wq_cv (p' := 5) (av_qc (.invokevirtual 366) 169 1 0 8) 2 cd_169 [.inl k] (77) 8 [some (.inr (.inr (.inl (some (77))))), some (.inl k)] (ck_172 _ _ rfl) rfl rfl pp_169 rfl rfl rfl (congrArg Prod.fst (ly_k I.1.1.1 77 rfl)) rfl rfl rfl rfl ?_
  refine cx_169 I F en X W R H (k) (by omega) (fun v1 p2 => ?_)
  have p2b := noV_b u ro (Int.toNat (k))
  rw [← p2] at p2b
  show av_wp _ cd_172 5 [some (.inr (.inr (.inl (some (77))))), some (.inl k), some (.inl o)] [.inl v1] h _
  refine wq_k1 (p' := 8) (ck_172 _ _ rfl) rfl ⟨by omega, by omega⟩ (fun c3 => ?_) (fun c4 => ?_)
  · have c3 : v1 = (0) := c3
    refine av_wp_sqF ck_172 1 (pc' := 33) (lv' := [some (.inr (.inr (.inl (some (77))))), some (.inl k), some (.inl o)]) (st' := [.inl (-1)]) (h' := h) rfl ?_
    refine av_wp_ret (v := some (.inl (-1))) (ck_172 _ _ rfl) rfl rfl ?_
    exact hq _ (by unfold nov; (repeat' split) <;> omega)
  · have c4 : v1 ≠ (0) := c4
    refine av_wp_sqF ck_172 1 (pc' := 9) (lv' := [some (.inr (.inr (.inl (some (77))))), some (.inl k), some (.inl o)]) (st' := [.inr (.inr (.inl (some (77))))]) (h' := h) rfl ?_
    refine wq_gr (p' := 12) (ck_172 _ _ rfl) rfl (congrArg Prod.fst (ly_k I.1.1.1 77 rfl)) rfl (ly_g I.1.1.1 77 34 100 rfl) ?_
    refine av_wp_sqF ck_172 1 (pc' := 13) (lv' := [some (.inr (.inr (.inl (some (77))))), some (.inl k), some (.inl o)]) (st' := [.inl k, .inr (.inr (.inl (some (100))))]) (h' := h) rfl ?_
    obtain ⟨v5, e6⟩ : ∃ v, hA h 100 (Int.toNat (k)) = v := ⟨_, rfl⟩
    have g7 : -1 ≤ hA h 100 (Int.toNat (k)) ∧ hA h 100 (Int.toNat (k)) ≤ 11 := im_w I.1.1 100 (by decide) (by decide) _
    rw [e6] at g7
    have w8 := im_wr I.1 (Int.toNat (k)) (by omega)
    rw [e6] at w8
    have y9 : hA h 100 (Int.toNat (k)) = v5 := (congrFun (Z.1 100 rfl) _).symm.trans e6
    have y10 := (X.1 (Int.toNat (k)) (by omega)).1.2.2.2.1
    rw [e6] at y10
    refine wq_al (p' := 14) (n := 12) (ck_172 _ _ rfl) rfl (ly_k I.1.1.1 100 rfl) (by omega) (e6) ?_
    refine av_wp_sqF ck_172 1 (pc' := 15) (lv' := [some (.inr (.inr (.inl (some (77))))), some (.inl k), some (.inl o)]) (st' := [.inl o, .inl v5]) (h' := h) rfl ?_
    refine wq_k2 (p' := 18) (ck_172 _ _ rfl) rfl ⟨by omega, by omega⟩ ⟨by omega, by omega⟩ (fun c12 => ?_) (fun c13 => ?_)
    · have c12 : v5 ≠ o := c12
      refine av_wp_sqF ck_172 1 (pc' := 33) (lv' := [some (.inr (.inr (.inl (some (77))))), some (.inl k), some (.inl o)]) (st' := [.inl (-1)]) (h' := h) rfl ?_
      refine av_wp_ret (v := some (.inl (-1))) (ck_172 _ _ rfl) rfl rfl ?_
      exact hq _ (by unfold nov; (repeat' split) <;> omega)
    · have c13 : v5 = o := c13
      refine av_wp_sqF ck_172 3 (pc' := 21) (lv' := [some (.inr (.inr (.inl (some (77))))), some (.inl k), some (.inl o)]) (st' := [.inr (.inr (.inl (some (77)))), .inl k, .inr (.inr (.inl (some (77))))]) (h' := h) rfl ?_
      refine wq_gr (p' := 24) (ck_172 _ _ rfl) rfl (congrArg Prod.fst (ly_k I.1.1.1 77 rfl)) rfl (ly_g I.1.1.1 77 26 95 rfl) ?_
      refine av_wp_sqF ck_172 1 (pc' := 25) (lv' := [some (.inr (.inr (.inl (some (77))))), some (.inl k), some (.inl o)]) (st' := [.inl (5), .inr (.inr (.inl (some (95)))), .inl k, .inr (.inr (.inl (some (77))))]) (h' := h) rfl ?_
      obtain ⟨v14, e15⟩ : ∃ v, hA h 95 (Int.toNat ((5))) = v := ⟨_, rfl⟩
      have y17 : hA h 95 (Int.toNat ((5))) = v14 := (congrFun (Z.1 95 rfl) _).symm.trans e15
      have y18 : ro 5 = v14 := (X.2 5 (by omega)).symm.trans e15
      have g19 := rl_5 R
      refine wq_al (p' := 26) (n := 13) (ck_172 _ _ rfl) rfl (ly_k I.1.1.1 95 rfl) (by omega) (e15) ?_
      refine wq_cv (p' := 29) (av_qc (.invokevirtual 363) 166 2 0 8) 3 cd_166 [.inl v14, .inl k] (77) 8 [some (.inr (.inr (.inl (some (77))))), some (.inl k), some (.inl v14)] (ck_172 _ _ rfl) rfl rfl pp_166 rfl rfl rfl (congrArg Prod.fst (ly_k I.1.1.1 77 rfl)) rfl rfl rfl rfl ?_
      refine cx_166 I F (k) (by omega) (v14) (by omega) (fun v20 p21 => ?_)
      have y22 : v20 = hw a0 (Int.toNat (k)) v14 := LR_w X (by omega) (by omega) s12 p21
      have g23 := hw_r H (k := (Int.toNat (k))) (by omega) v14
      rw [← y22] at g23
      rw [← y18] at y22
      show av_wp _ cd_172 29 [some (.inr (.inr (.inl (some (77))))), some (.inl k), some (.inl o)] [.inl v20] h _
      refine av_wp_sqF ck_172 1 (pc' := 33) (lv' := [some (.inr (.inr (.inl (some (77))))), some (.inl k), some (.inl o)]) (st' := [.inl v20]) (h' := h) rfl ?_
      refine av_wp_ret (v := some (.inl v20)) (ck_172 _ _ rfl) rfl rfl ?_
      exact hq _ (by unfold nov; (repeat' split) <;> omega)

set_option maxRecDepth 100000 in
set_option maxHeartbeats 4000000 in
theorem cx_176 {g h : av_H} {n a m : Int} (I : IMF n a m h) (F : FM g h) {u ro : Nat → Int} {a0 : Nat → Nat → Int} {s : Nat} (en : n = (s : Int)) (X : LR u ro a0 s (hA h)) (W : UW u s) (R : RLW ro) (H : HBd s a0) (k : Int) (qk : 0 ≤ k ∧ k < (s : Int)) {Q : Option av_V → av_H → Prop} (hq : ∀ v : Int, (v = hw a0 (Int.toNat k) (yw u ro (Int.toNat k))) → Q (some (.inl v)) h) : av_wp none cd_176 0 [some (.inr (.inr (.inl (some (77))))), some (.inl k)] [] h Q := by
  have gn := im_n I.1.1
  rw [I.2.1] at gn
  have ga := im_a I.1.1
  rw [I.2.2.1] at ga
  have gm := im_cm I.1.1
  rw [I.2.2.2] at gm
  have s12 : s ≤ 12 := by omega
  have Z := ZE_rf (L := [113, 114, 115]) (K := [50, 51, 52, 53]) h
  refine av_wp_sqF ck_176 1 (pc' := 1) (lv' := [some (.inr (.inr (.inl (some (77))))), some (.inl k)]) (st' := [.inr (.inr (.inl (some (77))))]) (h' := h) rfl ?_
  refine wq_gr (p' := 4) (ck_176 _ _ rfl) rfl (congrArg Prod.fst (ly_k I.1.1.1 77 rfl)) rfl (ly_g I.1.1.1 77 30 96 rfl) ?_
  refine av_wp_sqF ck_176 1 (pc' := 5) (lv' := [some (.inr (.inr (.inl (some (77))))), some (.inl k)]) (st' := [.inl k, .inr (.inr (.inl (some (96))))]) (h' := h) rfl ?_
  obtain ⟨v1, e2⟩ : ∃ v, hA h 96 (Int.toNat (k)) = v := ⟨_, rfl⟩
  have g3 : 0 ≤ hA h 96 (Int.toNat (k)) ∧ hA h 96 (Int.toNat (k)) ≤ 7 := im_w I.1.1 96 (by decide) (by decide) _
  rw [e2] at g3
  have y4 : hA h 96 (Int.toNat (k)) = v1 := (congrFun (Z.1 96 rfl) _).symm.trans e2
  have y5 := (X.1 (Int.toNat (k)) (by omega)).1.1
  rw [e2] at y5
  refine wq_al (p' := 6) (n := 12) (ck_176 _ _ rfl) rfl (ly_k I.1.1.1 96 rfl) (by omega) (e2) ?_
  refine av_wp_sqF ck_176 1 (pc' := 8) (lv' := [some (.inr (.inr (.inl (some (77))))), some (.inl k)]) (st' := [.inl (6), .inl v1]) (h' := h) rfl ?_
  refine wq_k2 (p' := 11) (ck_176 _ _ rfl) rfl ⟨by omega, by omega⟩ ⟨by omega, by omega⟩ (fun c7 => ?_) (fun c8 => ?_)
  · have c7 : v1 ≠ (6) := c7
    refine av_wp_sqF ck_176 3 (pc' := 23) (lv' := [some (.inr (.inr (.inl (some (77))))), some (.inl k)]) (st' := [.inr (.inr (.inl (some (77)))), .inl k, .inr (.inr (.inl (some (77))))]) (h' := h) rfl ?_
    refine wq_gr (p' := 26) (ck_176 _ _ rfl) rfl (congrArg Prod.fst (ly_k I.1.1.1 77 rfl)) rfl (ly_g I.1.1.1 77 26 95 rfl) ?_
    refine av_wp_sqF ck_176 1 (pc' := 27) (lv' := [some (.inr (.inr (.inl (some (77))))), some (.inl k)]) (st' := [.inr (.inr (.inl (some (77)))), .inr (.inr (.inl (some (95)))), .inl k, .inr (.inr (.inl (some (77))))]) (h' := h) rfl ?_
    refine wq_gr (p' := 30) (ck_176 _ _ rfl) rfl (congrArg Prod.fst (ly_k I.1.1.1 77 rfl)) rfl (ly_g I.1.1.1 77 31 97 rfl) ?_
    refine av_wp_sqF ck_176 1 (pc' := 31) (lv' := [some (.inr (.inr (.inl (some (77))))), some (.inl k)]) (st' := [.inl k, .inr (.inr (.inl (some (97)))), .inr (.inr (.inl (some (95)))), .inl k, .inr (.inr (.inl (some (77))))]) (h' := h) rfl ?_
    obtain ⟨v9, e10⟩ : ∃ v, hA h 97 (Int.toNat (k)) = v := ⟨_, rfl⟩
    have g11 : 0 ≤ hA h 97 (Int.toNat (k)) ∧ hA h 97 (Int.toNat (k)) ≤ 3 := im_w I.1.1 97 (by decide) (by decide) _
    rw [e10] at g11
    have y12 : hA h 97 (Int.toNat (k)) = v9 := (congrFun (Z.1 97 rfl) _).symm.trans e10
    have y13 := (X.1 (Int.toNat (k)) (by omega)).1.2.1
    rw [e10] at y13
    refine wq_al (p' := 32) (n := 12) (ck_176 _ _ rfl) rfl (ly_k I.1.1.1 97 rfl) (by omega) (e10) ?_
    refine av_wp_sqF ck_176 1 (pc' := 33) (lv' := [some (.inr (.inr (.inl (some (77))))), some (.inl k)]) (st' := [.inl (2), .inl v9, .inr (.inr (.inl (some (95)))), .inl k, .inr (.inr (.inl (some (77))))]) (h' := h) rfl ?_
    refine wq_k2 (p' := 36) (ck_176 _ _ rfl) rfl ⟨by omega, by omega⟩ ⟨by omega, by omega⟩ (fun c15 => ?_) (fun c16 => ?_)
    · have c15 : v9 ≤ (2) := c15
      refine av_wp_sqF ck_176 1 (pc' := 41) (lv' := [some (.inr (.inr (.inl (some (77))))), some (.inl k)]) (st' := [.inr (.inr (.inl (some (77)))), .inr (.inr (.inl (some (95)))), .inl k, .inr (.inr (.inl (some (77))))]) (h' := h) rfl ?_
      refine wq_gr (p' := 44) (ck_176 _ _ rfl) rfl (congrArg Prod.fst (ly_k I.1.1.1 77 rfl)) rfl (ly_g I.1.1.1 77 31 97 rfl) ?_
      refine av_wp_sqF ck_176 1 (pc' := 45) (lv' := [some (.inr (.inr (.inl (some (77))))), some (.inl k)]) (st' := [.inl k, .inr (.inr (.inl (some (97)))), .inr (.inr (.inl (some (95)))), .inl k, .inr (.inr (.inl (some (77))))]) (h' := h) rfl ?_
      obtain ⟨v17, e18⟩ : ∃ v, hA h 97 (Int.toNat (k)) = v := ⟨_, rfl⟩
      have g19 : 0 ≤ hA h 97 (Int.toNat (k)) ∧ hA h 97 (Int.toNat (k)) ≤ 3 := im_w I.1.1 97 (by decide) (by decide) _
      rw [e18] at g19
      have y20 : hA h 97 (Int.toNat (k)) = v17 := (congrFun (Z.1 97 rfl) _).symm.trans e18
      have y21 := (X.1 (Int.toNat (k)) (by omega)).1.2.1
      rw [e18] at y21
      refine wq_al (p' := 46) (n := 12) (ck_176 _ _ rfl) rfl (ly_k I.1.1.1 97 rfl) (by omega) (e18) ?_
      obtain ⟨v23, e24⟩ : ∃ v, hA h 95 (Int.toNat (v17)) = v := ⟨_, rfl⟩
      have y26 : hA h 95 (Int.toNat (v17)) = v23 := (congrFun (Z.1 95 rfl) _).symm.trans e24
      have y27 : ro (Int.toNat (v17)) = v23 := (X.2 (Int.toNat (v17)) (by omega)).symm.trans e24
      have g28 := R.1 (Int.toNat (v17)) (by omega)
      refine wq_al (p' := 47) (n := 13) (ck_176 _ _ rfl) rfl (ly_k I.1.1.1 95 rfl) (by omega) (e24) ?_
      refine wq_cv (p' := 50) (av_qc (.invokevirtual 363) 166 2 0 8) 3 cd_166 [.inl v23, .inl k] (77) 8 [some (.inr (.inr (.inl (some (77))))), some (.inl k), some (.inl v23)] (ck_176 _ _ rfl) rfl rfl pp_166 rfl rfl rfl (congrArg Prod.fst (ly_k I.1.1.1 77 rfl)) rfl rfl rfl rfl ?_
      refine cx_166 I F (k) (by omega) (v23) (by omega) (fun v29 p30 => ?_)
      have y31 : v29 = hw a0 (Int.toNat (k)) v23 := LR_w X (by omega) (by omega) s12 p30
      have g32 := hw_r H (k := (Int.toNat (k))) (by omega) v23
      rw [← y31] at g32
      rw [← y27] at y31
      show av_wp _ cd_176 50 [some (.inr (.inr (.inl (some (77))))), some (.inl k)] [.inl v29] h _
      refine av_wp_ret (v := some (.inl v29)) (ck_176 _ _ rfl) rfl rfl ?_
      exact hq _ (by unfold yw; rw [if_neg (by omega), if_neg (by omega), ← y21]; exact y31)
    · have c16 : (2) < v9 := c16
      refine av_wp_sqF ck_176 2 (pc' := 46) (lv' := [some (.inr (.inr (.inl (some (77))))), some (.inl k)]) (st' := [.inl (2), .inr (.inr (.inl (some (95)))), .inl k, .inr (.inr (.inl (some (77))))]) (h' := h) rfl ?_
      obtain ⟨v33, e34⟩ : ∃ v, hA h 95 (Int.toNat ((2))) = v := ⟨_, rfl⟩
      have y36 : hA h 95 (Int.toNat ((2))) = v33 := (congrFun (Z.1 95 rfl) _).symm.trans e34
      have y37 : ro 2 = v33 := (X.2 2 (by omega)).symm.trans e34
      have g38 := rl_2 R
      refine wq_al (p' := 47) (n := 13) (ck_176 _ _ rfl) rfl (ly_k I.1.1.1 95 rfl) (by omega) (e34) ?_
      refine wq_cv (p' := 50) (av_qc (.invokevirtual 363) 166 2 0 8) 3 cd_166 [.inl v33, .inl k] (77) 8 [some (.inr (.inr (.inl (some (77))))), some (.inl k), some (.inl v33)] (ck_176 _ _ rfl) rfl rfl pp_166 rfl rfl rfl (congrArg Prod.fst (ly_k I.1.1.1 77 rfl)) rfl rfl rfl rfl ?_
      refine cx_166 I F (k) (by omega) (v33) (by omega) (fun v39 p40 => ?_)
      have y41 : v39 = hw a0 (Int.toNat (k)) v33 := LR_w X (by omega) (by omega) s12 p40
      have g42 := hw_r H (k := (Int.toNat (k))) (by omega) v33
      rw [← y41] at g42
      rw [← y37] at y41
      show av_wp _ cd_176 50 [some (.inr (.inr (.inl (some (77))))), some (.inl k)] [.inl v39] h _
      refine av_wp_ret (v := some (.inl v39)) (ck_176 _ _ rfl) rfl rfl ?_
      exact hq _ (by unfold yw; rw [if_neg (by omega), if_pos (by omega)]; exact y41)
  · have c8 : v1 = (6) := c8
    refine av_wp_sqF ck_176 1 (pc' := 12) (lv' := [some (.inr (.inr (.inl (some (77))))), some (.inl k)]) (st' := [.inr (.inr (.inl (some (77))))]) (h' := h) rfl ?_
    refine wq_gr (p' := 15) (ck_176 _ _ rfl) rfl (congrArg Prod.fst (ly_k I.1.1.1 77 rfl)) rfl (ly_g I.1.1.1 77 43 109 rfl) ?_
    refine av_wp_sqF ck_176 1 (pc' := 16) (lv' := [some (.inr (.inr (.inl (some (77))))), some (.inl k)]) (st' := [.inl k, .inr (.inr (.inl (some (109))))]) (h' := h) rfl ?_
    obtain ⟨v43, e44⟩ : ∃ v, hA h 109 (Int.toNat (k)) = v := ⟨_, rfl⟩
    have y46 : hA h 109 (Int.toNat (k)) = v43 := (congrFun (Z.1 109 rfl) _).symm.trans e44
    have y47 : v43 = hw a0 (Int.toNat (k)) 0 := LR_w X (by omega) (by omega) s12 (Or.inl ⟨rfl, e44.symm⟩)
    have g48 := hw_r H (k := (Int.toNat (k))) (by omega) 0
    rw [← y47] at g48
    refine wq_al (p' := 17) (n := 12) (ck_176 _ _ rfl) rfl (ly_k I.1.1.1 109 rfl) (by omega) (e44) ?_
    refine av_wp_sqF ck_176 1 (pc' := 50) (lv' := [some (.inr (.inr (.inl (some (77))))), some (.inl k)]) (st' := [.inl v43]) (h' := h) rfl ?_
    refine av_wp_ret (v := some (.inl v43)) (ck_176 _ _ rfl) rfl rfl ?_
    exact hq _ (by unfold yw; rw [if_pos (by omega)]; exact y47)

set_option maxRecDepth 100000 in
set_option maxHeartbeats 4000000 in
theorem cx_175 {g h : av_H} {n a m : Int} (I : IMF n a m h) (F : FM g h) {u ro : Nat → Int} {a0 : Nat → Nat → Int} {s : Nat} (en : n = (s : Int)) (X : LR u ro a0 s (hA h)) (W : UW u s) (R : RLW ro) (H : HBd s a0) (o : Int) (qo : 0 ≤ o ∧ o < (s : Int)) (y : Int) (qy : -2147483648 ≤ y ∧ y ≤ 2147483647) (r13 : -1 ≤ hA h 113 (Int.toNat o) ∧ hA h 113 (Int.toNat o) ≤ 9999) (r14 : -1 ≤ hA h 114 (Int.toNat o) ∧ hA h 114 (Int.toNat o) ≤ 9999) {Q : Option av_V → av_H → Prop} (hq : ∀ v : Int, (v = opR (hA h 113 (Int.toNat o)) (hA h 114 (Int.toNat o)) y) → Q (some (.inl v)) h) : av_wp none cd_175 0 [some (.inr (.inr (.inl (some (77))))), some (.inl o), some (.inl y)] [] h Q := by
  have gn := im_n I.1.1
  rw [I.2.1] at gn
  have ga := im_a I.1.1
  rw [I.2.2.1] at ga
  have gm := im_cm I.1.1
  rw [I.2.2.2] at gm
  have s12 : s ≤ 12 := by omega
  have Z := ZE_rf (L := [113, 114, 115]) (K := [50, 51, 52, 53]) h
  refine av_wp_sqF ck_175 1 (pc' := 1) (lv' := [some (.inr (.inr (.inl (some (77))))), some (.inl o), some (.inl y)]) (st' := [.inr (.inr (.inl (some (77))))]) (h' := h) rfl ?_
  refine wq_gr (p' := 4) (ck_175 _ _ rfl) rfl (congrArg Prod.fst (ly_k I.1.1.1 77 rfl)) rfl (ly_g I.1.1.1 77 47 113 rfl) ?_
  refine av_wp_sqF ck_175 1 (pc' := 5) (lv' := [some (.inr (.inr (.inl (some (77))))), some (.inl o), some (.inl y)]) (st' := [.inl o, .inr (.inr (.inl (some (113))))]) (h' := h) rfl ?_
  obtain ⟨v1, e2⟩ : ∃ v, hA h 113 (Int.toNat (o)) = v := ⟨_, rfl⟩
  have g5 := r13
  rw [e2] at g5
  refine wq_al (p' := 6) (n := 12) (ck_175 _ _ rfl) rfl (ly_k I.1.1.1 113 rfl) (by omega) (e2) ?_
  refine wq_k1 (p' := 9) (ck_175 _ _ rfl) rfl ⟨by omega, by omega⟩ (fun c6 => ?_) (fun c7 => ?_)
  · have c6 : v1 < (0) := c6
    refine av_wp_sqF ck_175 1 (pc' := 34) (lv' := [some (.inr (.inr (.inl (some (77))))), some (.inl o), some (.inl y)]) (st' := [.inl (0)]) (h' := h) rfl ?_
    refine av_wp_ret (v := some (.inl (0))) (ck_175 _ _ rfl) rfl rfl ?_
    exact hq _ (by unfold opR; split <;> omega)
  · have c7 : (0) ≤ v1 := c7
    refine av_wp_sqF ck_175 2 (pc' := 11) (lv' := [some (.inr (.inr (.inl (some (77))))), some (.inl o), some (.inl y)]) (st' := [.inr (.inr (.inl (some (77)))), .inl y]) (h' := h) rfl ?_
    refine wq_gr (p' := 14) (ck_175 _ _ rfl) rfl (congrArg Prod.fst (ly_k I.1.1.1 77 rfl)) rfl (ly_g I.1.1.1 77 47 113 rfl) ?_
    refine av_wp_sqF ck_175 1 (pc' := 15) (lv' := [some (.inr (.inr (.inl (some (77))))), some (.inl o), some (.inl y)]) (st' := [.inl o, .inr (.inr (.inl (some (113)))), .inl y]) (h' := h) rfl ?_
    obtain ⟨v8, e9⟩ : ∃ v, hA h 113 (Int.toNat (o)) = v := ⟨_, rfl⟩
    have g12 := r13
    rw [e9] at g12
    refine wq_al (p' := 16) (n := 12) (ck_175 _ _ rfl) rfl (ly_k I.1.1.1 113 rfl) (by omega) (e9) ?_
    refine wq_k2 (p' := 19) (ck_175 _ _ rfl) rfl ⟨by omega, by omega⟩ ⟨by omega, by omega⟩ (fun c13 => ?_) (fun c14 => ?_)
    · have c13 : y < v8 := c13
      refine av_wp_sqF ck_175 1 (pc' := 34) (lv' := [some (.inr (.inr (.inl (some (77))))), some (.inl o), some (.inl y)]) (st' := [.inl (0)]) (h' := h) rfl ?_
      refine av_wp_ret (v := some (.inl (0))) (ck_175 _ _ rfl) rfl rfl ?_
      exact hq _ (by unfold opR; split <;> omega)
    · have c14 : v8 ≤ y := c14
      refine av_wp_sqF ck_175 2 (pc' := 21) (lv' := [some (.inr (.inr (.inl (some (77))))), some (.inl o), some (.inl y)]) (st' := [.inr (.inr (.inl (some (77)))), .inl y]) (h' := h) rfl ?_
      refine wq_gr (p' := 24) (ck_175 _ _ rfl) rfl (congrArg Prod.fst (ly_k I.1.1.1 77 rfl)) rfl (ly_g I.1.1.1 77 48 114 rfl) ?_
      refine av_wp_sqF ck_175 1 (pc' := 25) (lv' := [some (.inr (.inr (.inl (some (77))))), some (.inl o), some (.inl y)]) (st' := [.inl o, .inr (.inr (.inl (some (114)))), .inl y]) (h' := h) rfl ?_
      obtain ⟨v15, e16⟩ : ∃ v, hA h 114 (Int.toNat (o)) = v := ⟨_, rfl⟩
      have g19 := r14
      rw [e16] at g19
      refine wq_al (p' := 26) (n := 12) (ck_175 _ _ rfl) rfl (ly_k I.1.1.1 114 rfl) (by omega) (e16) ?_
      refine wq_k2 (p' := 29) (ck_175 _ _ rfl) rfl ⟨by omega, by omega⟩ ⟨by omega, by omega⟩ (fun c20 => ?_) (fun c21 => ?_)
      · have c20 : v15 ≤ y := c20
        refine av_wp_sqF ck_175 1 (pc' := 34) (lv' := [some (.inr (.inr (.inl (some (77))))), some (.inl o), some (.inl y)]) (st' := [.inl (0)]) (h' := h) rfl ?_
        refine av_wp_ret (v := some (.inl (0))) (ck_175 _ _ rfl) rfl rfl ?_
        exact hq _ (by unfold opR; split <;> omega)
      · have c21 : y < v15 := c21
        refine av_wp_sqF ck_175 2 (pc' := 34) (lv' := [some (.inr (.inr (.inl (some (77))))), some (.inl o), some (.inl y)]) (st' := [.inl (1)]) (h' := h) rfl ?_
        refine av_wp_ret (v := some (.inl (1))) (ck_175 _ _ rfl) rfl rfl ?_
        exact hq _ (by unfold opR; split <;> omega)

set_option maxRecDepth 100000 in
set_option maxHeartbeats 4000000 in
theorem cx_177 {g h : av_H} {n a m : Int} (I : IMF n a m h) (F : FM g h) {u ro : Nat → Int} {a0 : Nat → Nat → Int} {s : Nat} (en : n = (s : Int)) (X : LR u ro a0 s (hA h)) (W : UW u s) (R : RLW ro) (H : HBd s a0) (k : Int) (qk : 0 ≤ k ∧ k < (s : Int)) (y : Int) (qy : -2147483648 ≤ y ∧ y ≤ 2147483647) {Q : Option av_V → av_H → Prop} (hq : ∀ v : Int, ((v = 1 ∧ ∃ i, (Int.toNat k) < i ∧ i < s ∧ (TKB u ro a0 (Int.toNat k) y) i) ∨ (v = 0 ∧ ∀ i, (Int.toNat k) < i → i < s → ¬ (TKB u ro a0 (Int.toNat k) y) i)) → Q (some (.inl v)) h) : av_wp none cd_177 0 [some (.inr (.inr (.inl (some (77))))), some (.inl k), some (.inl y), none, none] [] h Q := by
  have gn := im_n I.1.1
  rw [I.2.1] at gn
  have ga := im_a I.1.1
  rw [I.2.2.1] at ga
  have gm := im_cm I.1.1
  rw [I.2.2.2] at gm
  have s12 : s ≤ 12 := by omega
  have Z := ZE_rf (L := [113, 114, 115]) (K := [50, 51, 52, 53]) h
  refine av_wp_sqF ck_177 4 (pc' := 4) (lv' := [some (.inr (.inr (.inl (some (77))))), some (.inl k), some (.inl y), some (.inl (k + (1))), none]) (st' := []) (h' := h) rfl ?_
  have L4 : ∀ (m3 : Nat) (k1 : Int) (a2 : Option av_V), av_lg a2 = false → (∀ i : Nat, (Int.toNat k) < i → (i : Int) < k1 → ¬ (TKB u ro a0 (Int.toNat k) y) i) → k1 ≤ (s : Int) → k < k1 → (0 ≤ k1 ∧ k1 ≤ 12) → (12 - k1).toNat = m3 → av_wp none cd_177 4 [some (.inr (.inr (.inl (some (77))))), some (.inl k), some (.inl y), some (.inl k1), a2] [] h Q := by
    intro m3
    induction m3 using Nat.strongRecOn with
    | _ m3 I5 =>
      intro k1 a2 g7 g8 g9 g10 g11 e6
      have la2 := g7
      refine av_wp_sqF ck_177 2 (pc' := 6) (lv' := [some (.inr (.inr (.inl (some (77))))), some (.inl k), some (.inl y), some (.inl k1), a2]) (st' := [.inr (.inr (.inl (some (77)))), .inl k1]) (h' := h) rfl ?_
      refine wq_gi (p' := 9) (ck_177 _ _ rfl) rfl (congrArg Prod.fst (ly_k I.1.1.1 77 rfl)) rfl (I.2.1) ?_
      refine wq_k2 (p' := 12) (ck_177 _ _ rfl) rfl ⟨by omega, by omega⟩ ⟨by omega, by omega⟩ (fun c12 => ?_) (fun c13 => ?_)
      · have c12 : n ≤ k1 := c12
        refine av_wp_sqF ck_177 1 (pc' := 69) (lv' := [some (.inr (.inr (.inl (some (77))))), some (.inl k), some (.inl y), some (.inl k1), a2]) (st' := [.inl (0)]) (h' := h) rfl ?_
        refine av_wp_ret (v := some (.inl (0))) (ck_177 _ _ rfl) rfl rfl ?_
        exact hq _ (by exact Or.inr ⟨rfl, fun i h1 h2 => g8 i h1 (by omega)⟩)
      · have c13 : k1 < n := c13
        refine av_wp_sqF ck_177 1 (pc' := 13) (lv' := [some (.inr (.inr (.inl (some (77))))), some (.inl k), some (.inl y), some (.inl k1), a2]) (st' := [.inr (.inr (.inl (some (77))))]) (h' := h) rfl ?_
        refine wq_gr (p' := 16) (ck_177 _ _ rfl) rfl (congrArg Prod.fst (ly_k I.1.1.1 77 rfl)) rfl (ly_g I.1.1.1 77 30 96 rfl) ?_
        refine av_wp_sqF ck_177 1 (pc' := 17) (lv' := [some (.inr (.inr (.inl (some (77))))), some (.inl k), some (.inl y), some (.inl k1), a2]) (st' := [.inl k1, .inr (.inr (.inl (some (96))))]) (h' := h) rfl ?_
        obtain ⟨v14, e15⟩ : ∃ v, hA h 96 (Int.toNat (k1)) = v := ⟨_, rfl⟩
        have g16 : 0 ≤ hA h 96 (Int.toNat (k1)) ∧ hA h 96 (Int.toNat (k1)) ≤ 7 := im_w I.1.1 96 (by decide) (by decide) _
        rw [e15] at g16
        have y17 : hA h 96 (Int.toNat (k1)) = v14 := (congrFun (Z.1 96 rfl) _).symm.trans e15
        have y18 := (X.1 (Int.toNat (k1)) (by omega)).1.1
        rw [e15] at y18
        refine wq_al (p' := 18) (n := 12) (ck_177 _ _ rfl) rfl (ly_k I.1.1.1 96 rfl) (by omega) (e15) ?_
        refine av_wp_sqF ck_177 1 (pc' := 19) (lv' := [some (.inr (.inr (.inl (some (77))))), some (.inl k), some (.inl y), some (.inl k1), a2]) (st' := [.inl (5), .inl v14]) (h' := h) rfl ?_
        refine wq_k2 (p' := 22) (ck_177 _ _ rfl) rfl ⟨by omega, by omega⟩ ⟨by omega, by omega⟩ (fun c20 => ?_) (fun c21 => ?_)
        · have c20 : v14 ≠ (5) := c20
          refine av_wp_sqF ck_177 4 (pc' := 62) (lv' := [some (.inr (.inr (.inl (some (77))))), some (.inl k), some (.inl y), some (.inl k1), some (.inl (-1))]) (st' := []) (h' := h) rfl ?_
          have u22 := all_s (P := (TKB u ro a0 (Int.toNat k) y)) g8 (j := k1) (by omega) (by unfold TKB; omega)
          refine av_wp_sqF ck_177 2 (pc' := 4) (lv' := [some (.inr (.inr (.inl (some (77))))), some (.inl k), some (.inl y), some (.inl (k1 + (1))), some (.inl (-1))]) (st' := []) (h' := h) rfl ?_
          exact I5 _ (by omega) ((k1 + (1))) (some (.inl (-1))) rfl u22 (by omega) (by omega) (by omega) rfl
        · have c21 : v14 = (5) := c21
          refine av_wp_sqF ck_177 1 (pc' := 23) (lv' := [some (.inr (.inr (.inl (some (77))))), some (.inl k), some (.inl y), some (.inl k1), a2]) (st' := [.inr (.inr (.inl (some (77))))]) (h' := h) rfl ?_
          refine wq_gr (p' := 26) (ck_177 _ _ rfl) rfl (congrArg Prod.fst (ly_k I.1.1.1 77 rfl)) rfl (ly_g I.1.1.1 77 34 100 rfl) ?_
          refine av_wp_sqF ck_177 1 (pc' := 27) (lv' := [some (.inr (.inr (.inl (some (77))))), some (.inl k), some (.inl y), some (.inl k1), a2]) (st' := [.inl k1, .inr (.inr (.inl (some (100))))]) (h' := h) rfl ?_
          obtain ⟨v23, e24⟩ : ∃ v, hA h 100 (Int.toNat (k1)) = v := ⟨_, rfl⟩
          have g25 : -1 ≤ hA h 100 (Int.toNat (k1)) ∧ hA h 100 (Int.toNat (k1)) ≤ 11 := im_w I.1.1 100 (by decide) (by decide) _
          rw [e24] at g25
          have w26 := im_wr I.1 (Int.toNat (k1)) (by omega)
          rw [e24] at w26
          have y27 : hA h 100 (Int.toNat (k1)) = v23 := (congrFun (Z.1 100 rfl) _).symm.trans e24
          have y28 := (X.1 (Int.toNat (k1)) (by omega)).1.2.2.2.1
          rw [e24] at y28
          refine wq_al (p' := 28) (n := 12) (ck_177 _ _ rfl) rfl (ly_k I.1.1.1 100 rfl) (by omega) (e24) ?_
          refine av_wp_sqF ck_177 1 (pc' := 29) (lv' := [some (.inr (.inr (.inl (some (77))))), some (.inl k), some (.inl y), some (.inl k1), a2]) (st' := [.inl k, .inl v23]) (h' := h) rfl ?_
          refine wq_k2 (p' := 32) (ck_177 _ _ rfl) rfl ⟨by omega, by omega⟩ ⟨by omega, by omega⟩ (fun c30 => ?_) (fun c31 => ?_)
          · have c30 : v23 ≠ k := c30
            refine av_wp_sqF ck_177 4 (pc' := 62) (lv' := [some (.inr (.inr (.inl (some (77))))), some (.inl k), some (.inl y), some (.inl k1), some (.inl (-1))]) (st' := []) (h' := h) rfl ?_
            have u32 := all_s (P := (TKB u ro a0 (Int.toNat k) y)) g8 (j := k1) (by omega) (by unfold TKB; omega)
            refine av_wp_sqF ck_177 2 (pc' := 4) (lv' := [some (.inr (.inr (.inl (some (77))))), some (.inl k), some (.inl y), some (.inl (k1 + (1))), some (.inl (-1))]) (st' := []) (h' := h) rfl ?_
            exact I5 _ (by omega) ((k1 + (1))) (some (.inl (-1))) rfl u32 (by omega) (by omega) (by omega) rfl
          · have c31 : v23 = k := c31
            refine av_wp_sqF ck_177 3 (pc' := 35) (lv' := [some (.inr (.inr (.inl (some (77))))), some (.inl k), some (.inl y), some (.inl k1), a2]) (st' := [.inr (.inr (.inl (some (77)))), .inl k1, .inr (.inr (.inl (some (77))))]) (h' := h) rfl ?_
            refine wq_gr (p' := 38) (ck_177 _ _ rfl) rfl (congrArg Prod.fst (ly_k I.1.1.1 77 rfl)) rfl (ly_g I.1.1.1 77 26 95 rfl) ?_
            refine av_wp_sqF ck_177 1 (pc' := 39) (lv' := [some (.inr (.inr (.inl (some (77))))), some (.inl k), some (.inl y), some (.inl k1), a2]) (st' := [.inl (4), .inr (.inr (.inl (some (95)))), .inl k1, .inr (.inr (.inl (some (77))))]) (h' := h) rfl ?_
            obtain ⟨v33, e34⟩ : ∃ v, hA h 95 (Int.toNat ((4))) = v := ⟨_, rfl⟩
            have y36 : hA h 95 (Int.toNat ((4))) = v33 := (congrFun (Z.1 95 rfl) _).symm.trans e34
            have y37 : ro 4 = v33 := (X.2 4 (by omega)).symm.trans e34
            have g38 := rl_4 R
            refine wq_al (p' := 40) (n := 13) (ck_177 _ _ rfl) rfl (ly_k I.1.1.1 95 rfl) (by omega) (e34) ?_
            refine wq_cv (p' := 43) (av_qc (.invokevirtual 363) 166 2 0 8) 3 cd_166 [.inl v33, .inl k1] (77) 8 [some (.inr (.inr (.inl (some (77))))), some (.inl k1), some (.inl v33)] (ck_177 _ _ rfl) rfl rfl pp_166 rfl rfl rfl (congrArg Prod.fst (ly_k I.1.1.1 77 rfl)) rfl rfl rfl rfl ?_
            refine cx_166 I F (k1) (by omega) (v33) (by omega) (fun v39 p40 => ?_)
            have y41 : v39 = hw a0 (Int.toNat (k1)) v33 := LR_w X (by omega) (by omega) s12 p40
            have g42 := hw_r H (k := (Int.toNat (k1))) (by omega) v33
            rw [← y41] at g42
            rw [← y37] at y41
            show av_wp _ cd_177 43 [some (.inr (.inr (.inl (some (77))))), some (.inl k), some (.inl y), some (.inl k1), a2] [.inl v39] h _
            refine av_wp_sqF ck_177 3 (pc' := 51) (lv' := [some (.inr (.inr (.inl (some (77))))), some (.inl k), some (.inl y), some (.inl k1), some (.inl v39)]) (st' := [.inl v39]) (h' := h) rfl ?_
            refine wq_k1 (p' := 54) (ck_177 _ _ rfl) rfl ⟨by omega, by omega⟩ (fun c43 => ?_) (fun c44 => ?_)
            · have c43 : v39 < (0) := c43
              have u45 := all_s (P := (TKB u ro a0 (Int.toNat k) y)) g8 (j := k1) (by omega) (by unfold TKB; omega)
              refine av_wp_sqF ck_177 2 (pc' := 4) (lv' := [some (.inr (.inr (.inl (some (77))))), some (.inl k), some (.inl y), some (.inl (k1 + (1))), some (.inl v39)]) (st' := []) (h' := h) rfl ?_
              exact I5 _ (by omega) ((k1 + (1))) (some (.inl v39)) rfl u45 (by omega) (by omega) (by omega) rfl
            · have c44 : (0) ≤ v39 := c44
              refine av_wp_sqF ck_177 2 (pc' := 57) (lv' := [some (.inr (.inr (.inl (some (77))))), some (.inl k), some (.inl y), some (.inl k1), some (.inl v39)]) (st' := [.inl y, .inl v39]) (h' := h) rfl ?_
              refine wq_k2 (p' := 60) (ck_177 _ _ rfl) rfl ⟨by omega, by omega⟩ ⟨by omega, by omega⟩ (fun c46 => ?_) (fun c47 => ?_)
              · have c46 : y ≤ v39 := c46
                have u48 := all_s (P := (TKB u ro a0 (Int.toNat k) y)) g8 (j := k1) (by omega) (by unfold TKB; omega)
                refine av_wp_sqF ck_177 2 (pc' := 4) (lv' := [some (.inr (.inr (.inl (some (77))))), some (.inl k), some (.inl y), some (.inl (k1 + (1))), some (.inl v39)]) (st' := []) (h' := h) rfl ?_
                exact I5 _ (by omega) ((k1 + (1))) (some (.inl v39)) rfl u48 (by omega) (by omega) (by omega) rfl
              · have c47 : v39 < y := c47
                refine av_wp_sqF ck_177 1 (pc' := 61) (lv' := [some (.inr (.inr (.inl (some (77))))), some (.inl k), some (.inl y), some (.inl k1), some (.inl v39)]) (st' := [.inl (1)]) (h' := h) rfl ?_
                refine av_wp_ret (v := some (.inl (1))) (ck_177 _ _ rfl) rfl rfl ?_
                exact hq _ (by exact Or.inl ⟨rfl, (Int.toNat (k1)), by omega, by omega, by unfold TKB; omega⟩)
  exact L4 _ ((k + (1))) (none) rfl (fun i h1 h2 => by omega) (by omega) (by omega) (by omega) rfl
end
section
set_option maxRecDepth 100000 in
set_option maxHeartbeats 4000000 in
theorem cx_179 {g h : av_H} {n a m : Int} (I : IMF n a m h) (F : FM g h) {u ro : Nat → Int} {a0 : Nat → Nat → Int} {s : Nat} (en : n = (s : Int)) (X : LR u ro a0 s (hA h)) (W : UW u s) (R : RLW ro) (H : HBd s a0) (k : Int) (qk : 0 ≤ k ∧ k < (s : Int)) (y : Int) (qy : -2147483648 ≤ y ∧ y ≤ 2147483647) {Q : Option av_V → av_H → Prop} (hq : ∀ v : Int, ((v = 1 ∧ ∃ i, (Int.toNat k) < i ∧ i < s ∧ (ANB u a0 (Int.toNat k) y) i) ∨ (v = 0 ∧ ∀ i, (Int.toNat k) < i → i < s → ¬ (ANB u a0 (Int.toNat k) y) i)) → Q (some (.inl v)) h) : av_wp none cd_179 0 [some (.inr (.inr (.inl (some (77))))), some (.inl k), some (.inl y), none, none] [] h Q := by
  have gn := im_n I.1.1
  rw [I.2.1] at gn
  have ga := im_a I.1.1
  rw [I.2.2.1] at ga
  have gm := im_cm I.1.1
  rw [I.2.2.2] at gm
  have s12 : s ≤ 12 := by omega
  have Z := ZE_rf (L := [113, 114, 115]) (K := [50, 51, 52, 53]) h
  refine av_wp_sqF ck_179 4 (pc' := 4) (lv' := [some (.inr (.inr (.inl (some (77))))), some (.inl k), some (.inl y), some (.inl (k + (1))), none]) (st' := []) (h' := h) rfl ?_
  have L4 : ∀ (m3 : Nat) (k1 : Int) (a2 : Option av_V), av_lg a2 = false → (∀ i : Nat, (Int.toNat k) < i → (i : Int) < k1 → ¬ (ANB u a0 (Int.toNat k) y) i) → k1 ≤ (s : Int) → k < k1 → (0 ≤ k1 ∧ k1 ≤ 12) → (12 - k1).toNat = m3 → av_wp none cd_179 4 [some (.inr (.inr (.inl (some (77))))), some (.inl k), some (.inl y), some (.inl k1), a2] [] h Q := by
    intro m3
    induction m3 using Nat.strongRecOn with
    | _ m3 I5 =>
      intro k1 a2 g7 g8 g9 g10 g11 e6
      have la2 := g7
      refine av_wp_sqF ck_179 2 (pc' := 6) (lv' := [some (.inr (.inr (.inl (some (77))))), some (.inl k), some (.inl y), some (.inl k1), a2]) (st' := [.inr (.inr (.inl (some (77)))), .inl k1]) (h' := h) rfl ?_
      refine wq_gi (p' := 9) (ck_179 _ _ rfl) rfl (congrArg Prod.fst (ly_k I.1.1.1 77 rfl)) rfl (I.2.1) ?_
      refine wq_k2 (p' := 12) (ck_179 _ _ rfl) rfl ⟨by omega, by omega⟩ ⟨by omega, by omega⟩ (fun c12 => ?_) (fun c13 => ?_)
      · have c12 : n ≤ k1 := c12
        refine av_wp_sqF ck_179 1 (pc' := 94) (lv' := [some (.inr (.inr (.inl (some (77))))), some (.inl k), some (.inl y), some (.inl k1), a2]) (st' := [.inl (0)]) (h' := h) rfl ?_
        refine av_wp_ret (v := some (.inl (0))) (ck_179 _ _ rfl) rfl rfl ?_
        exact hq _ (by exact Or.inr ⟨rfl, fun i h1 h2 => g8 i h1 (by omega)⟩)
      · have c13 : k1 < n := c13
        refine av_wp_sqF ck_179 1 (pc' := 13) (lv' := [some (.inr (.inr (.inl (some (77))))), some (.inl k), some (.inl y), some (.inl k1), a2]) (st' := [.inr (.inr (.inl (some (77))))]) (h' := h) rfl ?_
        refine wq_gr (p' := 16) (ck_179 _ _ rfl) rfl (congrArg Prod.fst (ly_k I.1.1.1 77 rfl)) rfl (ly_g I.1.1.1 77 30 96 rfl) ?_
        refine av_wp_sqF ck_179 1 (pc' := 17) (lv' := [some (.inr (.inr (.inl (some (77))))), some (.inl k), some (.inl y), some (.inl k1), a2]) (st' := [.inl k1, .inr (.inr (.inl (some (96))))]) (h' := h) rfl ?_
        obtain ⟨v14, e15⟩ : ∃ v, hA h 96 (Int.toNat (k1)) = v := ⟨_, rfl⟩
        have g16 : 0 ≤ hA h 96 (Int.toNat (k1)) ∧ hA h 96 (Int.toNat (k1)) ≤ 7 := im_w I.1.1 96 (by decide) (by decide) _
        rw [e15] at g16
        have y17 : hA h 96 (Int.toNat (k1)) = v14 := (congrFun (Z.1 96 rfl) _).symm.trans e15
        have y18 := (X.1 (Int.toNat (k1)) (by omega)).1.1
        rw [e15] at y18
        refine wq_al (p' := 18) (n := 12) (ck_179 _ _ rfl) rfl (ly_k I.1.1.1 96 rfl) (by omega) (e15) ?_
        refine av_wp_sqF ck_179 1 (pc' := 19) (lv' := [some (.inr (.inr (.inl (some (77))))), some (.inl k), some (.inl y), some (.inl k1), a2]) (st' := [.inl (2), .inl v14]) (h' := h) rfl ?_
        refine wq_k2 (p' := 22) (ck_179 _ _ rfl) rfl ⟨by omega, by omega⟩ ⟨by omega, by omega⟩ (fun c20 => ?_) (fun c21 => ?_)
        · have c20 : v14 = (2) := c20
          refine av_wp_sqF ck_179 6 (pc' := 66) (lv' := [some (.inr (.inr (.inl (some (77))))), some (.inl k), some (.inl y), some (.inl k1), some (.inl (1))]) (st' := [.inr (.inr (.inl (some (77))))]) (h' := h) rfl ?_
          refine wq_gr (p' := 69) (ck_179 _ _ rfl) rfl (congrArg Prod.fst (ly_k I.1.1.1 77 rfl)) rfl (ly_g I.1.1.1 77 34 100 rfl) ?_
          refine av_wp_sqF ck_179 1 (pc' := 70) (lv' := [some (.inr (.inr (.inl (some (77))))), some (.inl k), some (.inl y), some (.inl k1), some (.inl (1))]) (st' := [.inl k1, .inr (.inr (.inl (some (100))))]) (h' := h) rfl ?_
          obtain ⟨v22, e23⟩ : ∃ v, hA h 100 (Int.toNat (k1)) = v := ⟨_, rfl⟩
          have g24 : -1 ≤ hA h 100 (Int.toNat (k1)) ∧ hA h 100 (Int.toNat (k1)) ≤ 11 := im_w I.1.1 100 (by decide) (by decide) _
          rw [e23] at g24
          have w25 := im_wr I.1 (Int.toNat (k1)) (by omega)
          rw [e23] at w25
          have y26 : hA h 100 (Int.toNat (k1)) = v22 := (congrFun (Z.1 100 rfl) _).symm.trans e23
          have y27 := (X.1 (Int.toNat (k1)) (by omega)).1.2.2.2.1
          rw [e23] at y27
          refine wq_al (p' := 71) (n := 12) (ck_179 _ _ rfl) rfl (ly_k I.1.1.1 100 rfl) (by omega) (e23) ?_
          refine av_wp_sqF ck_179 1 (pc' := 72) (lv' := [some (.inr (.inr (.inl (some (77))))), some (.inl k), some (.inl y), some (.inl k1), some (.inl (1))]) (st' := [.inl k, .inl v22]) (h' := h) rfl ?_
          refine wq_k2 (p' := 75) (ck_179 _ _ rfl) rfl ⟨by omega, by omega⟩ ⟨by omega, by omega⟩ (fun c29 => ?_) (fun c30 => ?_)
          · have c29 : v22 ≠ k := c29
            have u31 := all_s (P := (ANB u a0 (Int.toNat k) y)) g8 (j := k1) (by omega) (by unfold ANB; omega)
            refine av_wp_sqF ck_179 2 (pc' := 4) (lv' := [some (.inr (.inr (.inl (some (77))))), some (.inl k), some (.inl y), some (.inl (k1 + (1))), some (.inl (1))]) (st' := []) (h' := h) rfl ?_
            exact I5 _ (by omega) ((k1 + (1))) (some (.inl (1))) rfl u31 (by omega) (by omega) (by omega) rfl
          · have c30 : v22 = k := c30
            refine av_wp_sqF ck_179 1 (pc' := 76) (lv' := [some (.inr (.inr (.inl (some (77))))), some (.inl k), some (.inl y), some (.inl k1), some (.inl (1))]) (st' := [.inr (.inr (.inl (some (77))))]) (h' := h) rfl ?_
            refine wq_gr (p' := 79) (ck_179 _ _ rfl) rfl (congrArg Prod.fst (ly_k I.1.1.1 77 rfl)) rfl (ly_g I.1.1.1 77 43 109 rfl) ?_
            refine av_wp_sqF ck_179 1 (pc' := 80) (lv' := [some (.inr (.inr (.inl (some (77))))), some (.inl k), some (.inl y), some (.inl k1), some (.inl (1))]) (st' := [.inl k1, .inr (.inr (.inl (some (109))))]) (h' := h) rfl ?_
            obtain ⟨v32, e33⟩ : ∃ v, hA h 109 (Int.toNat (k1)) = v := ⟨_, rfl⟩
            have y35 : hA h 109 (Int.toNat (k1)) = v32 := (congrFun (Z.1 109 rfl) _).symm.trans e33
            have y36 : v32 = hw a0 (Int.toNat (k1)) 0 := LR_w X (by omega) (by omega) s12 (Or.inl ⟨rfl, e33.symm⟩)
            have g37 := hw_r H (k := (Int.toNat (k1))) (by omega) 0
            rw [← y36] at g37
            refine wq_al (p' := 81) (n := 12) (ck_179 _ _ rfl) rfl (ly_k I.1.1.1 109 rfl) (by omega) (e33) ?_
            refine av_wp_sqF ck_179 1 (pc' := 82) (lv' := [some (.inr (.inr (.inl (some (77))))), some (.inl k), some (.inl y), some (.inl k1), some (.inl (1))]) (st' := [.inl y, .inl v32]) (h' := h) rfl ?_
            refine wq_k2 (p' := 85) (ck_179 _ _ rfl) rfl ⟨by omega, by omega⟩ ⟨by omega, by omega⟩ (fun c38 => ?_) (fun c39 => ?_)
            · have c38 : y < v32 := c38
              have u40 := all_s (P := (ANB u a0 (Int.toNat k) y)) g8 (j := k1) (by omega) (by unfold ANB; omega)
              refine av_wp_sqF ck_179 2 (pc' := 4) (lv' := [some (.inr (.inr (.inl (some (77))))), some (.inl k), some (.inl y), some (.inl (k1 + (1))), some (.inl (1))]) (st' := []) (h' := h) rfl ?_
              exact I5 _ (by omega) ((k1 + (1))) (some (.inl (1))) rfl u40 (by omega) (by omega) (by omega) rfl
            · have c39 : v32 ≤ y := c39
              refine av_wp_sqF ck_179 1 (pc' := 86) (lv' := [some (.inr (.inr (.inl (some (77))))), some (.inl k), some (.inl y), some (.inl k1), some (.inl (1))]) (st' := [.inl (1)]) (h' := h) rfl ?_
              refine av_wp_ret (v := some (.inl (1))) (ck_179 _ _ rfl) rfl rfl ?_
              exact hq _ (by exact Or.inl ⟨rfl, (Int.toNat (k1)), by omega, by omega, by unfold ANB; omega⟩)
        · have c21 : v14 ≠ (2) := c21
          refine av_wp_sqF ck_179 1 (pc' := 23) (lv' := [some (.inr (.inr (.inl (some (77))))), some (.inl k), some (.inl y), some (.inl k1), a2]) (st' := [.inr (.inr (.inl (some (77))))]) (h' := h) rfl ?_
          refine wq_gr (p' := 26) (ck_179 _ _ rfl) rfl (congrArg Prod.fst (ly_k I.1.1.1 77 rfl)) rfl (ly_g I.1.1.1 77 30 96 rfl) ?_
          refine av_wp_sqF ck_179 1 (pc' := 27) (lv' := [some (.inr (.inr (.inl (some (77))))), some (.inl k), some (.inl y), some (.inl k1), a2]) (st' := [.inl k1, .inr (.inr (.inl (some (96))))]) (h' := h) rfl ?_
          obtain ⟨v41, e42⟩ : ∃ v, hA h 96 (Int.toNat (k1)) = v := ⟨_, rfl⟩
          have g43 : 0 ≤ hA h 96 (Int.toNat (k1)) ∧ hA h 96 (Int.toNat (k1)) ≤ 7 := im_w I.1.1 96 (by decide) (by decide) _
          rw [e42] at g43
          have y44 : hA h 96 (Int.toNat (k1)) = v41 := (congrFun (Z.1 96 rfl) _).symm.trans e42
          have y45 := (X.1 (Int.toNat (k1)) (by omega)).1.1
          rw [e42] at y45
          refine wq_al (p' := 28) (n := 12) (ck_179 _ _ rfl) rfl (ly_k I.1.1.1 96 rfl) (by omega) (e42) ?_
          refine av_wp_sqF ck_179 1 (pc' := 29) (lv' := [some (.inr (.inr (.inl (some (77))))), some (.inl k), some (.inl y), some (.inl k1), a2]) (st' := [.inl (3), .inl v41]) (h' := h) rfl ?_
          refine wq_k2 (p' := 32) (ck_179 _ _ rfl) rfl ⟨by omega, by omega⟩ ⟨by omega, by omega⟩ (fun c47 => ?_) (fun c48 => ?_)
          · have c47 : v41 = (3) := c47
            refine av_wp_sqF ck_179 6 (pc' := 66) (lv' := [some (.inr (.inr (.inl (some (77))))), some (.inl k), some (.inl y), some (.inl k1), some (.inl (1))]) (st' := [.inr (.inr (.inl (some (77))))]) (h' := h) rfl ?_
            refine wq_gr (p' := 69) (ck_179 _ _ rfl) rfl (congrArg Prod.fst (ly_k I.1.1.1 77 rfl)) rfl (ly_g I.1.1.1 77 34 100 rfl) ?_
            refine av_wp_sqF ck_179 1 (pc' := 70) (lv' := [some (.inr (.inr (.inl (some (77))))), some (.inl k), some (.inl y), some (.inl k1), some (.inl (1))]) (st' := [.inl k1, .inr (.inr (.inl (some (100))))]) (h' := h) rfl ?_
            obtain ⟨v49, e50⟩ : ∃ v, hA h 100 (Int.toNat (k1)) = v := ⟨_, rfl⟩
            have g51 : -1 ≤ hA h 100 (Int.toNat (k1)) ∧ hA h 100 (Int.toNat (k1)) ≤ 11 := im_w I.1.1 100 (by decide) (by decide) _
            rw [e50] at g51
            have w52 := im_wr I.1 (Int.toNat (k1)) (by omega)
            rw [e50] at w52
            have y53 : hA h 100 (Int.toNat (k1)) = v49 := (congrFun (Z.1 100 rfl) _).symm.trans e50
            have y54 := (X.1 (Int.toNat (k1)) (by omega)).1.2.2.2.1
            rw [e50] at y54
            refine wq_al (p' := 71) (n := 12) (ck_179 _ _ rfl) rfl (ly_k I.1.1.1 100 rfl) (by omega) (e50) ?_
            refine av_wp_sqF ck_179 1 (pc' := 72) (lv' := [some (.inr (.inr (.inl (some (77))))), some (.inl k), some (.inl y), some (.inl k1), some (.inl (1))]) (st' := [.inl k, .inl v49]) (h' := h) rfl ?_
            refine wq_k2 (p' := 75) (ck_179 _ _ rfl) rfl ⟨by omega, by omega⟩ ⟨by omega, by omega⟩ (fun c56 => ?_) (fun c57 => ?_)
            · have c56 : v49 ≠ k := c56
              have u58 := all_s (P := (ANB u a0 (Int.toNat k) y)) g8 (j := k1) (by omega) (by unfold ANB; omega)
              refine av_wp_sqF ck_179 2 (pc' := 4) (lv' := [some (.inr (.inr (.inl (some (77))))), some (.inl k), some (.inl y), some (.inl (k1 + (1))), some (.inl (1))]) (st' := []) (h' := h) rfl ?_
              exact I5 _ (by omega) ((k1 + (1))) (some (.inl (1))) rfl u58 (by omega) (by omega) (by omega) rfl
            · have c57 : v49 = k := c57
              refine av_wp_sqF ck_179 1 (pc' := 76) (lv' := [some (.inr (.inr (.inl (some (77))))), some (.inl k), some (.inl y), some (.inl k1), some (.inl (1))]) (st' := [.inr (.inr (.inl (some (77))))]) (h' := h) rfl ?_
              refine wq_gr (p' := 79) (ck_179 _ _ rfl) rfl (congrArg Prod.fst (ly_k I.1.1.1 77 rfl)) rfl (ly_g I.1.1.1 77 43 109 rfl) ?_
              refine av_wp_sqF ck_179 1 (pc' := 80) (lv' := [some (.inr (.inr (.inl (some (77))))), some (.inl k), some (.inl y), some (.inl k1), some (.inl (1))]) (st' := [.inl k1, .inr (.inr (.inl (some (109))))]) (h' := h) rfl ?_
              obtain ⟨v59, e60⟩ : ∃ v, hA h 109 (Int.toNat (k1)) = v := ⟨_, rfl⟩
              have y62 : hA h 109 (Int.toNat (k1)) = v59 := (congrFun (Z.1 109 rfl) _).symm.trans e60
              have y63 : v59 = hw a0 (Int.toNat (k1)) 0 := LR_w X (by omega) (by omega) s12 (Or.inl ⟨rfl, e60.symm⟩)
              have g64 := hw_r H (k := (Int.toNat (k1))) (by omega) 0
              rw [← y63] at g64
              refine wq_al (p' := 81) (n := 12) (ck_179 _ _ rfl) rfl (ly_k I.1.1.1 109 rfl) (by omega) (e60) ?_
              refine av_wp_sqF ck_179 1 (pc' := 82) (lv' := [some (.inr (.inr (.inl (some (77))))), some (.inl k), some (.inl y), some (.inl k1), some (.inl (1))]) (st' := [.inl y, .inl v59]) (h' := h) rfl ?_
              refine wq_k2 (p' := 85) (ck_179 _ _ rfl) rfl ⟨by omega, by omega⟩ ⟨by omega, by omega⟩ (fun c65 => ?_) (fun c66 => ?_)
              · have c65 : y < v59 := c65
                have u67 := all_s (P := (ANB u a0 (Int.toNat k) y)) g8 (j := k1) (by omega) (by unfold ANB; omega)
                refine av_wp_sqF ck_179 2 (pc' := 4) (lv' := [some (.inr (.inr (.inl (some (77))))), some (.inl k), some (.inl y), some (.inl (k1 + (1))), some (.inl (1))]) (st' := []) (h' := h) rfl ?_
                exact I5 _ (by omega) ((k1 + (1))) (some (.inl (1))) rfl u67 (by omega) (by omega) (by omega) rfl
              · have c66 : v59 ≤ y := c66
                refine av_wp_sqF ck_179 1 (pc' := 86) (lv' := [some (.inr (.inr (.inl (some (77))))), some (.inl k), some (.inl y), some (.inl k1), some (.inl (1))]) (st' := [.inl (1)]) (h' := h) rfl ?_
                refine av_wp_ret (v := some (.inl (1))) (ck_179 _ _ rfl) rfl rfl ?_
                exact hq _ (by exact Or.inl ⟨rfl, (Int.toNat (k1)), by omega, by omega, by unfold ANB; omega⟩)
          · have c48 : v41 ≠ (3) := c48
            refine av_wp_sqF ck_179 1 (pc' := 33) (lv' := [some (.inr (.inr (.inl (some (77))))), some (.inl k), some (.inl y), some (.inl k1), a2]) (st' := [.inr (.inr (.inl (some (77))))]) (h' := h) rfl ?_
            refine wq_gr (p' := 36) (ck_179 _ _ rfl) rfl (congrArg Prod.fst (ly_k I.1.1.1 77 rfl)) rfl (ly_g I.1.1.1 77 30 96 rfl) ?_
            refine av_wp_sqF ck_179 1 (pc' := 37) (lv' := [some (.inr (.inr (.inl (some (77))))), some (.inl k), some (.inl y), some (.inl k1), a2]) (st' := [.inl k1, .inr (.inr (.inl (some (96))))]) (h' := h) rfl ?_
            obtain ⟨v68, e69⟩ : ∃ v, hA h 96 (Int.toNat (k1)) = v := ⟨_, rfl⟩
            have g70 : 0 ≤ hA h 96 (Int.toNat (k1)) ∧ hA h 96 (Int.toNat (k1)) ≤ 7 := im_w I.1.1 96 (by decide) (by decide) _
            rw [e69] at g70
            have y71 : hA h 96 (Int.toNat (k1)) = v68 := (congrFun (Z.1 96 rfl) _).symm.trans e69
            have y72 := (X.1 (Int.toNat (k1)) (by omega)).1.1
            rw [e69] at y72
            refine wq_al (p' := 38) (n := 12) (ck_179 _ _ rfl) rfl (ly_k I.1.1.1 96 rfl) (by omega) (e69) ?_
            refine av_wp_sqF ck_179 1 (pc' := 39) (lv' := [some (.inr (.inr (.inl (some (77))))), some (.inl k), some (.inl y), some (.inl k1), a2]) (st' := [.inl (4), .inl v68]) (h' := h) rfl ?_
            refine wq_k2 (p' := 42) (ck_179 _ _ rfl) rfl ⟨by omega, by omega⟩ ⟨by omega, by omega⟩ (fun c74 => ?_) (fun c75 => ?_)
            · have c74 : v68 = (4) := c74
              refine av_wp_sqF ck_179 6 (pc' := 66) (lv' := [some (.inr (.inr (.inl (some (77))))), some (.inl k), some (.inl y), some (.inl k1), some (.inl (1))]) (st' := [.inr (.inr (.inl (some (77))))]) (h' := h) rfl ?_
              refine wq_gr (p' := 69) (ck_179 _ _ rfl) rfl (congrArg Prod.fst (ly_k I.1.1.1 77 rfl)) rfl (ly_g I.1.1.1 77 34 100 rfl) ?_
              refine av_wp_sqF ck_179 1 (pc' := 70) (lv' := [some (.inr (.inr (.inl (some (77))))), some (.inl k), some (.inl y), some (.inl k1), some (.inl (1))]) (st' := [.inl k1, .inr (.inr (.inl (some (100))))]) (h' := h) rfl ?_
              obtain ⟨v76, e77⟩ : ∃ v, hA h 100 (Int.toNat (k1)) = v := ⟨_, rfl⟩
              have g78 : -1 ≤ hA h 100 (Int.toNat (k1)) ∧ hA h 100 (Int.toNat (k1)) ≤ 11 := im_w I.1.1 100 (by decide) (by decide) _
              rw [e77] at g78
              have w79 := im_wr I.1 (Int.toNat (k1)) (by omega)
              rw [e77] at w79
              have y80 : hA h 100 (Int.toNat (k1)) = v76 := (congrFun (Z.1 100 rfl) _).symm.trans e77
              have y81 := (X.1 (Int.toNat (k1)) (by omega)).1.2.2.2.1
              rw [e77] at y81
              refine wq_al (p' := 71) (n := 12) (ck_179 _ _ rfl) rfl (ly_k I.1.1.1 100 rfl) (by omega) (e77) ?_
              refine av_wp_sqF ck_179 1 (pc' := 72) (lv' := [some (.inr (.inr (.inl (some (77))))), some (.inl k), some (.inl y), some (.inl k1), some (.inl (1))]) (st' := [.inl k, .inl v76]) (h' := h) rfl ?_
              refine wq_k2 (p' := 75) (ck_179 _ _ rfl) rfl ⟨by omega, by omega⟩ ⟨by omega, by omega⟩ (fun c83 => ?_) (fun c84 => ?_)
              · have c83 : v76 ≠ k := c83
                have u85 := all_s (P := (ANB u a0 (Int.toNat k) y)) g8 (j := k1) (by omega) (by unfold ANB; omega)
                refine av_wp_sqF ck_179 2 (pc' := 4) (lv' := [some (.inr (.inr (.inl (some (77))))), some (.inl k), some (.inl y), some (.inl (k1 + (1))), some (.inl (1))]) (st' := []) (h' := h) rfl ?_
                exact I5 _ (by omega) ((k1 + (1))) (some (.inl (1))) rfl u85 (by omega) (by omega) (by omega) rfl
              · have c84 : v76 = k := c84
                refine av_wp_sqF ck_179 1 (pc' := 76) (lv' := [some (.inr (.inr (.inl (some (77))))), some (.inl k), some (.inl y), some (.inl k1), some (.inl (1))]) (st' := [.inr (.inr (.inl (some (77))))]) (h' := h) rfl ?_
                refine wq_gr (p' := 79) (ck_179 _ _ rfl) rfl (congrArg Prod.fst (ly_k I.1.1.1 77 rfl)) rfl (ly_g I.1.1.1 77 43 109 rfl) ?_
                refine av_wp_sqF ck_179 1 (pc' := 80) (lv' := [some (.inr (.inr (.inl (some (77))))), some (.inl k), some (.inl y), some (.inl k1), some (.inl (1))]) (st' := [.inl k1, .inr (.inr (.inl (some (109))))]) (h' := h) rfl ?_
                obtain ⟨v86, e87⟩ : ∃ v, hA h 109 (Int.toNat (k1)) = v := ⟨_, rfl⟩
                have y89 : hA h 109 (Int.toNat (k1)) = v86 := (congrFun (Z.1 109 rfl) _).symm.trans e87
                have y90 : v86 = hw a0 (Int.toNat (k1)) 0 := LR_w X (by omega) (by omega) s12 (Or.inl ⟨rfl, e87.symm⟩)
                have g91 := hw_r H (k := (Int.toNat (k1))) (by omega) 0
                rw [← y90] at g91
                refine wq_al (p' := 81) (n := 12) (ck_179 _ _ rfl) rfl (ly_k I.1.1.1 109 rfl) (by omega) (e87) ?_
                refine av_wp_sqF ck_179 1 (pc' := 82) (lv' := [some (.inr (.inr (.inl (some (77))))), some (.inl k), some (.inl y), some (.inl k1), some (.inl (1))]) (st' := [.inl y, .inl v86]) (h' := h) rfl ?_
                refine wq_k2 (p' := 85) (ck_179 _ _ rfl) rfl ⟨by omega, by omega⟩ ⟨by omega, by omega⟩ (fun c92 => ?_) (fun c93 => ?_)
                · have c92 : y < v86 := c92
                  have u94 := all_s (P := (ANB u a0 (Int.toNat k) y)) g8 (j := k1) (by omega) (by unfold ANB; omega)
                  refine av_wp_sqF ck_179 2 (pc' := 4) (lv' := [some (.inr (.inr (.inl (some (77))))), some (.inl k), some (.inl y), some (.inl (k1 + (1))), some (.inl (1))]) (st' := []) (h' := h) rfl ?_
                  exact I5 _ (by omega) ((k1 + (1))) (some (.inl (1))) rfl u94 (by omega) (by omega) (by omega) rfl
                · have c93 : v86 ≤ y := c93
                  refine av_wp_sqF ck_179 1 (pc' := 86) (lv' := [some (.inr (.inr (.inl (some (77))))), some (.inl k), some (.inl y), some (.inl k1), some (.inl (1))]) (st' := [.inl (1)]) (h' := h) rfl ?_
                  refine av_wp_ret (v := some (.inl (1))) (ck_179 _ _ rfl) rfl rfl ?_
                  exact hq _ (by exact Or.inl ⟨rfl, (Int.toNat (k1)), by omega, by omega, by unfold ANB; omega⟩)
            · have c75 : v68 ≠ (4) := c75
              refine av_wp_sqF ck_179 1 (pc' := 43) (lv' := [some (.inr (.inr (.inl (some (77))))), some (.inl k), some (.inl y), some (.inl k1), a2]) (st' := [.inr (.inr (.inl (some (77))))]) (h' := h) rfl ?_
              refine wq_gr (p' := 46) (ck_179 _ _ rfl) rfl (congrArg Prod.fst (ly_k I.1.1.1 77 rfl)) rfl (ly_g I.1.1.1 77 30 96 rfl) ?_
              refine av_wp_sqF ck_179 1 (pc' := 47) (lv' := [some (.inr (.inr (.inl (some (77))))), some (.inl k), some (.inl y), some (.inl k1), a2]) (st' := [.inl k1, .inr (.inr (.inl (some (96))))]) (h' := h) rfl ?_
              obtain ⟨v95, e96⟩ : ∃ v, hA h 96 (Int.toNat (k1)) = v := ⟨_, rfl⟩
              have g97 : 0 ≤ hA h 96 (Int.toNat (k1)) ∧ hA h 96 (Int.toNat (k1)) ≤ 7 := im_w I.1.1 96 (by decide) (by decide) _
              rw [e96] at g97
              have y98 : hA h 96 (Int.toNat (k1)) = v95 := (congrFun (Z.1 96 rfl) _).symm.trans e96
              have y99 := (X.1 (Int.toNat (k1)) (by omega)).1.1
              rw [e96] at y99
              refine wq_al (p' := 48) (n := 12) (ck_179 _ _ rfl) rfl (ly_k I.1.1.1 96 rfl) (by omega) (e96) ?_
              refine av_wp_sqF ck_179 1 (pc' := 50) (lv' := [some (.inr (.inr (.inl (some (77))))), some (.inl k), some (.inl y), some (.inl k1), a2]) (st' := [.inl (6), .inl v95]) (h' := h) rfl ?_
              refine wq_k2 (p' := 53) (ck_179 _ _ rfl) rfl ⟨by omega, by omega⟩ ⟨by omega, by omega⟩ (fun c101 => ?_) (fun c102 => ?_)
              · have c101 : v95 ≠ (6) := c101
                refine av_wp_sqF ck_179 4 (pc' := 87) (lv' := [some (.inr (.inr (.inl (some (77))))), some (.inl k), some (.inl y), some (.inl k1), some (.inl (0))]) (st' := []) (h' := h) rfl ?_
                have u103 := all_s (P := (ANB u a0 (Int.toNat k) y)) g8 (j := k1) (by omega) (by unfold ANB; omega)
                refine av_wp_sqF ck_179 2 (pc' := 4) (lv' := [some (.inr (.inr (.inl (some (77))))), some (.inl k), some (.inl y), some (.inl (k1 + (1))), some (.inl (0))]) (st' := []) (h' := h) rfl ?_
                exact I5 _ (by omega) ((k1 + (1))) (some (.inl (0))) rfl u103 (by omega) (by omega) (by omega) rfl
              · have c102 : v95 = (6) := c102
                refine av_wp_sqF ck_179 6 (pc' := 66) (lv' := [some (.inr (.inr (.inl (some (77))))), some (.inl k), some (.inl y), some (.inl k1), some (.inl (1))]) (st' := [.inr (.inr (.inl (some (77))))]) (h' := h) rfl ?_
                refine wq_gr (p' := 69) (ck_179 _ _ rfl) rfl (congrArg Prod.fst (ly_k I.1.1.1 77 rfl)) rfl (ly_g I.1.1.1 77 34 100 rfl) ?_
                refine av_wp_sqF ck_179 1 (pc' := 70) (lv' := [some (.inr (.inr (.inl (some (77))))), some (.inl k), some (.inl y), some (.inl k1), some (.inl (1))]) (st' := [.inl k1, .inr (.inr (.inl (some (100))))]) (h' := h) rfl ?_
                obtain ⟨v104, e105⟩ : ∃ v, hA h 100 (Int.toNat (k1)) = v := ⟨_, rfl⟩
                have g106 : -1 ≤ hA h 100 (Int.toNat (k1)) ∧ hA h 100 (Int.toNat (k1)) ≤ 11 := im_w I.1.1 100 (by decide) (by decide) _
                rw [e105] at g106
                have w107 := im_wr I.1 (Int.toNat (k1)) (by omega)
                rw [e105] at w107
                have y108 : hA h 100 (Int.toNat (k1)) = v104 := (congrFun (Z.1 100 rfl) _).symm.trans e105
                have y109 := (X.1 (Int.toNat (k1)) (by omega)).1.2.2.2.1
                rw [e105] at y109
                refine wq_al (p' := 71) (n := 12) (ck_179 _ _ rfl) rfl (ly_k I.1.1.1 100 rfl) (by omega) (e105) ?_
                refine av_wp_sqF ck_179 1 (pc' := 72) (lv' := [some (.inr (.inr (.inl (some (77))))), some (.inl k), some (.inl y), some (.inl k1), some (.inl (1))]) (st' := [.inl k, .inl v104]) (h' := h) rfl ?_
                refine wq_k2 (p' := 75) (ck_179 _ _ rfl) rfl ⟨by omega, by omega⟩ ⟨by omega, by omega⟩ (fun c111 => ?_) (fun c112 => ?_)
                · have c111 : v104 ≠ k := c111
                  have u113 := all_s (P := (ANB u a0 (Int.toNat k) y)) g8 (j := k1) (by omega) (by unfold ANB; omega)
                  refine av_wp_sqF ck_179 2 (pc' := 4) (lv' := [some (.inr (.inr (.inl (some (77))))), some (.inl k), some (.inl y), some (.inl (k1 + (1))), some (.inl (1))]) (st' := []) (h' := h) rfl ?_
                  exact I5 _ (by omega) ((k1 + (1))) (some (.inl (1))) rfl u113 (by omega) (by omega) (by omega) rfl
                · have c112 : v104 = k := c112
                  refine av_wp_sqF ck_179 1 (pc' := 76) (lv' := [some (.inr (.inr (.inl (some (77))))), some (.inl k), some (.inl y), some (.inl k1), some (.inl (1))]) (st' := [.inr (.inr (.inl (some (77))))]) (h' := h) rfl ?_
                  refine wq_gr (p' := 79) (ck_179 _ _ rfl) rfl (congrArg Prod.fst (ly_k I.1.1.1 77 rfl)) rfl (ly_g I.1.1.1 77 43 109 rfl) ?_
                  refine av_wp_sqF ck_179 1 (pc' := 80) (lv' := [some (.inr (.inr (.inl (some (77))))), some (.inl k), some (.inl y), some (.inl k1), some (.inl (1))]) (st' := [.inl k1, .inr (.inr (.inl (some (109))))]) (h' := h) rfl ?_
                  obtain ⟨v114, e115⟩ : ∃ v, hA h 109 (Int.toNat (k1)) = v := ⟨_, rfl⟩
                  have y117 : hA h 109 (Int.toNat (k1)) = v114 := (congrFun (Z.1 109 rfl) _).symm.trans e115
                  have y118 : v114 = hw a0 (Int.toNat (k1)) 0 := LR_w X (by omega) (by omega) s12 (Or.inl ⟨rfl, e115.symm⟩)
                  have g119 := hw_r H (k := (Int.toNat (k1))) (by omega) 0
                  rw [← y118] at g119
                  refine wq_al (p' := 81) (n := 12) (ck_179 _ _ rfl) rfl (ly_k I.1.1.1 109 rfl) (by omega) (e115) ?_
                  refine av_wp_sqF ck_179 1 (pc' := 82) (lv' := [some (.inr (.inr (.inl (some (77))))), some (.inl k), some (.inl y), some (.inl k1), some (.inl (1))]) (st' := [.inl y, .inl v114]) (h' := h) rfl ?_
                  refine wq_k2 (p' := 85) (ck_179 _ _ rfl) rfl ⟨by omega, by omega⟩ ⟨by omega, by omega⟩ (fun c120 => ?_) (fun c121 => ?_)
                  · have c120 : y < v114 := c120
                    have u122 := all_s (P := (ANB u a0 (Int.toNat k) y)) g8 (j := k1) (by omega) (by unfold ANB; omega)
                    refine av_wp_sqF ck_179 2 (pc' := 4) (lv' := [some (.inr (.inr (.inl (some (77))))), some (.inl k), some (.inl y), some (.inl (k1 + (1))), some (.inl (1))]) (st' := []) (h' := h) rfl ?_
                    exact I5 _ (by omega) ((k1 + (1))) (some (.inl (1))) rfl u122 (by omega) (by omega) (by omega) rfl
                  · have c121 : v114 ≤ y := c121
                    refine av_wp_sqF ck_179 1 (pc' := 86) (lv' := [some (.inr (.inr (.inl (some (77))))), some (.inl k), some (.inl y), some (.inl k1), some (.inl (1))]) (st' := [.inl (1)]) (h' := h) rfl ?_
                    refine av_wp_ret (v := some (.inl (1))) (ck_179 _ _ rfl) rfl rfl ?_
                    exact hq _ (by exact Or.inl ⟨rfl, (Int.toNat (k1)), by omega, by omega, by unfold ANB; omega⟩)
  exact L4 _ ((k + (1))) (none) rfl (fun i h1 h2 => by omega) (by omega) (by omega) (by omega) rfl

set_option maxRecDepth 100000 in
set_option maxHeartbeats 4000000 in
theorem cx_173 {g h : av_H} {n a m : Int} (I : IMF n a m h) (F : FM g h) (o : Int) (qo : 0 ≤ o ∧ o ≤ 11) (y : Int) (qy : -1 ≤ y ∧ y ≤ 9999) (c : Int) (qc : 0 ≤ c ∧ c ≤ 4) (r14 : -1 ≤ hA h 114 (Int.toNat o) ∧ hA h 114 (Int.toNat o) ≤ 9999) (r15 : 0 ≤ hA h 115 (Int.toNat o) ∧ hA h 115 (Int.toNat o) ≤ 4) {Q : Option av_V → av_H → Prop} (hq : ∀ h', IMF n a m h' → FM g h' → ZE [114, 115] [] h h' → E2 (hA h') (Int.toNat o) = eb2 (E2 (hA h) (Int.toNat o)) y c → (∀ q, q ≠ Int.toNat o → hA h' 114 q = hA h 114 q ∧ hA h' 115 q = hA h 115 q) → Q none h') : av_wp none cd_173 0 [some (.inr (.inr (.inl (some (77))))), some (.inl o), some (.inl y), some (.inl c)] [] h Q := by
  have gn := im_n I.1.1
  rw [I.2.1] at gn
  have ga := im_a I.1.1
  rw [I.2.2.1] at ga
  have gm := im_cm I.1.1
  rw [I.2.2.2] at gm
  have Z := ZE_rf (L := [114, 115]) (K := []) h
  refine av_wp_sqF ck_173 1 (pc' := 1) (lv' := [some (.inr (.inr (.inl (some (77))))), some (.inl o), some (.inl y), some (.inl c)]) (st' := [.inl y]) (h' := h) rfl ?_
  refine wq_k1 (p' := 4) (ck_173 _ _ rfl) rfl ⟨by omega, by omega⟩ (fun c1 => ?_) (fun c2 => ?_)
  · have c1 : y < (0) := c1
    refine av_wp_ret (v := none) (ck_173 _ _ rfl) rfl rfl ?_
    exact hq h I F Z (if_pos (show y < 0 ∨ hA h 114 (Int.toNat o) < y ∨ (y = hA h 114 (Int.toNat o) ∧ 0 < hA h 115 (Int.toNat o) ∧ hA h 115 (Int.toNat o) ≤ c) by omega)).symm (fun q _ => ⟨rfl, rfl⟩)
  · have c2 : (0) ≤ y := c2
    refine av_wp_sqF ck_173 2 (pc' := 6) (lv' := [some (.inr (.inr (.inl (some (77))))), some (.inl o), some (.inl y), some (.inl c)]) (st' := [.inr (.inr (.inl (some (77)))), .inl y]) (h' := h) rfl ?_
    refine wq_gr (p' := 9) (ck_173 _ _ rfl) rfl (congrArg Prod.fst (ly_k I.1.1.1 77 rfl)) rfl (ly_g I.1.1.1 77 48 114 rfl) ?_
    refine av_wp_sqF ck_173 1 (pc' := 10) (lv' := [some (.inr (.inr (.inl (some (77))))), some (.inl o), some (.inl y), some (.inl c)]) (st' := [.inl o, .inr (.inr (.inl (some (114)))), .inl y]) (h' := h) rfl ?_
    obtain ⟨v3, e4⟩ : ∃ v, hA h 114 (Int.toNat (o)) = v := ⟨_, rfl⟩
    have g6 := r14
    rw [e4] at g6
    refine wq_al (p' := 11) (n := 12) (ck_173 _ _ rfl) rfl (ly_k I.1.1.1 114 rfl) (by omega) (e4) ?_
    refine wq_k2 (p' := 14) (ck_173 _ _ rfl) rfl ⟨by omega, by omega⟩ ⟨by omega, by omega⟩ (fun c7 => ?_) (fun c8 => ?_)
    · have c7 : v3 < y := c7
      refine av_wp_ret (v := none) (ck_173 _ _ rfl) rfl rfl ?_
      exact hq h I F Z (if_pos (show y < 0 ∨ hA h 114 (Int.toNat o) < y ∨ (y = hA h 114 (Int.toNat o) ∧ 0 < hA h 115 (Int.toNat o) ∧ hA h 115 (Int.toNat o) ≤ c) by omega)).symm (fun q _ => ⟨rfl, rfl⟩)
    · have c8 : y ≤ v3 := c8
      refine av_wp_sqF ck_173 2 (pc' := 16) (lv' := [some (.inr (.inr (.inl (some (77))))), some (.inl o), some (.inl y), some (.inl c)]) (st' := [.inr (.inr (.inl (some (77)))), .inl y]) (h' := h) rfl ?_
      refine wq_gr (p' := 19) (ck_173 _ _ rfl) rfl (congrArg Prod.fst (ly_k I.1.1.1 77 rfl)) rfl (ly_g I.1.1.1 77 48 114 rfl) ?_
      refine av_wp_sqF ck_173 1 (pc' := 20) (lv' := [some (.inr (.inr (.inl (some (77))))), some (.inl o), some (.inl y), some (.inl c)]) (st' := [.inl o, .inr (.inr (.inl (some (114)))), .inl y]) (h' := h) rfl ?_
      obtain ⟨v9, e10⟩ : ∃ v, hA h 114 (Int.toNat (o)) = v := ⟨_, rfl⟩
      have g12 := r14
      rw [e10] at g12
      refine wq_al (p' := 21) (n := 12) (ck_173 _ _ rfl) rfl (ly_k I.1.1.1 114 rfl) (by omega) (e10) ?_
      refine wq_k2 (p' := 24) (ck_173 _ _ rfl) rfl ⟨by omega, by omega⟩ ⟨by omega, by omega⟩ (fun c13 => ?_) (fun c14 => ?_)
      · have c13 : y ≠ v9 := c13
        refine av_wp_sqF ck_173 1 (pc' := 45) (lv' := [some (.inr (.inr (.inl (some (77))))), some (.inl o), some (.inl y), some (.inl c)]) (st' := [.inr (.inr (.inl (some (77))))]) (h' := h) rfl ?_
        refine wq_gr (p' := 48) (ck_173 _ _ rfl) rfl (congrArg Prod.fst (ly_k I.1.1.1 77 rfl)) rfl (ly_g I.1.1.1 77 48 114 rfl) ?_
        refine av_wp_sqF ck_173 2 (pc' := 50) (lv' := [some (.inr (.inr (.inl (some (77))))), some (.inl o), some (.inl y), some (.inl c)]) (st' := [.inl y, .inl o, .inr (.inr (.inl (some (114))))]) (h' := h) rfl ?_
        refine xm_as (p' := 51) (l := 12) rfl rfl I F (ly_k I.1.1.1 114 rfl) (by omega) (by omega) (fun h15 I16 F17 e18 => ?_)
        have Z19 := ZE_a Z e18 rfl
        refine av_wp_sqF ck_173 1 (pc' := 52) (lv' := [some (.inr (.inr (.inl (some (77))))), some (.inl o), some (.inl y), some (.inl c)]) (st' := [.inr (.inr (.inl (some (77))))]) (h' := h15) rfl ?_
        refine wq_gr (p' := 55) (ck_173 _ _ rfl) rfl (congrArg Prod.fst (ly_k I16.1.1.1 77 rfl)) rfl (ly_g I16.1.1.1 77 49 115 rfl) ?_
        refine av_wp_sqF ck_173 2 (pc' := 57) (lv' := [some (.inr (.inr (.inl (some (77))))), some (.inl o), some (.inl y), some (.inl c)]) (st' := [.inl c, .inl o, .inr (.inr (.inl (some (115))))]) (h' := h15) rfl ?_
        refine xm_as (p' := 58) (l := 12) rfl rfl I16 F17 (ly_k I16.1.1.1 115 rfl) (by omega) (by omega) (fun h20 I21 F22 e23 => ?_)
        have Z24 := ZE_a Z19 e23 rfl
        refine av_wp_ret (v := none) (ck_173 _ _ rfl) rfl rfl ?_
        have E4 : hA h20 114 = av_u1 (hA h 114) (Int.toNat o) y := (hA_en e23 (by decide)).trans (hA_eu e18)
        have E5 : hA h20 115 = av_u1 (hA h 115) (Int.toNat o) c := (hA_eu e23).trans (by rw [hA_en e18 (by decide)])
        refine hq h20 I21 F22 Z24 ?_ (fun q hq => ⟨by rw [E4, u1_ne hq], by rw [E5, u1_ne hq]⟩)
        show (hA h20 114 (Int.toNat o), hA h20 115 (Int.toNat o)) = _
        rw [E4, E5, u1_eq, u1_eq]
        exact (if_neg (show ¬ (y < 0 ∨ hA h 114 (Int.toNat o) < y ∨ (y = hA h 114 (Int.toNat o) ∧ 0 < hA h 115 (Int.toNat o) ∧ hA h 115 (Int.toNat o) ≤ c)) by omega)).symm
      · have c14 : y = v9 := c14
        refine av_wp_sqF ck_173 1 (pc' := 25) (lv' := [some (.inr (.inr (.inl (some (77))))), some (.inl o), some (.inl y), some (.inl c)]) (st' := [.inr (.inr (.inl (some (77))))]) (h' := h) rfl ?_
        refine wq_gr (p' := 28) (ck_173 _ _ rfl) rfl (congrArg Prod.fst (ly_k I.1.1.1 77 rfl)) rfl (ly_g I.1.1.1 77 49 115 rfl) ?_
        refine av_wp_sqF ck_173 1 (pc' := 29) (lv' := [some (.inr (.inr (.inl (some (77))))), some (.inl o), some (.inl y), some (.inl c)]) (st' := [.inl o, .inr (.inr (.inl (some (115))))]) (h' := h) rfl ?_
        obtain ⟨v25, e26⟩ : ∃ v, hA h 115 (Int.toNat (o)) = v := ⟨_, rfl⟩
        have g28 := r15
        rw [e26] at g28
        refine wq_al (p' := 30) (n := 12) (ck_173 _ _ rfl) rfl (ly_k I.1.1.1 115 rfl) (by omega) (e26) ?_
        refine wq_k1 (p' := 33) (ck_173 _ _ rfl) rfl ⟨by omega, by omega⟩ (fun c29 => ?_) (fun c30 => ?_)
        · have c29 : v25 ≤ (0) := c29
          refine av_wp_sqF ck_173 1 (pc' := 45) (lv' := [some (.inr (.inr (.inl (some (77))))), some (.inl o), some (.inl y), some (.inl c)]) (st' := [.inr (.inr (.inl (some (77))))]) (h' := h) rfl ?_
          refine wq_gr (p' := 48) (ck_173 _ _ rfl) rfl (congrArg Prod.fst (ly_k I.1.1.1 77 rfl)) rfl (ly_g I.1.1.1 77 48 114 rfl) ?_
          refine av_wp_sqF ck_173 2 (pc' := 50) (lv' := [some (.inr (.inr (.inl (some (77))))), some (.inl o), some (.inl y), some (.inl c)]) (st' := [.inl y, .inl o, .inr (.inr (.inl (some (114))))]) (h' := h) rfl ?_
          refine xm_as (p' := 51) (l := 12) rfl rfl I F (ly_k I.1.1.1 114 rfl) (by omega) (by omega) (fun h31 I32 F33 e34 => ?_)
          have Z35 := ZE_a Z e34 rfl
          refine av_wp_sqF ck_173 1 (pc' := 52) (lv' := [some (.inr (.inr (.inl (some (77))))), some (.inl o), some (.inl y), some (.inl c)]) (st' := [.inr (.inr (.inl (some (77))))]) (h' := h31) rfl ?_
          refine wq_gr (p' := 55) (ck_173 _ _ rfl) rfl (congrArg Prod.fst (ly_k I32.1.1.1 77 rfl)) rfl (ly_g I32.1.1.1 77 49 115 rfl) ?_
          refine av_wp_sqF ck_173 2 (pc' := 57) (lv' := [some (.inr (.inr (.inl (some (77))))), some (.inl o), some (.inl y), some (.inl c)]) (st' := [.inl c, .inl o, .inr (.inr (.inl (some (115))))]) (h' := h31) rfl ?_
          refine xm_as (p' := 58) (l := 12) rfl rfl I32 F33 (ly_k I32.1.1.1 115 rfl) (by omega) (by omega) (fun h36 I37 F38 e39 => ?_)
          have Z40 := ZE_a Z35 e39 rfl
          refine av_wp_ret (v := none) (ck_173 _ _ rfl) rfl rfl ?_
          have E4 : hA h36 114 = av_u1 (hA h 114) (Int.toNat o) y := (hA_en e39 (by decide)).trans (hA_eu e34)
          have E5 : hA h36 115 = av_u1 (hA h 115) (Int.toNat o) c := (hA_eu e39).trans (by rw [hA_en e34 (by decide)])
          refine hq h36 I37 F38 Z40 ?_ (fun q hq => ⟨by rw [E4, u1_ne hq], by rw [E5, u1_ne hq]⟩)
          show (hA h36 114 (Int.toNat o), hA h36 115 (Int.toNat o)) = _
          rw [E4, E5, u1_eq, u1_eq]
          exact (if_neg (show ¬ (y < 0 ∨ hA h 114 (Int.toNat o) < y ∨ (y = hA h 114 (Int.toNat o) ∧ 0 < hA h 115 (Int.toNat o) ∧ hA h 115 (Int.toNat o) ≤ c)) by omega)).symm
        · have c30 : (0) < v25 := c30
          refine av_wp_sqF ck_173 1 (pc' := 34) (lv' := [some (.inr (.inr (.inl (some (77))))), some (.inl o), some (.inl y), some (.inl c)]) (st' := [.inr (.inr (.inl (some (77))))]) (h' := h) rfl ?_
          refine wq_gr (p' := 37) (ck_173 _ _ rfl) rfl (congrArg Prod.fst (ly_k I.1.1.1 77 rfl)) rfl (ly_g I.1.1.1 77 49 115 rfl) ?_
          refine av_wp_sqF ck_173 1 (pc' := 38) (lv' := [some (.inr (.inr (.inl (some (77))))), some (.inl o), some (.inl y), some (.inl c)]) (st' := [.inl o, .inr (.inr (.inl (some (115))))]) (h' := h) rfl ?_
          obtain ⟨v41, e42⟩ : ∃ v, hA h 115 (Int.toNat (o)) = v := ⟨_, rfl⟩
          have g44 := r15
          rw [e42] at g44
          refine wq_al (p' := 39) (n := 12) (ck_173 _ _ rfl) rfl (ly_k I.1.1.1 115 rfl) (by omega) (e42) ?_
          refine av_wp_sqF ck_173 1 (pc' := 40) (lv' := [some (.inr (.inr (.inl (some (77))))), some (.inl o), some (.inl y), some (.inl c)]) (st' := [.inl c, .inl v41]) (h' := h) rfl ?_
          refine wq_k2 (p' := 43) (ck_173 _ _ rfl) rfl ⟨by omega, by omega⟩ ⟨by omega, by omega⟩ (fun c45 => ?_) (fun c46 => ?_)
          · have c45 : c < v41 := c45
            refine av_wp_sqF ck_173 1 (pc' := 45) (lv' := [some (.inr (.inr (.inl (some (77))))), some (.inl o), some (.inl y), some (.inl c)]) (st' := [.inr (.inr (.inl (some (77))))]) (h' := h) rfl ?_
            refine wq_gr (p' := 48) (ck_173 _ _ rfl) rfl (congrArg Prod.fst (ly_k I.1.1.1 77 rfl)) rfl (ly_g I.1.1.1 77 48 114 rfl) ?_
            refine av_wp_sqF ck_173 2 (pc' := 50) (lv' := [some (.inr (.inr (.inl (some (77))))), some (.inl o), some (.inl y), some (.inl c)]) (st' := [.inl y, .inl o, .inr (.inr (.inl (some (114))))]) (h' := h) rfl ?_
            refine xm_as (p' := 51) (l := 12) rfl rfl I F (ly_k I.1.1.1 114 rfl) (by omega) (by omega) (fun h47 I48 F49 e50 => ?_)
            have Z51 := ZE_a Z e50 rfl
            refine av_wp_sqF ck_173 1 (pc' := 52) (lv' := [some (.inr (.inr (.inl (some (77))))), some (.inl o), some (.inl y), some (.inl c)]) (st' := [.inr (.inr (.inl (some (77))))]) (h' := h47) rfl ?_
            refine wq_gr (p' := 55) (ck_173 _ _ rfl) rfl (congrArg Prod.fst (ly_k I48.1.1.1 77 rfl)) rfl (ly_g I48.1.1.1 77 49 115 rfl) ?_
            refine av_wp_sqF ck_173 2 (pc' := 57) (lv' := [some (.inr (.inr (.inl (some (77))))), some (.inl o), some (.inl y), some (.inl c)]) (st' := [.inl c, .inl o, .inr (.inr (.inl (some (115))))]) (h' := h47) rfl ?_
            refine xm_as (p' := 58) (l := 12) rfl rfl I48 F49 (ly_k I48.1.1.1 115 rfl) (by omega) (by omega) (fun h52 I53 F54 e55 => ?_)
            have Z56 := ZE_a Z51 e55 rfl
            refine av_wp_ret (v := none) (ck_173 _ _ rfl) rfl rfl ?_
            have E4 : hA h52 114 = av_u1 (hA h 114) (Int.toNat o) y := (hA_en e55 (by decide)).trans (hA_eu e50)
            have E5 : hA h52 115 = av_u1 (hA h 115) (Int.toNat o) c := (hA_eu e55).trans (by rw [hA_en e50 (by decide)])
            refine hq h52 I53 F54 Z56 ?_ (fun q hq => ⟨by rw [E4, u1_ne hq], by rw [E5, u1_ne hq]⟩)
            show (hA h52 114 (Int.toNat o), hA h52 115 (Int.toNat o)) = _
            rw [E4, E5, u1_eq, u1_eq]
            exact (if_neg (show ¬ (y < 0 ∨ hA h 114 (Int.toNat o) < y ∨ (y = hA h 114 (Int.toNat o) ∧ 0 < hA h 115 (Int.toNat o) ∧ hA h 115 (Int.toNat o) ≤ c)) by omega)).symm
          · have c46 : v41 ≤ c := c46
            refine av_wp_ret (v := none) (ck_173 _ _ rfl) rfl rfl ?_
            exact hq h I F Z (if_pos (show y < 0 ∨ hA h 114 (Int.toNat o) < y ∨ (y = hA h 114 (Int.toNat o) ∧ 0 < hA h 115 (Int.toNat o) ∧ hA h 115 (Int.toNat o) ≤ c) by omega)).symm (fun q _ => ⟨rfl, rfl⟩)
end
