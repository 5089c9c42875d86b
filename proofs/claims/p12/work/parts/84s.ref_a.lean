/-! THE REFERENCE DECIDES, exactly -/
set_option maxRecDepth 100000 in
set_option maxHeartbeats 4000000 in
theorem cx_167 {g h : av_H} {n a m : Int} (I : IMF n a m h) (F : FM g h) {u ro : Nat → Int} {a0 : Nat → Nat → Int} {s : Nat} (en : n = (s : Int)) (X : LR u ro a0 s (hA h)) (W : UW u s) (R : RLW ro) (H : HBd s a0) (k : Int) (qk : 0 ≤ k ∧ k < (s : Int)) {Q : Option av_V → av_H → Prop} (hq : ∀ v : Int, (v = smv u ro (Int.toNat k)) → Q (some (.inl v)) h) : av_wp none cd_167 0 [some (.inr (.inr (.inl (some (77))))), some (.inl k), none] [] h Q := by
  have gn := im_n I.1.1
  rw [I.2.1] at gn
  have ga := im_a I.1.1
  rw [I.2.2.1] at ga
  have gm := im_cm I.1.1
  rw [I.2.2.2] at gm
  have s12 : s ≤ 12 := by omega
  have Z := ZE_rf (L := [113, 114, 115]) (K := [50, 51, 52, 53]) h
  refine av_wp_seq 1 (pc' := 1) (lv' := [some (.inr (.inr (.inl (some (77))))), some (.inl k), none]) (st' := [.inr (.inr (.inl (some (77))))]) (h' := h) rfl ?_
  refine wq_gr (p' := 4) rfl rfl (congrArg Prod.fst (ly_k I.1.1.1 77 rfl)) rfl (ly_g I.1.1.1 77 30 96 rfl) ?_
  refine av_wp_seq 1 (pc' := 5) (lv' := [some (.inr (.inr (.inl (some (77))))), some (.inl k), none]) (st' := [.inl k, .inr (.inr (.inl (some (96))))]) (h' := h) rfl ?_
  obtain ⟨v1, e2⟩ : ∃ v, hA h 96 (Int.toNat (k)) = v := ⟨_, rfl⟩
  have g3 : 0 ≤ hA h 96 (Int.toNat (k)) ∧ hA h 96 (Int.toNat (k)) ≤ 7 := im_w I.1.1 96 (by decide) (by decide) _
  rw [e2] at g3
  have y4 : hA h 96 (Int.toNat (k)) = v1 := (congrFun (Z.1 96 rfl) _).symm.trans e2
  have y5 := (X.1 (Int.toNat (k)) (by omega)).1.1
  rw [e2] at y5
  refine wq_al (p' := 6) (n := 12) rfl rfl (ly_k I.1.1.1 96 rfl) (by omega) (e2) ?_
  refine av_wp_seq 1 (pc' := 7) (lv' := [some (.inr (.inr (.inl (some (77))))), some (.inl k), none]) (st' := [.inl (3), .inl v1]) (h' := h) rfl ?_
  refine wq_k2 (p' := 10) rfl rfl ⟨by omega, by omega⟩ ⟨by omega, by omega⟩ (fun c7 => ?_) (fun c8 => ?_)
  · have c7 : v1 ≠ (3) := c7
    refine av_wp_seq 1 (pc' := 21) (lv' := [some (.inr (.inr (.inl (some (77))))), some (.inl k), none]) (st' := [.inl (0)]) (h' := h) rfl ?_
    refine av_wp_ret (v := some (.inl (0))) rfl rfl rfl ?_
    exact hq _ (by unfold smv; split <;> omega)
  · have c8 : v1 = (3) := c8
    refine av_wp_seq 1 (pc' := 11) (lv' := [some (.inr (.inr (.inl (some (77))))), some (.inl k), none]) (st' := [.inr (.inr (.inl (some (77))))]) (h' := h) rfl ?_
    refine wq_gr (p' := 14) rfl rfl (congrArg Prod.fst (ly_k I.1.1.1 77 rfl)) rfl (ly_g I.1.1.1 77 26 95 rfl) ?_
    refine av_wp_seq 1 (pc' := 16) (lv' := [some (.inr (.inr (.inl (some (77))))), some (.inl k), none]) (st' := [.inl (9), .inr (.inr (.inl (some (95))))]) (h' := h) rfl ?_
    obtain ⟨v9, e10⟩ : ∃ v, hA h 95 (Int.toNat ((9))) = v := ⟨_, rfl⟩
    have y12 : hA h 95 (Int.toNat ((9))) = v9 := (congrFun (Z.1 95 rfl) _).symm.trans e10
    have y13 : ro 9 = v9 := (X.2 9 (by omega)).symm.trans e10
    have g14 := rl_9 R
    refine wq_al (p' := 17) (n := 13) rfl rfl (ly_k I.1.1.1 95 rfl) (by omega) (e10) ?_
    refine wq_k1 (p' := 20) rfl rfl ⟨by omega, by omega⟩ (fun c15 => ?_) (fun c16 => ?_)
    · have c15 : v9 ≠ (0) := c15
      refine av_wp_seq 5 (pc' := 27) (lv' := [some (.inr (.inr (.inl (some (77))))), some (.inl k), some (.inl ((5) * k))]) (st' := [.inr (.inr (.inl (some (77))))]) (h' := h) rfl ?_
      refine wq_gr (p' := 30) rfl rfl (congrArg Prod.fst (ly_k I.1.1.1 77 rfl)) rfl (ly_g I.1.1.1 77 38 104 rfl) ?_
      refine av_wp_seq 1 (pc' := 31) (lv' := [some (.inr (.inr (.inl (some (77))))), some (.inl k), some (.inl ((5) * k))]) (st' := [.inl ((5) * k), .inr (.inr (.inl (some (104))))]) (h' := h) rfl ?_
      obtain ⟨v17, e18⟩ : ∃ v, hA h 104 (Int.toNat (((5) * k))) = v := ⟨_, rfl⟩
      have g19 : -1 ≤ hA h 104 (Int.toNat (((5) * k))) ∧ hA h 104 (Int.toNat (((5) * k))) ≤ 999 := im_w I.1.1 104 (by decide) (by decide) _
      rw [e18] at g19
      have y20 : hA h 104 (Int.toNat (((5) * k))) = v17 := (congrFun (Z.1 104 rfl) _).symm.trans e18
      have y21 : u (21 * (Int.toNat k) + 10) = v17 := ((X.1 (Int.toNat k) (by omega)).2.1 0 (by omega)).symm.trans ((congrArg (hA h 104) (by omega)).trans e18)
      refine wq_al (p' := 32) (n := 60) rfl rfl (ly_k I.1.1.1 104 rfl) (by omega) (e18) ?_
      refine wq_k1 (p' := 35) rfl rfl ⟨by omega, by omega⟩ (fun c22 => ?_) (fun c23 => ?_)
      · have c22 : (0) ≤ v17 := c22
        refine av_wp_seq 1 (pc' := 62) (lv' := [some (.inr (.inr (.inl (some (77))))), some (.inl k), some (.inl ((5) * k))]) (st' := [.inl (0)]) (h' := h) rfl ?_
        refine av_wp_ret (v := some (.inl (0))) rfl rfl rfl ?_
        exact hq _ (by unfold smv; split <;> omega)
      · have c23 : v17 < (0) := c23
        refine av_wp_seq 1 (pc' := 36) (lv' := [some (.inr (.inr (.inl (some (77))))), some (.inl k), some (.inl ((5) * k))]) (st' := [.inr (.inr (.inl (some (77))))]) (h' := h) rfl ?_
        refine wq_gr (p' := 39) rfl rfl (congrArg Prod.fst (ly_k I.1.1.1 77 rfl)) rfl (ly_g I.1.1.1 77 38 104 rfl) ?_
        refine av_wp_seq 3 (pc' := 42) (lv' := [some (.inr (.inr (.inl (some (77))))), some (.inl k), some (.inl ((5) * k))]) (st' := [.inl (((5) * k) + (1)), .inr (.inr (.inl (some (104))))]) (h' := h) rfl ?_
        obtain ⟨v24, e25⟩ : ∃ v, hA h 104 (Int.toNat ((((5) * k) + (1)))) = v := ⟨_, rfl⟩
        have g26 : -1 ≤ hA h 104 (Int.toNat ((((5) * k) + (1)))) ∧ hA h 104 (Int.toNat ((((5) * k) + (1)))) ≤ 999 := im_w I.1.1 104 (by decide) (by decide) _
        rw [e25] at g26
        have y27 : hA h 104 (Int.toNat ((((5) * k) + (1)))) = v24 := (congrFun (Z.1 104 rfl) _).symm.trans e25
        have y28 : u (21 * (Int.toNat k) + 11) = v24 := ((X.1 (Int.toNat k) (by omega)).2.1 1 (by omega)).symm.trans ((congrArg (hA h 104) (by omega)).trans e25)
        refine wq_al (p' := 43) (n := 60) rfl rfl (ly_k I.1.1.1 104 rfl) (by omega) (e25) ?_
        refine wq_k1 (p' := 46) rfl rfl ⟨by omega, by omega⟩ (fun c29 => ?_) (fun c30 => ?_)
        · have c29 : (0) ≤ v24 := c29
          refine av_wp_seq 1 (pc' := 62) (lv' := [some (.inr (.inr (.inl (some (77))))), some (.inl k), some (.inl ((5) * k))]) (st' := [.inl (0)]) (h' := h) rfl ?_
          refine av_wp_ret (v := some (.inl (0))) rfl rfl rfl ?_
          exact hq _ (by unfold smv; split <;> omega)
        · have c30 : v24 < (0) := c30
          refine av_wp_seq 1 (pc' := 47) (lv' := [some (.inr (.inr (.inl (some (77))))), some (.inl k), some (.inl ((5) * k))]) (st' := [.inr (.inr (.inl (some (77))))]) (h' := h) rfl ?_
          refine wq_gr (p' := 50) rfl rfl (congrArg Prod.fst (ly_k I.1.1.1 77 rfl)) rfl (ly_g I.1.1.1 77 38 104 rfl) ?_
          refine av_wp_seq 3 (pc' := 53) (lv' := [some (.inr (.inr (.inl (some (77))))), some (.inl k), some (.inl ((5) * k))]) (st' := [.inl (((5) * k) + (2)), .inr (.inr (.inl (some (104))))]) (h' := h) rfl ?_
          obtain ⟨v31, e32⟩ : ∃ v, hA h 104 (Int.toNat ((((5) * k) + (2)))) = v := ⟨_, rfl⟩
          have g33 : -1 ≤ hA h 104 (Int.toNat ((((5) * k) + (2)))) ∧ hA h 104 (Int.toNat ((((5) * k) + (2)))) ≤ 999 := im_w I.1.1 104 (by decide) (by decide) _
          rw [e32] at g33
          have y34 : hA h 104 (Int.toNat ((((5) * k) + (2)))) = v31 := (congrFun (Z.1 104 rfl) _).symm.trans e32
          have y35 : u (21 * (Int.toNat k) + 12) = v31 := ((X.1 (Int.toNat k) (by omega)).2.1 2 (by omega)).symm.trans ((congrArg (hA h 104) (by omega)).trans e32)
          refine wq_al (p' := 54) (n := 60) rfl rfl (ly_k I.1.1.1 104 rfl) (by omega) (e32) ?_
          refine wq_k1 (p' := 57) rfl rfl ⟨by omega, by omega⟩ (fun c36 => ?_) (fun c37 => ?_)
          · have c36 : (0) ≤ v31 := c36
            refine av_wp_seq 1 (pc' := 62) (lv' := [some (.inr (.inr (.inl (some (77))))), some (.inl k), some (.inl ((5) * k))]) (st' := [.inl (0)]) (h' := h) rfl ?_
            refine av_wp_ret (v := some (.inl (0))) rfl rfl rfl ?_
            exact hq _ (by unfold smv; split <;> omega)
          · have c37 : v31 < (0) := c37
            refine av_wp_seq 2 (pc' := 62) (lv' := [some (.inr (.inr (.inl (some (77))))), some (.inl k), some (.inl ((5) * k))]) (st' := [.inl (1)]) (h' := h) rfl ?_
            refine av_wp_ret (v := some (.inl (1))) rfl rfl rfl ?_
            exact hq _ (by unfold smv; split <;> omega)
    · have c16 : v9 = (0) := c16
      refine av_wp_seq 1 (pc' := 21) (lv' := [some (.inr (.inr (.inl (some (77))))), some (.inl k), none]) (st' := [.inl (0)]) (h' := h) rfl ?_
      refine av_wp_ret (v := some (.inl (0))) rfl rfl rfl ?_
      exact hq _ (by unfold smv; split <;> omega)

set_option maxRecDepth 100000 in
set_option maxHeartbeats 4000000 in
theorem cx_168 {g h : av_H} {n a m : Int} (I : IMF n a m h) (F : FM g h) {u ro : Nat → Int} {a0 : Nat → Nat → Int} {s : Nat} (en : n = (s : Int)) (X : LR u ro a0 s (hA h)) (W : UW u s) (R : RLW ro) (H : HBd s a0) (k : Int) (qk : 0 ≤ k ∧ k < (s : Int)) {Q : Option av_V → av_H → Prop} (hq : ∀ v : Int, (v = a0 2 (Int.toNat k)) → Q (some (.inl v)) h) : av_wp none cd_168 0 [some (.inr (.inr (.inl (some (77))))), some (.inl k)] [] h Q := by
  have gn := im_n I.1.1
  rw [I.2.1] at gn
  have ga := im_a I.1.1
  rw [I.2.2.1] at ga
  have gm := im_cm I.1.1
  rw [I.2.2.2] at gm
  have s12 : s ≤ 12 := by omega
  have Z := ZE_rf (L := [113, 114, 115]) (K := [50, 51, 52, 53]) h
  refine av_wp_seq 1 (pc' := 1) (lv' := [some (.inr (.inr (.inl (some (77))))), some (.inl k)]) (st' := [.inr (.inr (.inl (some (77))))]) (h' := h) rfl ?_
  refine wq_gr (p' := 4) rfl rfl (congrArg Prod.fst (ly_k I.1.1.1 77 rfl)) rfl (ly_g I.1.1.1 77 30 96 rfl) ?_
  refine av_wp_seq 1 (pc' := 5) (lv' := [some (.inr (.inr (.inl (some (77))))), some (.inl k)]) (st' := [.inl k, .inr (.inr (.inl (some (96))))]) (h' := h) rfl ?_
  obtain ⟨v1, e2⟩ : ∃ v, hA h 96 (Int.toNat (k)) = v := ⟨_, rfl⟩
  have g3 : 0 ≤ hA h 96 (Int.toNat (k)) ∧ hA h 96 (Int.toNat (k)) ≤ 7 := im_w I.1.1 96 (by decide) (by decide) _
  rw [e2] at g3
  have y4 : hA h 96 (Int.toNat (k)) = v1 := (congrFun (Z.1 96 rfl) _).symm.trans e2
  have y5 := (X.1 (Int.toNat (k)) (by omega)).1.1
  rw [e2] at y5
  refine wq_al (p' := 6) (n := 12) rfl rfl (ly_k I.1.1.1 96 rfl) (by omega) (e2) ?_
  refine wq_k1 (p' := 9) rfl rfl ⟨by omega, by omega⟩ (fun c7 => ?_) (fun c8 => ?_)
  · have c7 : v1 = (0) := c7
    refine av_wp_seq 2 (pc' := 32) (lv' := [some (.inr (.inr (.inl (some (77))))), some (.inl k)]) (st' := [.inl (1)]) (h' := h) rfl ?_
    refine av_wp_ret (v := some (.inl (1))) rfl rfl rfl ?_
    exact hq _ (by rw [(X.1 (Int.toNat k) (by omega)).2.2.2.1]; unfold ofv; split <;> omega)
  · have c8 : v1 ≠ (0) := c8
    refine av_wp_seq 1 (pc' := 10) (lv' := [some (.inr (.inr (.inl (some (77))))), some (.inl k)]) (st' := [.inr (.inr (.inl (some (77))))]) (h' := h) rfl ?_
    refine wq_gr (p' := 13) rfl rfl (congrArg Prod.fst (ly_k I.1.1.1 77 rfl)) rfl (ly_g I.1.1.1 77 30 96 rfl) ?_
    refine av_wp_seq 1 (pc' := 14) (lv' := [some (.inr (.inr (.inl (some (77))))), some (.inl k)]) (st' := [.inl k, .inr (.inr (.inl (some (96))))]) (h' := h) rfl ?_
    obtain ⟨v9, e10⟩ : ∃ v, hA h 96 (Int.toNat (k)) = v := ⟨_, rfl⟩
    have g11 : 0 ≤ hA h 96 (Int.toNat (k)) ∧ hA h 96 (Int.toNat (k)) ≤ 7 := im_w I.1.1 96 (by decide) (by decide) _
    rw [e10] at g11
    have y12 : hA h 96 (Int.toNat (k)) = v9 := (congrFun (Z.1 96 rfl) _).symm.trans e10
    have y13 := (X.1 (Int.toNat (k)) (by omega)).1.1
    rw [e10] at y13
    refine wq_al (p' := 15) (n := 12) rfl rfl (ly_k I.1.1.1 96 rfl) (by omega) (e10) ?_
    refine av_wp_seq 1 (pc' := 16) (lv' := [some (.inr (.inr (.inl (some (77))))), some (.inl k)]) (st' := [.inl (3), .inl v9]) (h' := h) rfl ?_
    refine wq_k2 (p' := 19) rfl rfl ⟨by omega, by omega⟩ ⟨by omega, by omega⟩ (fun c15 => ?_) (fun c16 => ?_)
    · have c15 : v9 ≠ (3) := c15
      refine av_wp_seq 1 (pc' := 32) (lv' := [some (.inr (.inr (.inl (some (77))))), some (.inl k)]) (st' := [.inl (0)]) (h' := h) rfl ?_
      refine av_wp_ret (v := some (.inl (0))) rfl rfl rfl ?_
      exact hq _ (by rw [(X.1 (Int.toNat k) (by omega)).2.2.2.1]; unfold ofv; split <;> omega)
    · have c16 : v9 = (3) := c16
      refine av_wp_seq 2 (pc' := 21) (lv' := [some (.inr (.inr (.inl (some (77))))), some (.inl k)]) (st' := [.inl k, .inr (.inr (.inl (some (77))))]) (h' := h) rfl ?_
      refine wq_cv (p' := 24) (av_qc (.invokevirtual 360) 167 1 0 8) 3 cd_167 [.inl k] (77) 8 [some (.inr (.inr (.inl (some (77))))), some (.inl k), none] rfl rfl rfl pp_167 rfl rfl rfl (congrArg Prod.fst (ly_k I.1.1.1 77 rfl)) rfl rfl rfl rfl ?_
      refine cx_167 I F en X W R H (k) (by omega) (fun v17 p18 => ?_)
      have p18b := smv_b u ro (Int.toNat (k))
      show av_wp _ cd_168 24 [some (.inr (.inr (.inl (some (77))))), some (.inl k)] [.inl v17] h _
      refine wq_k1 (p' := 27) rfl rfl ⟨by omega, by omega⟩ (fun c19 => ?_) (fun c20 => ?_)
      · have c19 : v17 ≠ (0) := c19
        refine av_wp_seq 1 (pc' := 32) (lv' := [some (.inr (.inr (.inl (some (77))))), some (.inl k)]) (st' := [.inl (0)]) (h' := h) rfl ?_
        refine av_wp_ret (v := some (.inl (0))) rfl rfl rfl ?_
        exact hq _ (by rw [(X.1 (Int.toNat k) (by omega)).2.2.2.1]; unfold ofv; split <;> omega)
      · have c20 : v17 = (0) := c20
        refine av_wp_seq 2 (pc' := 32) (lv' := [some (.inr (.inr (.inl (some (77))))), some (.inl k)]) (st' := [.inl (1)]) (h' := h) rfl ?_
        refine av_wp_ret (v := some (.inl (1))) rfl rfl rfl ?_
        exact hq _ (by rw [(X.1 (Int.toNat k) (by omega)).2.2.2.1]; unfold ofv; split <;> omega)

set_option maxRecDepth 100000 in
set_option maxHeartbeats 4000000 in
theorem cx_169 {g h : av_H} {n a m : Int} (I : IMF n a m h) (F : FM g h) {u ro : Nat → Int} {a0 : Nat → Nat → Int} {s : Nat} (en : n = (s : Int)) (X : LR u ro a0 s (hA h)) (W : UW u s) (R : RLW ro) (H : HBd s a0) (k : Int) (qk : 0 ≤ k ∧ k < (s : Int)) {Q : Option av_V → av_H → Prop} (hq : ∀ v : Int, (v = noV u ro (Int.toNat k)) → Q (some (.inl v)) h) : av_wp none cd_169 0 [some (.inr (.inr (.inl (some (77))))), some (.inl k)] [] h Q := by
  have gn := im_n I.1.1
  rw [I.2.1] at gn
  have ga := im_a I.1.1
  rw [I.2.2.1] at ga
  have gm := im_cm I.1.1
  rw [I.2.2.2] at gm
  have s12 : s ≤ 12 := by omega
  have Z := ZE_rf (L := [113, 114, 115]) (K := [50, 51, 52, 53]) h
  refine av_wp_seq 1 (pc' := 1) (lv' := [some (.inr (.inr (.inl (some (77))))), some (.inl k)]) (st' := [.inr (.inr (.inl (some (77))))]) (h' := h) rfl ?_
  refine wq_gr (p' := 4) rfl rfl (congrArg Prod.fst (ly_k I.1.1.1 77 rfl)) rfl (ly_g I.1.1.1 77 30 96 rfl) ?_
  refine av_wp_seq 1 (pc' := 5) (lv' := [some (.inr (.inr (.inl (some (77))))), some (.inl k)]) (st' := [.inl k, .inr (.inr (.inl (some (96))))]) (h' := h) rfl ?_
  obtain ⟨v1, e2⟩ : ∃ v, hA h 96 (Int.toNat (k)) = v := ⟨_, rfl⟩
  have g3 : 0 ≤ hA h 96 (Int.toNat (k)) ∧ hA h 96 (Int.toNat (k)) ≤ 7 := im_w I.1.1 96 (by decide) (by decide) _
  rw [e2] at g3
  have y4 : hA h 96 (Int.toNat (k)) = v1 := (congrFun (Z.1 96 rfl) _).symm.trans e2
  have y5 := (X.1 (Int.toNat (k)) (by omega)).1.1
  rw [e2] at y5
  refine wq_al (p' := 6) (n := 12) rfl rfl (ly_k I.1.1.1 96 rfl) (by omega) (e2) ?_
  refine av_wp_seq 1 (pc' := 7) (lv' := [some (.inr (.inr (.inl (some (77))))), some (.inl k)]) (st' := [.inl (4), .inl v1]) (h' := h) rfl ?_
  refine wq_k2 (p' := 10) rfl rfl ⟨by omega, by omega⟩ ⟨by omega, by omega⟩ (fun c7 => ?_) (fun c8 => ?_)
  · have c7 : v1 = (4) := c7
    refine av_wp_seq 2 (pc' := 33) (lv' := [some (.inr (.inr (.inl (some (77))))), some (.inl k)]) (st' := [.inl (1)]) (h' := h) rfl ?_
    refine av_wp_ret (v := some (.inl (1))) rfl rfl rfl ?_
    exact hq _ (by unfold noV; split <;> omega)
  · have c8 : v1 ≠ (4) := c8
    refine av_wp_seq 1 (pc' := 11) (lv' := [some (.inr (.inr (.inl (some (77))))), some (.inl k)]) (st' := [.inr (.inr (.inl (some (77))))]) (h' := h) rfl ?_
    refine wq_gr (p' := 14) rfl rfl (congrArg Prod.fst (ly_k I.1.1.1 77 rfl)) rfl (ly_g I.1.1.1 77 30 96 rfl) ?_
    refine av_wp_seq 1 (pc' := 15) (lv' := [some (.inr (.inr (.inl (some (77))))), some (.inl k)]) (st' := [.inl k, .inr (.inr (.inl (some (96))))]) (h' := h) rfl ?_
    obtain ⟨v9, e10⟩ : ∃ v, hA h 96 (Int.toNat (k)) = v := ⟨_, rfl⟩
    have g11 : 0 ≤ hA h 96 (Int.toNat (k)) ∧ hA h 96 (Int.toNat (k)) ≤ 7 := im_w I.1.1 96 (by decide) (by decide) _
    rw [e10] at g11
    have y12 : hA h 96 (Int.toNat (k)) = v9 := (congrFun (Z.1 96 rfl) _).symm.trans e10
    have y13 := (X.1 (Int.toNat (k)) (by omega)).1.1
    rw [e10] at y13
    refine wq_al (p' := 16) (n := 12) rfl rfl (ly_k I.1.1.1 96 rfl) (by omega) (e10) ?_
    refine av_wp_seq 1 (pc' := 17) (lv' := [some (.inr (.inr (.inl (some (77))))), some (.inl k)]) (st' := [.inl (3), .inl v9]) (h' := h) rfl ?_
    refine wq_k2 (p' := 20) rfl rfl ⟨by omega, by omega⟩ ⟨by omega, by omega⟩ (fun c15 => ?_) (fun c16 => ?_)
    · have c15 : v9 ≠ (3) := c15
      refine av_wp_seq 1 (pc' := 33) (lv' := [some (.inr (.inr (.inl (some (77))))), some (.inl k)]) (st' := [.inl (0)]) (h' := h) rfl ?_
      refine av_wp_ret (v := some (.inl (0))) rfl rfl rfl ?_
      exact hq _ (by unfold noV; split <;> omega)
    · have c16 : v9 = (3) := c16
      refine av_wp_seq 2 (pc' := 22) (lv' := [some (.inr (.inr (.inl (some (77))))), some (.inl k)]) (st' := [.inl k, .inr (.inr (.inl (some (77))))]) (h' := h) rfl ?_
      refine wq_cv (p' := 25) (av_qc (.invokevirtual 360) 167 1 0 8) 3 cd_167 [.inl k] (77) 8 [some (.inr (.inr (.inl (some (77))))), some (.inl k), none] rfl rfl rfl pp_167 rfl rfl rfl (congrArg Prod.fst (ly_k I.1.1.1 77 rfl)) rfl rfl rfl rfl ?_
      refine cx_167 I F en X W R H (k) (by omega) (fun v17 p18 => ?_)
      have p18b := smv_b u ro (Int.toNat (k))
      show av_wp _ cd_169 25 [some (.inr (.inr (.inl (some (77))))), some (.inl k)] [.inl v17] h _
      refine wq_k1 (p' := 28) rfl rfl ⟨by omega, by omega⟩ (fun c19 => ?_) (fun c20 => ?_)
      · have c19 : v17 ≠ (0) := c19
        refine av_wp_seq 1 (pc' := 33) (lv' := [some (.inr (.inr (.inl (some (77))))), some (.inl k)]) (st' := [.inl (0)]) (h' := h) rfl ?_
        refine av_wp_ret (v := some (.inl (0))) rfl rfl rfl ?_
        exact hq _ (by unfold noV; split <;> omega)
      · have c20 : v17 = (0) := c20
        refine av_wp_seq 2 (pc' := 33) (lv' := [some (.inr (.inr (.inl (some (77))))), some (.inl k)]) (st' := [.inl (1)]) (h' := h) rfl ?_
        refine av_wp_ret (v := some (.inl (1))) rfl rfl rfl ?_
        exact hq _ (by unfold noV; split <;> omega)

set_option maxRecDepth 100000 in
set_option maxHeartbeats 4000000 in
theorem cx_170 {g h : av_H} {n a m : Int} (I : IMF n a m h) (F : FM g h) {u ro : Nat → Int} {a0 : Nat → Nat → Int} {s : Nat} (en : n = (s : Int)) (X : LR u ro a0 s (hA h)) (W : UW u s) (R : RLW ro) (H : HBd s a0) (k : Int) (qk : 0 ≤ k ∧ k < (s : Int)) {Q : Option av_V → av_H → Prop} (hq : ∀ v : Int, (v = a0 3 (Int.toNat k)) → Q (some (.inl v)) h) : av_wp none cd_170 0 [some (.inr (.inr (.inl (some (77))))), some (.inl k)] [] h Q := by
  have gn := im_n I.1.1
  rw [I.2.1] at gn
  have ga := im_a I.1.1
  rw [I.2.2.1] at ga
  have gm := im_cm I.1.1
  rw [I.2.2.2] at gm
  have s12 : s ≤ 12 := by omega
  have Z := ZE_rf (L := [113, 114, 115]) (K := [50, 51, 52, 53]) h
  refine av_wp_seq 1 (pc' := 1) (lv' := [some (.inr (.inr (.inl (some (77))))), some (.inl k)]) (st' := [.inr (.inr (.inl (some (77))))]) (h' := h) rfl ?_
  refine wq_gr (p' := 4) rfl rfl (congrArg Prod.fst (ly_k I.1.1.1 77 rfl)) rfl (ly_g I.1.1.1 77 30 96 rfl) ?_
  refine av_wp_seq 1 (pc' := 5) (lv' := [some (.inr (.inr (.inl (some (77))))), some (.inl k)]) (st' := [.inl k, .inr (.inr (.inl (some (96))))]) (h' := h) rfl ?_
  obtain ⟨v1, e2⟩ : ∃ v, hA h 96 (Int.toNat (k)) = v := ⟨_, rfl⟩
  have g3 : 0 ≤ hA h 96 (Int.toNat (k)) ∧ hA h 96 (Int.toNat (k)) ≤ 7 := im_w I.1.1 96 (by decide) (by decide) _
  rw [e2] at g3
  have y4 : hA h 96 (Int.toNat (k)) = v1 := (congrFun (Z.1 96 rfl) _).symm.trans e2
  have y5 := (X.1 (Int.toNat (k)) (by omega)).1.1
  rw [e2] at y5
  refine wq_al (p' := 6) (n := 12) rfl rfl (ly_k I.1.1.1 96 rfl) (by omega) (e2) ?_
  refine av_wp_seq 1 (pc' := 7) (lv' := [some (.inr (.inr (.inl (some (77))))), some (.inl k)]) (st' := [.inl (2), .inl v1]) (h' := h) rfl ?_
  refine wq_k2 (p' := 10) rfl rfl ⟨by omega, by omega⟩ ⟨by omega, by omega⟩ (fun c7 => ?_) (fun c8 => ?_)
  · have c7 : v1 = (2) := c7
    refine av_wp_seq 2 (pc' := 45) (lv' := [some (.inr (.inr (.inl (some (77))))), some (.inl k)]) (st' := [.inl (1)]) (h' := h) rfl ?_
    refine av_wp_ret (v := some (.inl (1))) rfl rfl rfl ?_
    exact hq _ (by rw [(X.1 (Int.toNat k) (by omega)).2.2.2.2]; unfold ysv; split <;> omega)
  · have c8 : v1 ≠ (2) := c8
    refine av_wp_seq 2 (pc' := 12) (lv' := [some (.inr (.inr (.inl (some (77))))), some (.inl k)]) (st' := [.inl k, .inr (.inr (.inl (some (77))))]) (h' := h) rfl ?_
    refine wq_cv (p' := 15) (av_qc (.invokevirtual 360) 167 1 0 8) 3 cd_167 [.inl k] (77) 8 [some (.inr (.inr (.inl (some (77))))), some (.inl k), none] rfl rfl rfl pp_167 rfl rfl rfl (congrArg Prod.fst (ly_k I.1.1.1 77 rfl)) rfl rfl rfl rfl ?_
    refine cx_167 I F en X W R H (k) (by omega) (fun v9 p10 => ?_)
    have p10b := smv_b u ro (Int.toNat (k))
    show av_wp _ cd_170 15 [some (.inr (.inr (.inl (some (77))))), some (.inl k)] [.inl v9] h _
    refine wq_k1 (p' := 18) rfl rfl ⟨by omega, by omega⟩ (fun c11 => ?_) (fun c12 => ?_)
    · have c11 : v9 ≠ (0) := c11
      refine av_wp_seq 2 (pc' := 45) (lv' := [some (.inr (.inr (.inl (some (77))))), some (.inl k)]) (st' := [.inl (1)]) (h' := h) rfl ?_
      refine av_wp_ret (v := some (.inl (1))) rfl rfl rfl ?_
      exact hq _ (by rw [(X.1 (Int.toNat k) (by omega)).2.2.2.2]; unfold ysv; split <;> omega)
    · have c12 : v9 = (0) := c12
      refine av_wp_seq 1 (pc' := 19) (lv' := [some (.inr (.inr (.inl (some (77))))), some (.inl k)]) (st' := [.inr (.inr (.inl (some (77))))]) (h' := h) rfl ?_
      refine wq_gr (p' := 22) rfl rfl (congrArg Prod.fst (ly_k I.1.1.1 77 rfl)) rfl (ly_g I.1.1.1 77 30 96 rfl) ?_
      refine av_wp_seq 1 (pc' := 23) (lv' := [some (.inr (.inr (.inl (some (77))))), some (.inl k)]) (st' := [.inl k, .inr (.inr (.inl (some (96))))]) (h' := h) rfl ?_
      obtain ⟨v13, e14⟩ : ∃ v, hA h 96 (Int.toNat (k)) = v := ⟨_, rfl⟩
      have g15 : 0 ≤ hA h 96 (Int.toNat (k)) ∧ hA h 96 (Int.toNat (k)) ≤ 7 := im_w I.1.1 96 (by decide) (by decide) _
      rw [e14] at g15
      have y16 : hA h 96 (Int.toNat (k)) = v13 := (congrFun (Z.1 96 rfl) _).symm.trans e14
      have y17 := (X.1 (Int.toNat (k)) (by omega)).1.1
      rw [e14] at y17
      refine wq_al (p' := 24) (n := 12) rfl rfl (ly_k I.1.1.1 96 rfl) (by omega) (e14) ?_
      refine av_wp_seq 1 (pc' := 26) (lv' := [some (.inr (.inr (.inl (some (77))))), some (.inl k)]) (st' := [.inl (6), .inl v13]) (h' := h) rfl ?_
      refine wq_k2 (p' := 29) rfl rfl ⟨by omega, by omega⟩ ⟨by omega, by omega⟩ (fun c19 => ?_) (fun c20 => ?_)
      · have c19 : v13 ≠ (6) := c19
        refine av_wp_seq 1 (pc' := 45) (lv' := [some (.inr (.inr (.inl (some (77))))), some (.inl k)]) (st' := [.inl (0)]) (h' := h) rfl ?_
        refine av_wp_ret (v := some (.inl (0))) rfl rfl rfl ?_
        exact hq _ (by rw [(X.1 (Int.toNat k) (by omega)).2.2.2.2]; unfold ysv; split <;> omega)
      · have c20 : v13 = (6) := c20
        refine av_wp_seq 1 (pc' := 30) (lv' := [some (.inr (.inr (.inl (some (77))))), some (.inl k)]) (st' := [.inr (.inr (.inl (some (77))))]) (h' := h) rfl ?_
        refine wq_gr (p' := 33) rfl rfl (congrArg Prod.fst (ly_k I.1.1.1 77 rfl)) rfl (ly_g I.1.1.1 77 26 95 rfl) ?_
        refine av_wp_seq 1 (pc' := 35) (lv' := [some (.inr (.inr (.inl (some (77))))), some (.inl k)]) (st' := [.inl (11), .inr (.inr (.inl (some (95))))]) (h' := h) rfl ?_
        obtain ⟨v21, e22⟩ : ∃ v, hA h 95 (Int.toNat ((11))) = v := ⟨_, rfl⟩
        have y24 : hA h 95 (Int.toNat ((11))) = v21 := (congrFun (Z.1 95 rfl) _).symm.trans e22
        have y25 : ro 11 = v21 := (X.2 11 (by omega)).symm.trans e22
        have g26 := rl_11 R
        refine wq_al (p' := 36) (n := 13) rfl rfl (ly_k I.1.1.1 95 rfl) (by omega) (e22) ?_
        refine av_wp_seq 1 (pc' := 37) (lv' := [some (.inr (.inr (.inl (some (77))))), some (.inl k)]) (st' := [.inl (1), .inl v21]) (h' := h) rfl ?_
        refine wq_k2 (p' := 40) rfl rfl ⟨by omega, by omega⟩ ⟨by omega, by omega⟩ (fun c27 => ?_) (fun c28 => ?_)
        · have c27 : v21 ≠ (1) := c27
          refine av_wp_seq 1 (pc' := 45) (lv' := [some (.inr (.inr (.inl (some (77))))), some (.inl k)]) (st' := [.inl (0)]) (h' := h) rfl ?_
          refine av_wp_ret (v := some (.inl (0))) rfl rfl rfl ?_
          exact hq _ (by rw [(X.1 (Int.toNat k) (by omega)).2.2.2.2]; unfold ysv; split <;> omega)
        · have c28 : v21 = (1) := c28
          refine av_wp_seq 2 (pc' := 45) (lv' := [some (.inr (.inr (.inl (some (77))))), some (.inl k)]) (st' := [.inl (1)]) (h' := h) rfl ?_
          refine av_wp_ret (v := some (.inl (1))) rfl rfl rfl ?_
          exact hq _ (by rw [(X.1 (Int.toNat k) (by omega)).2.2.2.2]; unfold ysv; split <;> omega)

set_option maxRecDepth 100000 in
set_option maxHeartbeats 4000000 in
theorem cx_171 {g h : av_H} {n a m : Int} (I : IMF n a m h) (F : FM g h) {u ro : Nat → Int} {a0 : Nat → Nat → Int} {s : Nat} (en : n = (s : Int)) (X : LR u ro a0 s (hA h)) (W : UW u s) (R : RLW ro) (H : HBd s a0) (k : Int) (qk : 0 ≤ k ∧ k < (s : Int)) (o : Int) (qo : 0 ≤ o ∧ o < (s : Int)) {Q : Option av_V → av_H → Prop} (hq : ∀ v : Int, (v = bkv u ro a0 (Int.toNat k) o) → Q (some (.inl v)) h) : av_wp none cd_171 0 [some (.inr (.inr (.inl (some (77))))), some (.inl k), some (.inl o), none] [] h Q := by
  have gn := im_n I.1.1
  rw [I.2.1] at gn
  have ga := im_a I.1.1
  rw [I.2.2.1] at ga
  have gm := im_cm I.1.1
  rw [I.2.2.2] at gm
  have s12 : s ≤ 12 := by omega
  have Z := ZE_rf (L := [113, 114, 115]) (K := [50, 51, 52, 53]) h
  refine av_wp_seq 1 (pc' := 1) (lv' := [some (.inr (.inr (.inl (some (77))))), some (.inl k), some (.inl o), none]) (st' := [.inr (.inr (.inl (some (77))))]) (h' := h) rfl ?_
  refine wq_gr (p' := 4) rfl rfl (congrArg Prod.fst (ly_k I.1.1.1 77 rfl)) rfl (ly_g I.1.1.1 77 30 96 rfl) ?_
  refine av_wp_seq 1 (pc' := 5) (lv' := [some (.inr (.inr (.inl (some (77))))), some (.inl k), some (.inl o), none]) (st' := [.inl k, .inr (.inr (.inl (some (96))))]) (h' := h) rfl ?_
  obtain ⟨v1, e2⟩ : ∃ v, hA h 96 (Int.toNat (k)) = v := ⟨_, rfl⟩
  have g3 : 0 ≤ hA h 96 (Int.toNat (k)) ∧ hA h 96 (Int.toNat (k)) ≤ 7 := im_w I.1.1 96 (by decide) (by decide) _
  rw [e2] at g3
  have y4 : hA h 96 (Int.toNat (k)) = v1 := (congrFun (Z.1 96 rfl) _).symm.trans e2
  have y5 := (X.1 (Int.toNat (k)) (by omega)).1.1
  rw [e2] at y5
  refine wq_al (p' := 6) (n := 12) rfl rfl (ly_k I.1.1.1 96 rfl) (by omega) (e2) ?_
  refine av_wp_seq 1 (pc' := 7) (lv' := [some (.inr (.inr (.inl (some (77))))), some (.inl k), some (.inl o), none]) (st' := [.inl (5), .inl v1]) (h' := h) rfl ?_
  refine wq_k2 (p' := 10) rfl rfl ⟨by omega, by omega⟩ ⟨by omega, by omega⟩ (fun c7 => ?_) (fun c8 => ?_)
  · have c7 : v1 ≠ (5) := c7
    refine av_wp_seq 1 (pc' := 21) (lv' := [some (.inr (.inr (.inl (some (77))))), some (.inl k), some (.inl o), none]) (st' := [.inl (-1)]) (h' := h) rfl ?_
    refine av_wp_ret (v := some (.inl (-1))) rfl rfl rfl ?_
    exact hq _ (by unfold bkv; (repeat' split) <;> omega)
  · have c8 : v1 = (5) := c8
    refine av_wp_seq 1 (pc' := 11) (lv' := [some (.inr (.inr (.inl (some (77))))), some (.inl k), some (.inl o), none]) (st' := [.inr (.inr (.inl (some (77))))]) (h' := h) rfl ?_
    refine wq_gr (p' := 14) rfl rfl (congrArg Prod.fst (ly_k I.1.1.1 77 rfl)) rfl (ly_g I.1.1.1 77 34 100 rfl) ?_
    refine av_wp_seq 1 (pc' := 15) (lv' := [some (.inr (.inr (.inl (some (77))))), some (.inl k), some (.inl o), none]) (st' := [.inl k, .inr (.inr (.inl (some (100))))]) (h' := h) rfl ?_
    obtain ⟨v9, e10⟩ : ∃ v, hA h 100 (Int.toNat (k)) = v := ⟨_, rfl⟩
    have g11 : -1 ≤ hA h 100 (Int.toNat (k)) ∧ hA h 100 (Int.toNat (k)) ≤ 11 := im_w I.1.1 100 (by decide) (by decide) _
    rw [e10] at g11
    have w12 := im_wr I.1 (Int.toNat (k)) (by omega)
    rw [e10] at w12
    have y13 : hA h 100 (Int.toNat (k)) = v9 := (congrFun (Z.1 100 rfl) _).symm.trans e10
    have y14 := (X.1 (Int.toNat (k)) (by omega)).1.2.2.2.1
    rw [e10] at y14
    refine wq_al (p' := 16) (n := 12) rfl rfl (ly_k I.1.1.1 100 rfl) (by omega) (e10) ?_
    refine av_wp_seq 1 (pc' := 17) (lv' := [some (.inr (.inr (.inl (some (77))))), some (.inl k), some (.inl o), none]) (st' := [.inl o, .inl v9]) (h' := h) rfl ?_
    refine wq_k2 (p' := 20) rfl rfl ⟨by omega, by omega⟩ ⟨by omega, by omega⟩ (fun c16 => ?_) (fun c17 => ?_)
    · have c16 : v9 = o := c16
      refine av_wp_seq 3 (pc' := 25) (lv' := [some (.inr (.inr (.inl (some (77))))), some (.inl k), some (.inl o), none]) (st' := [.inr (.inr (.inl (some (77)))), .inl k, .inr (.inr (.inl (some (77))))]) (h' := h) rfl ?_
      refine wq_gr (p' := 28) rfl rfl (congrArg Prod.fst (ly_k I.1.1.1 77 rfl)) rfl (ly_g I.1.1.1 77 26 95 rfl) ?_
      refine av_wp_seq 1 (pc' := 29) (lv' := [some (.inr (.inr (.inl (some (77))))), some (.inl k), some (.inl o), none]) (st' := [.inl (4), .inr (.inr (.inl (some (95)))), .inl k, .inr (.inr (.inl (some (77))))]) (h' := h) rfl ?_
      obtain ⟨v18, e19⟩ : ∃ v, hA h 95 (Int.toNat ((4))) = v := ⟨_, rfl⟩
      have y21 : hA h 95 (Int.toNat ((4))) = v18 := (congrFun (Z.1 95 rfl) _).symm.trans e19
      have y22 : ro 4 = v18 := (X.2 4 (by omega)).symm.trans e19
      have g23 := rl_4 R
      refine wq_al (p' := 30) (n := 13) rfl rfl (ly_k I.1.1.1 95 rfl) (by omega) (e19) ?_
      refine wq_cv (p' := 33) (av_qc (.invokevirtual 363) 166 2 0 8) 3 cd_166 [.inl v18, .inl k] (77) 8 [some (.inr (.inr (.inl (some (77))))), some (.inl k), some (.inl v18)] rfl rfl rfl pp_166 rfl rfl rfl (congrArg Prod.fst (ly_k I.1.1.1 77 rfl)) rfl rfl rfl rfl ?_
      refine cx_166 I F (k) (by omega) (v18) (by omega) (fun v24 p25 => ?_)
      have y26 : v24 = hw a0 (Int.toNat (k)) v18 := LR_w X (by omega) (by omega) s12 p25
      have g27 := hw_r H (k := (Int.toNat (k))) (by omega) v18
      rw [← y26] at g27
      rw [← y22] at y26
      show av_wp _ cd_171 33 [some (.inr (.inr (.inl (some (77))))), some (.inl k), some (.inl o), none] [.inl v24] h _
      refine av_wp_seq 2 (pc' := 35) (lv' := [some (.inr (.inr (.inl (some (77))))), some (.inl k), some (.inl o), some (.inl v24)]) (st' := [.inr (.inr (.inl (some (77))))]) (h' := h) rfl ?_
      refine wq_gr (p' := 38) rfl rfl (congrArg Prod.fst (ly_k I.1.1.1 77 rfl)) rfl (ly_g I.1.1.1 77 33 99 rfl) ?_
      refine av_wp_seq 1 (pc' := 39) (lv' := [some (.inr (.inr (.inl (some (77))))), some (.inl k), some (.inl o), some (.inl v24)]) (st' := [.inl o, .inr (.inr (.inl (some (99))))]) (h' := h) rfl ?_
      obtain ⟨v28, e29⟩ : ∃ v, hA h 99 (Int.toNat (o)) = v := ⟨_, rfl⟩
      have g30 : -1 ≤ hA h 99 (Int.toNat (o)) ∧ hA h 99 (Int.toNat (o)) ≤ 1999 := im_w I.1.1 99 (by decide) (by decide) _
      rw [e29] at g30
      have y31 : hA h 99 (Int.toNat (o)) = v28 := (congrFun (Z.1 99 rfl) _).symm.trans e29
      have y32 := (X.1 (Int.toNat (o)) (by omega)).1.2.2.1
      rw [e29] at y32
      have g33 := W (Int.toNat (o)) (by omega)
      rw [← y32] at g33
      refine wq_al (p' := 40) (n := 12) rfl rfl (ly_k I.1.1.1 99 rfl) (by omega) (e29) ?_
      refine wq_k1 (p' := 43) rfl rfl ⟨by omega, by omega⟩ (fun c34 => ?_) (fun c35 => ?_)
      · have c34 : v28 < (0) := c34
        refine av_wp_seq 1 (pc' := 69) (lv' := [some (.inr (.inr (.inl (some (77))))), some (.inl k), some (.inl o), some (.inl v24)]) (st' := [.inl v24]) (h' := h) rfl ?_
        refine av_wp_ret (v := some (.inl v24)) rfl rfl rfl ?_
        exact hq _ (by unfold bkv; (repeat' split) <;> omega)
      · have c35 : (0) ≤ v28 := c35
        refine av_wp_seq 1 (pc' := 44) (lv' := [some (.inr (.inr (.inl (some (77))))), some (.inl k), some (.inl o), some (.inl v24)]) (st' := [.inr (.inr (.inl (some (77))))]) (h' := h) rfl ?_
        refine wq_gr (p' := 47) rfl rfl (congrArg Prod.fst (ly_k I.1.1.1 77 rfl)) rfl (ly_g I.1.1.1 77 26 95 rfl) ?_
        refine av_wp_seq 1 (pc' := 49) (lv' := [some (.inr (.inr (.inl (some (77))))), some (.inl k), some (.inl o), some (.inl v24)]) (st' := [.inl (6), .inr (.inr (.inl (some (95))))]) (h' := h) rfl ?_
        obtain ⟨v36, e37⟩ : ∃ v, hA h 95 (Int.toNat ((6))) = v := ⟨_, rfl⟩
        have y39 : hA h 95 (Int.toNat ((6))) = v36 := (congrFun (Z.1 95 rfl) _).symm.trans e37
        have y40 : ro 6 = v36 := (X.2 6 (by omega)).symm.trans e37
        have g41 := rl_6 R
        refine wq_al (p' := 50) (n := 13) rfl rfl (ly_k I.1.1.1 95 rfl) (by omega) (e37) ?_
        refine av_wp_seq 1 (pc' := 51) (lv' := [some (.inr (.inr (.inl (some (77))))), some (.inl k), some (.inl o), some (.inl v24)]) (st' := [.inl (1), .inl v36]) (h' := h) rfl ?_
        refine wq_k2 (p' := 54) rfl rfl ⟨by omega, by omega⟩ ⟨by omega, by omega⟩ (fun c42 => ?_) (fun c43 => ?_)
        · have c42 : v36 ≠ (1) := c42
          refine av_wp_seq 1 (pc' := 69) (lv' := [some (.inr (.inr (.inl (some (77))))), some (.inl k), some (.inl o), some (.inl v24)]) (st' := [.inl v24]) (h' := h) rfl ?_
          refine av_wp_ret (v := some (.inl v24)) rfl rfl rfl ?_
          exact hq _ (by unfold bkv; (repeat' split) <;> omega)
        · have c43 : v36 = (1) := c43
          refine av_wp_seq 2 (pc' := 56) (lv' := [some (.inr (.inr (.inl (some (77))))), some (.inl k), some (.inl o), some (.inl v24)]) (st' := [.inr (.inr (.inl (some (77)))), .inl v24]) (h' := h) rfl ?_
          refine wq_gr (p' := 59) rfl rfl (congrArg Prod.fst (ly_k I.1.1.1 77 rfl)) rfl (ly_g I.1.1.1 77 33 99 rfl) ?_
          refine av_wp_seq 1 (pc' := 60) (lv' := [some (.inr (.inr (.inl (some (77))))), some (.inl k), some (.inl o), some (.inl v24)]) (st' := [.inl o, .inr (.inr (.inl (some (99)))), .inl v24]) (h' := h) rfl ?_
          obtain ⟨v44, e45⟩ : ∃ v, hA h 99 (Int.toNat (o)) = v := ⟨_, rfl⟩
          have g46 : -1 ≤ hA h 99 (Int.toNat (o)) ∧ hA h 99 (Int.toNat (o)) ≤ 1999 := im_w I.1.1 99 (by decide) (by decide) _
          rw [e45] at g46
          have y47 : hA h 99 (Int.toNat (o)) = v44 := (congrFun (Z.1 99 rfl) _).symm.trans e45
          have y48 := (X.1 (Int.toNat (o)) (by omega)).1.2.2.1
          rw [e45] at y48
          have g49 := W (Int.toNat (o)) (by omega)
          rw [← y48] at g49
          refine wq_al (p' := 61) (n := 12) rfl rfl (ly_k I.1.1.1 99 rfl) (by omega) (e45) ?_
          refine wq_k2 (p' := 64) rfl rfl ⟨by omega, by omega⟩ ⟨by omega, by omega⟩ (fun c50 => ?_) (fun c51 => ?_)
          · have c50 : v44 < v24 := c50
            refine av_wp_seq 1 (pc' := 69) (lv' := [some (.inr (.inr (.inl (some (77))))), some (.inl k), some (.inl o), some (.inl v24)]) (st' := [.inl v24]) (h' := h) rfl ?_
            refine av_wp_ret (v := some (.inl v24)) rfl rfl rfl ?_
            exact hq _ (by unfold bkv; (repeat' split) <;> omega)
          · have c51 : v24 ≤ v44 := c51
            refine av_wp_seq 2 (pc' := 69) (lv' := [some (.inr (.inr (.inl (some (77))))), some (.inl k), some (.inl o), some (.inl v24)]) (st' := [.inl (-1)]) (h' := h) rfl ?_
            refine av_wp_ret (v := some (.inl (-1))) rfl rfl rfl ?_
            exact hq _ (by unfold bkv; (repeat' split) <;> omega)
    · have c17 : v9 ≠ o := c17
      refine av_wp_seq 1 (pc' := 21) (lv' := [some (.inr (.inr (.inl (some (77))))), some (.inl k), some (.inl o), none]) (st' := [.inl (-1)]) (h' := h) rfl ?_
      refine av_wp_ret (v := some (.inl (-1))) rfl rfl rfl ?_
      exact hq _ (by unfold bkv; (repeat' split) <;> omega)

set_option maxRecDepth 100000 in
set_option maxHeartbeats 4000000 in
theorem cx_172 {g h : av_H} {n a m : Int} (I : IMF n a m h) (F : FM g h) {u ro : Nat → Int} {a0 : Nat → Nat → Int} {s : Nat} (en : n = (s : Int)) (X : LR u ro a0 s (hA h)) (W : UW u s) (R : RLW ro) (H : HBd s a0) (k : Int) (qk : 0 ≤ k ∧ k < (s : Int)) (o : Int) (qo : 0 ≤ o ∧ o < (s : Int)) {Q : Option av_V → av_H → Prop} (hq : ∀ v : Int, (v = nov u ro a0 (Int.toNat k) o) → Q (some (.inl v)) h) : av_wp none cd_172 0 [some (.inr (.inr (.inl (some (77))))), some (.inl k), some (.inl o)] [] h Q := by
  have gn := im_n I.1.1
  rw [I.2.1] at gn
  have ga := im_a I.1.1
  rw [I.2.2.1] at ga
  have gm := im_cm I.1.1
  rw [I.2.2.2] at gm
  have s12 : s ≤ 12 := by omega
  have Z := ZE_rf (L := [113, 114, 115]) (K := [50, 51, 52, 53]) h
  refine av_wp_seq 2 (pc' := 2) (lv' := [some (.inr (.inr (.inl (some (77))))), some (.inl k), some (.inl o)]) (st' := [.inl k, .inr (.inr (.inl (some (77))))]) (h' := h) rfl ?_
  refine wq_cv (p' := 5) (av_qc (.invokevirtual 366) 169 1 0 8) 2 cd_169 [.inl k] (77) 8 [some (.inr (.inr (.inl (some (77))))), some (.inl k)] rfl rfl rfl pp_169 rfl rfl rfl (congrArg Prod.fst (ly_k I.1.1.1 77 rfl)) rfl rfl rfl rfl ?_
  refine cx_169 I F en X W R H (k) (by omega) (fun v1 p2 => ?_)
  have p2b := noV_b u ro (Int.toNat (k))
  rw [← p2] at p2b
  show av_wp _ cd_172 5 [some (.inr (.inr (.inl (some (77))))), some (.inl k), some (.inl o)] [.inl v1] h _
  refine wq_k1 (p' := 8) rfl rfl ⟨by omega, by omega⟩ (fun c3 => ?_) (fun c4 => ?_)
  · have c3 : v1 = (0) := c3
    refine av_wp_seq 1 (pc' := 33) (lv' := [some (.inr (.inr (.inl (some (77))))), some (.inl k), some (.inl o)]) (st' := [.inl (-1)]) (h' := h) rfl ?_
    refine av_wp_ret (v := some (.inl (-1))) rfl rfl rfl ?_
    exact hq _ (by unfold nov; (repeat' split) <;> omega)
  · have c4 : v1 ≠ (0) := c4
    refine av_wp_seq 1 (pc' := 9) (lv' := [some (.inr (.inr (.inl (some (77))))), some (.inl k), some (.inl o)]) (st' := [.inr (.inr (.inl (some (77))))]) (h' := h) rfl ?_
    refine wq_gr (p' := 12) rfl rfl (congrArg Prod.fst (ly_k I.1.1.1 77 rfl)) rfl (ly_g I.1.1.1 77 34 100 rfl) ?_
    refine av_wp_seq 1 (pc' := 13) (lv' := [some (.inr (.inr (.inl (some (77))))), some (.inl k), some (.inl o)]) (st' := [.inl k, .inr (.inr (.inl (some (100))))]) (h' := h) rfl ?_
    obtain ⟨v5, e6⟩ : ∃ v, hA h 100 (Int.toNat (k)) = v := ⟨_, rfl⟩
    have g7 : -1 ≤ hA h 100 (Int.toNat (k)) ∧ hA h 100 (Int.toNat (k)) ≤ 11 := im_w I.1.1 100 (by decide) (by decide) _
    rw [e6] at g7
    have w8 := im_wr I.1 (Int.toNat (k)) (by omega)
    rw [e6] at w8
    have y9 : hA h 100 (Int.toNat (k)) = v5 := (congrFun (Z.1 100 rfl) _).symm.trans e6
    have y10 := (X.1 (Int.toNat (k)) (by omega)).1.2.2.2.1
    rw [e6] at y10
    refine wq_al (p' := 14) (n := 12) rfl rfl (ly_k I.1.1.1 100 rfl) (by omega) (e6) ?_
    refine av_wp_seq 1 (pc' := 15) (lv' := [some (.inr (.inr (.inl (some (77))))), some (.inl k), some (.inl o)]) (st' := [.inl o, .inl v5]) (h' := h) rfl ?_
    refine wq_k2 (p' := 18) rfl rfl ⟨by omega, by omega⟩ ⟨by omega, by omega⟩ (fun c12 => ?_) (fun c13 => ?_)
    · have c12 : v5 ≠ o := c12
      refine av_wp_seq 1 (pc' := 33) (lv' := [some (.inr (.inr (.inl (some (77))))), some (.inl k), some (.inl o)]) (st' := [.inl (-1)]) (h' := h) rfl ?_
      refine av_wp_ret (v := some (.inl (-1))) rfl rfl rfl ?_
      exact hq _ (by unfold nov; (repeat' split) <;> omega)
    · have c13 : v5 = o := c13
      refine av_wp_seq 3 (pc' := 21) (lv' := [some (.inr (.inr (.inl (some (77))))), some (.inl k), some (.inl o)]) (st' := [.inr (.inr (.inl (some (77)))), .inl k, .inr (.inr (.inl (some (77))))]) (h' := h) rfl ?_
      refine wq_gr (p' := 24) rfl rfl (congrArg Prod.fst (ly_k I.1.1.1 77 rfl)) rfl (ly_g I.1.1.1 77 26 95 rfl) ?_
      refine av_wp_seq 1 (pc' := 25) (lv' := [some (.inr (.inr (.inl (some (77))))), some (.inl k), some (.inl o)]) (st' := [.inl (5), .inr (.inr (.inl (some (95)))), .inl k, .inr (.inr (.inl (some (77))))]) (h' := h) rfl ?_
      obtain ⟨v14, e15⟩ : ∃ v, hA h 95 (Int.toNat ((5))) = v := ⟨_, rfl⟩
      have y17 : hA h 95 (Int.toNat ((5))) = v14 := (congrFun (Z.1 95 rfl) _).symm.trans e15
      have y18 : ro 5 = v14 := (X.2 5 (by omega)).symm.trans e15
      have g19 := rl_5 R
      refine wq_al (p' := 26) (n := 13) rfl rfl (ly_k I.1.1.1 95 rfl) (by omega) (e15) ?_
      refine wq_cv (p' := 29) (av_qc (.invokevirtual 363) 166 2 0 8) 3 cd_166 [.inl v14, .inl k] (77) 8 [some (.inr (.inr (.inl (some (77))))), some (.inl k), some (.inl v14)] rfl rfl rfl pp_166 rfl rfl rfl (congrArg Prod.fst (ly_k I.1.1.1 77 rfl)) rfl rfl rfl rfl ?_
      refine cx_166 I F (k) (by omega) (v14) (by omega) (fun v20 p21 => ?_)
      have y22 : v20 = hw a0 (Int.toNat (k)) v14 := LR_w X (by omega) (by omega) s12 p21
      have g23 := hw_r H (k := (Int.toNat (k))) (by omega) v14
      rw [← y22] at g23
      rw [← y18] at y22
      show av_wp _ cd_172 29 [some (.inr (.inr (.inl (some (77))))), some (.inl k), some (.inl o)] [.inl v20] h _
      refine av_wp_seq 1 (pc' := 33) (lv' := [some (.inr (.inr (.inl (some (77))))), some (.inl k), some (.inl o)]) (st' := [.inl v20]) (h' := h) rfl ?_
      refine av_wp_ret (v := some (.inl v20)) rfl rfl rfl ?_
      exact hq _ (by unfold nov; (repeat' split) <;> omega)

set_option maxRecDepth 100000 in
set_option maxHeartbeats 4000000 in
theorem cx_176 {g h : av_H} {n a m : Int} (I : IMF n a m h) (F : FM g h) {u ro : Nat → Int} {a0 : Nat → Nat → Int} {s : Nat} (en : n = (s : Int)) (X : LR u ro a0 s (hA h)) (W : UW u s) (R : RLW ro) (H : HBd s a0) (k : Int) (qk : 0 ≤ k ∧ k < (s : Int)) {Q : Option av_V → av_H → Prop} (hq : ∀ v : Int, (v = hw a0 (Int.toNat k) (yw u ro (Int.toNat k))) → Q (some (.inl v)) h) : av_wp none cd_176 0 [some (.inr (.inr (.inl (some (77))))), some (.inl k)] [] h Q := by
  have gn := im_n I.1.1
  rw [I.2.1] at gn
  have ga := im_a I.1.1
  rw [I.2.2.1] at ga
  have gm := im_cm I.1.1
  rw [I.2.2.2] at gm
  have s12 : s ≤ 12 := by omega
  have Z := ZE_rf (L := [113, 114, 115]) (K := [50, 51, 52, 53]) h
  refine av_wp_seq 1 (pc' := 1) (lv' := [some (.inr (.inr (.inl (some (77))))), some (.inl k)]) (st' := [.inr (.inr (.inl (some (77))))]) (h' := h) rfl ?_
  refine wq_gr (p' := 4) rfl rfl (congrArg Prod.fst (ly_k I.1.1.1 77 rfl)) rfl (ly_g I.1.1.1 77 30 96 rfl) ?_
  refine av_wp_seq 1 (pc' := 5) (lv' := [some (.inr (.inr (.inl (some (77))))), some (.inl k)]) (st' := [.inl k, .inr (.inr (.inl (some (96))))]) (h' := h) rfl ?_
  obtain ⟨v1, e2⟩ : ∃ v, hA h 96 (Int.toNat (k)) = v := ⟨_, rfl⟩
  have g3 : 0 ≤ hA h 96 (Int.toNat (k)) ∧ hA h 96 (Int.toNat (k)) ≤ 7 := im_w I.1.1 96 (by decide) (by decide) _
  rw [e2] at g3
  have y4 : hA h 96 (Int.toNat (k)) = v1 := (congrFun (Z.1 96 rfl) _).symm.trans e2
  have y5 := (X.1 (Int.toNat (k)) (by omega)).1.1
  rw [e2] at y5
  refine wq_al (p' := 6) (n := 12) rfl rfl (ly_k I.1.1.1 96 rfl) (by omega) (e2) ?_
  refine av_wp_seq 1 (pc' := 8) (lv' := [some (.inr (.inr (.inl (some (77))))), some (.inl k)]) (st' := [.inl (6), .inl v1]) (h' := h) rfl ?_
  refine wq_k2 (p' := 11) rfl rfl ⟨by omega, by omega⟩ ⟨by omega, by omega⟩ (fun c7 => ?_) (fun c8 => ?_)
  · have c7 : v1 ≠ (6) := c7
    refine av_wp_seq 3 (pc' := 23) (lv' := [some (.inr (.inr (.inl (some (77))))), some (.inl k)]) (st' := [.inr (.inr (.inl (some (77)))), .inl k, .inr (.inr (.inl (some (77))))]) (h' := h) rfl ?_
    refine wq_gr (p' := 26) rfl rfl (congrArg Prod.fst (ly_k I.1.1.1 77 rfl)) rfl (ly_g I.1.1.1 77 26 95 rfl) ?_
    refine av_wp_seq 1 (pc' := 27) (lv' := [some (.inr (.inr (.inl (some (77))))), some (.inl k)]) (st' := [.inr (.inr (.inl (some (77)))), .inr (.inr (.inl (some (95)))), .inl k, .inr (.inr (.inl (some (77))))]) (h' := h) rfl ?_
    refine wq_gr (p' := 30) rfl rfl (congrArg Prod.fst (ly_k I.1.1.1 77 rfl)) rfl (ly_g I.1.1.1 77 31 97 rfl) ?_
    refine av_wp_seq 1 (pc' := 31) (lv' := [some (.inr (.inr (.inl (some (77))))), some (.inl k)]) (st' := [.inl k, .inr (.inr (.inl (some (97)))), .inr (.inr (.inl (some (95)))), .inl k, .inr (.inr (.inl (some (77))))]) (h' := h) rfl ?_
    obtain ⟨v9, e10⟩ : ∃ v, hA h 97 (Int.toNat (k)) = v := ⟨_, rfl⟩
    have g11 : 0 ≤ hA h 97 (Int.toNat (k)) ∧ hA h 97 (Int.toNat (k)) ≤ 3 := im_w I.1.1 97 (by decide) (by decide) _
    rw [e10] at g11
    have y12 : hA h 97 (Int.toNat (k)) = v9 := (congrFun (Z.1 97 rfl) _).symm.trans e10
    have y13 := (X.1 (Int.toNat (k)) (by omega)).1.2.1
    rw [e10] at y13
    refine wq_al (p' := 32) (n := 12) rfl rfl (ly_k I.1.1.1 97 rfl) (by omega) (e10) ?_
    refine av_wp_seq 1 (pc' := 33) (lv' := [some (.inr (.inr (.inl (some (77))))), some (.inl k)]) (st' := [.inl (2), .inl v9, .inr (.inr (.inl (some (95)))), .inl k, .inr (.inr (.inl (some (77))))]) (h' := h) rfl ?_
    refine wq_k2 (p' := 36) rfl rfl ⟨by omega, by omega⟩ ⟨by omega, by omega⟩ (fun c15 => ?_) (fun c16 => ?_)
    · have c15 : v9 ≤ (2) := c15
      refine av_wp_seq 1 (pc' := 41) (lv' := [some (.inr (.inr (.inl (some (77))))), some (.inl k)]) (st' := [.inr (.inr (.inl (some (77)))), .inr (.inr (.inl (some (95)))), .inl k, .inr (.inr (.inl (some (77))))]) (h' := h) rfl ?_
      refine wq_gr (p' := 44) rfl rfl (congrArg Prod.fst (ly_k I.1.1.1 77 rfl)) rfl (ly_g I.1.1.1 77 31 97 rfl) ?_
      refine av_wp_seq 1 (pc' := 45) (lv' := [some (.inr (.inr (.inl (some (77))))), some (.inl k)]) (st' := [.inl k, .inr (.inr (.inl (some (97)))), .inr (.inr (.inl (some (95)))), .inl k, .inr (.inr (.inl (some (77))))]) (h' := h) rfl ?_
      obtain ⟨v17, e18⟩ : ∃ v, hA h 97 (Int.toNat (k)) = v := ⟨_, rfl⟩
      have g19 : 0 ≤ hA h 97 (Int.toNat (k)) ∧ hA h 97 (Int.toNat (k)) ≤ 3 := im_w I.1.1 97 (by decide) (by decide) _
      rw [e18] at g19
      have y20 : hA h 97 (Int.toNat (k)) = v17 := (congrFun (Z.1 97 rfl) _).symm.trans e18
      have y21 := (X.1 (Int.toNat (k)) (by omega)).1.2.1
      rw [e18] at y21
      refine wq_al (p' := 46) (n := 12) rfl rfl (ly_k I.1.1.1 97 rfl) (by omega) (e18) ?_
      obtain ⟨v23, e24⟩ : ∃ v, hA h 95 (Int.toNat (v17)) = v := ⟨_, rfl⟩
      have y26 : hA h 95 (Int.toNat (v17)) = v23 := (congrFun (Z.1 95 rfl) _).symm.trans e24
      have y27 : ro (Int.toNat (v17)) = v23 := (X.2 (Int.toNat (v17)) (by omega)).symm.trans e24
      have g28 := R.1 (Int.toNat (v17)) (by omega)
      refine wq_al (p' := 47) (n := 13) rfl rfl (ly_k I.1.1.1 95 rfl) (by omega) (e24) ?_
      refine wq_cv (p' := 50) (av_qc (.invokevirtual 363) 166 2 0 8) 3 cd_166 [.inl v23, .inl k] (77) 8 [some (.inr (.inr (.inl (some (77))))), some (.inl k), some (.inl v23)] rfl rfl rfl pp_166 rfl rfl rfl (congrArg Prod.fst (ly_k I.1.1.1 77 rfl)) rfl rfl rfl rfl ?_
      refine cx_166 I F (k) (by omega) (v23) (by omega) (fun v29 p30 => ?_)
      have y31 : v29 = hw a0 (Int.toNat (k)) v23 := LR_w X (by omega) (by omega) s12 p30
      have g32 := hw_r H (k := (Int.toNat (k))) (by omega) v23
      rw [← y31] at g32
      rw [← y27] at y31
      show av_wp _ cd_176 50 [some (.inr (.inr (.inl (some (77))))), some (.inl k)] [.inl v29] h _
      refine av_wp_ret (v := some (.inl v29)) rfl rfl rfl ?_
      exact hq _ (by unfold yw; rw [if_neg (by omega), if_neg (by omega), ← y21]; exact y31)
    · have c16 : (2) < v9 := c16
      refine av_wp_seq 2 (pc' := 46) (lv' := [some (.inr (.inr (.inl (some (77))))), some (.inl k)]) (st' := [.inl (2), .inr (.inr (.inl (some (95)))), .inl k, .inr (.inr (.inl (some (77))))]) (h' := h) rfl ?_
      obtain ⟨v33, e34⟩ : ∃ v, hA h 95 (Int.toNat ((2))) = v := ⟨_, rfl⟩
      have y36 : hA h 95 (Int.toNat ((2))) = v33 := (congrFun (Z.1 95 rfl) _).symm.trans e34
      have y37 : ro 2 = v33 := (X.2 2 (by omega)).symm.trans e34
      have g38 := rl_2 R
      refine wq_al (p' := 47) (n := 13) rfl rfl (ly_k I.1.1.1 95 rfl) (by omega) (e34) ?_
      refine wq_cv (p' := 50) (av_qc (.invokevirtual 363) 166 2 0 8) 3 cd_166 [.inl v33, .inl k] (77) 8 [some (.inr (.inr (.inl (some (77))))), some (.inl k), some (.inl v33)] rfl rfl rfl pp_166 rfl rfl rfl (congrArg Prod.fst (ly_k I.1.1.1 77 rfl)) rfl rfl rfl rfl ?_
      refine cx_166 I F (k) (by omega) (v33) (by omega) (fun v39 p40 => ?_)
      have y41 : v39 = hw a0 (Int.toNat (k)) v33 := LR_w X (by omega) (by omega) s12 p40
      have g42 := hw_r H (k := (Int.toNat (k))) (by omega) v33
      rw [← y41] at g42
      rw [← y37] at y41
      show av_wp _ cd_176 50 [some (.inr (.inr (.inl (some (77))))), some (.inl k)] [.inl v39] h _
      refine av_wp_ret (v := some (.inl v39)) rfl rfl rfl ?_
      exact hq _ (by unfold yw; rw [if_neg (by omega), if_pos (by omega)]; exact y41)
  · have c8 : v1 = (6) := c8
    refine av_wp_seq 1 (pc' := 12) (lv' := [some (.inr (.inr (.inl (some (77))))), some (.inl k)]) (st' := [.inr (.inr (.inl (some (77))))]) (h' := h) rfl ?_
    refine wq_gr (p' := 15) rfl rfl (congrArg Prod.fst (ly_k I.1.1.1 77 rfl)) rfl (ly_g I.1.1.1 77 43 109 rfl) ?_
    refine av_wp_seq 1 (pc' := 16) (lv' := [some (.inr (.inr (.inl (some (77))))), some (.inl k)]) (st' := [.inl k, .inr (.inr (.inl (some (109))))]) (h' := h) rfl ?_
    obtain ⟨v43, e44⟩ : ∃ v, hA h 109 (Int.toNat (k)) = v := ⟨_, rfl⟩
    have y46 : hA h 109 (Int.toNat (k)) = v43 := (congrFun (Z.1 109 rfl) _).symm.trans e44
    have y47 : v43 = hw a0 (Int.toNat (k)) 0 := LR_w X (by omega) (by omega) s12 (Or.inl ⟨rfl, e44.symm⟩)
    have g48 := hw_r H (k := (Int.toNat (k))) (by omega) 0
    rw [← y47] at g48
    refine wq_al (p' := 17) (n := 12) rfl rfl (ly_k I.1.1.1 109 rfl) (by omega) (e44) ?_
    refine av_wp_seq 1 (pc' := 50) (lv' := [some (.inr (.inr (.inl (some (77))))), some (.inl k)]) (st' := [.inl v43]) (h' := h) rfl ?_
    refine av_wp_ret (v := some (.inl v43)) rfl rfl rfl ?_
    exact hq _ (by unfold yw; rw [if_pos (by omega)]; exact y47)

set_option maxRecDepth 100000 in
set_option maxHeartbeats 4000000 in
theorem cx_175 {g h : av_H} {n a m : Int} (I : IMF n a m h) (F : FM g h) {u ro : Nat → Int} {a0 : Nat → Nat → Int} {s : Nat} (en : n = (s : Int)) (X : LR u ro a0 s (hA h)) (W : UW u s) (R : RLW ro) (H : HBd s a0) (o : Int) (qo : 0 ≤ o ∧ o < (s : Int)) (y : Int) (qy : -2147483648 ≤ y ∧ y ≤ 2147483647) (r13 : -1 ≤ hA h 113 (Int.toNat o) ∧ hA h 113 (Int.toNat o) ≤ 9999) (r14 : -1 ≤ hA h 114 (Int.toNat o) ∧ hA h 114 (Int.toNat o) ≤ 9999) {Q : Option av_V → av_H → Prop} (hq : ∀ v : Int, (v = opR (hA h 113 (Int.toNat o)) (hA h 114 (Int.toNat o)) y) → Q (some (.inl v)) h) : av_wp none cd_175 0 [some (.inr (.inr (.inl (some (77))))), some (.inl o), some (.inl y)] [] h Q := by
  have gn := im_n I.1.1
  rw [I.2.1] at gn
  have ga := im_a I.1.1
  rw [I.2.2.1] at ga
  have gm := im_cm I.1.1
  rw [I.2.2.2] at gm
  have s12 : s ≤ 12 := by omega
  have Z := ZE_rf (L := [113, 114, 115]) (K := [50, 51, 52, 53]) h
  refine av_wp_seq 1 (pc' := 1) (lv' := [some (.inr (.inr (.inl (some (77))))), some (.inl o), some (.inl y)]) (st' := [.inr (.inr (.inl (some (77))))]) (h' := h) rfl ?_
  refine wq_gr (p' := 4) rfl rfl (congrArg Prod.fst (ly_k I.1.1.1 77 rfl)) rfl (ly_g I.1.1.1 77 47 113 rfl) ?_
  refine av_wp_seq 1 (pc' := 5) (lv' := [some (.inr (.inr (.inl (some (77))))), some (.inl o), some (.inl y)]) (st' := [.inl o, .inr (.inr (.inl (some (113))))]) (h' := h) rfl ?_
  obtain ⟨v1, e2⟩ : ∃ v, hA h 113 (Int.toNat (o)) = v := ⟨_, rfl⟩
  have g5 := r13
  rw [e2] at g5
  refine wq_al (p' := 6) (n := 12) rfl rfl (ly_k I.1.1.1 113 rfl) (by omega) (e2) ?_
  refine wq_k1 (p' := 9) rfl rfl ⟨by omega, by omega⟩ (fun c6 => ?_) (fun c7 => ?_)
  · have c6 : v1 < (0) := c6
    refine av_wp_seq 1 (pc' := 34) (lv' := [some (.inr (.inr (.inl (some (77))))), some (.inl o), some (.inl y)]) (st' := [.inl (0)]) (h' := h) rfl ?_
    refine av_wp_ret (v := some (.inl (0))) rfl rfl rfl ?_
    exact hq _ (by unfold opR; split <;> omega)
  · have c7 : (0) ≤ v1 := c7
    refine av_wp_seq 2 (pc' := 11) (lv' := [some (.inr (.inr (.inl (some (77))))), some (.inl o), some (.inl y)]) (st' := [.inr (.inr (.inl (some (77)))), .inl y]) (h' := h) rfl ?_
    refine wq_gr (p' := 14) rfl rfl (congrArg Prod.fst (ly_k I.1.1.1 77 rfl)) rfl (ly_g I.1.1.1 77 47 113 rfl) ?_
    refine av_wp_seq 1 (pc' := 15) (lv' := [some (.inr (.inr (.inl (some (77))))), some (.inl o), some (.inl y)]) (st' := [.inl o, .inr (.inr (.inl (some (113)))), .inl y]) (h' := h) rfl ?_
    obtain ⟨v8, e9⟩ : ∃ v, hA h 113 (Int.toNat (o)) = v := ⟨_, rfl⟩
    have g12 := r13
    rw [e9] at g12
    refine wq_al (p' := 16) (n := 12) rfl rfl (ly_k I.1.1.1 113 rfl) (by omega) (e9) ?_
    refine wq_k2 (p' := 19) rfl rfl ⟨by omega, by omega⟩ ⟨by omega, by omega⟩ (fun c13 => ?_) (fun c14 => ?_)
    · have c13 : y < v8 := c13
      refine av_wp_seq 1 (pc' := 34) (lv' := [some (.inr (.inr (.inl (some (77))))), some (.inl o), some (.inl y)]) (st' := [.inl (0)]) (h' := h) rfl ?_
      refine av_wp_ret (v := some (.inl (0))) rfl rfl rfl ?_
      exact hq _ (by unfold opR; split <;> omega)
    · have c14 : v8 ≤ y := c14
      refine av_wp_seq 2 (pc' := 21) (lv' := [some (.inr (.inr (.inl (some (77))))), some (.inl o), some (.inl y)]) (st' := [.inr (.inr (.inl (some (77)))), .inl y]) (h' := h) rfl ?_
      refine wq_gr (p' := 24) rfl rfl (congrArg Prod.fst (ly_k I.1.1.1 77 rfl)) rfl (ly_g I.1.1.1 77 48 114 rfl) ?_
      refine av_wp_seq 1 (pc' := 25) (lv' := [some (.inr (.inr (.inl (some (77))))), some (.inl o), some (.inl y)]) (st' := [.inl o, .inr (.inr (.inl (some (114)))), .inl y]) (h' := h) rfl ?_
      obtain ⟨v15, e16⟩ : ∃ v, hA h 114 (Int.toNat (o)) = v := ⟨_, rfl⟩
      have g19 := r14
      rw [e16] at g19
      refine wq_al (p' := 26) (n := 12) rfl rfl (ly_k I.1.1.1 114 rfl) (by omega) (e16) ?_
      refine wq_k2 (p' := 29) rfl rfl ⟨by omega, by omega⟩ ⟨by omega, by omega⟩ (fun c20 => ?_) (fun c21 => ?_)
      · have c20 : v15 ≤ y := c20
        refine av_wp_seq 1 (pc' := 34) (lv' := [some (.inr (.inr (.inl (some (77))))), some (.inl o), some (.inl y)]) (st' := [.inl (0)]) (h' := h) rfl ?_
        refine av_wp_ret (v := some (.inl (0))) rfl rfl rfl ?_
        exact hq _ (by unfold opR; split <;> omega)
      · have c21 : y < v15 := c21
        refine av_wp_seq 2 (pc' := 34) (lv' := [some (.inr (.inr (.inl (some (77))))), some (.inl o), some (.inl y)]) (st' := [.inl (1)]) (h' := h) rfl ?_
        refine av_wp_ret (v := some (.inl (1))) rfl rfl rfl ?_
        exact hq _ (by unfold opR; split <;> omega)

set_option maxRecDepth 100000 in
set_option maxHeartbeats 4000000 in
theorem cx_177 {g h : av_H} {n a m : Int} (I : IMF n a m h) (F : FM g h) {u ro : Nat → Int} {a0 : Nat → Nat → Int} {s : Nat} (en : n = (s : Int)) (X : LR u ro a0 s (hA h)) (W : UW u s) (R : RLW ro) (H : HBd s a0) (k : Int) (qk : 0 ≤ k ∧ k < (s : Int)) (y : Int) (qy : -2147483648 ≤ y ∧ y ≤ 2147483647) {Q : Option av_V → av_H → Prop} (hq : ∀ v : Int, ((v = 1 ∧ ∃ i, (Int.toNat k) < i ∧ i < s ∧ (TKB u ro a0 (Int.toNat k) y) i) ∨ (v = 0 ∧ ∀ i, (Int.toNat k) < i → i < s → ¬ (TKB u ro a0 (Int.toNat k) y) i)) → Q (some (.inl v)) h) : av_wp none cd_177 0 [some (.inr (.inr (.inl (some (77))))), some (.inl k), some (.inl y), none, none] [] h Q := by
  have gn := im_n I.1.1
  rw [I.2.1] at gn
  have ga := im_a I.1.1
  rw [I.2.2.1] at ga
  have gm := im_cm I.1.1
  rw [I.2.2.2] at gm
  have s12 : s ≤ 12 := by omega
  have Z := ZE_rf (L := [113, 114, 115]) (K := [50, 51, 52, 53]) h
  refine av_wp_seq 4 (pc' := 4) (lv' := [some (.inr (.inr (.inl (some (77))))), some (.inl k), some (.inl y), some (.inl (k + (1))), none]) (st' := []) (h' := h) rfl ?_
  have L4 : ∀ (m3 : Nat) (k1 : Int) (a2 : Option av_V), av_lg a2 = false → (∀ i : Nat, (Int.toNat k) < i → (i : Int) < k1 → ¬ (TKB u ro a0 (Int.toNat k) y) i) → k1 ≤ (s : Int) → k < k1 → (0 ≤ k1 ∧ k1 ≤ 12) → (12 - k1).toNat = m3 → av_wp none cd_177 4 [some (.inr (.inr (.inl (some (77))))), some (.inl k), some (.inl y), some (.inl k1), a2] [] h Q := by
    intro m3
    induction m3 using Nat.strongRecOn with
    | _ m3 I5 =>
      intro k1 a2 g7 g8 g9 g10 g11 e6
      have la2 := g7
      refine av_wp_seq 2 (pc' := 6) (lv' := [some (.inr (.inr (.inl (some (77))))), some (.inl k), some (.inl y), some (.inl k1), a2]) (st' := [.inr (.inr (.inl (some (77)))), .inl k1]) (h' := h) rfl ?_
      refine wq_gi (p' := 9) rfl rfl (congrArg Prod.fst (ly_k I.1.1.1 77 rfl)) rfl (I.2.1) ?_
      refine wq_k2 (p' := 12) rfl rfl ⟨by omega, by omega⟩ ⟨by omega, by omega⟩ (fun c12 => ?_) (fun c13 => ?_)
      · have c12 : n ≤ k1 := c12
        refine av_wp_seq 1 (pc' := 69) (lv' := [some (.inr (.inr (.inl (some (77))))), some (.inl k), some (.inl y), some (.inl k1), a2]) (st' := [.inl (0)]) (h' := h) rfl ?_
        refine av_wp_ret (v := some (.inl (0))) rfl rfl rfl ?_
        exact hq _ (by exact Or.inr ⟨rfl, fun i h1 h2 => g8 i h1 (by omega)⟩)
      · have c13 : k1 < n := c13
        refine av_wp_seq 1 (pc' := 13) (lv' := [some (.inr (.inr (.inl (some (77))))), some (.inl k), some (.inl y), some (.inl k1), a2]) (st' := [.inr (.inr (.inl (some (77))))]) (h' := h) rfl ?_
        refine wq_gr (p' := 16) rfl rfl (congrArg Prod.fst (ly_k I.1.1.1 77 rfl)) rfl (ly_g I.1.1.1 77 30 96 rfl) ?_
        refine av_wp_seq 1 (pc' := 17) (lv' := [some (.inr (.inr (.inl (some (77))))), some (.inl k), some (.inl y), some (.inl k1), a2]) (st' := [.inl k1, .inr (.inr (.inl (some (96))))]) (h' := h) rfl ?_
        obtain ⟨v14, e15⟩ : ∃ v, hA h 96 (Int.toNat (k1)) = v := ⟨_, rfl⟩
        have g16 : 0 ≤ hA h 96 (Int.toNat (k1)) ∧ hA h 96 (Int.toNat (k1)) ≤ 7 := im_w I.1.1 96 (by decide) (by decide) _
        rw [e15] at g16
        have y17 : hA h 96 (Int.toNat (k1)) = v14 := (congrFun (Z.1 96 rfl) _).symm.trans e15
        have y18 := (X.1 (Int.toNat (k1)) (by omega)).1.1
        rw [e15] at y18
        refine wq_al (p' := 18) (n := 12) rfl rfl (ly_k I.1.1.1 96 rfl) (by omega) (e15) ?_
        refine av_wp_seq 1 (pc' := 19) (lv' := [some (.inr (.inr (.inl (some (77))))), some (.inl k), some (.inl y), some (.inl k1), a2]) (st' := [.inl (5), .inl v14]) (h' := h) rfl ?_
        refine wq_k2 (p' := 22) rfl rfl ⟨by omega, by omega⟩ ⟨by omega, by omega⟩ (fun c20 => ?_) (fun c21 => ?_)
        · have c20 : v14 ≠ (5) := c20
          refine av_wp_seq 4 (pc' := 62) (lv' := [some (.inr (.inr (.inl (some (77))))), some (.inl k), some (.inl y), some (.inl k1), some (.inl (-1))]) (st' := []) (h' := h) rfl ?_
          have u22 := all_s (P := (TKB u ro a0 (Int.toNat k) y)) g8 (j := k1) (by omega) (by unfold TKB; omega)
          refine av_wp_seq 2 (pc' := 4) (lv' := [some (.inr (.inr (.inl (some (77))))), some (.inl k), some (.inl y), some (.inl (k1 + (1))), some (.inl (-1))]) (st' := []) (h' := h) rfl ?_
          exact I5 _ (by omega) ((k1 + (1))) (some (.inl (-1))) rfl u22 (by omega) (by omega) (by omega) rfl
        · have c21 : v14 = (5) := c21
          refine av_wp_seq 1 (pc' := 23) (lv' := [some (.inr (.inr (.inl (some (77))))), some (.inl k), some (.inl y), some (.inl k1), a2]) (st' := [.inr (.inr (.inl (some (77))))]) (h' := h) rfl ?_
          refine wq_gr (p' := 26) rfl rfl (congrArg Prod.fst (ly_k I.1.1.1 77 rfl)) rfl (ly_g I.1.1.1 77 34 100 rfl) ?_
          refine av_wp_seq 1 (pc' := 27) (lv' := [some (.inr (.inr (.inl (some (77))))), some (.inl k), some (.inl y), some (.inl k1), a2]) (st' := [.inl k1, .inr (.inr (.inl (some (100))))]) (h' := h) rfl ?_
          obtain ⟨v23, e24⟩ : ∃ v, hA h 100 (Int.toNat (k1)) = v := ⟨_, rfl⟩
          have g25 : -1 ≤ hA h 100 (Int.toNat (k1)) ∧ hA h 100 (Int.toNat (k1)) ≤ 11 := im_w I.1.1 100 (by decide) (by decide) _
          rw [e24] at g25
          have w26 := im_wr I.1 (Int.toNat (k1)) (by omega)
          rw [e24] at w26
          have y27 : hA h 100 (Int.toNat (k1)) = v23 := (congrFun (Z.1 100 rfl) _).symm.trans e24
          have y28 := (X.1 (Int.toNat (k1)) (by omega)).1.2.2.2.1
          rw [e24] at y28
          refine wq_al (p' := 28) (n := 12) rfl rfl (ly_k I.1.1.1 100 rfl) (by omega) (e24) ?_
          refine av_wp_seq 1 (pc' := 29) (lv' := [some (.inr (.inr (.inl (some (77))))), some (.inl k), some (.inl y), some (.inl k1), a2]) (st' := [.inl k, .inl v23]) (h' := h) rfl ?_
          refine wq_k2 (p' := 32) rfl rfl ⟨by omega, by omega⟩ ⟨by omega, by omega⟩ (fun c30 => ?_) (fun c31 => ?_)
          · have c30 : v23 ≠ k := c30
            refine av_wp_seq 4 (pc' := 62) (lv' := [some (.inr (.inr (.inl (some (77))))), some (.inl k), some (.inl y), some (.inl k1), some (.inl (-1))]) (st' := []) (h' := h) rfl ?_
            have u32 := all_s (P := (TKB u ro a0 (Int.toNat k) y)) g8 (j := k1) (by omega) (by unfold TKB; omega)
            refine av_wp_seq 2 (pc' := 4) (lv' := [some (.inr (.inr (.inl (some (77))))), some (.inl k), some (.inl y), some (.inl (k1 + (1))), some (.inl (-1))]) (st' := []) (h' := h) rfl ?_
            exact I5 _ (by omega) ((k1 + (1))) (some (.inl (-1))) rfl u32 (by omega) (by omega) (by omega) rfl
          · have c31 : v23 = k := c31
            refine av_wp_seq 3 (pc' := 35) (lv' := [some (.inr (.inr (.inl (some (77))))), some (.inl k), some (.inl y), some (.inl k1), a2]) (st' := [.inr (.inr (.inl (some (77)))), .inl k1, .inr (.inr (.inl (some (77))))]) (h' := h) rfl ?_
            refine wq_gr (p' := 38) rfl rfl (congrArg Prod.fst (ly_k I.1.1.1 77 rfl)) rfl (ly_g I.1.1.1 77 26 95 rfl) ?_
            refine av_wp_seq 1 (pc' := 39) (lv' := [some (.inr (.inr (.inl (some (77))))), some (.inl k), some (.inl y), some (.inl k1), a2]) (st' := [.inl (4), .inr (.inr (.inl (some (95)))), .inl k1, .inr (.inr (.inl (some (77))))]) (h' := h) rfl ?_
            obtain ⟨v33, e34⟩ : ∃ v, hA h 95 (Int.toNat ((4))) = v := ⟨_, rfl⟩
            have y36 : hA h 95 (Int.toNat ((4))) = v33 := (congrFun (Z.1 95 rfl) _).symm.trans e34
            have y37 : ro 4 = v33 := (X.2 4 (by omega)).symm.trans e34
            have g38 := rl_4 R
            refine wq_al (p' := 40) (n := 13) rfl rfl (ly_k I.1.1.1 95 rfl) (by omega) (e34) ?_
            refine wq_cv (p' := 43) (av_qc (.invokevirtual 363) 166 2 0 8) 3 cd_166 [.inl v33, .inl k1] (77) 8 [some (.inr (.inr (.inl (some (77))))), some (.inl k1), some (.inl v33)] rfl rfl rfl pp_166 rfl rfl rfl (congrArg Prod.fst (ly_k I.1.1.1 77 rfl)) rfl rfl rfl rfl ?_
            refine cx_166 I F (k1) (by omega) (v33) (by omega) (fun v39 p40 => ?_)
            have y41 : v39 = hw a0 (Int.toNat (k1)) v33 := LR_w X (by omega) (by omega) s12 p40
            have g42 := hw_r H (k := (Int.toNat (k1))) (by omega) v33
            rw [← y41] at g42
            rw [← y37] at y41
            show av_wp _ cd_177 43 [some (.inr (.inr (.inl (some (77))))), some (.inl k), some (.inl y), some (.inl k1), a2] [.inl v39] h _
            refine av_wp_seq 3 (pc' := 51) (lv' := [some (.inr (.inr (.inl (some (77))))), some (.inl k), some (.inl y), some (.inl k1), some (.inl v39)]) (st' := [.inl v39]) (h' := h) rfl ?_
            refine wq_k1 (p' := 54) rfl rfl ⟨by omega, by omega⟩ (fun c43 => ?_) (fun c44 => ?_)
            · have c43 : v39 < (0) := c43
              have u45 := all_s (P := (TKB u ro a0 (Int.toNat k) y)) g8 (j := k1) (by omega) (by unfold TKB; omega)
              refine av_wp_seq 2 (pc' := 4) (lv' := [some (.inr (.inr (.inl (some (77))))), some (.inl k), some (.inl y), some (.inl (k1 + (1))), some (.inl v39)]) (st' := []) (h' := h) rfl ?_
              exact I5 _ (by omega) ((k1 + (1))) (some (.inl v39)) rfl u45 (by omega) (by omega) (by omega) rfl
            · have c44 : (0) ≤ v39 := c44
              refine av_wp_seq 2 (pc' := 57) (lv' := [some (.inr (.inr (.inl (some (77))))), some (.inl k), some (.inl y), some (.inl k1), some (.inl v39)]) (st' := [.inl y, .inl v39]) (h' := h) rfl ?_
              refine wq_k2 (p' := 60) rfl rfl ⟨by omega, by omega⟩ ⟨by omega, by omega⟩ (fun c46 => ?_) (fun c47 => ?_)
              · have c46 : y ≤ v39 := c46
                have u48 := all_s (P := (TKB u ro a0 (Int.toNat k) y)) g8 (j := k1) (by omega) (by unfold TKB; omega)
                refine av_wp_seq 2 (pc' := 4) (lv' := [some (.inr (.inr (.inl (some (77))))), some (.inl k), some (.inl y), some (.inl (k1 + (1))), some (.inl v39)]) (st' := []) (h' := h) rfl ?_
                exact I5 _ (by omega) ((k1 + (1))) (some (.inl v39)) rfl u48 (by omega) (by omega) (by omega) rfl
              · have c47 : v39 < y := c47
                refine av_wp_seq 1 (pc' := 61) (lv' := [some (.inr (.inr (.inl (some (77))))), some (.inl k), some (.inl y), some (.inl k1), some (.inl v39)]) (st' := [.inl (1)]) (h' := h) rfl ?_
                refine av_wp_ret (v := some (.inl (1))) rfl rfl rfl ?_
                exact hq _ (by exact Or.inl ⟨rfl, (Int.toNat (k1)), by omega, by omega, by unfold TKB; omega⟩)
  exact L4 _ ((k + (1))) (none) rfl (fun i h1 h2 => by omega) (by omega) (by omega) (by omega) rfl

