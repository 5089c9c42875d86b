/-! THE REFERENCE'S OFFERS AND BARGAIN, exactly -/
set_option maxRecDepth 100000 in
set_option maxHeartbeats 4000000 in
theorem cx_174 {g h : av_H} {n a m : Int} (I : IMF n a m h) (F : FM g h) {u ro : Nat → Int} {a0 : Nat → Nat → Int} {s : Nat} (en : n = (s : Int)) (X : LR u ro a0 s (hA h)) (W : UW u s) (R : RLW ro) (H : HBd s a0) {Q : Option av_V → av_H → Prop} (hq : ∀ h', IMF n a m h' → FM g h' → ZE [113, 114, 115] [50, 51, 52, 53] h h' → FOI u ro a0 s s (hA h') → Q none h') : av_wp none cd_174 0 [some (.inr (.inr (.inl (some (77))))), none, none] [] h Q := by
  have gn := im_n I.1.1
  rw [I.2.1] at gn
  have ga := im_a I.1.1
  rw [I.2.2.1] at ga
  have gm := im_cm I.1.1
  rw [I.2.2.2] at gm
  have s12 : s ≤ 12 := by omega
  have Z := ZE_rf (L := [113, 114, 115]) (K := [50, 51, 52, 53]) h
  refine av_wp_seq 2 (pc' := 2) (lv' := [some (.inr (.inr (.inl (some (77))))), some (.inl (0)), none]) (st' := []) (h' := h) rfl ?_
  have L9 : ∀ (m8 : Nat) (k1 : Int) (a2 : Option av_V) (h3 : av_H), av_lg a2 = false → k1 ≤ (s : Int) → (0 ≤ k1 ∧ k1 ≤ 12) → IMF n a m h3 → FM g h3 → ZE [113, 114, 115] [50, 51, 52, 53] h h3 → FOI u ro a0 s (Int.toNat k1) (hA h3) → (12 - k1).toNat = m8 → av_wp none cd_174 2 [some (.inr (.inr (.inl (some (77))))), some (.inl k1), a2] [] h3 Q := by
    intro m8
    induction m8 using Nat.strongRecOn with
    | _ m8 I10 =>
      intro k1 a2 h3 g12 g13 g14 I4 F5 Z6 X7 e11
      have la2 := g12
      refine av_wp_seq 2 (pc' := 4) (lv' := [some (.inr (.inr (.inl (some (77))))), some (.inl k1), a2]) (st' := [.inr (.inr (.inl (some (77)))), .inl k1]) (h' := h3) rfl ?_
      refine wq_gi (p' := 7) rfl rfl (congrArg Prod.fst (ly_k I4.1.1.1 77 rfl)) rfl (I4.2.1) ?_
      refine wq_k2 (p' := 10) rfl rfl ⟨by omega, by omega⟩ ⟨by omega, by omega⟩ (fun c15 => ?_) (fun c16 => ?_)
      · have c15 : n ≤ k1 := c15
        refine av_wp_ret (v := none) rfl rfl rfl ?_
        have z17 : Int.toNat k1 = s := by omega
        rw [z17] at X7
        exact hq h3 I4 F5 Z6 X7
      · have c16 : k1 < n := c16
        refine av_wp_seq 2 (pc' := 12) (lv' := [some (.inr (.inr (.inl (some (77))))), some (.inl k1), a2]) (st' := [.inl k1, .inr (.inr (.inl (some (77))))]) (h' := h3) rfl ?_
        refine wq_cv (p' := 15) (av_qc (.invokevirtual 369) 168 1 0 8) 2 cd_168 [.inl k1] (77) 8 [some (.inr (.inr (.inl (some (77))))), some (.inl k1)] rfl rfl rfl pp_168 rfl rfl rfl (congrArg Prod.fst (ly_k I4.1.1.1 77 rfl)) rfl rfl rfl rfl ?_
        refine cx_168 I4 F5 en (LR_z X Z6) W R H (k1) (by omega) (fun v18 p19 => ?_)
        have p19b := of_b u ro (Int.toNat (k1))
        rw [← (X.1 (Int.toNat (k1)) (by omega)).2.2.2.1, ← p19] at p19b
        show av_wp _ cd_174 15 [some (.inr (.inr (.inl (some (77))))), some (.inl k1), a2] [.inl v18] h3 _
        refine wq_k1 (p' := 18) rfl rfl ⟨by omega, by omega⟩ (fun c20 => ?_) (fun c21 => ?_)
        · have c20 : v18 ≠ (0) := c20
          refine av_wp_seq 1 (pc' := 22) (lv' := [some (.inr (.inr (.inl (some (77))))), some (.inl k1), a2]) (st' := [.inr (.inr (.inl (some (77))))]) (h' := h3) rfl ?_
          refine wq_gr (p' := 25) rfl rfl (congrArg Prod.fst (ly_k I4.1.1.1 77 rfl)) rfl (ly_g I4.1.1.1 77 47 113 rfl) ?_
          refine av_wp_seq 2 (pc' := 27) (lv' := [some (.inr (.inr (.inl (some (77))))), some (.inl k1), a2]) (st' := [.inr (.inr (.inl (some (77)))), .inl k1, .inr (.inr (.inl (some (113))))]) (h' := h3) rfl ?_
          refine wq_gr (p' := 30) rfl rfl (congrArg Prod.fst (ly_k I4.1.1.1 77 rfl)) rfl (ly_g I4.1.1.1 77 37 103 rfl) ?_
          refine av_wp_seq 1 (pc' := 31) (lv' := [some (.inr (.inr (.inl (some (77))))), some (.inl k1), a2]) (st' := [.inl k1, .inr (.inr (.inl (some (103)))), .inl k1, .inr (.inr (.inl (some (113))))]) (h' := h3) rfl ?_
          obtain ⟨v22, e23⟩ : ∃ v, hA h3 103 (Int.toNat (k1)) = v := ⟨_, rfl⟩
          have g24 : 0 ≤ hA h3 103 (Int.toNat (k1)) ∧ hA h3 103 (Int.toNat (k1)) ≤ 1 := im_w I4.1.1 103 (by decide) (by decide) _
          rw [e23] at g24
          have y25 : hA h 103 (Int.toNat (k1)) = v22 := (congrFun (Z6.1 103 rfl) _).symm.trans e23
          have y26 := ((LR_z X Z6).1 (Int.toNat (k1)) (by omega)).1.2.2.2.2.2.2
          rw [e23] at y26
          refine wq_bl (p' := 32) (n := 12) rfl rfl ((Or.inr (ly_k I4.1.1.1 103 rfl))) (by omega) (e23) ?_
          have J31 : ∀ (j28 : Int), (-1 ≤ j28 ∧ j28 ≤ 5000) → j28 = o5 ro a0 (Int.toNat (k1)) →  av_wp none cd_174 50 [some (.inr (.inr (.inl (some (77))))), some (.inl k1), a2] [.inl j28, .inl k1, .inr (.inr (.inl (some (113))))] h3 Q := by
            intro j28 g29 g30
            refine xm_as (p' := 51) (l := 12) rfl rfl I4 F5 (ly_k I4.1.1.1 113 rfl) (by omega) (by omega) (fun h32 I33 F34 e35 => ?_)
            have Z36 := ZE_a Z6 e35 rfl
            refine av_wp_seq 1 (pc' := 52) (lv' := [some (.inr (.inr (.inl (some (77))))), some (.inl k1), a2]) (st' := [.inr (.inr (.inl (some (77))))]) (h' := h32) rfl ?_
            refine wq_gr (p' := 55) rfl rfl (congrArg Prod.fst (ly_k I33.1.1.1 77 rfl)) rfl (ly_g I33.1.1.1 77 48 114 rfl) ?_
            refine av_wp_seq 2 (pc' := 59) (lv' := [some (.inr (.inr (.inl (some (77))))), some (.inl k1), a2]) (st' := [.inl (9999), .inl k1, .inr (.inr (.inl (some (114))))]) (h' := h32) rfl ?_
            refine xm_as (p' := 60) (l := 12) rfl rfl I33 F34 (ly_k I33.1.1.1 114 rfl) (by omega) (by omega) (fun h37 I38 F39 e40 => ?_)
            have Z41 := ZE_a Z36 e40 rfl
            refine av_wp_seq 1 (pc' := 61) (lv' := [some (.inr (.inr (.inl (some (77))))), some (.inl k1), a2]) (st' := [.inr (.inr (.inl (some (77))))]) (h' := h37) rfl ?_
            refine wq_gr (p' := 64) rfl rfl (congrArg Prod.fst (ly_k I38.1.1.1 77 rfl)) rfl (ly_g I38.1.1.1 77 49 115 rfl) ?_
            refine av_wp_seq 2 (pc' := 66) (lv' := [some (.inr (.inr (.inl (some (77))))), some (.inl k1), a2]) (st' := [.inl (0), .inl k1, .inr (.inr (.inl (some (115))))]) (h' := h37) rfl ?_
            refine xm_as (p' := 67) (l := 12) rfl rfl I38 F39 (ly_k I38.1.1.1 115 rfl) (by omega) (by omega) (fun h42 I43 F44 e45 => ?_)
            have Z46 := ZE_a Z41 e45 rfl
            have Y47 : FOI u ro a0 s (Int.toNat (k1)) (hA h42) := FOI_c X7 (fun q hq => ⟨by rw [hA_en e45 (by decide), hA_en e40 (by decide), hA_eu e35, u1_ne hq], by rw [hA_en e45 (by decide), hA_eu e40, u1_ne hq, hA_en e35 (by decide)], by rw [hA_eu e45, u1_ne hq, hA_en e40 (by decide), hA_en e35 (by decide)]⟩)
            have Y48 : hA h42 113 (Int.toNat (k1)) = o5 ro a0 (Int.toNat (k1)) := by rw [hA_en e45 (by decide), hA_en e40 (by decide), hA_eu e35, u1_eq]; exact g30
            have E49 : E2 (hA h42) (Int.toNat (k1)) = (9999, 0) := by unfold E2; rw [hA_en e45 (by decide), hA_eu e40, u1_eq, hA_eu e45, u1_eq]
            refine av_wp_seq 4 (pc' := 71) (lv' := [some (.inr (.inr (.inl (some (77))))), some (.inl k1), some (.inl (k1 + (1)))]) (st' := []) (h' := h42) rfl ?_
            have L57 : ∀ (m56 : Nat) (k50 : Int) (h51 : av_H), k50 ≤ (s : Int) → k1 < k50 → (0 ≤ k50 ∧ k50 ≤ 12) → IMF n a m h51 → FM g h51 → ZE [113, 114, 115] [50, 51, 52, 53] h h51 → FOJ u ro a0 s (Int.toNat k1) (Int.toNat k50) (hA h51) → (12 - k50).toNat = m56 → av_wp none cd_174 71 [some (.inr (.inr (.inl (some (77))))), some (.inl k1), some (.inl k50)] [] h51 Q := by
              intro m56
              induction m56 using Nat.strongRecOn with
              | _ m56 I58 =>
                intro k50 h51 g60 g61 g62 I52 F53 Z54 X55 e59
                refine av_wp_seq 2 (pc' := 73) (lv' := [some (.inr (.inr (.inl (some (77))))), some (.inl k1), some (.inl k50)]) (st' := [.inr (.inr (.inl (some (77)))), .inl k50]) (h' := h51) rfl ?_
                refine wq_gi (p' := 76) rfl rfl (congrArg Prod.fst (ly_k I52.1.1.1 77 rfl)) rfl (I52.2.1) ?_
                refine wq_k2 (p' := 79) rfl rfl ⟨by omega, by omega⟩ ⟨by omega, by omega⟩ (fun c63 => ?_) (fun c64 => ?_)
                · have c63 : n ≤ k50 := c63
                  refine av_wp_seq 1 (pc' := 110) (lv' := [some (.inr (.inr (.inl (some (77))))), some (.inl k1), some (.inl k50)]) (st' := [.inr (.inr (.inl (some (77))))]) (h' := h51) rfl ?_
                  refine wq_gr (p' := 113) rfl rfl (congrArg Prod.fst (ly_k I52.1.1.1 77 rfl)) rfl (ly_g I52.1.1.1 77 33 99 rfl) ?_
                  refine av_wp_seq 1 (pc' := 114) (lv' := [some (.inr (.inr (.inl (some (77))))), some (.inl k1), some (.inl k50)]) (st' := [.inl k1, .inr (.inr (.inl (some (99))))]) (h' := h51) rfl ?_
                  obtain ⟨v65, e66⟩ : ∃ v, hA h51 99 (Int.toNat (k1)) = v := ⟨_, rfl⟩
                  have g67 : -1 ≤ hA h51 99 (Int.toNat (k1)) ∧ hA h51 99 (Int.toNat (k1)) ≤ 1999 := im_w I52.1.1 99 (by decide) (by decide) _
                  rw [e66] at g67
                  have y68 : hA h 99 (Int.toNat (k1)) = v65 := (congrFun (Z54.1 99 rfl) _).symm.trans e66
                  have y69 := ((LR_z X Z54).1 (Int.toNat (k1)) (by omega)).1.2.2.1
                  rw [e66] at y69
                  have g70 := W (Int.toNat (k1)) (by omega)
                  rw [← y69] at g70
                  refine wq_al (p' := 115) (n := 12) rfl rfl (ly_k I52.1.1.1 99 rfl) (by omega) (e66) ?_
                  refine wq_k1 (p' := 118) rfl rfl ⟨by omega, by omega⟩ (fun c71 => ?_) (fun c72 => ?_)
                  · have c71 : v65 < (0) := c71
                    refine av_wp_seq 1 (pc' := 136) (lv' := [some (.inr (.inr (.inl (some (77))))), some (.inl k1), some (.inl k50)]) (st' := [.inr (.inr (.inl (some (77))))]) (h' := h51) rfl ?_
                    refine wq_gr (p' := 139) rfl rfl (congrArg Prod.fst (ly_k I52.1.1.1 77 rfl)) rfl (ly_g I52.1.1.1 77 26 95 rfl) ?_
                    refine av_wp_seq 1 (pc' := 141) (lv' := [some (.inr (.inr (.inl (some (77))))), some (.inl k1), some (.inl k50)]) (st' := [.inl (7), .inr (.inr (.inl (some (95))))]) (h' := h51) rfl ?_
                    obtain ⟨v73, e74⟩ : ∃ v, hA h51 95 (Int.toNat ((7))) = v := ⟨_, rfl⟩
                    have y76 : hA h 95 (Int.toNat ((7))) = v73 := (congrFun (Z54.1 95 rfl) _).symm.trans e74
                    have y77 : ro 7 = v73 := ((LR_z X Z54).2 7 (by omega)).symm.trans e74
                    have g78 := rl_7 R
                    refine wq_al (p' := 142) (n := 13) rfl rfl (ly_k I52.1.1.1 95 rfl) (by omega) (e74) ?_
                    refine wq_k1 (p' := 145) rfl rfl ⟨by omega, by omega⟩ (fun c79 => ?_) (fun c80 => ?_)
                    · have c79 : v73 < (0) := c79
                      refine av_wp_seq 2 (pc' := 2) (lv' := [some (.inr (.inr (.inl (some (77))))), some (.inl (k1 + (1))), some (.inl k50)]) (st' := []) (h' := h51) rfl ?_
                      exact I10 _ (by omega) ((k1 + (1))) (some (.inl k50)) h51 rfl (by omega) (by omega) I52 F53 Z54 (by rw [show Int.toNat (k1 + (1)) = Int.toNat k1 + 1 by omega]; exact FOI_s X55.1 X55.2.1 (by rw [X55.2.2, show Int.toNat k50 = s by omega]; unfold fre2; rw [if_neg (by omega), if_neg (by omega)])) rfl
                    · have c80 : (0) ≤ v73 := c80
                      refine av_wp_seq 1 (pc' := 146) (lv' := [some (.inr (.inr (.inl (some (77))))), some (.inl k1), some (.inl k50)]) (st' := [.inr (.inr (.inl (some (77))))]) (h' := h51) rfl ?_
                      refine wq_gr (p' := 149) rfl rfl (congrArg Prod.fst (ly_k I52.1.1.1 77 rfl)) rfl (ly_g I52.1.1.1 77 44 110 rfl) ?_
                      refine av_wp_seq 1 (pc' := 150) (lv' := [some (.inr (.inr (.inl (some (77))))), some (.inl k1), some (.inl k50)]) (st' := [.inl k1, .inr (.inr (.inl (some (110))))]) (h' := h51) rfl ?_
                      obtain ⟨v81, e82⟩ : ∃ v, hA h51 110 (Int.toNat (k1)) = v := ⟨_, rfl⟩
                      have y84 : hA h 110 (Int.toNat (k1)) = v81 := (congrFun (Z54.1 110 rfl) _).symm.trans e82
                      have y85 : v81 = hw a0 (Int.toNat (k1)) 1 := LR_w (LR_z X Z54) (by omega) (by omega) s12 (Or.inr (Or.inl ⟨rfl, e82.symm⟩))
                      have g86 := hw_r H (k := (Int.toNat (k1))) (by omega) 1
                      rw [← y85] at g86
                      refine wq_al (p' := 151) (n := 12) rfl rfl (ly_k I52.1.1.1 110 rfl) (by omega) (e82) ?_
                      refine wq_k1 (p' := 154) rfl rfl ⟨by omega, by omega⟩ (fun c87 => ?_) (fun c88 => ?_)
                      · have c87 : v81 < (0) := c87
                        refine av_wp_seq 2 (pc' := 2) (lv' := [some (.inr (.inr (.inl (some (77))))), some (.inl (k1 + (1))), some (.inl k50)]) (st' := []) (h' := h51) rfl ?_
                        exact I10 _ (by omega) ((k1 + (1))) (some (.inl k50)) h51 rfl (by omega) (by omega) I52 F53 Z54 (by rw [show Int.toNat (k1 + (1)) = Int.toNat k1 + 1 by omega]; exact FOI_s X55.1 X55.2.1 (by rw [X55.2.2, show Int.toNat k50 = s by omega]; unfold fre2; rw [if_neg (by omega), if_neg (by omega)])) rfl
                      · have c88 : (0) ≤ v81 := c88
                        refine av_wp_seq 3 (pc' := 157) (lv' := [some (.inr (.inr (.inl (some (77))))), some (.inl k1), some (.inl k50)]) (st' := [.inr (.inr (.inl (some (77)))), .inl k1, .inr (.inr (.inl (some (77))))]) (h' := h51) rfl ?_
                        refine wq_gr (p' := 160) rfl rfl (congrArg Prod.fst (ly_k I52.1.1.1 77 rfl)) rfl (ly_g I52.1.1.1 77 44 110 rfl) ?_
                        refine av_wp_seq 1 (pc' := 161) (lv' := [some (.inr (.inr (.inl (some (77))))), some (.inl k1), some (.inl k50)]) (st' := [.inl k1, .inr (.inr (.inl (some (110)))), .inl k1, .inr (.inr (.inl (some (77))))]) (h' := h51) rfl ?_
                        obtain ⟨v89, e90⟩ : ∃ v, hA h51 110 (Int.toNat (k1)) = v := ⟨_, rfl⟩
                        have y92 : hA h 110 (Int.toNat (k1)) = v89 := (congrFun (Z54.1 110 rfl) _).symm.trans e90
                        have y93 : v89 = hw a0 (Int.toNat (k1)) 1 := LR_w (LR_z X Z54) (by omega) (by omega) s12 (Or.inr (Or.inl ⟨rfl, e90.symm⟩))
                        have g94 := hw_r H (k := (Int.toNat (k1))) (by omega) 1
                        rw [← y93] at g94
                        refine wq_al (p' := 162) (n := 12) rfl rfl (ly_k I52.1.1.1 110 rfl) (by omega) (e90) ?_
                        refine av_wp_seq 1 (pc' := 163) (lv' := [some (.inr (.inr (.inl (some (77))))), some (.inl k1), some (.inl k50)]) (st' := [.inr (.inr (.inl (some (77)))), .inl v89, .inl k1, .inr (.inr (.inl (some (77))))]) (h' := h51) rfl ?_
                        refine wq_gr (p' := 166) rfl rfl (congrArg Prod.fst (ly_k I52.1.1.1 77 rfl)) rfl (ly_g I52.1.1.1 77 26 95 rfl) ?_
                        refine av_wp_seq 1 (pc' := 168) (lv' := [some (.inr (.inr (.inl (some (77))))), some (.inl k1), some (.inl k50)]) (st' := [.inl (7), .inr (.inr (.inl (some (95)))), .inl v89, .inl k1, .inr (.inr (.inl (some (77))))]) (h' := h51) rfl ?_
                        obtain ⟨v95, e96⟩ : ∃ v, hA h51 95 (Int.toNat ((7))) = v := ⟨_, rfl⟩
                        have y98 : hA h 95 (Int.toNat ((7))) = v95 := (congrFun (Z54.1 95 rfl) _).symm.trans e96
                        have y99 : ro 7 = v95 := ((LR_z X Z54).2 7 (by omega)).symm.trans e96
                        have g100 := rl_7 R
                        refine wq_al (p' := 169) (n := 13) rfl rfl (ly_k I52.1.1.1 95 rfl) (by omega) (e96) ?_
                        refine av_wp_seq 4 (pc' := 173) (lv' := [some (.inr (.inr (.inl (some (77))))), some (.inl k1), some (.inl k50)]) (st' := [.inl (4), .inl ((v89 + v95) + (1)), .inl k1, .inr (.inr (.inl (some (77))))]) (h' := h51) rfl ?_
                        refine wq_cv (p' := 176) (av_qc (.invokevirtual 375) 173 3 0 8) 4 cd_173 [.inl (4), .inl ((v89 + v95) + (1)), .inl k1] (77) 8 [some (.inr (.inr (.inl (some (77))))), some (.inl k1), some (.inl ((v89 + v95) + (1))), some (.inl (4))] rfl rfl rfl pp_173 rfl rfl rfl (congrArg Prod.fst (ly_k I52.1.1.1 77 rfl)) rfl rfl rfl rfl ?_
                        have r101 : R2P (E2 (hA h51) (Int.toNat (k1))) := by rw [X55.2.2]; exact (frv_r H _ (by omega))
                        refine cx_173 I52 F53 (k1) (by omega) (((v89 + v95) + (1))) (by omega) ((4)) (by omega) r101.1 r101.2 (fun h102 I103 F104 Z105 E106 N107 => ?_)
                        rw [X55.2.2] at E106
                        have Z108 := ZE_e2 Z54 Z105
                        have Y109 := FOI_c X55.1 (fun q hq => ⟨congrFun (Z105.1 113 rfl) q, N107 q hq⟩)
                        have Y110 := (congrFun (Z105.1 113 rfl) (Int.toNat (k1))).trans X55.2.1
                        show av_wp _ cd_174 176 [some (.inr (.inr (.inl (some (77))))), some (.inl k1), some (.inl k50)] [] h102 _
                        refine av_wp_seq 2 (pc' := 2) (lv' := [some (.inr (.inr (.inl (some (77))))), some (.inl (k1 + (1))), some (.inl k50)]) (st' := []) (h' := h102) rfl ?_
                        exact I10 _ (by omega) ((k1 + (1))) (some (.inl k50)) h102 rfl (by omega) (by omega) I103 F104 Z108 (by rw [show Int.toNat (k1 + (1)) = Int.toNat k1 + 1 by omega]; exact FOI_s Y109 Y110 (by rw [E106, show Int.toNat k50 = s by omega]; unfold fre2; rw [if_neg (by omega), if_pos (by omega), ← y93, y99])) rfl
                  · have c72 : (0) ≤ v65 := c72
                    refine av_wp_seq 3 (pc' := 121) (lv' := [some (.inr (.inr (.inl (some (77))))), some (.inl k1), some (.inl k50)]) (st' := [.inr (.inr (.inl (some (77)))), .inl k1, .inr (.inr (.inl (some (77))))]) (h' := h51) rfl ?_
                    refine wq_gr (p' := 124) rfl rfl (congrArg Prod.fst (ly_k I52.1.1.1 77 rfl)) rfl (ly_g I52.1.1.1 77 33 99 rfl) ?_
                    refine av_wp_seq 1 (pc' := 125) (lv' := [some (.inr (.inr (.inl (some (77))))), some (.inl k1), some (.inl k50)]) (st' := [.inl k1, .inr (.inr (.inl (some (99)))), .inl k1, .inr (.inr (.inl (some (77))))]) (h' := h51) rfl ?_
                    obtain ⟨v111, e112⟩ : ∃ v, hA h51 99 (Int.toNat (k1)) = v := ⟨_, rfl⟩
                    have g113 : -1 ≤ hA h51 99 (Int.toNat (k1)) ∧ hA h51 99 (Int.toNat (k1)) ≤ 1999 := im_w I52.1.1 99 (by decide) (by decide) _
                    rw [e112] at g113
                    have y114 : hA h 99 (Int.toNat (k1)) = v111 := (congrFun (Z54.1 99 rfl) _).symm.trans e112
                    have y115 := ((LR_z X Z54).1 (Int.toNat (k1)) (by omega)).1.2.2.1
                    rw [e112] at y115
                    have g116 := W (Int.toNat (k1)) (by omega)
                    rw [← y115] at g116
                    refine wq_al (p' := 126) (n := 12) rfl rfl (ly_k I52.1.1.1 99 rfl) (by omega) (e112) ?_
                    refine av_wp_seq 3 (pc' := 129) (lv' := [some (.inr (.inr (.inl (some (77))))), some (.inl k1), some (.inl k50)]) (st' := [.inl (3), .inl (v111 + (1)), .inl k1, .inr (.inr (.inl (some (77))))]) (h' := h51) rfl ?_
                    refine wq_cv (p' := 132) (av_qc (.invokevirtual 375) 173 3 0 8) 4 cd_173 [.inl (3), .inl (v111 + (1)), .inl k1] (77) 8 [some (.inr (.inr (.inl (some (77))))), some (.inl k1), some (.inl (v111 + (1))), some (.inl (3))] rfl rfl rfl pp_173 rfl rfl rfl (congrArg Prod.fst (ly_k I52.1.1.1 77 rfl)) rfl rfl rfl rfl ?_
                    have r117 : R2P (E2 (hA h51) (Int.toNat (k1))) := by rw [X55.2.2]; exact (frv_r H _ (by omega))
                    refine cx_173 I52 F53 (k1) (by omega) ((v111 + (1))) (by omega) ((3)) (by omega) r117.1 r117.2 (fun h118 I119 F120 Z121 E122 N123 => ?_)
                    rw [X55.2.2] at E122
                    have Z124 := ZE_e2 Z54 Z121
                    have Y125 := FOI_c X55.1 (fun q hq => ⟨congrFun (Z121.1 113 rfl) q, N123 q hq⟩)
                    have Y126 := (congrFun (Z121.1 113 rfl) (Int.toNat (k1))).trans X55.2.1
                    show av_wp _ cd_174 132 [some (.inr (.inr (.inl (some (77))))), some (.inl k1), some (.inl k50)] [] h118 _
                    refine av_wp_seq 3 (pc' := 2) (lv' := [some (.inr (.inr (.inl (some (77))))), some (.inl (k1 + (1))), some (.inl k50)]) (st' := []) (h' := h118) rfl ?_
                    exact I10 _ (by omega) ((k1 + (1))) (some (.inl k50)) h118 rfl (by omega) (by omega) I119 F120 Z124 (by rw [show Int.toNat (k1 + (1)) = Int.toNat k1 + 1 by omega]; exact FOI_s Y125 Y126 (by rw [E122, show Int.toNat k50 = s by omega]; unfold fre2; rw [if_pos (by omega), ← y115])) rfl
                · have c64 : k50 < n := c64
                  refine av_wp_seq 5 (pc' := 84) (lv' := [some (.inr (.inr (.inl (some (77))))), some (.inl k1), some (.inl k50)]) (st' := [.inl k1, .inl k50, .inr (.inr (.inl (some (77)))), .inl k1, .inr (.inr (.inl (some (77))))]) (h' := h51) rfl ?_
                  refine wq_cv (p' := 87) (av_qc (.invokevirtual 372) 171 2 0 8) 4 cd_171 [.inl k1, .inl k50] (77) 8 [some (.inr (.inr (.inl (some (77))))), some (.inl k50), some (.inl k1), none] rfl rfl rfl pp_171 rfl rfl rfl (congrArg Prod.fst (ly_k I52.1.1.1 77 rfl)) rfl rfl rfl rfl ?_
                  refine cx_171 I52 F53 en (LR_z X Z54) W R H (k50) (by omega) (k1) (by omega) (fun v127 p128 => ?_)
                  have p128b := bkv_r (u := u) (ro := ro) H (k := (Int.toNat (k50))) (by omega) (k1)
                  rw [← p128] at p128b
                  show av_wp _ cd_174 87 [some (.inr (.inr (.inl (some (77))))), some (.inl k1), some (.inl k50)] [.inl v127, .inl k1, .inr (.inr (.inl (some (77))))] h51 _
                  refine av_wp_seq 1 (pc' := 88) (lv' := [some (.inr (.inr (.inl (some (77))))), some (.inl k1), some (.inl k50)]) (st' := [.inl (1), .inl v127, .inl k1, .inr (.inr (.inl (some (77))))]) (h' := h51) rfl ?_
                  refine wq_cv (p' := 91) (av_qc (.invokevirtual 375) 173 3 0 8) 4 cd_173 [.inl (1), .inl v127, .inl k1] (77) 8 [some (.inr (.inr (.inl (some (77))))), some (.inl k1), some (.inl v127), some (.inl (1))] rfl rfl rfl pp_173 rfl rfl rfl (congrArg Prod.fst (ly_k I52.1.1.1 77 rfl)) rfl rfl rfl rfl ?_
                  have r129 : R2P (E2 (hA h51) (Int.toNat (k1))) := by rw [X55.2.2]; exact (frv_r H _ (by omega))
                  refine cx_173 I52 F53 (k1) (by omega) (v127) (by omega) ((1)) (by omega) r129.1 r129.2 (fun h130 I131 F132 Z133 E134 N135 => ?_)
                  rw [X55.2.2] at E134
                  have Z136 := ZE_e2 Z54 Z133
                  have Y137 := FOI_c X55.1 (fun q hq => ⟨congrFun (Z133.1 113 rfl) q, N135 q hq⟩)
                  have Y138 := (congrFun (Z133.1 113 rfl) (Int.toNat (k1))).trans X55.2.1
                  show av_wp _ cd_174 91 [some (.inr (.inr (.inl (some (77))))), some (.inl k1), some (.inl k50)] [] h130 _
                  refine av_wp_seq 5 (pc' := 96) (lv' := [some (.inr (.inr (.inl (some (77))))), some (.inl k1), some (.inl k50)]) (st' := [.inl k1, .inl k50, .inr (.inr (.inl (some (77)))), .inl k1, .inr (.inr (.inl (some (77))))]) (h' := h130) rfl ?_
                  refine wq_cv (p' := 99) (av_qc (.invokevirtual 378) 172 2 0 8) 3 cd_172 [.inl k1, .inl k50] (77) 8 [some (.inr (.inr (.inl (some (77))))), some (.inl k50), some (.inl k1)] rfl rfl rfl pp_172 rfl rfl rfl (congrArg Prod.fst (ly_k I131.1.1.1 77 rfl)) rfl rfl rfl rfl ?_
                  refine cx_172 I131 F132 en (LR_z X Z136) W R H (k50) (by omega) (k1) (by omega) (fun v139 p140 => ?_)
                  have p140b := nov_r (u := u) (ro := ro) H (k := (Int.toNat (k50))) (by omega) (k1)
                  rw [← p140] at p140b
                  show av_wp _ cd_174 99 [some (.inr (.inr (.inl (some (77))))), some (.inl k1), some (.inl k50)] [.inl v139, .inl k1, .inr (.inr (.inl (some (77))))] h130 _
                  refine av_wp_seq 1 (pc' := 100) (lv' := [some (.inr (.inr (.inl (some (77))))), some (.inl k1), some (.inl k50)]) (st' := [.inl (2), .inl v139, .inl k1, .inr (.inr (.inl (some (77))))]) (h' := h130) rfl ?_
                  refine wq_cv (p' := 103) (av_qc (.invokevirtual 375) 173 3 0 8) 4 cd_173 [.inl (2), .inl v139, .inl k1] (77) 8 [some (.inr (.inr (.inl (some (77))))), some (.inl k1), some (.inl v139), some (.inl (2))] rfl rfl rfl pp_173 rfl rfl rfl (congrArg Prod.fst (ly_k I131.1.1.1 77 rfl)) rfl rfl rfl rfl ?_
                  have r141 : R2P (E2 (hA h130) (Int.toNat (k1))) := by rw [E134]; exact (R2P_e (frv_r H _ (by omega)) (by omega) (by omega))
                  refine cx_173 I131 F132 (k1) (by omega) (v139) (by omega) ((2)) (by omega) r141.1 r141.2 (fun h142 I143 F144 Z145 E146 N147 => ?_)
                  rw [E134] at E146
                  have Z148 := ZE_e2 Z136 Z145
                  have Y149 := FOI_c Y137 (fun q hq => ⟨congrFun (Z145.1 113 rfl) q, N147 q hq⟩)
                  have Y150 := (congrFun (Z145.1 113 rfl) (Int.toNat (k1))).trans Y138
                  show av_wp _ cd_174 103 [some (.inr (.inr (.inl (some (77))))), some (.inl k1), some (.inl k50)] [] h142 _
                  refine av_wp_seq 2 (pc' := 71) (lv' := [some (.inr (.inr (.inl (some (77))))), some (.inl k1), some (.inl (k50 + (1)))]) (st' := []) (h' := h142) rfl ?_
                  exact I58 _ (by omega) ((k50 + (1))) h142 (by omega) (by omega) (by omega) I143 F144 Z148 (by rw [show Int.toNat (k50 + (1)) = Int.toNat k50 + 1 by omega]; exact FOJ_s Y149 Y150 E146 (by omega) p128 p140 (by omega)) rfl
            exact L57 _ ((k1 + (1))) h42 (by omega) (by omega) (by omega) I43 F44 Z46 ⟨Y47, Y48, by rw [show Int.toNat (k1 + (1)) - ((Int.toNat k1) + 1) = 0 by omega]; exact E49⟩ rfl
          refine wq_k1 (p' := 35) rfl rfl ⟨by omega, by omega⟩ (fun c151 => ?_) (fun c152 => ?_)
          · have c151 : v22 = (0) := c151
            refine av_wp_seq 3 (pc' := 42) (lv' := [some (.inr (.inr (.inl (some (77))))), some (.inl k1), a2]) (st' := [.inr (.inr (.inl (some (77)))), .inl k1, .inr (.inr (.inl (some (77)))), .inl k1, .inr (.inr (.inl (some (113))))]) (h' := h3) rfl ?_
            refine wq_gr (p' := 45) rfl rfl (congrArg Prod.fst (ly_k I4.1.1.1 77 rfl)) rfl (ly_g I4.1.1.1 77 26 95 rfl) ?_
            refine av_wp_seq 1 (pc' := 46) (lv' := [some (.inr (.inr (.inl (some (77))))), some (.inl k1), a2]) (st' := [.inl (3), .inr (.inr (.inl (some (95)))), .inl k1, .inr (.inr (.inl (some (77)))), .inl k1, .inr (.inr (.inl (some (113))))]) (h' := h3) rfl ?_
            obtain ⟨v153, e154⟩ : ∃ v, hA h3 95 (Int.toNat ((3))) = v := ⟨_, rfl⟩
            have y156 : hA h 95 (Int.toNat ((3))) = v153 := (congrFun (Z6.1 95 rfl) _).symm.trans e154
            have y157 : ro 3 = v153 := ((LR_z X Z6).2 3 (by omega)).symm.trans e154
            have g158 := rl_3 R
            refine wq_al (p' := 47) (n := 13) rfl rfl (ly_k I4.1.1.1 95 rfl) (by omega) (e154) ?_
            refine wq_cv (p' := 50) (av_qc (.invokevirtual 363) 166 2 0 8) 3 cd_166 [.inl v153, .inl k1] (77) 8 [some (.inr (.inr (.inl (some (77))))), some (.inl k1), some (.inl v153)] rfl rfl rfl pp_166 rfl rfl rfl (congrArg Prod.fst (ly_k I4.1.1.1 77 rfl)) rfl rfl rfl rfl ?_
            refine cx_166 I4 F5 (k1) (by omega) (v153) (by omega) (fun v159 p160 => ?_)
            have y161 : v159 = hw a0 (Int.toNat (k1)) v153 := LR_w (LR_z X Z6) (by omega) (by omega) s12 p160
            have g162 := hw_r H (k := (Int.toNat (k1))) (by omega) v153
            rw [← y161] at g162
            rw [← y157] at y161
            show av_wp _ cd_174 50 [some (.inr (.inr (.inl (some (77))))), some (.inl k1), a2] [.inl v159, .inl k1, .inr (.inr (.inl (some (113))))] h3 _
            exact J31 (v159) (by omega) (by unfold o5; rw [if_pos (by omega)]; exact y161)
          · have c152 : v22 ≠ (0) := c152
            refine av_wp_seq 2 (pc' := 50) (lv' := [some (.inr (.inr (.inl (some (77))))), some (.inl k1), a2]) (st' := [.inl (-1), .inl k1, .inr (.inr (.inl (some (113))))]) (h' := h3) rfl ?_
            exact J31 ((-1)) (by omega) (by unfold o5; rw [if_neg (by omega)])
        · have c21 : v18 = (0) := c21
          refine av_wp_seq 3 (pc' := 2) (lv' := [some (.inr (.inr (.inl (some (77))))), some (.inl (k1 + (1))), a2]) (st' := []) (h' := h3) rfl ?_
          exact I10 _ (by omega) ((k1 + (1))) (a2) h3 la2 (by omega) (by omega) I4 F5 Z6 (by rw [show Int.toNat (k1 + (1)) = Int.toNat k1 + 1 by omega]; exact FOI_n X7 (by omega)) rfl
  exact L9 _ ((0)) (none) h rfl (by omega) (by omega) I F Z FOI_0 rfl

set_option maxRecDepth 100000 in
set_option maxHeartbeats 4000000 in
theorem cx_178 {g h : av_H} {n a m : Int} (I : IMF n a m h) (F : FM g h) (x : Int) (qx : -1 ≤ x ∧ x ≤ 11) (k : Int) (qk : 0 ≤ k ∧ k ≤ 11) (z : Int) (qz : -1 ≤ z ∧ z ≤ 9999) (r53 : hF h 77 50 = 1 → -1 ≤ hF h 77 53 ∧ hF h 77 53 ≤ 9999) {Q : Option av_V → av_H → Prop} (hq : ∀ h', IMF n a m h' → FM g h' → ZE [] [50, 51, 52, 53] h h' → OFP x k z h h' → Q none h') : av_wp none cd_178 0 [some (.inr (.inr (.inl (some (77))))), some (.inl x), some (.inl k), some (.inl z)] [] h Q := by
  have gn := im_n I.1.1
  rw [I.2.1] at gn
  have ga := im_a I.1.1
  rw [I.2.2.1] at ga
  have gm := im_cm I.1.1
  rw [I.2.2.2] at gm
  have Z := ZE_rf (L := []) (K := [50, 51, 52, 53]) h
  refine av_wp_seq 1 (pc' := 1) (lv' := [some (.inr (.inr (.inl (some (77))))), some (.inl x), some (.inl k), some (.inl z)]) (st' := [.inr (.inr (.inl (some (77))))]) (h' := h) rfl ?_
  obtain ⟨v1, e2⟩ : ∃ v, hF h 77 50 = v := ⟨_, rfl⟩
  have g3 := im_has I.1.1
  rw [e2] at g3
  refine wq_gb (p' := 4) rfl rfl (congrArg Prod.fst (ly_k I.1.1.1 77 rfl)) rfl (e2) ?_
  refine wq_k1 (p' := 7) rfl rfl ⟨by omega, by omega⟩ (fun c4 => ?_) (fun c5 => ?_)
  · have c4 : v1 = (0) := c4
    refine av_wp_seq 2 (pc' := 18) (lv' := [some (.inr (.inr (.inl (some (77))))), some (.inl x), some (.inl k), some (.inl z)]) (st' := [.inl (1), .inr (.inr (.inl (some (77))))]) (h' := h) rfl ?_
    refine xm_pb (p' := 21) rfl rfl I F (by omega) (fun h6 I7 F8 e9 => ?_)
    have Z10 := ZE_f Z e9 rfl
    refine av_wp_seq 2 (pc' := 23) (lv' := [some (.inr (.inr (.inl (some (77))))), some (.inl x), some (.inl k), some (.inl z)]) (st' := [.inl x, .inr (.inr (.inl (some (77))))]) (h' := h6) rfl ?_
    refine xm_pf (p' := 26) rfl rfl I7 F8 (by omega) rfl (fun h11 I12 F13 e14 => ?_)
    have Z15 := ZE_f Z10 e14 rfl
    refine av_wp_seq 2 (pc' := 28) (lv' := [some (.inr (.inr (.inl (some (77))))), some (.inl x), some (.inl k), some (.inl z)]) (st' := [.inl k, .inr (.inr (.inl (some (77))))]) (h' := h11) rfl ?_
    refine xm_pf (p' := 31) rfl rfl I12 F13 (by omega) rfl (fun h16 I17 F18 e19 => ?_)
    have Z20 := ZE_f Z15 e19 rfl
    refine av_wp_seq 2 (pc' := 33) (lv' := [some (.inr (.inr (.inl (some (77))))), some (.inl x), some (.inl k), some (.inl z)]) (st' := [.inl z, .inr (.inr (.inl (some (77))))]) (h' := h16) rfl ?_
    refine xm_pf (p' := 36) rfl rfl I17 F18 (by omega) rfl (fun h21 I22 F23 e24 => ?_)
    have Z25 := ZE_f Z20 e24 rfl
    refine av_wp_ret (v := none) rfl rfl rfl ?_
    exact hq h21 I22 F23 Z25 (Or.inr ⟨by omega, (hF_eo e24 (by decide)).trans ((hF_eo e19 (by decide)).trans ((hF_eo e14 (by decide)).trans (hF_es e9))), (hF_eo e24 (by decide)).trans ((hF_eo e19 (by decide)).trans (hF_es e14)), (hF_eo e24 (by decide)).trans (hF_es e19), hF_es e24⟩)
  · have c5 : v1 ≠ (0) := c5
    have r5 := r53 (by omega)
    refine av_wp_seq 2 (pc' := 9) (lv' := [some (.inr (.inr (.inl (some (77))))), some (.inl x), some (.inl k), some (.inl z)]) (st' := [.inr (.inr (.inl (some (77)))), .inl z]) (h' := h) rfl ?_
    obtain ⟨v26, e27⟩ : ∃ v, hF h 77 53 = v := ⟨_, rfl⟩
    rw [e27] at r5
    refine wq_gi (p' := 12) rfl rfl (congrArg Prod.fst (ly_k I.1.1.1 77 rfl)) rfl (e27) ?_
    refine wq_k2 (p' := 15) rfl rfl ⟨by omega, by omega⟩ ⟨by omega, by omega⟩ (fun c28 => ?_) (fun c29 => ?_)
    · have c28 : z < v26 := c28
      refine av_wp_seq 2 (pc' := 18) (lv' := [some (.inr (.inr (.inl (some (77))))), some (.inl x), some (.inl k), some (.inl z)]) (st' := [.inl (1), .inr (.inr (.inl (some (77))))]) (h' := h) rfl ?_
      refine xm_pb (p' := 21) rfl rfl I F (by omega) (fun h30 I31 F32 e33 => ?_)
      have Z34 := ZE_f Z e33 rfl
      refine av_wp_seq 2 (pc' := 23) (lv' := [some (.inr (.inr (.inl (some (77))))), some (.inl x), some (.inl k), some (.inl z)]) (st' := [.inl x, .inr (.inr (.inl (some (77))))]) (h' := h30) rfl ?_
      refine xm_pf (p' := 26) rfl rfl I31 F32 (by omega) rfl (fun h35 I36 F37 e38 => ?_)
      have Z39 := ZE_f Z34 e38 rfl
      refine av_wp_seq 2 (pc' := 28) (lv' := [some (.inr (.inr (.inl (some (77))))), some (.inl x), some (.inl k), some (.inl z)]) (st' := [.inl k, .inr (.inr (.inl (some (77))))]) (h' := h35) rfl ?_
      refine xm_pf (p' := 31) rfl rfl I36 F37 (by omega) rfl (fun h40 I41 F42 e43 => ?_)
      have Z44 := ZE_f Z39 e43 rfl
      refine av_wp_seq 2 (pc' := 33) (lv' := [some (.inr (.inr (.inl (some (77))))), some (.inl x), some (.inl k), some (.inl z)]) (st' := [.inl z, .inr (.inr (.inl (some (77))))]) (h' := h40) rfl ?_
      refine xm_pf (p' := 36) rfl rfl I41 F42 (by omega) rfl (fun h45 I46 F47 e48 => ?_)
      have Z49 := ZE_f Z44 e48 rfl
      refine av_wp_ret (v := none) rfl rfl rfl ?_
      exact hq h45 I46 F47 Z49 (Or.inr ⟨by omega, (hF_eo e48 (by decide)).trans ((hF_eo e43 (by decide)).trans ((hF_eo e38 (by decide)).trans (hF_es e33))), (hF_eo e48 (by decide)).trans ((hF_eo e43 (by decide)).trans (hF_es e38)), (hF_eo e48 (by decide)).trans (hF_es e43), hF_es e48⟩)
    · have c29 : v26 ≤ z := c29
      refine av_wp_ret (v := none) rfl rfl rfl ?_
      exact hq h I F Z (Or.inl ⟨by omega, by omega, fun _ => rfl⟩)

set_option maxRecDepth 100000 in
set_option maxHeartbeats 4000000 in
theorem cx_180 {g h : av_H} {n a m : Int} (I : IMF n a m h) (F : FM g h) {u ro : Nat → Int} {a0 : Nat → Nat → Int} {s : Nat} (en : n = (s : Int)) (X : LR u ro a0 s (hA h)) (W : UW u s) (R : RLW ro) (H : HBd s a0) (U2 : ∀ j, u j ≤ 2000 ∨ j % 21 = 20) (U1 : ∀ j, -1 ≤ u j) (R9 : ∀ j, -2 ≤ ro j ∧ ro j ≤ 999) (FO : FOI u ro a0 s s (hA h)) {Q : Option av_V → av_H → Prop} (hq : ∀ h', IMF n a m h' → FM g h' → ZE [] [50, 51, 52, 53] h h' → BRR (brg u ro a0 s) h' → Q none h') : av_wp none cd_180 0 [some (.inr (.inr (.inl (some (77))))), none, none, none] [] h Q := by
  have gn := im_n I.1.1
  rw [I.2.1] at gn
  have ga := im_a I.1.1
  rw [I.2.2.1] at ga
  have gm := im_cm I.1.1
  rw [I.2.2.2] at gm
  have s12 : s ≤ 12 := by omega
  have Z := ZE_rf (L := []) (K := [50, 51, 52, 53]) h
  refine av_wp_seq 2 (pc' := 2) (lv' := [some (.inr (.inr (.inl (some (77))))), none, none, none]) (st' := [.inl (0), .inr (.inr (.inl (some (77))))]) (h' := h) rfl ?_
  refine xm_pb (p' := 5) rfl rfl I F (by omega) (fun h1 I2 F3 e4 => ?_)
  have Z5 := ZE_f Z e4 rfl
  refine av_wp_seq 2 (pc' := 7) (lv' := [some (.inr (.inr (.inl (some (77))))), some (.inl (0)), none, none]) (st' := []) (h' := h1) rfl ?_
  have L15 : ∀ (m14 : Nat) (k6 : Int) (a7 : Option av_V) (a8 : Option av_V) (h9 : av_H), av_lg a7 = false → av_lg a8 = false → k6 ≤ (s : Int) → (0 ≤ k6 ∧ k6 ≤ 12) → IMF n a m h9 → FM g h9 → ZE [] [50, 51, 52, 53] h h9 → BRR (yv u ro a0 s (Int.toNat k6)) h9 → (12 - k6).toNat = m14 → av_wp none cd_180 7 [some (.inr (.inr (.inl (some (77))))), some (.inl k6), a7, a8] [] h9 Q := by
    intro m14
    induction m14 using Nat.strongRecOn with
    | _ m14 I16 =>
      intro k6 a7 a8 h9 g18 g19 g20 g21 I10 F11 Z12 X13 e17
      have la7 := g18
      have la8 := g19
      refine av_wp_seq 2 (pc' := 9) (lv' := [some (.inr (.inr (.inl (some (77))))), some (.inl k6), a7, a8]) (st' := [.inr (.inr (.inl (some (77)))), .inl k6]) (h' := h9) rfl ?_
      refine wq_gi (p' := 12) rfl rfl (congrArg Prod.fst (ly_k I10.1.1.1 77 rfl)) rfl (I10.2.1) ?_
      refine wq_k2 (p' := 15) rfl rfl ⟨by omega, by omega⟩ ⟨by omega, by omega⟩ (fun c22 => ?_) (fun c23 => ?_)
      · have c22 : n ≤ k6 := c22
        refine av_wp_seq 1 (pc' := 107) (lv' := [some (.inr (.inr (.inl (some (77))))), some (.inl k6), a7, a8]) (st' := [.inr (.inr (.inl (some (77))))]) (h' := h9) rfl ?_
        refine wq_gr (p' := 110) rfl rfl (congrArg Prod.fst (ly_k I10.1.1.1 77 rfl)) rfl (ly_g I10.1.1.1 77 26 95 rfl) ?_
        refine av_wp_seq 1 (pc' := 112) (lv' := [some (.inr (.inr (.inl (some (77))))), some (.inl k6), a7, a8]) (st' := [.inl (8), .inr (.inr (.inl (some (95))))]) (h' := h9) rfl ?_
        obtain ⟨v24, e25⟩ : ∃ v, hA h9 95 (Int.toNat ((8))) = v := ⟨_, rfl⟩
        have y27 : hA h 95 (Int.toNat ((8))) = v24 := (congrFun (Z12.1 95 rfl) _).symm.trans e25
        have y28 : ro 8 = v24 := ((LR_z0 X Z12).2 8 (by omega)).symm.trans e25
        have g29 := rl_8 R
        refine wq_al (p' := 113) (n := 13) rfl rfl (ly_k I10.1.1.1 95 rfl) (by omega) (e25) ?_
        refine wq_k1 (p' := 116) rfl rfl ⟨by omega, by omega⟩ (fun c30 => ?_) (fun c31 => ?_)
        · have c30 : (0) ≤ v24 := c30
          refine av_wp_seq 2 (pc' := 119) (lv' := [some (.inr (.inr (.inl (some (77))))), some (.inl (0)), a7, a8]) (st' := []) (h' := h9) rfl ?_
          have L40 : ∀ (m39 : Nat) (k32 : Int) (a33 : Option av_V) (h34 : av_H), av_lg a33 = false → k32 ≤ (s : Int) → (0 ≤ k32 ∧ k32 ≤ 12) → IMF n a m h34 → FM g h34 → ZE [] [50, 51, 52, 53] h h34 → BRR (sv u ro a0 s (Int.toNat k32)) h34 → (12 - k32).toNat = m39 → av_wp none cd_180 119 [some (.inr (.inr (.inl (some (77))))), some (.inl k32), a33, a8] [] h34 Q := by
            intro m39
            induction m39 using Nat.strongRecOn with
            | _ m39 I41 =>
              intro k32 a33 h34 g43 g44 g45 I35 F36 Z37 X38 e42
              have la33 := g43
              refine av_wp_seq 2 (pc' := 121) (lv' := [some (.inr (.inr (.inl (some (77))))), some (.inl k32), a33, a8]) (st' := [.inr (.inr (.inl (some (77)))), .inl k32]) (h' := h34) rfl ?_
              refine wq_gi (p' := 124) rfl rfl (congrArg Prod.fst (ly_k I35.1.1.1 77 rfl)) rfl (I35.2.1) ?_
              refine wq_k2 (p' := 127) rfl rfl ⟨by omega, by omega⟩ ⟨by omega, by omega⟩ (fun c46 => ?_) (fun c47 => ?_)
              · have c46 : n ≤ k32 := c46
                refine av_wp_ret (v := none) rfl rfl rfl ?_
                have z48 : Int.toNat k32 = s := by omega
                rw [z48] at X38
                exact hq h34 I35 F36 Z37 (by unfold brg; rw [if_pos (by omega)]; exact X38)
              · have c47 : k32 < n := c47
                refine av_wp_seq 2 (pc' := 129) (lv' := [some (.inr (.inr (.inl (some (77))))), some (.inl k32), a33, a8]) (st' := [.inl k32, .inr (.inr (.inl (some (77))))]) (h' := h34) rfl ?_
                refine wq_cv (p' := 132) (av_qc (.invokevirtual 369) 168 1 0 8) 2 cd_168 [.inl k32] (77) 8 [some (.inr (.inr (.inl (some (77))))), some (.inl k32)] rfl rfl rfl pp_168 rfl rfl rfl (congrArg Prod.fst (ly_k I35.1.1.1 77 rfl)) rfl rfl rfl rfl ?_
                refine cx_168 I35 F36 en (LR_z0 X Z37) W R H (k32) (by omega) (fun v49 p50 => ?_)
                have p50b := of_b u ro (Int.toNat (k32))
                rw [← (X.1 (Int.toNat (k32)) (by omega)).2.2.2.1, ← p50] at p50b
                show av_wp _ cd_180 132 [some (.inr (.inr (.inl (some (77))))), some (.inl k32), a33, a8] [.inl v49] h34 _
                refine wq_k1 (p' := 135) rfl rfl ⟨by omega, by omega⟩ (fun c51 => ?_) (fun c52 => ?_)
                · have c51 : v49 = (0) := c51
                  refine av_wp_seq 2 (pc' := 119) (lv' := [some (.inr (.inr (.inl (some (77))))), some (.inl (k32 + (1))), a33, a8]) (st' := []) (h' := h34) rfl ?_
                  exact I41 _ (by omega) ((k32 + (1))) (a33) h34 la33 (by omega) (by omega) I35 F36 Z37 (by rw [show Int.toNat (k32 + (1)) = Int.toNat k32 + 1 by omega]; exact BRR_sn X38 (fun m => by unfold slc; intro zz; split at zz <;> omega)) rfl
                · have c52 : v49 ≠ (0) := c52
                  refine av_wp_seq 1 (pc' := 136) (lv' := [some (.inr (.inr (.inl (some (77))))), some (.inl k32), a33, a8]) (st' := [.inr (.inr (.inl (some (77))))]) (h' := h34) rfl ?_
                  refine wq_gr (p' := 139) rfl rfl (congrArg Prod.fst (ly_k I35.1.1.1 77 rfl)) rfl (ly_g I35.1.1.1 77 45 111 rfl) ?_
                  refine av_wp_seq 1 (pc' := 140) (lv' := [some (.inr (.inr (.inl (some (77))))), some (.inl k32), a33, a8]) (st' := [.inl k32, .inr (.inr (.inl (some (111))))]) (h' := h34) rfl ?_
                  obtain ⟨v53, e54⟩ : ∃ v, hA h34 111 (Int.toNat (k32)) = v := ⟨_, rfl⟩
                  have y56 : hA h 111 (Int.toNat (k32)) = v53 := (congrFun (Z37.1 111 rfl) _).symm.trans e54
                  have y57 : v53 = hw a0 (Int.toNat (k32)) 2 := LR_w (LR_z0 X Z37) (by omega) (by omega) s12 (Or.inr (Or.inr ⟨by decide, by decide, e54.symm⟩))
                  have g58 := hw_r H (k := (Int.toNat (k32))) (by omega) 2
                  rw [← y57] at g58
                  refine wq_al (p' := 141) (n := 12) rfl rfl (ly_k I35.1.1.1 111 rfl) (by omega) (e54) ?_
                  refine wq_k1 (p' := 144) rfl rfl ⟨by omega, by omega⟩ (fun c59 => ?_) (fun c60 => ?_)
                  · have c59 : (0) ≤ v53 := c59
                    refine av_wp_seq 1 (pc' := 148) (lv' := [some (.inr (.inr (.inl (some (77))))), some (.inl k32), a33, a8]) (st' := [.inr (.inr (.inl (some (77))))]) (h' := h34) rfl ?_
                    refine wq_gr (p' := 151) rfl rfl (congrArg Prod.fst (ly_k I35.1.1.1 77 rfl)) rfl (ly_g I35.1.1.1 77 45 111 rfl) ?_
                    refine av_wp_seq 1 (pc' := 152) (lv' := [some (.inr (.inr (.inl (some (77))))), some (.inl k32), a33, a8]) (st' := [.inl k32, .inr (.inr (.inl (some (111))))]) (h' := h34) rfl ?_
                    obtain ⟨v61, e62⟩ : ∃ v, hA h34 111 (Int.toNat (k32)) = v := ⟨_, rfl⟩
                    have y64 : hA h 111 (Int.toNat (k32)) = v61 := (congrFun (Z37.1 111 rfl) _).symm.trans e62
                    have y65 : v61 = hw a0 (Int.toNat (k32)) 2 := LR_w (LR_z0 X Z37) (by omega) (by omega) s12 (Or.inr (Or.inr ⟨by decide, by decide, e62.symm⟩))
                    have g66 := hw_r H (k := (Int.toNat (k32))) (by omega) 2
                    rw [← y65] at g66
                    refine wq_al (p' := 153) (n := 12) rfl rfl (ly_k I35.1.1.1 111 rfl) (by omega) (e62) ?_
                    refine av_wp_seq 1 (pc' := 154) (lv' := [some (.inr (.inr (.inl (some (77))))), some (.inl k32), a33, a8]) (st' := [.inr (.inr (.inl (some (77)))), .inl v61]) (h' := h34) rfl ?_
                    refine wq_gr (p' := 157) rfl rfl (congrArg Prod.fst (ly_k I35.1.1.1 77 rfl)) rfl (ly_g I35.1.1.1 77 26 95 rfl) ?_
                    refine av_wp_seq 1 (pc' := 159) (lv' := [some (.inr (.inr (.inl (some (77))))), some (.inl k32), a33, a8]) (st' := [.inl (8), .inr (.inr (.inl (some (95)))), .inl v61]) (h' := h34) rfl ?_
                    obtain ⟨v67, e68⟩ : ∃ v, hA h34 95 (Int.toNat ((8))) = v := ⟨_, rfl⟩
                    have y70 : hA h 95 (Int.toNat ((8))) = v67 := (congrFun (Z37.1 95 rfl) _).symm.trans e68
                    have y71 : ro 8 = v67 := ((LR_z0 X Z37).2 8 (by omega)).symm.trans e68
                    have g72 := rl_8 R
                    refine wq_al (p' := 160) (n := 13) rfl rfl (ly_k I35.1.1.1 95 rfl) (by omega) (e68) ?_
                    refine av_wp_seq 5 (pc' := 165) (lv' := [some (.inr (.inr (.inl (some (77))))), some (.inl k32), some (.inl (v61 + v67)), a8]) (st' := [.inl (v61 + v67), .inl k32, .inr (.inr (.inl (some (77))))]) (h' := h34) rfl ?_
                    refine wq_cv (p' := 168) (av_qc (.invokevirtual 403) 175 2 0 8) 3 cd_175 [.inl (v61 + v67), .inl k32] (77) 8 [some (.inr (.inr (.inl (some (77))))), some (.inl k32), some (.inl (v61 + v67))] rfl rfl rfl pp_175 rfl rfl rfl (congrArg Prod.fst (ly_k I35.1.1.1 77 rfl)) rfl rfl rfl rfl ?_
                    have t75 : hA h34 113 (Int.toNat (k32)) = o5 ro a0 (Int.toNat (k32)) := (congrFun (Z37.1 113 rfl) _).trans (FO (Int.toNat (k32)) (by omega) (by omega)).1
                    have t76 : hA h34 114 (Int.toNat (k32)) = (eav u ro a0 s (Int.toNat (k32)) s).1 := (congrFun (Z37.1 114 rfl) _).trans ((congrArg Prod.fst (FO (Int.toNat (k32)) (by omega) (by omega)).2).trans (end_eq W R H (fun k hk => (X.1 k hk).2.2.2.1) (by omega) (by omega)).1)
                    have g77 := o5_r (ro := ro) H (q := (Int.toNat (k32))) (by omega)
                    have g77b := (eav_r (u := u) (ro := ro) H U2 U1 R9 s12 (q := (Int.toNat (k32))) (by omega) s (Nat.le_refl s)).1
                    refine cx_175 I35 F36 en (LR_z0 X Z37) W R H (k32) (by omega) ((v61 + v67)) (by omega) (by rw [t75]; omega) (by rw [t76]; omega) (fun v73 p74 => ?_)
                    rw [t75, t76, opn_R (by omega) (by omega)] at p74
                    have g77c := opn_r (o5 ro a0 (Int.toNat (k32))) (eav u ro a0 s (Int.toNat (k32)) s).1 ((v61 + v67))
                    rw [← p74] at g77c
                    show av_wp _ cd_180 168 [some (.inr (.inr (.inl (some (77))))), some (.inl k32), some (.inl (v61 + v67)), a8] [.inl v73] h34 _
                    refine wq_k1 (p' := 171) rfl rfl ⟨by omega, by omega⟩ (fun c78 => ?_) (fun c79 => ?_)
                    · have c78 : v73 = (0) := c78
                      refine av_wp_seq 2 (pc' := 119) (lv' := [some (.inr (.inr (.inl (some (77))))), some (.inl (k32 + (1))), some (.inl (v61 + v67)), a8]) (st' := []) (h' := h34) rfl ?_
                      exact I41 _ (by omega) ((k32 + (1))) (some (.inl (v61 + v67))) h34 rfl (by omega) (by omega) I35 F36 Z37 (by rw [show Int.toNat (k32 + (1)) = Int.toNat k32 + 1 by omega]; exact BRR_sn X38 (fun m => by unfold slc; rw [← y65, y71]; intro zz; split at zz <;> omega)) rfl
                    · have c79 : v73 ≠ (0) := c79
                      refine av_wp_seq 3 (pc' := 174) (lv' := [some (.inr (.inr (.inl (some (77))))), some (.inl k32), some (.inl (v61 + v67)), a8]) (st' := [.inl (v61 + v67), .inl k32, .inr (.inr (.inl (some (77))))]) (h' := h34) rfl ?_
                      refine wq_cv (p' := 177) (av_qc (.invokevirtual 409) 179 2 0 8) 5 cd_179 [.inl (v61 + v67), .inl k32] (77) 8 [some (.inr (.inr (.inl (some (77))))), some (.inl k32), some (.inl (v61 + v67)), none, none] rfl rfl rfl pp_179 rfl rfl rfl (congrArg Prod.fst (ly_k I35.1.1.1 77 rfl)) rfl rfl rfl rfl ?_
                      refine cx_179 I35 F36 en (LR_z0 X Z37) W R H (k32) (by omega) ((v61 + v67)) (by omega) (fun v80 p81 => ?_)
                      have t82 : (v80 = 1 ∧ ¬ (v61 + v67) < awv u a0 (Int.toNat (k32)) s) ∨ (v80 = 0 ∧ (v61 + v67) < awv u a0 (Int.toNat (k32)) s) := by
                        rcases p81 with ⟨e1, i, i1, i2, i3⟩ | ⟨e1, z1⟩
                        · exact Or.inl ⟨e1, fun y1 => (an_i W H (by omega)).mpr y1 i i1 i2 i3⟩
                        · exact Or.inr ⟨e1, (an_i W H (by omega)).mp z1⟩
                      clear p81
                      show av_wp _ cd_180 177 [some (.inr (.inr (.inl (some (77))))), some (.inl k32), some (.inl (v61 + v67)), a8] [.inl v80] h34 _
                      refine wq_k1 (p' := 180) rfl rfl ⟨by omega, by omega⟩ (fun c83 => ?_) (fun c84 => ?_)
                      · have c83 : v80 ≠ (0) := c83
                        refine av_wp_seq 2 (pc' := 119) (lv' := [some (.inr (.inr (.inl (some (77))))), some (.inl (k32 + (1))), some (.inl (v61 + v67)), a8]) (st' := []) (h' := h34) rfl ?_
                        exact I41 _ (by omega) ((k32 + (1))) (some (.inl (v61 + v67))) h34 rfl (by omega) (by omega) I35 F36 Z37 (by rw [show Int.toNat (k32 + (1)) = Int.toNat k32 + 1 by omega]; exact BRR_sn X38 (fun m => by unfold slc; rw [← y65, y71]; intro zz; split at zz <;> omega)) rfl
                      · have c84 : v80 = (0) := c84
                        refine av_wp_seq 4 (pc' := 184) (lv' := [some (.inr (.inr (.inl (some (77))))), some (.inl k32), some (.inl (v61 + v67)), a8]) (st' := [.inl (v61 + v67), .inl k32, .inl (-1), .inr (.inr (.inl (some (77))))]) (h' := h34) rfl ?_
                        refine wq_cv (p' := 187) (av_qc (.invokevirtual 406) 178 3 0 8) 4 cd_178 [.inl (v61 + v67), .inl k32, .inl (-1)] (77) 8 [some (.inr (.inr (.inl (some (77))))), some (.inl (-1)), some (.inl k32), some (.inl (v61 + v67))] rfl rfl rfl pp_178 rfl rfl rfl (congrArg Prod.fst (ly_k I35.1.1.1 77 rfl)) rfl rfl rfl rfl ?_
                        have B91 := BRR_53 X38 (sv_r H R9 (by have := rl_8 R; omega) s12 _ (by omega))
                        refine cx_178 I35 F36 ((-1)) (by omega) (k32) (by omega) ((v61 + v67)) (by omega) B91 (fun h85 I86 F87 Z88 P89 => ?_)
                        have Z90 := ZE_f4 Z37 Z88
                        show av_wp _ cd_180 187 [some (.inr (.inr (.inl (some (77))))), some (.inl k32), some (.inl (v61 + v67)), a8] [] h85 _
                        refine av_wp_seq 2 (pc' := 119) (lv' := [some (.inr (.inr (.inl (some (77))))), some (.inl (k32 + (1))), some (.inl (v61 + v67)), a8]) (st' := []) (h' := h85) rfl ?_
                        exact I41 _ (by omega) ((k32 + (1))) (some (.inl (v61 + v67))) h85 rfl (by omega) (by omega) I86 F87 Z90 (by rw [show Int.toNat (k32 + (1)) = Int.toNat k32 + 1 by omega]; exact BRR_ss X38 P89 (by omega) y65.symm y71 rfl (by omega) (fun m hm => by unfold slc; rw [← y65, y71]; exact if_pos (by omega)) (fun m hm => by unfold slc; rw [← y65, y71]; intro zz; split at zz <;> omega)) rfl
                  · have c60 : v53 < (0) := c60
                    refine av_wp_seq 3 (pc' := 119) (lv' := [some (.inr (.inr (.inl (some (77))))), some (.inl (k32 + (1))), a33, a8]) (st' := []) (h' := h34) rfl ?_
                    exact I41 _ (by omega) ((k32 + (1))) (a33) h34 la33 (by omega) (by omega) I35 F36 Z37 (by rw [show Int.toNat (k32 + (1)) = Int.toNat k32 + 1 by omega]; exact BRR_sn X38 (fun m => by unfold slc; rw [← y57]; intro zz; split at zz <;> omega)) rfl
          exact L40 _ ((0)) (a7) h9 la7 (by omega) (by omega) I10 F11 Z12 (by rw [show Int.toNat k6 = s by omega] at X13; exact X13) rfl
        · have c31 : v24 < (0) := c31
          refine av_wp_ret (v := none) rfl rfl rfl ?_
          have z92 : Int.toNat k6 = s := by omega
          rw [z92] at X13
          exact hq h9 I10 F11 Z12 (by unfold brg; rw [if_neg (by omega)]; exact X13)
      · have c23 : k6 < n := c23
        refine av_wp_seq 1 (pc' := 16) (lv' := [some (.inr (.inr (.inl (some (77))))), some (.inl k6), a7, a8]) (st' := [.inr (.inr (.inl (some (77))))]) (h' := h9) rfl ?_
        refine wq_gr (p' := 19) rfl rfl (congrArg Prod.fst (ly_k I10.1.1.1 77 rfl)) rfl (ly_g I10.1.1.1 77 34 100 rfl) ?_
        refine av_wp_seq 1 (pc' := 20) (lv' := [some (.inr (.inr (.inl (some (77))))), some (.inl k6), a7, a8]) (st' := [.inl k6, .inr (.inr (.inl (some (100))))]) (h' := h9) rfl ?_
        obtain ⟨v93, e94⟩ : ∃ v, hA h9 100 (Int.toNat (k6)) = v := ⟨_, rfl⟩
        have g95 : -1 ≤ hA h9 100 (Int.toNat (k6)) ∧ hA h9 100 (Int.toNat (k6)) ≤ 11 := im_w I10.1.1 100 (by decide) (by decide) _
        rw [e94] at g95
        have w96 := im_wr I10.1 (Int.toNat (k6)) (by omega)
        rw [e94] at w96
        have y97 : hA h 100 (Int.toNat (k6)) = v93 := (congrFun (Z12.1 100 rfl) _).symm.trans e94
        have y98 := ((LR_z0 X Z12).1 (Int.toNat (k6)) (by omega)).1.2.2.2.1
        rw [e94] at y98
        refine wq_al (p' := 21) (n := 12) rfl rfl (ly_k I10.1.1.1 100 rfl) (by omega) (e94) ?_
        refine av_wp_seq 3 (pc' := 24) (lv' := [some (.inr (.inr (.inl (some (77))))), some (.inl k6), some (.inl v93), a8]) (st' := [.inl k6, .inr (.inr (.inl (some (77))))]) (h' := h9) rfl ?_
        refine wq_cv (p' := 27) (av_qc (.invokevirtual 393) 170 1 0 8) 2 cd_170 [.inl k6] (77) 8 [some (.inr (.inr (.inl (some (77))))), some (.inl k6)] rfl rfl rfl pp_170 rfl rfl rfl (congrArg Prod.fst (ly_k I10.1.1.1 77 rfl)) rfl rfl rfl rfl ?_
        refine cx_170 I10 F11 en (LR_z0 X Z12) W R H (k6) (by omega) (fun v100 p101 => ?_)
        have p101b := ys_b u ro (Int.toNat (k6))
        rw [← (X.1 (Int.toNat (k6)) (by omega)).2.2.2.2, ← p101] at p101b
        show av_wp _ cd_180 27 [some (.inr (.inr (.inl (some (77))))), some (.inl k6), some (.inl v93), a8] [.inl v100] h9 _
        refine wq_k1 (p' := 30) rfl rfl ⟨by omega, by omega⟩ (fun c102 => ?_) (fun c103 => ?_)
        · have c102 : v100 = (0) := c102
          refine av_wp_seq 2 (pc' := 7) (lv' := [some (.inr (.inr (.inl (some (77))))), some (.inl (k6 + (1))), some (.inl v93), a8]) (st' := []) (h' := h9) rfl ?_
          exact I16 _ (by omega) ((k6 + (1))) (some (.inl v93)) (a8) h9 rfl la8 (by omega) (by omega) I10 F11 Z12 (by rw [show Int.toNat (k6 + (1)) = Int.toNat k6 + 1 by omega]; exact BRR_yn X13 (fun m => by unfold yc; rw [← y98]; intro zz; split at zz <;> omega)) rfl
        · have c103 : v100 ≠ (0) := c103
          have s104 := ys_said (ro := ro) W (k := (Int.toNat (k6))) (by omega) (by rw [← (X.1 (Int.toNat (k6)) (by omega)).2.2.2.2, ← p101]; omega)
          rw [← y98] at s104
          refine av_wp_seq 2 (pc' := 32) (lv' := [some (.inr (.inr (.inl (some (77))))), some (.inl k6), some (.inl v93), a8]) (st' := [.inl v93, .inr (.inr (.inl (some (77))))]) (h' := h9) rfl ?_
          refine wq_cv (p' := 35) (av_qc (.invokevirtual 369) 168 1 0 8) 2 cd_168 [.inl v93] (77) 8 [some (.inr (.inr (.inl (some (77))))), some (.inl v93)] rfl rfl rfl pp_168 rfl rfl rfl (congrArg Prod.fst (ly_k I10.1.1.1 77 rfl)) rfl rfl rfl rfl ?_
          refine cx_168 I10 F11 en (LR_z0 X Z12) W R H (v93) (by omega) (fun v105 p106 => ?_)
          have p106b := of_b u ro (Int.toNat (v93))
          rw [← (X.1 (Int.toNat (v93)) (by omega)).2.2.2.1, ← p106] at p106b
          show av_wp _ cd_180 35 [some (.inr (.inr (.inl (some (77))))), some (.inl k6), some (.inl v93), a8] [.inl v105] h9 _
          refine wq_k1 (p' := 38) rfl rfl ⟨by omega, by omega⟩ (fun c107 => ?_) (fun c108 => ?_)
          · have c107 : v105 ≠ (0) := c107
            refine av_wp_seq 2 (pc' := 43) (lv' := [some (.inr (.inr (.inl (some (77))))), some (.inl k6), some (.inl v93), a8]) (st' := [.inl k6, .inr (.inr (.inl (some (77))))]) (h' := h9) rfl ?_
            refine wq_cv (p' := 46) (av_qc (.invokevirtual 396) 176 1 0 8) 2 cd_176 [.inl k6] (77) 8 [some (.inr (.inr (.inl (some (77))))), some (.inl k6)] rfl rfl rfl pp_176 rfl rfl rfl (congrArg Prod.fst (ly_k I10.1.1.1 77 rfl)) rfl rfl rfl rfl ?_
            refine cx_176 I10 F11 en (LR_z0 X Z12) W R H (k6) (by omega) (fun v109 p110 => ?_)
            have p110b := hw_r H (k := (Int.toNat (k6))) (by omega) (yw u ro (Int.toNat (k6)))
            rw [← p110] at p110b
            show av_wp _ cd_180 46 [some (.inr (.inr (.inl (some (77))))), some (.inl k6), some (.inl v93), a8] [.inl v109] h9 _
            refine av_wp_seq 2 (pc' := 48) (lv' := [some (.inr (.inr (.inl (some (77))))), some (.inl k6), some (.inl v93), some (.inl v109)]) (st' := [.inl v109]) (h' := h9) rfl ?_
            refine wq_k1 (p' := 51) rfl rfl ⟨by omega, by omega⟩ (fun c111 => ?_) (fun c112 => ?_)
            · have c111 : v109 < (0) := c111
              refine av_wp_seq 2 (pc' := 7) (lv' := [some (.inr (.inr (.inl (some (77))))), some (.inl (k6 + (1))), some (.inl v93), some (.inl v109)]) (st' := []) (h' := h9) rfl ?_
              exact I16 _ (by omega) ((k6 + (1))) (some (.inl v93)) (some (.inl v109)) h9 rfl rfl (by omega) (by omega) I10 F11 Z12 (by rw [show Int.toNat (k6 + (1)) = Int.toNat k6 + 1 by omega]; exact BRR_yn X13 (fun m => by unfold yc; rw [← y98, ← p110]; have on := opn_1 (o5 ro a0 (Int.toNat v93)) (eav u ro a0 s (Int.toNat v93) s).1 v109; intro zz; split at zz <;> omega)) rfl
            · have c112 : (0) ≤ v109 := c112
              refine av_wp_seq 1 (pc' := 52) (lv' := [some (.inr (.inr (.inl (some (77))))), some (.inl k6), some (.inl v93), some (.inl v109)]) (st' := [.inr (.inr (.inl (some (77))))]) (h' := h9) rfl ?_
              refine wq_gr (p' := 55) rfl rfl (congrArg Prod.fst (ly_k I10.1.1.1 77 rfl)) rfl (ly_g I10.1.1.1 77 44 110 rfl) ?_
              refine av_wp_seq 1 (pc' := 56) (lv' := [some (.inr (.inr (.inl (some (77))))), some (.inl k6), some (.inl v93), some (.inl v109)]) (st' := [.inl v93, .inr (.inr (.inl (some (110))))]) (h' := h9) rfl ?_
              obtain ⟨v113, e114⟩ : ∃ v, hA h9 110 (Int.toNat (v93)) = v := ⟨_, rfl⟩
              have y116 : hA h 110 (Int.toNat (v93)) = v113 := (congrFun (Z12.1 110 rfl) _).symm.trans e114
              have y117 : v113 = hw a0 (Int.toNat (v93)) 1 := LR_w (LR_z0 X Z12) (by omega) (by omega) s12 (Or.inr (Or.inl ⟨rfl, e114.symm⟩))
              have g118 := hw_r H (k := (Int.toNat (v93))) (by omega) 1
              rw [← y117] at g118
              refine wq_al (p' := 57) (n := 12) rfl rfl (ly_k I10.1.1.1 110 rfl) (by omega) (e114) ?_
              refine wq_k1 (p' := 60) rfl rfl ⟨by omega, by omega⟩ (fun c119 => ?_) (fun c120 => ?_)
              · have c119 : v113 < (0) := c119
                refine av_wp_seq 2 (pc' := 7) (lv' := [some (.inr (.inr (.inl (some (77))))), some (.inl (k6 + (1))), some (.inl v93), some (.inl v109)]) (st' := []) (h' := h9) rfl ?_
                exact I16 _ (by omega) ((k6 + (1))) (some (.inl v93)) (some (.inl v109)) h9 rfl rfl (by omega) (by omega) I10 F11 Z12 (by rw [show Int.toNat (k6 + (1)) = Int.toNat k6 + 1 by omega]; exact BRR_yn X13 (fun m => by unfold yc; rw [← y98, ← p110]; have on := opn_1 (o5 ro a0 (Int.toNat v93)) (eav u ro a0 s (Int.toNat v93) s).1 v109; intro zz; split at zz <;> omega)) rfl
              · have c120 : (0) ≤ v113 := c120
                refine av_wp_seq 1 (pc' := 61) (lv' := [some (.inr (.inr (.inl (some (77))))), some (.inl k6), some (.inl v93), some (.inl v109)]) (st' := [.inr (.inr (.inl (some (77))))]) (h' := h9) rfl ?_
                refine wq_gr (p' := 64) rfl rfl (congrArg Prod.fst (ly_k I10.1.1.1 77 rfl)) rfl (ly_g I10.1.1.1 77 44 110 rfl) ?_
                refine av_wp_seq 1 (pc' := 65) (lv' := [some (.inr (.inr (.inl (some (77))))), some (.inl k6), some (.inl v93), some (.inl v109)]) (st' := [.inl v93, .inr (.inr (.inl (some (110))))]) (h' := h9) rfl ?_
                obtain ⟨v121, e122⟩ : ∃ v, hA h9 110 (Int.toNat (v93)) = v := ⟨_, rfl⟩
                have y124 : hA h 110 (Int.toNat (v93)) = v121 := (congrFun (Z12.1 110 rfl) _).symm.trans e122
                have y125 : v121 = hw a0 (Int.toNat (v93)) 1 := LR_w (LR_z0 X Z12) (by omega) (by omega) s12 (Or.inr (Or.inl ⟨rfl, e122.symm⟩))
                have g126 := hw_r H (k := (Int.toNat (v93))) (by omega) 1
                rw [← y125] at g126
                refine wq_al (p' := 66) (n := 12) rfl rfl (ly_k I10.1.1.1 110 rfl) (by omega) (e122) ?_
                refine av_wp_seq 1 (pc' := 67) (lv' := [some (.inr (.inr (.inl (some (77))))), some (.inl k6), some (.inl v93), some (.inl v109)]) (st' := [.inr (.inr (.inl (some (77)))), .inl v121]) (h' := h9) rfl ?_
                refine wq_gr (p' := 70) rfl rfl (congrArg Prod.fst (ly_k I10.1.1.1 77 rfl)) rfl (ly_g I10.1.1.1 77 43 109 rfl) ?_
                refine av_wp_seq 1 (pc' := 71) (lv' := [some (.inr (.inr (.inl (some (77))))), some (.inl k6), some (.inl v93), some (.inl v109)]) (st' := [.inl k6, .inr (.inr (.inl (some (109)))), .inl v121]) (h' := h9) rfl ?_
                obtain ⟨v127, e128⟩ : ∃ v, hA h9 109 (Int.toNat (k6)) = v := ⟨_, rfl⟩
                have y130 : hA h 109 (Int.toNat (k6)) = v127 := (congrFun (Z12.1 109 rfl) _).symm.trans e128
                have y131 : v127 = hw a0 (Int.toNat (k6)) 0 := LR_w (LR_z0 X Z12) (by omega) (by omega) s12 (Or.inl ⟨rfl, e128.symm⟩)
                have g132 := hw_r H (k := (Int.toNat (k6))) (by omega) 0
                rw [← y131] at g132
                refine wq_al (p' := 72) (n := 12) rfl rfl (ly_k I10.1.1.1 109 rfl) (by omega) (e128) ?_
                refine wq_k2 (p' := 75) rfl rfl ⟨by omega, by omega⟩ ⟨by omega, by omega⟩ (fun c133 => ?_) (fun c134 => ?_)
                · have c133 : v127 < v121 := c133
                  refine av_wp_seq 2 (pc' := 7) (lv' := [some (.inr (.inr (.inl (some (77))))), some (.inl (k6 + (1))), some (.inl v93), some (.inl v109)]) (st' := []) (h' := h9) rfl ?_
                  exact I16 _ (by omega) ((k6 + (1))) (some (.inl v93)) (some (.inl v109)) h9 rfl rfl (by omega) (by omega) I10 F11 Z12 (by rw [show Int.toNat (k6 + (1)) = Int.toNat k6 + 1 by omega]; exact BRR_yn X13 (fun m => by unfold yc; rw [← y98, ← p110]; have on := opn_1 (o5 ro a0 (Int.toNat v93)) (eav u ro a0 s (Int.toNat v93) s).1 v109; intro zz; split at zz <;> omega)) rfl
                · have c134 : v121 ≤ v127 := c134
                  refine av_wp_seq 3 (pc' := 78) (lv' := [some (.inr (.inr (.inl (some (77))))), some (.inl k6), some (.inl v93), some (.inl v109)]) (st' := [.inl v109, .inl k6, .inr (.inr (.inl (some (77))))]) (h' := h9) rfl ?_
                  refine wq_cv (p' := 81) (av_qc (.invokevirtual 399) 177 2 0 8) 5 cd_177 [.inl v109, .inl k6] (77) 8 [some (.inr (.inr (.inl (some (77))))), some (.inl k6), some (.inl v109), none, none] rfl rfl rfl pp_177 rfl rfl rfl (congrArg Prod.fst (ly_k I10.1.1.1 77 rfl)) rfl rfl rfl rfl ?_
                  refine cx_177 I10 F11 en (LR_z0 X Z12) W R H (k6) (by omega) (v109) (by omega) (fun v135 p136 => ?_)
                  have t137 : (v135 = 1 ∧ ¬ v109 ≤ tbv u ro a0 (Int.toNat (k6)) s) ∨ (v135 = 0 ∧ v109 ≤ tbv u ro a0 (Int.toNat (k6)) s) := by
                    rcases p136 with ⟨e1, i, i1, i2, i3⟩ | ⟨e1, z1⟩
                    · exact Or.inl ⟨e1, fun y1 => (tk_i W H (by omega)).mpr y1 i i1 i2 i3⟩
                    · exact Or.inr ⟨e1, (tk_i W H (by omega)).mp z1⟩
                  clear p136
                  show av_wp _ cd_180 81 [some (.inr (.inr (.inl (some (77))))), some (.inl k6), some (.inl v93), some (.inl v109)] [.inl v135] h9 _
                  refine wq_k1 (p' := 84) rfl rfl ⟨by omega, by omega⟩ (fun c138 => ?_) (fun c139 => ?_)
                  · have c138 : v135 ≠ (0) := c138
                    refine av_wp_seq 2 (pc' := 7) (lv' := [some (.inr (.inr (.inl (some (77))))), some (.inl (k6 + (1))), some (.inl v93), some (.inl v109)]) (st' := []) (h' := h9) rfl ?_
                    exact I16 _ (by omega) ((k6 + (1))) (some (.inl v93)) (some (.inl v109)) h9 rfl rfl (by omega) (by omega) I10 F11 Z12 (by rw [show Int.toNat (k6 + (1)) = Int.toNat k6 + 1 by omega]; exact BRR_yn X13 (fun m => by unfold yc; rw [← y98, ← p110]; have on := opn_1 (o5 ro a0 (Int.toNat v93)) (eav u ro a0 s (Int.toNat v93) s).1 v109; intro zz; split at zz <;> omega)) rfl
                  · have c139 : v135 = (0) := c139
                    refine av_wp_seq 3 (pc' := 87) (lv' := [some (.inr (.inr (.inl (some (77))))), some (.inl k6), some (.inl v93), some (.inl v109)]) (st' := [.inl v109, .inl v93, .inr (.inr (.inl (some (77))))]) (h' := h9) rfl ?_
                    refine wq_cv (p' := 90) (av_qc (.invokevirtual 403) 175 2 0 8) 3 cd_175 [.inl v109, .inl v93] (77) 8 [some (.inr (.inr (.inl (some (77))))), some (.inl v93), some (.inl v109)] rfl rfl rfl pp_175 rfl rfl rfl (congrArg Prod.fst (ly_k I10.1.1.1 77 rfl)) rfl rfl rfl rfl ?_
                    have t142 : hA h9 113 (Int.toNat (v93)) = o5 ro a0 (Int.toNat (v93)) := (congrFun (Z12.1 113 rfl) _).trans (FO (Int.toNat (v93)) (by omega) (by omega)).1
                    have t143 : hA h9 114 (Int.toNat (v93)) = (eav u ro a0 s (Int.toNat (v93)) s).1 := (congrFun (Z12.1 114 rfl) _).trans ((congrArg Prod.fst (FO (Int.toNat (v93)) (by omega) (by omega)).2).trans (end_eq W R H (fun k hk => (X.1 k hk).2.2.2.1) (by omega) (by omega)).1)
                    have g144 := o5_r (ro := ro) H (q := (Int.toNat (v93))) (by omega)
                    have g144b := (eav_r (u := u) (ro := ro) H U2 U1 R9 s12 (q := (Int.toNat (v93))) (by omega) s (Nat.le_refl s)).1
                    refine cx_175 I10 F11 en (LR_z0 X Z12) W R H (v93) (by omega) (v109) (by omega) (by rw [t142]; omega) (by rw [t143]; omega) (fun v140 p141 => ?_)
                    rw [t142, t143, opn_R (by omega) (by omega)] at p141
                    have g144c := opn_r (o5 ro a0 (Int.toNat (v93))) (eav u ro a0 s (Int.toNat (v93)) s).1 (v109)
                    rw [← p141] at g144c
                    show av_wp _ cd_180 90 [some (.inr (.inr (.inl (some (77))))), some (.inl k6), some (.inl v93), some (.inl v109)] [.inl v140] h9 _
                    refine wq_k1 (p' := 93) rfl rfl ⟨by omega, by omega⟩ (fun c145 => ?_) (fun c146 => ?_)
                    · have c145 : v140 = (0) := c145
                      refine av_wp_seq 2 (pc' := 7) (lv' := [some (.inr (.inr (.inl (some (77))))), some (.inl (k6 + (1))), some (.inl v93), some (.inl v109)]) (st' := []) (h' := h9) rfl ?_
                      exact I16 _ (by omega) ((k6 + (1))) (some (.inl v93)) (some (.inl v109)) h9 rfl rfl (by omega) (by omega) I10 F11 Z12 (by rw [show Int.toNat (k6 + (1)) = Int.toNat k6 + 1 by omega]; exact BRR_yn X13 (fun m => by unfold yc; rw [← y98, ← p110]; have on := opn_1 (o5 ro a0 (Int.toNat v93)) (eav u ro a0 s (Int.toNat v93) s).1 v109; intro zz; split at zz <;> omega)) rfl
                    · have c146 : v140 ≠ (0) := c146
                      refine av_wp_seq 4 (pc' := 97) (lv' := [some (.inr (.inr (.inl (some (77))))), some (.inl k6), some (.inl v93), some (.inl v109)]) (st' := [.inl v109, .inl v93, .inl k6, .inr (.inr (.inl (some (77))))]) (h' := h9) rfl ?_
                      refine wq_cv (p' := 100) (av_qc (.invokevirtual 406) 178 3 0 8) 4 cd_178 [.inl v109, .inl v93, .inl k6] (77) 8 [some (.inr (.inr (.inl (some (77))))), some (.inl k6), some (.inl v93), some (.inl v109)] rfl rfl rfl pp_178 rfl rfl rfl (congrArg Prod.fst (ly_k I10.1.1.1 77 rfl)) rfl rfl rfl rfl ?_
                      have B153 := BRR_53 X13 (yv_r H s12 _ (by omega))
                      refine cx_178 I10 F11 (k6) (by omega) (v93) (by omega) (v109) (by omega) B153 (fun h147 I148 F149 Z150 P151 => ?_)
                      have Z152 := ZE_f4 Z12 Z150
                      show av_wp _ cd_180 100 [some (.inr (.inr (.inl (some (77))))), some (.inl k6), some (.inl v93), some (.inl v109)] [] h147 _
                      refine av_wp_seq 2 (pc' := 7) (lv' := [some (.inr (.inr (.inl (some (77))))), some (.inl (k6 + (1))), some (.inl v93), some (.inl v109)]) (st' := []) (h' := h147) rfl ?_
                      exact I16 _ (by omega) ((k6 + (1))) (some (.inl v93)) (some (.inl v109)) h147 rfl rfl (by omega) (by omega) I148 F149 Z152 (by rw [show Int.toNat (k6 + (1)) = Int.toNat k6 + 1 by omega]; exact BRR_ys X13 P151 (by omega) y98.symm p110.symm (by omega) (fun m hm => by unfold yc; rw [← y98, ← p110]; exact if_pos (by omega)) (fun m hm => by unfold yc; rw [← y98, ← p110]; intro zz; split at zz <;> omega)) rfl
          · have c108 : v105 = (0) := c108
            refine av_wp_seq 3 (pc' := 7) (lv' := [some (.inr (.inr (.inl (some (77))))), some (.inl (k6 + (1))), some (.inl v93), a8]) (st' := []) (h' := h9) rfl ?_
            exact I16 _ (by omega) ((k6 + (1))) (some (.inl v93)) (a8) h9 rfl la8 (by omega) (by omega) I10 F11 Z12 (by rw [show Int.toNat (k6 + (1)) = Int.toNat k6 + 1 by omega]; exact BRR_yn X13 (fun m => by unfold yc; rw [← y98]; intro zz; split at zz <;> omega)) rfl
  exact L15 _ ((0)) (none) (none) h1 rfl rfl (by omega) (by omega) I2 F3 Z5 (Or.inl ⟨rfl, hF_es e4⟩) rfl

