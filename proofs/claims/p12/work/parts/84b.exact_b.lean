set_option maxRecDepth 100000 in
set_option maxHeartbeats 4000000 in
theorem cx_159 {g h : av_H} {n a m : Int} (I : IMF n a m h) (F : FM g h) (l : Int) (ql : 0 ≤ l ∧ l ≤ 7) (x : Int) (rb : ∀ j : Int, 0 ≤ j → j < 13 → -2 ≤ hA g 93 (Int.toNat (14 * l + j)) ∧ hA g 93 (Int.toNat (14 * l + j)) ≤ 999) (cb : ∀ c j : Int, 0 ≤ c → c < hA g 80 0 → 0 ≤ j → j < 13 → -2 ≤ hA g 93 (Int.toNat (112 + 14 * c + j)) ∧ hA g 93 (Int.toNat (112 + 14 * c + j)) ≤ 999) {Q : Option av_V → av_H → Prop} (hq : ∀ h', IMF n a m h' → FM g h' → (∀ j, j < 13 → hA h' 95 j = lyf (hA g 93) l x (Int.toNat (hA g 80 0)) j) → ZE [95] [] h h' → Q none h') : av_wp none cd_159 0 [some (.inr (.inr (.inl (some (77))))), some (.inl l), some (.inl x), none, none] [] h Q := by
  have gn := im_n I.1.1
  rw [I.2.1] at gn
  have ga := im_a I.1.1
  rw [I.2.2.1] at ga
  have gm := im_cm I.1.1
  rw [I.2.2.2] at gm
  have z80 := congrFun (F.2.2.2.2.2.2 80 rfl) 0
  have y80 := I.1.1.2.1.2.2.2.1
  have Z := ZE_rf (L := [95]) (K := []) h
  refine av_wp_seq 2 (pc' := 2) (lv' := [some (.inr (.inr (.inl (some (77))))), some (.inl l), some (.inl x), some (.inl (0)), none]) (st' := []) (h' := h) rfl ?_
  have L8 : ∀ (m7 : Nat) (k1 : Int) (h2 : av_H), (0 ≤ k1 ∧ k1 ≤ 13) → IMF n a m h2 → FM g h2 → FI 13 av_plain (hA h 95) k1 (hA h2 95) → ZE [95] [] h h2 → (13 - k1).toNat = m7 → av_wp none cd_159 2 [some (.inr (.inr (.inl (some (77))))), some (.inl l), some (.inl x), some (.inl k1), none] [] h2 Q := by
    intro m7
    induction m7 using Nat.strongRecOn with
    | _ m7 I9 =>
      intro k1 h2 g11 I3 F4 X5 Z6 e10
      refine av_wp_seq 2 (pc' := 5) (lv' := [some (.inr (.inr (.inl (some (77))))), some (.inl l), some (.inl x), some (.inl k1), none]) (st' := [.inl (13), .inl k1]) (h' := h2) rfl ?_
      refine wq_k2 (p' := 8) rfl rfl ⟨by omega, by omega⟩ ⟨by omega, by omega⟩ (fun c12 => ?_) (fun c13 => ?_)
      · have c12 : (13) ≤ k1 := c12
        refine av_wp_seq 2 (pc' := 48) (lv' := [some (.inr (.inr (.inl (some (77))))), some (.inl l), some (.inl x), some (.inl (0)), none]) (st' := []) (h' := h2) rfl ?_
        have L21 : ∀ (m20 : Nat) (k14 : Int) (h15 : av_H), (0 ≤ k14 ∧ k14 ≤ 13) → IMF n a m h15 → FM g h15 → FI 13 (lyb (hA g 93) l) av_plain k14 (hA h15 95) → ZE [95] [] h h15 → (13 - k14).toNat = m20 → av_wp none cd_159 48 [some (.inr (.inr (.inl (some (77))))), some (.inl l), some (.inl x), some (.inl k14), none] [] h15 Q := by
          intro m20
          induction m20 using Nat.strongRecOn with
          | _ m20 I22 =>
            intro k14 h15 g24 I16 F17 X18 Z19 e23
            refine av_wp_seq 2 (pc' := 51) (lv' := [some (.inr (.inr (.inl (some (77))))), some (.inl l), some (.inl x), some (.inl k14), none]) (st' := [.inl (13), .inl k14]) (h' := h15) rfl ?_
            refine wq_k2 (p' := 54) rfl rfl ⟨by omega, by omega⟩ ⟨by omega, by omega⟩ (fun c25 => ?_) (fun c26 => ?_)
            · have c25 : (13) ≤ k14 := c25
              refine av_wp_seq 2 (pc' := 95) (lv' := [some (.inr (.inr (.inl (some (77))))), some (.inl l), some (.inl x), some (.inl (0)), none]) (st' := []) (h' := h15) rfl ?_
              have L35 : ∀ (m34 : Nat) (k27 : Int) (a28 : Option av_V) (h29 : av_H), av_lg a28 = false → k27 ≤ hA g 80 0 → (0 ≤ k27 ∧ k27 ≤ 6) → IMF n a m h29 → FM g h29 → (∀ j, j < 13 → hA h29 95 j = lyf (hA g 93) l x (Int.toNat k27) j) → ZE [95] [] h h29 → (6 - k27).toNat = m34 → av_wp none cd_159 95 [some (.inr (.inr (.inl (some (77))))), some (.inl l), some (.inl x), some (.inl k27), a28] [] h29 Q := by
                intro m34
                induction m34 using Nat.strongRecOn with
                | _ m34 I36 =>
                  intro k27 a28 h29 g38 g39 g40 I30 F31 X32 Z33 e37
                  have la28 := g38
                  refine av_wp_seq 2 (pc' := 97) (lv' := [some (.inr (.inr (.inl (some (77))))), some (.inl l), some (.inl x), some (.inl k27), a28]) (st' := [.inr (.inr (.inl (some (77)))), .inl k27]) (h' := h29) rfl ?_
                  refine wq_gr (p' := 100) rfl rfl (congrArg Prod.fst (ly_k I30.1.1.1 77 rfl)) rfl (ly_g I30.1.1.1 77 2 80 rfl) ?_
                  refine av_wp_seq 1 (pc' := 101) (lv' := [some (.inr (.inr (.inl (some (77))))), some (.inl l), some (.inl x), some (.inl k27), a28]) (st' := [.inl (0), .inr (.inr (.inl (some (80)))), .inl k27]) (h' := h29) rfl ?_
                  obtain ⟨v41, e42⟩ : ∃ v, hA h29 80 (Int.toNat ((0))) = v := ⟨_, rfl⟩
                  have g43 : 0 ≤ hA h29 80 0 ∧ hA h29 80 0 ≤ 6 := I30.1.1.2.1.2.2.2.1
                  have e42 : hA h29 80 0 = v41 := e42
                  rw [e42] at g43
                  have z44 := congrFun (F31.2.2.2.2.2.2 80 rfl) 0
                  refine wq_al (p' := 102) (n := 5) rfl rfl (ly_k I30.1.1.1 80 rfl) (by omega) (e42) ?_
                  refine wq_k2 (p' := 105) rfl rfl ⟨by omega, by omega⟩ ⟨by omega, by omega⟩ (fun c45 => ?_) (fun c46 => ?_)
                  · have c45 : v41 ≤ k27 := c45
                    refine av_wp_ret (v := none) rfl rfl rfl ?_
                    have zz : Int.toNat (k27) = Int.toNat (hA g 80 0) := by omega
                    exact hq h29 I30 F31 (by rw [← zz]; exact X32) Z33
                  · have c46 : k27 < v41 := c46
                    refine av_wp_seq 2 (pc' := 108) (lv' := [some (.inr (.inr (.inl (some (77))))), some (.inl l), some (.inl x), some (.inl k27), some (.inl (0))]) (st' := []) (h' := h29) rfl ?_
                    have L54 : ∀ (m53 : Nat) (k47 : Int) (h48 : av_H), (0 ≤ k47 ∧ k47 ≤ 13) → IMF n a m h48 → FM g h48 → FI 13 (lyf (hA g 93) l x (Int.toNat k27 + 1)) (lyf (hA g 93) l x (Int.toNat k27)) k47 (hA h48 95) → ZE [95] [] h h48 → (13 - k47).toNat = m53 → av_wp none cd_159 108 [some (.inr (.inr (.inl (some (77))))), some (.inl l), some (.inl x), some (.inl k27), some (.inl k47)] [] h48 Q := by
                      intro m53
                      induction m53 using Nat.strongRecOn with
                      | _ m53 I55 =>
                        intro k47 h48 g57 I49 F50 X51 Z52 e56
                        refine av_wp_seq 2 (pc' := 112) (lv' := [some (.inr (.inr (.inl (some (77))))), some (.inl l), some (.inl x), some (.inl k27), some (.inl k47)]) (st' := [.inl (13), .inl k47]) (h' := h48) rfl ?_
                        refine wq_k2 (p' := 115) rfl rfl ⟨by omega, by omega⟩ ⟨by omega, by omega⟩ (fun c58 => ?_) (fun c59 => ?_)
                        · have c58 : (13) ≤ k47 := c58
                          refine av_wp_seq 2 (pc' := 95) (lv' := [some (.inr (.inr (.inl (some (77))))), some (.inl l), some (.inl x), some (.inl (k27 + (1))), some (.inl k47)]) (st' := []) (h' := h48) rfl ?_
                          exact I36 _ (by omega) ((k27 + (1))) (some (.inl k47)) h48 rfl (by omega) (by omega) I49 F50 (by rw [show Int.toNat (k27 + (1)) = Int.toNat k27 + 1 by omega]; exact FI_e X51 (by omega)) Z52 rfl
                        · have c59 : k47 < (13) := c59
                          refine av_wp_seq 6 (pc' := 121) (lv' := [some (.inr (.inr (.inl (some (77))))), some (.inl l), some (.inl x), some (.inl k27), some (.inl k47)]) (st' := [.inl (1), .inl (av_and (av_shr x k27) (1))]) (h' := h48) rfl ?_
                          refine wq_w2 (p' := 124) rfl rfl (fun c60 => ?_) (fun c61 => ?_)
                          · refine av_wp_seq 2 (pc' := 108) (lv' := [some (.inr (.inr (.inl (some (77))))), some (.inl l), some (.inl x), some (.inl k27), some (.inl (k47 + (1)))]) (st' := []) (h' := h48) rfl ?_
                            exact I55 _ (by omega) ((k47 + (1))) h48 (by omega) I49 F50 (FI_n X51 (by omega) (lyf_n1 (by omega) c60)) Z52 rfl
                          · refine av_wp_seq 1 (pc' := 125) (lv' := [some (.inr (.inr (.inl (some (77))))), some (.inl l), some (.inl x), some (.inl k27), some (.inl k47)]) (st' := [.inr (.inr (.inl (some (77))))]) (h' := h48) rfl ?_
                            refine wq_gr (p' := 128) rfl rfl (congrArg Prod.fst (ly_k I49.1.1.1 77 rfl)) rfl (ly_g I49.1.1.1 77 15 93 rfl) ?_
                            refine av_wp_seq 7 (pc' := 138) (lv' := [some (.inr (.inr (.inl (some (77))))), some (.inl l), some (.inl x), some (.inl k27), some (.inl k47)]) (st' := [.inl (((112) + ((14) * k27)) + k47), .inr (.inr (.inl (some (93))))]) (h' := h48) rfl ?_
                            obtain ⟨v62, e63⟩ : ∃ v, hA h48 93 (Int.toNat ((((112) + ((14) * k27)) + k47))) = v := ⟨_, rfl⟩
                            have g65 := cb k27 k47 (by omega) (by omega) (by omega) (by omega)
                            rw [← F50.2.2.2.2.2.2 93 rfl, e63] at g65
                            have z66 := (congrFun (F50.2.2.2.2.2.2 93 rfl) _).symm.trans e63
                            refine wq_al (p' := 139) (n := 980) rfl rfl (ly_k I49.1.1.1 93 rfl) (by omega) (e63) ?_
                            refine av_wp_seq 1 (pc' := 141) (lv' := [some (.inr (.inr (.inl (some (77))))), some (.inl l), some (.inl x), some (.inl k27), some (.inl k47)]) (st' := [.inl (-2), .inl v62]) (h' := h48) rfl ?_
                            refine wq_k2 (p' := 144) rfl rfl ⟨by omega, by omega⟩ ⟨by omega, by omega⟩ (fun c67 => ?_) (fun c68 => ?_)
                            · have c67 : v62 = (-2) := c67
                              refine av_wp_seq 2 (pc' := 108) (lv' := [some (.inr (.inr (.inl (some (77))))), some (.inl l), some (.inl x), some (.inl k27), some (.inl (k47 + (1)))]) (st' := []) (h' := h48) rfl ?_
                              exact I55 _ (by omega) ((k47 + (1))) h48 (by omega) I49 F50 (FI_n X51 (by omega) (lyf_n2 (by omega) (by omega) z66 (by omega))) Z52 rfl
                            · have c68 : v62 ≠ (-2) := c68
                              refine av_wp_seq 1 (pc' := 145) (lv' := [some (.inr (.inr (.inl (some (77))))), some (.inl l), some (.inl x), some (.inl k27), some (.inl k47)]) (st' := [.inr (.inr (.inl (some (77))))]) (h' := h48) rfl ?_
                              refine wq_gr (p' := 148) rfl rfl (congrArg Prod.fst (ly_k I49.1.1.1 77 rfl)) rfl (ly_g I49.1.1.1 77 26 95 rfl) ?_
                              refine av_wp_seq 2 (pc' := 151) (lv' := [some (.inr (.inr (.inl (some (77))))), some (.inl l), some (.inl x), some (.inl k27), some (.inl k47)]) (st' := [.inr (.inr (.inl (some (77)))), .inl k47, .inr (.inr (.inl (some (95))))]) (h' := h48) rfl ?_
                              refine wq_gr (p' := 154) rfl rfl (congrArg Prod.fst (ly_k I49.1.1.1 77 rfl)) rfl (ly_g I49.1.1.1 77 15 93 rfl) ?_
                              refine av_wp_seq 7 (pc' := 164) (lv' := [some (.inr (.inr (.inl (some (77))))), some (.inl l), some (.inl x), some (.inl k27), some (.inl k47)]) (st' := [.inl (((112) + ((14) * k27)) + k47), .inr (.inr (.inl (some (93)))), .inl k47, .inr (.inr (.inl (some (95))))]) (h' := h48) rfl ?_
                              obtain ⟨v69, e70⟩ : ∃ v, hA h48 93 (Int.toNat ((((112) + ((14) * k27)) + k47))) = v := ⟨_, rfl⟩
                              have g72 := cb k27 k47 (by omega) (by omega) (by omega) (by omega)
                              rw [← F50.2.2.2.2.2.2 93 rfl, e70] at g72
                              have z73 := (congrFun (F50.2.2.2.2.2.2 93 rfl) _).symm.trans e70
                              refine wq_al (p' := 165) (n := 980) rfl rfl (ly_k I49.1.1.1 93 rfl) (by omega) (e70) ?_
                              refine xm_as (p' := 166) (l := 13) rfl rfl I49 F50 (ly_k I49.1.1.1 95 rfl) (by omega) (by omega) (fun h74 I75 F76 e77 => ?_)
                              have Z78 := ZE_a Z52 e77 rfl
                              have E79 := hA_eu e77
                              refine av_wp_seq 2 (pc' := 108) (lv' := [some (.inr (.inr (.inl (some (77))))), some (.inl l), some (.inl x), some (.inl k27), some (.inl (k47 + (1)))]) (st' := []) (h' := h74) rfl ?_
                              exact I55 _ (by omega) ((k47 + (1))) h74 (by omega) I75 F76 (by rw [E79]; exact FI_s X51 (by omega) (lyf_y (by omega) (by omega) c61 z66 (by omega) z73)) Z78 rfl
                    exact L54 _ ((0)) h29 (by omega) I30 F31 (FI_0 X32) Z33 rfl
              exact L35 _ ((0)) (none) h15 rfl (by omega) (by omega) I16 F17 (FI_e X18 (by omega)) Z19 rfl
            · have c26 : k14 < (13) := c26
              refine av_wp_seq 1 (pc' := 55) (lv' := [some (.inr (.inr (.inl (some (77))))), some (.inl l), some (.inl x), some (.inl k14), none]) (st' := [.inr (.inr (.inl (some (77))))]) (h' := h15) rfl ?_
              refine wq_gr (p' := 58) rfl rfl (congrArg Prod.fst (ly_k I16.1.1.1 77 rfl)) rfl (ly_g I16.1.1.1 77 15 93 rfl) ?_
              refine av_wp_seq 5 (pc' := 64) (lv' := [some (.inr (.inr (.inl (some (77))))), some (.inl l), some (.inl x), some (.inl k14), none]) (st' := [.inl (((14) * l) + k14), .inr (.inr (.inl (some (93))))]) (h' := h15) rfl ?_
              obtain ⟨v80, e81⟩ : ∃ v, hA h15 93 (Int.toNat ((((14) * l) + k14))) = v := ⟨_, rfl⟩
              have g83 := rb k14 (by omega) (by omega)
              rw [← F17.2.2.2.2.2.2 93 rfl, e81] at g83
              have z84 := (congrFun (F17.2.2.2.2.2.2 93 rfl) _).symm.trans e81
              refine wq_al (p' := 65) (n := 980) rfl rfl (ly_k I16.1.1.1 93 rfl) (by omega) (e81) ?_
              refine av_wp_seq 1 (pc' := 67) (lv' := [some (.inr (.inr (.inl (some (77))))), some (.inl l), some (.inl x), some (.inl k14), none]) (st' := [.inl (-2), .inl v80]) (h' := h15) rfl ?_
              refine wq_k2 (p' := 70) rfl rfl ⟨by omega, by omega⟩ ⟨by omega, by omega⟩ (fun c85 => ?_) (fun c86 => ?_)
              · have c85 : v80 = (-2) := c85
                refine av_wp_seq 2 (pc' := 48) (lv' := [some (.inr (.inr (.inl (some (77))))), some (.inl l), some (.inl x), some (.inl (k14 + (1))), none]) (st' := []) (h' := h15) rfl ?_
                exact I22 _ (by omega) ((k14 + (1))) h15 (by omega) I16 F17 (FI_n X18 (by omega) (lyb_p (by omega) z84 (by omega))) Z19 rfl
              · have c86 : v80 ≠ (-2) := c86
                refine av_wp_seq 1 (pc' := 71) (lv' := [some (.inr (.inr (.inl (some (77))))), some (.inl l), some (.inl x), some (.inl k14), none]) (st' := [.inr (.inr (.inl (some (77))))]) (h' := h15) rfl ?_
                refine wq_gr (p' := 74) rfl rfl (congrArg Prod.fst (ly_k I16.1.1.1 77 rfl)) rfl (ly_g I16.1.1.1 77 26 95 rfl) ?_
                refine av_wp_seq 2 (pc' := 76) (lv' := [some (.inr (.inr (.inl (some (77))))), some (.inl l), some (.inl x), some (.inl k14), none]) (st' := [.inr (.inr (.inl (some (77)))), .inl k14, .inr (.inr (.inl (some (95))))]) (h' := h15) rfl ?_
                refine wq_gr (p' := 79) rfl rfl (congrArg Prod.fst (ly_k I16.1.1.1 77 rfl)) rfl (ly_g I16.1.1.1 77 15 93 rfl) ?_
                refine av_wp_seq 5 (pc' := 85) (lv' := [some (.inr (.inr (.inl (some (77))))), some (.inl l), some (.inl x), some (.inl k14), none]) (st' := [.inl (((14) * l) + k14), .inr (.inr (.inl (some (93)))), .inl k14, .inr (.inr (.inl (some (95))))]) (h' := h15) rfl ?_
                obtain ⟨v87, e88⟩ : ∃ v, hA h15 93 (Int.toNat ((((14) * l) + k14))) = v := ⟨_, rfl⟩
                have g90 := rb k14 (by omega) (by omega)
                rw [← F17.2.2.2.2.2.2 93 rfl, e88] at g90
                have z91 := (congrFun (F17.2.2.2.2.2.2 93 rfl) _).symm.trans e88
                refine wq_al (p' := 86) (n := 980) rfl rfl (ly_k I16.1.1.1 93 rfl) (by omega) (e88) ?_
                refine xm_as (p' := 87) (l := 13) rfl rfl I16 F17 (ly_k I16.1.1.1 95 rfl) (by omega) (by omega) (fun h92 I93 F94 e95 => ?_)
                have Z96 := ZE_a Z19 e95 rfl
                have E97 := hA_eu e95
                refine av_wp_seq 2 (pc' := 48) (lv' := [some (.inr (.inr (.inl (some (77))))), some (.inl l), some (.inl x), some (.inl (k14 + (1))), none]) (st' := []) (h' := h92) rfl ?_
                exact I22 _ (by omega) ((k14 + (1))) h92 (by omega) I93 F94 (by rw [E97]; exact FI_s X18 (by omega) (lyb_n (by omega) z84 (by omega) z91)) Z96 rfl
        exact L21 _ ((0)) h2 (by omega) I3 F4 (FI_0 (FI_e X5 (by omega))) Z6 rfl
      · have c13 : k1 < (13) := c13
        refine av_wp_seq 1 (pc' := 9) (lv' := [some (.inr (.inr (.inl (some (77))))), some (.inl l), some (.inl x), some (.inl k1), none]) (st' := [.inr (.inr (.inl (some (77))))]) (h' := h2) rfl ?_
        refine wq_gr (p' := 12) rfl rfl (congrArg Prod.fst (ly_k I3.1.1.1 77 rfl)) rfl (ly_g I3.1.1.1 77 26 95 rfl) ?_
        refine av_wp_seq 3 (pc' := 16) (lv' := [some (.inr (.inr (.inl (some (77))))), some (.inl l), some (.inl x), some (.inl k1), none]) (st' := [.inl (6), .inl k1, .inl k1, .inr (.inr (.inl (some (95))))]) (h' := h2) rfl ?_
        refine wq_k2 (p' := 19) rfl rfl ⟨by omega, by omega⟩ ⟨by omega, by omega⟩ (fun c98 => ?_) (fun c99 => ?_)
        · have c98 : (6) ≤ k1 := c98
          refine av_wp_seq 3 (pc' := 28) (lv' := [some (.inr (.inr (.inl (some (77))))), some (.inl l), some (.inl x), some (.inl k1), none]) (st' := [.inl (8), .inl (7), .inl k1, .inl k1, .inr (.inr (.inl (some (95))))]) (h' := h2) rfl ?_
          refine wq_cs (p' := 31) (av_qc (.invokestatic 176) 127 3 2 8) 3 cd_127 [.inl k1, .inl (7), .inl (8)] [.inl (8), .inl (7), .inl k1, .inl k1, .inr (.inr (.inl (some (95))))] [some (.inl k1), some (.inl (7)), some (.inl (8))] rfl rfl rfl pp_127 (fun _ => rfl) rfl rfl ?_
          refine ct_127 (g := h) (k1) (by omega) ((7)) (by omega) ((8)) (by omega) (fun v100 p101 => ?_)
          show av_wp _ cd_159 31 [some (.inr (.inr (.inl (some (77))))), some (.inl l), some (.inl x), some (.inl k1), none] [.inl v100, .inl k1, .inr (.inr (.inl (some (95))))] h2 _
          refine wq_k1 (p' := 34) rfl rfl ⟨by omega, by omega⟩ (fun c102 => ?_) (fun c103 => ?_)
          · have c102 : v100 = (0) := c102
            refine av_wp_seq 1 (pc' := 39) (lv' := [some (.inr (.inr (.inl (some (77))))), some (.inl l), some (.inl x), some (.inl k1), none]) (st' := [.inl (0), .inl k1, .inr (.inr (.inl (some (95))))]) (h' := h2) rfl ?_
            refine xm_as (p' := 40) (l := 13) rfl rfl I3 F4 (ly_k I3.1.1.1 95 rfl) (by omega) (by omega) (fun h104 I105 F106 e107 => ?_)
            have Z108 := ZE_a Z6 e107 rfl
            have E109 := hA_eu e107
            refine av_wp_seq 2 (pc' := 2) (lv' := [some (.inr (.inr (.inl (some (77))))), some (.inl l), some (.inl x), some (.inl (k1 + (1))), none]) (st' := []) (h' := h104) rfl ?_
            exact I9 _ (by omega) ((k1 + (1))) h104 (by omega) I105 F106 (by rw [E109]; exact FI_s X5 (by omega) (by rw [plv (by omega)]; (repeat' split) <;> omega)) Z108 rfl
          · have c103 : v100 ≠ (0) := c103
            refine av_wp_seq 2 (pc' := 39) (lv' := [some (.inr (.inr (.inl (some (77))))), some (.inl l), some (.inl x), some (.inl k1), none]) (st' := [.inl (-1), .inl k1, .inr (.inr (.inl (some (95))))]) (h' := h2) rfl ?_
            refine xm_as (p' := 40) (l := 13) rfl rfl I3 F4 (ly_k I3.1.1.1 95 rfl) (by omega) (by omega) (fun h110 I111 F112 e113 => ?_)
            have Z114 := ZE_a Z6 e113 rfl
            have E115 := hA_eu e113
            refine av_wp_seq 2 (pc' := 2) (lv' := [some (.inr (.inr (.inl (some (77))))), some (.inl l), some (.inl x), some (.inl (k1 + (1))), none]) (st' := []) (h' := h110) rfl ?_
            exact I9 _ (by omega) ((k1 + (1))) h110 (by omega) I111 F112 (by rw [E115]; exact FI_s X5 (by omega) (by rw [plv (by omega)]; (repeat' split) <;> omega)) Z114 rfl
        · have c99 : k1 < (6) := c99
          refine av_wp_seq 2 (pc' := 39) (lv' := [some (.inr (.inr (.inl (some (77))))), some (.inl l), some (.inl x), some (.inl k1), none]) (st' := [.inl (1), .inl k1, .inr (.inr (.inl (some (95))))]) (h' := h2) rfl ?_
          refine xm_as (p' := 40) (l := 13) rfl rfl I3 F4 (ly_k I3.1.1.1 95 rfl) (by omega) (by omega) (fun h116 I117 F118 e119 => ?_)
          have Z120 := ZE_a Z6 e119 rfl
          have E121 := hA_eu e119
          refine av_wp_seq 2 (pc' := 2) (lv' := [some (.inr (.inr (.inl (some (77))))), some (.inl l), some (.inl x), some (.inl (k1 + (1))), none]) (st' := []) (h' := h116) rfl ?_
          exact I9 _ (by omega) ((k1 + (1))) h116 (by omega) I117 F118 (by rw [E121]; exact FI_s X5 (by omega) (by rw [plv (by omega)]; (repeat' split) <;> omega)) Z120 rfl
  exact L8 _ ((0)) h (by omega) I F (FI_0 (fun j _ => rfl)) Z rfl

set_option maxRecDepth 100000 in
set_option maxHeartbeats 4000000 in
theorem cx_160 {g h : av_H} {n a m : Int} (I : IMF n a m h) (F : FM g h) (l : Int) (ql : -2147483648 ≤ l ∧ l ≤ 2147483647) (w : Int) (qw : -2147483648 ≤ w ∧ w ≤ 2147483647) (rb : ∀ l j : Int, 0 ≤ l → l < hA h 79 0 → 0 ≤ j → j < 13 → -2 ≤ hA h 93 (Int.toNat (14 * l + j)) ∧ hA h 93 (Int.toNat (14 * l + j)) ≤ 999) (cb : ∀ c j : Int, 0 ≤ c → c < hA h 80 0 → 0 ≤ j → j < 13 → -2 ≤ hA h 93 (Int.toNat (112 + 14 * c + j)) ∧ hA h 93 (Int.toNat (112 + 14 * c + j)) ≤ 999) {Q : Option av_V → av_H → Prop} (hq0 : (l < 0 ∨ hA h 79 0 ≤ l ∨ w < 0 ∨ 13 < w) → Q (some (.inl (-2))) h) (hq1 : ∀ v : Int, 0 ≤ l → l < hA h 79 0 → w = 13 → v = hA h 93 (Int.toNat (14 * l + 13)) → Q (some (.inl v)) h) (hq2 : ∀ (v : Int) h', 0 ≤ l → l < hA h 79 0 → 0 ≤ w → w < 13 → v = lyb (hA h 93) l (Int.toNat w) → IMF n a m h' → FM g h' → Q (some (.inl v)) h') : av_wp none cd_160 0 [some (.inr (.inr (.inl (some (77))))), some (.inl l), some (.inl w)] [] h Q := by
  have gn := im_n I.1.1
  rw [I.2.1] at gn
  have ga := im_a I.1.1
  rw [I.2.2.1] at ga
  have gm := im_cm I.1.1
  rw [I.2.2.2] at gm
  have y80 := I.1.1.2.1.2.2.2.1
  refine av_wp_seq 2 (pc' := 2) (lv' := [some (.inr (.inr (.inl (some (77))))), some (.inl l), some (.inl w)]) (st' := [.inl l, .inr (.inr (.inl (some (77))))]) (h' := h) rfl ?_
  refine wq_cv (p' := 5) (av_qc (.invokevirtual 345) 150 1 0 8) 2 cd_150 [.inl l] (77) 8 [some (.inr (.inr (.inl (some (77))))), some (.inl l)] rfl rfl rfl pp_150 rfl rfl rfl (congrArg Prod.fst (ly_k I.1.1.1 77 rfl)) rfl rfl rfl rfl ?_
  refine cx_150 I.1 (l) (by omega) (fun v1 p2 => ?_)
  have g3 := I.1.1.2.1.2.2.1
  show av_wp _ cd_160 5 [some (.inr (.inr (.inl (some (77))))), some (.inl l), some (.inl w)] [.inl v1] h _
  refine wq_k1 (p' := 8) rfl rfl ⟨by omega, by omega⟩ (fun c4 => ?_) (fun c5 => ?_)
  · have c4 : v1 = (0) := c4
    refine av_wp_seq 1 (pc' := 20) (lv' := [some (.inr (.inr (.inl (some (77))))), some (.inl l), some (.inl w)]) (st' := [.inl (-2)]) (h' := h) rfl ?_
    refine av_wp_ret (v := some (.inl (-2))) rfl rfl rfl ?_
    exact hq0 (by omega)
  · have c5 : v1 ≠ (0) := c5
    refine av_wp_seq 3 (pc' := 12) (lv' := [some (.inr (.inr (.inl (some (77))))), some (.inl l), some (.inl w)]) (st' := [.inl (13), .inl (0), .inl w]) (h' := h) rfl ?_
    refine wq_cs (p' := 15) (av_qc (.invokestatic 176) 127 3 2 8) 3 cd_127 [.inl w, .inl (0), .inl (13)] [.inl (13), .inl (0), .inl w] [some (.inl w), some (.inl (0)), some (.inl (13))] rfl rfl rfl pp_127 (fun _ => rfl) rfl rfl ?_
    refine ct_127 (g := h) (w) (by omega) ((0)) (by omega) ((13)) (by omega) (fun v6 p7 => ?_)
    show av_wp _ cd_160 15 [some (.inr (.inr (.inl (some (77))))), some (.inl l), some (.inl w)] [.inl v6] h _
    refine wq_k1 (p' := 18) rfl rfl ⟨by omega, by omega⟩ (fun c8 => ?_) (fun c9 => ?_)
    · have c8 : v6 ≠ (0) := c8
      refine av_wp_seq 2 (pc' := 24) (lv' := [some (.inr (.inr (.inl (some (77))))), some (.inl l), some (.inl w)]) (st' := [.inl (13), .inl w]) (h' := h) rfl ?_
      refine wq_k2 (p' := 27) rfl rfl ⟨by omega, by omega⟩ ⟨by omega, by omega⟩ (fun c10 => ?_) (fun c11 => ?_)
      · have c10 : w ≠ (13) := c10
        refine av_wp_seq 3 (pc' := 43) (lv' := [some (.inr (.inr (.inl (some (77))))), some (.inl l), some (.inl w)]) (st' := [.inl (0), .inl l, .inr (.inr (.inl (some (77))))]) (h' := h) rfl ?_
        refine wq_cv (p' := 46) (av_qc (.invokevirtual 348) 159 2 0 8) 5 cd_159 [.inl (0), .inl l] (77) 8 [some (.inr (.inr (.inl (some (77))))), some (.inl l), some (.inl (0)), none, none] rfl rfl rfl pp_159 rfl rfl rfl (congrArg Prod.fst (ly_k I.1.1.1 77 rfl)) rfl rfl rfl rfl ?_
        refine cx_159 I (FM_rf h) (l) (by omega) ((0)) (fun j z1 z2 => rb _ j (by omega) (by omega) z1 z2) (fun c j z1 z2 z3 z4 => cb c j z1 z2 z3 z4) (fun h12 I13 F14 X15 Z16 => ?_)
        have F17 := FM_tr F F14
        show av_wp _ cd_160 46 [some (.inr (.inr (.inl (some (77))))), some (.inl l), some (.inl w)] [] h12 _
        refine av_wp_seq 1 (pc' := 47) (lv' := [some (.inr (.inr (.inl (some (77))))), some (.inl l), some (.inl w)]) (st' := [.inr (.inr (.inl (some (77))))]) (h' := h12) rfl ?_
        refine wq_gr (p' := 50) rfl rfl (congrArg Prod.fst (ly_k I13.1.1.1 77 rfl)) rfl (ly_g I13.1.1.1 77 26 95 rfl) ?_
        refine av_wp_seq 1 (pc' := 51) (lv' := [some (.inr (.inr (.inl (some (77))))), some (.inl l), some (.inl w)]) (st' := [.inl w, .inr (.inr (.inl (some (95))))]) (h' := h12) rfl ?_
        obtain ⟨v18, e19⟩ : ∃ v, hA h12 95 (Int.toNat (w)) = v := ⟨_, rfl⟩
        refine wq_al (p' := 52) (n := 13) rfl rfl (ly_k I13.1.1.1 95 rfl) (by omega) (e19) ?_
        refine av_wp_ret (v := some (.inl v18)) rfl rfl rfl ?_
        exact hq2 _ h12 (by omega) (by omega) (by omega) (by omega) (by rw [← e19, X15 _ (by omega)]; exact lyf_z _ _ (by omega)) I13 F17
      · have c11 : w = (13) := c11
        refine av_wp_seq 1 (pc' := 28) (lv' := [some (.inr (.inr (.inl (some (77))))), some (.inl l), some (.inl w)]) (st' := [.inr (.inr (.inl (some (77))))]) (h' := h) rfl ?_
        refine wq_gr (p' := 31) rfl rfl (congrArg Prod.fst (ly_k I.1.1.1 77 rfl)) rfl (ly_g I.1.1.1 77 15 93 rfl) ?_
        refine av_wp_seq 5 (pc' := 38) (lv' := [some (.inr (.inr (.inl (some (77))))), some (.inl l), some (.inl w)]) (st' := [.inl (((14) * l) + (13)), .inr (.inr (.inl (some (93))))]) (h' := h) rfl ?_
        obtain ⟨v21, e22⟩ : ∃ v, hA h 93 (Int.toNat ((((14) * l) + (13)))) = v := ⟨_, rfl⟩
        refine wq_al (p' := 39) (n := 980) rfl rfl (ly_k I.1.1.1 93 rfl) (by omega) (e22) ?_
        refine av_wp_ret (v := some (.inl v21)) rfl rfl rfl ?_
        exact hq1 _ (by omega) (by omega) (by omega) e22.symm
    · have c9 : v6 = (0) := c9
      refine av_wp_seq 1 (pc' := 20) (lv' := [some (.inr (.inr (.inl (some (77))))), some (.inl l), some (.inl w)]) (st' := [.inl (-2)]) (h' := h) rfl ?_
      refine av_wp_ret (v := some (.inl (-2))) rfl rfl rfl ?_
      exact hq0 (by omega)


