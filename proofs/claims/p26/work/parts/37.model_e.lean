set_option maxRecDepth 100000 in
set_option maxHeartbeats 4000000 in
theorem ct_184 {g h : av_H} {n a m : Int} (I : IMF n a m h) (F : FM g h)  {Q : Option av_V → av_H → Prop} (hq : ∀ (v : Int) n' a' m' h', (v = 0 ∨ v = 1) → IMF n' a' m' h' → FM g h' → Q (some (.inl v)) h') : av_wp none cd_184 0 [some (.inr (.inr (.inl (some (77))))), none] [] h Q := by
  have gn := im_n I.1.1
  rw [I.2.1] at gn
  have ga := im_a I.1.1
  rw [I.2.2.1] at ga
  have gm := im_cm I.1.1
  rw [I.2.2.2] at gm
  refine av_wp_sqF ck_184 1 (pc' := 1) (lv' := [some (.inr (.inr (.inl (some (77))))), none]) (st' := [.inr (.inr (.inl (some (77))))]) (h' := h) rfl ?_
  refine wq_cv (p' := 4) (av_qc (.invokevirtual 424) 163 0 0 8) 4 cd_163 [] (77) 8 [some (.inr (.inr (.inl (some (77))))), none, none, none] (ck_184 _ _ rfl) rfl rfl pp_163 rfl rfl rfl (congrArg Prod.fst (ly_k I.1.1.1 77 rfl)) rfl rfl rfl rfl ?_
  refine ct_163 I.1 I.2.1 F (fun a1 m2 h3 z4 I5 F6 => ?_)
  have z4_1 := z4.1
  have g7 := im_a I5.1.1
  rw [I5.2.2.1] at g7
  have g8 := im_cm I5.1.1
  rw [I5.2.2.2] at g8
  show av_wp _ cd_184 4 [some (.inr (.inr (.inl (some (77))))), none] [] h3 _
  refine av_wp_sqF ck_184 1 (pc' := 5) (lv' := [some (.inr (.inr (.inl (some (77))))), none]) (st' := [.inr (.inr (.inl (some (77))))]) (h' := h3) rfl ?_
  refine wq_cv (p' := 8) (av_qc (.invokevirtual 427) 164 0 0 8) 1 cd_164 [] (77) 8 [some (.inr (.inr (.inl (some (77)))))] (ck_184 _ _ rfl) rfl rfl pp_164 rfl rfl rfl (congrArg Prod.fst (ly_k I5.1.1.1 77 rfl)) rfl rfl rfl rfl ?_
  refine ct_164 I5 F6  (fun v9 p10 => ?_)
  show av_wp _ cd_184 8 [some (.inr (.inr (.inl (some (77))))), none] [.inl v9] h3 _
  refine wq_k1 (p' := 11) (ck_184 _ _ rfl) rfl ⟨by omega, by omega⟩ (fun c11 => ?_) (fun c12 => ?_)
  · have c11 : v9 ≠ (0) := c11
    refine av_wp_sqF ck_184 2 (pc' := 15) (lv' := [some (.inr (.inr (.inl (some (77))))), some (.inl (0))]) (st' := []) (h' := h3) rfl ?_
    have L22 : ∀ (m21 : Nat) (k13 : Int) (n17 : Int) (a18 : Int) (m19 : Int) (h14 : av_H), (0 ≤ k13 ∧ k13 ≤ 1025) → (0 ≤ n17 ∧ n17 ≤ 12) ∧ (0 ≤ a18 ∧ a18 ≤ 48) ∧ (0 ≤ m19 ∧ m19 ≤ 1025) → IMF n17 a18 m19 h14 → FM g h14 → (1025 - k13).toNat = m21 → av_wp none cd_184 15 [some (.inr (.inr (.inl (some (77))))), some (.inl k13)] [] h14 Q := by
      intro m21
      induction m21 using Nat.strongRecOn with
      | _ m21 I23 =>
        intro k13 n17 a18 m19 h14 g25 g20 I15 F16 e24
        refine av_wp_sqF ck_184 2 (pc' := 17) (lv' := [some (.inr (.inr (.inl (some (77))))), some (.inl k13)]) (st' := [.inr (.inr (.inl (some (77)))), .inl k13]) (h' := h14) rfl ?_
        refine wq_gi (p' := 20) (ck_184 _ _ rfl) rfl (congrArg Prod.fst (ly_k I15.1.1.1 77 rfl)) rfl (I15.2.2.2) ?_
        refine wq_k2 (p' := 23) (ck_184 _ _ rfl) rfl ⟨by omega, by omega⟩ ⟨by omega, by omega⟩ (fun c26 => ?_) (fun c27 => ?_)
        · have c26 : m19 ≤ k13 := c26
          refine av_wp_sqF ck_184 1 (pc' := 44) (lv' := [some (.inr (.inr (.inl (some (77))))), some (.inl k13)]) (st' := [.inl (1)]) (h' := h14) rfl ?_
          refine av_wp_ret (v := some (.inl (1))) (ck_184 _ _ rfl) rfl rfl ?_
          exact hq _ _ _ _ h14 (by omega) I15 F16
        · have c27 : k13 < m19 := c27
          refine av_wp_sqF ck_184 2 (pc' := 25) (lv' := [some (.inr (.inr (.inl (some (77))))), some (.inl k13)]) (st' := [.inl k13, .inr (.inr (.inl (some (77))))]) (h' := h14) rfl ?_
          refine wq_cv (p' := 28) (av_qc (.invokevirtual 431) 181 1 0 8) 2 cd_181 [.inl k13] (77) 8 [some (.inr (.inr (.inl (some (77))))), some (.inl k13)] (ck_184 _ _ rfl) rfl rfl pp_181 rfl rfl rfl (congrArg Prod.fst (ly_k I15.1.1.1 77 rfl)) rfl rfl rfl rfl ?_
          refine ct_181 I15 F16 (k13) (fun h30 I31 F32 => ?_)
          show av_wp _ cd_184 28 [some (.inr (.inr (.inl (some (77))))), some (.inl k13)] [] h30 _
          refine av_wp_sqF ck_184 1 (pc' := 29) (lv' := [some (.inr (.inr (.inl (some (77))))), some (.inl k13)]) (st' := [.inr (.inr (.inl (some (77))))]) (h' := h30) rfl ?_
          obtain ⟨v33, e34⟩ : ∃ v, hF h30 77 50 = v := ⟨_, rfl⟩
          have g35 := im_has I31.1.1
          rw [e34] at g35
          refine wq_gb (p' := 32) (ck_184 _ _ rfl) rfl (congrArg Prod.fst (ly_k I31.1.1.1 77 rfl)) rfl (e34) ?_
          refine wq_k1 (p' := 35) (ck_184 _ _ rfl) rfl ⟨by omega, by omega⟩ (fun c36 => ?_) (fun c37 => ?_)
          · have c36 : v33 ≠ (0) := c36
            refine av_wp_sqF ck_184 2 (pc' := 15) (lv' := [some (.inr (.inr (.inl (some (77))))), some (.inl (k13 + (1)))]) (st' := []) (h' := h30) rfl ?_
            exact I23 _ (by omega) ((k13 + (1))) (n17) (a18) (m19) h30 (by omega) (by omega) I31 F32 rfl
          · have c37 : v33 = (0) := c37
            refine av_wp_sqF ck_184 1 (pc' := 36) (lv' := [some (.inr (.inr (.inl (some (77))))), some (.inl k13)]) (st' := [.inl (0)]) (h' := h30) rfl ?_
            refine av_wp_ret (v := some (.inl (0))) (ck_184 _ _ rfl) rfl rfl ?_
            exact hq _ _ _ _ h30 (by omega) I31 F32
    exact L22 _ ((0)) (n) (a1) (m2) h3 (by omega) (by omega) I5 F6 rfl
  · have c12 : v9 = (0) := c12
    refine av_wp_sqF ck_184 1 (pc' := 12) (lv' := [some (.inr (.inr (.inl (some (77))))), none]) (st' := [.inl (0)]) (h' := h3) rfl ?_
    refine av_wp_ret (v := some (.inl (0))) (ck_184 _ _ rfl) rfl rfl ?_
    exact hq _ _ _ _ h3 (by omega) I5 F6

set_option maxRecDepth 100000 in
set_option maxHeartbeats 4000000 in
theorem ct_185 {g h : av_H} {n a m : Int} (I : IMF n a m h) (F : FM g h) (x : Int) (qx : 0 ≤ x ∧ x ≤ 15) (qg : x < hA g 78 0) {Q : Option av_V → av_H → Prop} (hq : ∀ n' a' m' h', (1 ≤ m' ∧ m' = cmB (hA g) (x).toNat) → IMF n' a' m' h' → FM g h' → Q none h') : av_wp none cd_185 0 [some (.inr (.inr (.inl (some (77))))), some (.inl x), none, none] [] h Q := by
  have gn := im_n I.1.1
  rw [I.2.1] at gn
  have ga := im_a I.1.1
  rw [I.2.2.1] at ga
  have gm := im_cm I.1.1
  rw [I.2.2.2] at gm
  refine av_wp_sqF ck_185 2 (pc' := 2) (lv' := [some (.inr (.inr (.inl (some (77))))), some (.inl x), some (.inl (0)), none]) (st' := []) (h' := h) rfl ?_
  have L10 : ∀ (m9 : Nat) (k1 : Int) (n5 : Int) (a6 : Int) (m7 : Int) (h2 : av_H), (0 ≤ k1 ∧ k1 ≤ 16) → (0 ≤ n5 ∧ n5 ≤ 12) ∧ (0 ≤ a6 ∧ a6 ≤ 48) ∧ (0 ≤ m7 ∧ m7 ≤ 1025) → IMF n5 a6 m7 h2 → FM g h2 → (16 - k1).toNat = m9 → av_wp none cd_185 2 [some (.inr (.inr (.inl (some (77))))), some (.inl x), some (.inl k1), none] [] h2 Q := by
    intro m9
    induction m9 using Nat.strongRecOn with
    | _ m9 I11 =>
      intro k1 n5 a6 m7 h2 g13 g8 I3 F4 e12
      refine av_wp_sqF ck_185 2 (pc' := 5) (lv' := [some (.inr (.inr (.inl (some (77))))), some (.inl x), some (.inl k1), none]) (st' := [.inl (16), .inl k1]) (h' := h2) rfl ?_
      refine wq_k2 (p' := 8) (ck_185 _ _ rfl) rfl ⟨by omega, by omega⟩ ⟨by omega, by omega⟩ (fun c14 => ?_) (fun c15 => ?_)
      · have c14 : (16) ≤ k1 := c14
        refine av_wp_sqF ck_185 2 (pc' := 32) (lv' := [some (.inr (.inr (.inl (some (77))))), some (.inl x), some (.inl x), none]) (st' := []) (h' := h2) rfl ?_
        have L26 : ∀ (m25 : Nat) (k16 : Int) (a17 : Option av_V) (n21 : Int) (a22 : Int) (m23 : Int) (h18 : av_H), av_lg a17 = false → (-1 ≤ k16 ∧ k16 ≤ 15) → (0 ≤ n21 ∧ n21 ≤ 12) ∧ (0 ≤ a22 ∧ a22 ≤ 48) ∧ (0 ≤ m23 ∧ m23 ≤ 1025) → IMF n21 a22 m23 h18 → FM g h18 → (k16 + 1).toNat = m25 → av_wp none cd_185 32 [some (.inr (.inr (.inl (some (77))))), some (.inl x), some (.inl k16), a17] [] h18 Q := by
          intro m25
          induction m25 using Nat.strongRecOn with
          | _ m25 I27 =>
            intro k16 a17 n21 a22 m23 h18 g29 g30 g24 I19 F20 e28
            have la17 := g29
            refine av_wp_sqF ck_185 1 (pc' := 33) (lv' := [some (.inr (.inr (.inl (some (77))))), some (.inl x), some (.inl k16), a17]) (st' := [.inl k16]) (h' := h18) rfl ?_
            refine wq_k1 (p' := 36) (ck_185 _ _ rfl) rfl ⟨by omega, by omega⟩ (fun c31 => ?_) (fun c32 => ?_)
            · have c31 : k16 < (0) := c31
              refine av_wp_sqF ck_185 2 (pc' := 102) (lv' := [some (.inr (.inr (.inl (some (77))))), some (.inl x), some (.inl (0)), a17]) (st' := []) (h' := h18) rfl ?_
              have L42 : ∀ (m41 : Nat) (k33 : Int) (n37 : Int) (a38 : Int) (m39 : Int) (h34 : av_H), k33 ≤ x → (0 ≤ k33 ∧ k33 ≤ 15) → (0 ≤ n37 ∧ n37 ≤ 12) ∧ (0 ≤ a38 ∧ a38 ≤ 48) ∧ (0 ≤ m39 ∧ m39 ≤ 1025) → IMF n37 a38 m39 h34 → FM g h34 → (15 - k33).toNat = m41 → av_wp none cd_185 102 [some (.inr (.inr (.inl (some (77))))), some (.inl x), some (.inl k33), a17] [] h34 Q := by
                intro m41
                induction m41 using Nat.strongRecOn with
                | _ m41 I43 =>
                  intro k33 n37 a38 m39 h34 g45 g46 g40 I35 F36 e44
                  refine av_wp_sqF ck_185 2 (pc' := 104) (lv' := [some (.inr (.inr (.inl (some (77))))), some (.inl x), some (.inl k33), a17]) (st' := [.inl x, .inl k33]) (h' := h34) rfl ?_
                  refine wq_k2 (p' := 107) (ck_185 _ _ rfl) rfl ⟨by omega, by omega⟩ ⟨by omega, by omega⟩ (fun c47 => ?_) (fun c48 => ?_)
                  · have c47 : x ≤ k33 := c47
                    refine av_wp_sqF ck_185 2 (pc' := 142) (lv' := [some (.inr (.inr (.inl (some (77))))), some (.inl x), some (.inl k33), a17]) (st' := [.inl x, .inr (.inr (.inl (some (77))))]) (h' := h34) rfl ?_
                    refine wq_cv (p' := 145) (av_qc (.invokevirtual 434) 162 1 0 8) 5 cd_162 [.inl x] (77) 8 [some (.inr (.inr (.inl (some (77))))), some (.inl x), none, none, none] (ck_185 _ _ rfl) rfl rfl pp_162 rfl rfl rfl (congrArg Prod.fst (ly_k I35.1.1.1 77 rfl)) rfl rfl rfl rfl ?_
                    refine ct_162 I35.1 (x) (by have z1 := congrFun (F36.2.2.2.2.2.2 78 rfl) 0; omega) (fun n49 h50 i51 e52 b55 F53 => ?_)
                    have F54 := FM_tr F36 F53
                    obtain ⟨a56, e58⟩ : ∃ x, hF h50 77 28 = x := ⟨_, rfl⟩
                    obtain ⟨m57, e59⟩ : ∃ x, hF h50 77 29 = x := ⟨_, rfl⟩
                    have I60 : IMF n49 a56 m57 h50 := ⟨i51, e52, e58, e59⟩
                    have g61 := im_n I60.1.1
                    rw [I60.2.1] at g61
                    have g62 := im_a I60.1.1
                    rw [I60.2.2.1] at g62
                    have g63 := im_cm I60.1.1
                    rw [I60.2.2.2] at g63
                    show av_wp _ cd_185 145 [some (.inr (.inr (.inl (some (77))))), some (.inl x), some (.inl k33), a17] [] h50 _
                    refine av_wp_sqF ck_185 1 (pc' := 146) (lv' := [some (.inr (.inr (.inl (some (77))))), some (.inl x), some (.inl k33), a17]) (st' := [.inr (.inr (.inl (some (77))))]) (h' := h50) rfl ?_
                    refine wq_cv (p' := 149) (av_qc (.invokevirtual 424) 163 0 0 8) 4 cd_163 [] (77) 8 [some (.inr (.inr (.inl (some (77))))), none, none, none] (ck_185 _ _ rfl) rfl rfl pp_163 rfl rfl rfl (congrArg Prod.fst (ly_k I60.1.1.1 77 rfl)) rfl rfl rfl rfl ?_
                    refine ct_163 I60.1 I60.2.1 F54 (fun a64 m65 h66 z67 I68 F69 => ?_)
                    have z67_1 := z67.1
                    have z67_2 := cm_of F36 (by omega) b55 z67.2
                    have g70 := im_a I68.1.1
                    rw [I68.2.2.1] at g70
                    have g71 := im_cm I68.1.1
                    rw [I68.2.2.2] at g71
                    show av_wp _ cd_185 149 [some (.inr (.inr (.inl (some (77))))), some (.inl x), some (.inl k33), a17] [] h66 _
                    refine av_wp_ret (v := none) (ck_185 _ _ rfl) rfl rfl ?_
                    exact hq _ _ _ h66 (by omega) I68 F69
                  · have c48 : k33 < x := c48
                    refine av_wp_sqF ck_185 1 (pc' := 108) (lv' := [some (.inr (.inr (.inl (some (77))))), some (.inl x), some (.inl k33), a17]) (st' := [.inr (.inr (.inl (some (77))))]) (h' := h34) rfl ?_
                    refine wq_gr (p' := 111) (ck_185 _ _ rfl) rfl (congrArg Prod.fst (ly_k I35.1.1.1 77 rfl)) rfl (ly_g I35.1.1.1 77 55 117 rfl) ?_
                    refine av_wp_sqF ck_185 1 (pc' := 112) (lv' := [some (.inr (.inr (.inl (some (77))))), some (.inl x), some (.inl k33), a17]) (st' := [.inl k33, .inr (.inr (.inl (some (117))))]) (h' := h34) rfl ?_
                    obtain ⟨v72, e73⟩ : ∃ v, hA h34 117 (Int.toNat (k33)) = v := ⟨_, rfl⟩
                    refine wq_bl (p' := 113) (n := 16) (ck_185 _ _ rfl) rfl ((Or.inr (ly_k I35.1.1.1 117 rfl))) (by omega) (e73) ?_
                    refine wq_c1 (p' := 116) (ck_185 _ _ rfl) rfl ?_ ?_
                    · refine av_wp_sqF ck_185 2 (pc' := 121) (lv' := [some (.inr (.inr (.inl (some (77))))), some (.inl x), some (.inl k33), a17]) (st' := [.inl k33, .inr (.inr (.inl (some (77))))]) (h' := h34) rfl ?_
                      refine wq_cv (p' := 124) (av_qc (.invokevirtual 434) 162 1 0 8) 5 cd_162 [.inl k33] (77) 8 [some (.inr (.inr (.inl (some (77))))), some (.inl k33), none, none, none] (ck_185 _ _ rfl) rfl rfl pp_162 rfl rfl rfl (congrArg Prod.fst (ly_k I35.1.1.1 77 rfl)) rfl rfl rfl rfl ?_
                      refine ct_162 I35.1 (k33) (by have z1 := congrFun (F36.2.2.2.2.2.2 78 rfl) 0; omega) (fun n75 h76 i77 e78 b81 F79 => ?_)
                      have F80 := FM_tr F36 F79
                      obtain ⟨a82, e84⟩ : ∃ x, hF h76 77 28 = x := ⟨_, rfl⟩
                      obtain ⟨m83, e85⟩ : ∃ x, hF h76 77 29 = x := ⟨_, rfl⟩
                      have I86 : IMF n75 a82 m83 h76 := ⟨i77, e78, e84, e85⟩
                      have g87 := im_n I86.1.1
                      rw [I86.2.1] at g87
                      have g88 := im_a I86.1.1
                      rw [I86.2.2.1] at g88
                      have g89 := im_cm I86.1.1
                      rw [I86.2.2.2] at g89
                      show av_wp _ cd_185 124 [some (.inr (.inr (.inl (some (77))))), some (.inl x), some (.inl k33), a17] [] h76 _
                      refine av_wp_sqF ck_185 1 (pc' := 125) (lv' := [some (.inr (.inr (.inl (some (77))))), some (.inl x), some (.inl k33), a17]) (st' := [.inr (.inr (.inl (some (77))))]) (h' := h76) rfl ?_
                      refine wq_gr (p' := 128) (ck_185 _ _ rfl) rfl (congrArg Prod.fst (ly_k I86.1.1.1 77 rfl)) rfl (ly_g I86.1.1.1 77 54 116 rfl) ?_
                      refine av_wp_sqF ck_185 2 (pc' := 130) (lv' := [some (.inr (.inr (.inl (some (77))))), some (.inl x), some (.inl k33), a17]) (st' := [.inr (.inr (.inl (some (77)))), .inl k33, .inr (.inr (.inl (some (116))))]) (h' := h76) rfl ?_
                      refine wq_cv (p' := 133) (av_qc (.invokevirtual 437) 184 0 0 8) 2 cd_184 [] (77) 8 [some (.inr (.inr (.inl (some (77))))), none] (ck_185 _ _ rfl) rfl rfl pp_184 rfl rfl rfl (congrArg Prod.fst (ly_k I86.1.1.1 77 rfl)) rfl rfl rfl rfl ?_
                      refine ct_184 I86 F80  (fun v90 n95 a96 m97 h92 p91 I93 F94 => ?_)
                      have g98 := im_n I93.1.1
                      rw [I93.2.1] at g98
                      have g99 := im_a I93.1.1
                      rw [I93.2.2.1] at g99
                      have g100 := im_cm I93.1.1
                      rw [I93.2.2.2] at g100
                      show av_wp _ cd_185 133 [some (.inr (.inr (.inl (some (77))))), some (.inl x), some (.inl k33), a17] [.inl v90, .inl k33, .inr (.inr (.inl (some (116))))] h92 _
                      refine im_zs (p' := 134) (l := 16) rfl rfl I93 F94 (ly_k I93.1.1.1 116 rfl) (by omega) (by omega) (by omega) (fun h101 I102 F103 => ?_)
                      refine av_wp_sqF ck_185 2 (pc' := 102) (lv' := [some (.inr (.inr (.inl (some (77))))), some (.inl x), some (.inl (k33 + (1))), a17]) (st' := []) (h' := h101) rfl ?_
                      exact I43 _ (by omega) ((k33 + (1))) (n95) (a96) (m97) h101 (by omega) (by omega) (by omega) I102 F103 rfl
                    · refine av_wp_sqF ck_185 3 (pc' := 102) (lv' := [some (.inr (.inr (.inl (some (77))))), some (.inl x), some (.inl (k33 + (1))), a17]) (st' := []) (h' := h34) rfl ?_
                      exact I43 _ (by omega) ((k33 + (1))) (n37) (a38) (m39) h34 (by omega) (by omega) (by omega) I35 F36 rfl
              exact L42 _ ((0)) (n21) (a22) (m23) h18 (by omega) (by omega) (by omega) I19 F20 rfl
            · have c32 : (0) ≤ k16 := c32
              refine av_wp_sqF ck_185 2 (pc' := 38) (lv' := [some (.inr (.inr (.inl (some (77))))), some (.inl x), some (.inl k16), some (.inl (0))]) (st' := []) (h' := h18) rfl ?_
              have L113 : ∀ (m112 : Nat) (k104 : Int) (n108 : Int) (a109 : Int) (m110 : Int) (h105 : av_H), (0 ≤ k104 ∧ k104 ≤ 12) → (0 ≤ n108 ∧ n108 ≤ 12) ∧ (0 ≤ a109 ∧ a109 ≤ 48) ∧ (0 ≤ m110 ∧ m110 ≤ 1025) → IMF n108 a109 m110 h105 → FM g h105 → (12 - k104).toNat = m112 → av_wp none cd_185 38 [some (.inr (.inr (.inl (some (77))))), some (.inl x), some (.inl k16), some (.inl k104)] [] h105 Q := by
                intro m112
                induction m112 using Nat.strongRecOn with
                | _ m112 I114 =>
                  intro k104 n108 a109 m110 h105 g116 g111 I106 F107 e115
                  refine av_wp_sqF ck_185 2 (pc' := 40) (lv' := [some (.inr (.inr (.inl (some (77))))), some (.inl x), some (.inl k16), some (.inl k104)]) (st' := [.inr (.inr (.inl (some (77)))), .inl k104]) (h' := h105) rfl ?_
                  refine wq_gr (p' := 43) (ck_185 _ _ rfl) rfl (congrArg Prod.fst (ly_k I106.1.1.1 77 rfl)) rfl (ly_g I106.1.1.1 77 3 81 rfl) ?_
                  refine av_wp_sqF ck_185 1 (pc' := 44) (lv' := [some (.inr (.inr (.inl (some (77))))), some (.inl x), some (.inl k16), some (.inl k104)]) (st' := [.inl k16, .inr (.inr (.inl (some (81)))), .inl k104]) (h' := h105) rfl ?_
                  obtain ⟨v117, e118⟩ : ∃ v, hA h105 81 (Int.toNat (k16)) = v := ⟨_, rfl⟩
                  have g119 := im_many I106.1.1 (Int.toNat (k16))
                  rw [e118] at g119
                  refine wq_al (p' := 45) (n := 80) (ck_185 _ _ rfl) rfl (ly_k I106.1.1.1 81 rfl) (by omega) (e118) ?_
                  refine wq_k2 (p' := 48) (ck_185 _ _ rfl) rfl ⟨by omega, by omega⟩ ⟨by omega, by omega⟩ (fun c120 => ?_) (fun c121 => ?_)
                  · have c120 : v117 ≤ k104 := c120
                    refine av_wp_sqF ck_185 2 (pc' := 32) (lv' := [some (.inr (.inr (.inl (some (77))))), some (.inl x), some (.inl (k16 + (-1))), some (.inl k104)]) (st' := []) (h' := h105) rfl ?_
                    exact I27 _ (by omega) ((k16 + (-1))) (some (.inl k104)) (n108) (a109) (m110) h105 rfl (by omega) (by omega) I106 F107 rfl
                  · have c121 : k104 < v117 := c121
                    refine av_wp_sqF ck_185 1 (pc' := 49) (lv' := [some (.inr (.inr (.inl (some (77))))), some (.inl x), some (.inl k16), some (.inl k104)]) (st' := [.inr (.inr (.inl (some (77))))]) (h' := h105) rfl ?_
                    refine wq_gr (p' := 52) (ck_185 _ _ rfl) rfl (congrArg Prod.fst (ly_k I106.1.1.1 77 rfl)) rfl (ly_g I106.1.1.1 77 55 117 rfl) ?_
                    refine av_wp_sqF ck_185 1 (pc' := 53) (lv' := [some (.inr (.inr (.inl (some (77))))), some (.inl x), some (.inl k16), some (.inl k104)]) (st' := [.inl k16, .inr (.inr (.inl (some (117))))]) (h' := h105) rfl ?_
                    obtain ⟨v122, e123⟩ : ∃ v, hA h105 117 (Int.toNat (k16)) = v := ⟨_, rfl⟩
                    refine wq_bl (p' := 54) (n := 16) (ck_185 _ _ rfl) rfl ((Or.inr (ly_k I106.1.1.1 117 rfl))) (by omega) (e123) ?_
                    refine wq_c1 (p' := 57) (ck_185 _ _ rfl) rfl ?_ ?_
                    · refine av_wp_sqF ck_185 2 (pc' := 32) (lv' := [some (.inr (.inr (.inl (some (77))))), some (.inl x), some (.inl (k16 + (-1))), some (.inl k104)]) (st' := []) (h' := h105) rfl ?_
                      exact I27 _ (by omega) ((k16 + (-1))) (some (.inl k104)) (n108) (a109) (m110) h105 rfl (by omega) (by omega) I106 F107 rfl
                    · refine av_wp_sqF ck_185 1 (pc' := 58) (lv' := [some (.inr (.inr (.inl (some (77))))), some (.inl x), some (.inl k16), some (.inl k104)]) (st' := [.inr (.inr (.inl (some (77))))]) (h' := h105) rfl ?_
                      refine wq_gr (p' := 61) (ck_185 _ _ rfl) rfl (congrArg Prod.fst (ly_k I106.1.1.1 77 rfl)) rfl (ly_g I106.1.1.1 77 10 88 rfl) ?_
                      refine av_wp_sqF ck_185 5 (pc' := 67) (lv' := [some (.inr (.inr (.inl (some (77))))), some (.inl x), some (.inl k16), some (.inl k104)]) (st' := [.inl (((12) * k16) + k104), .inr (.inr (.inl (some (88))))]) (h' := h105) rfl ?_
                      obtain ⟨v125, e126⟩ : ∃ v, hA h105 88 (Int.toNat ((((12) * k16) + k104))) = v := ⟨_, rfl⟩
                      have g127 : -1 ≤ hA h105 88 (Int.toNat ((((12) * k16) + k104))) ∧ hA h105 88 (Int.toNat ((((12) * k16) + k104))) ≤ 15 := im_m I106.1.1 88 (by decide) (by decide) _
                      rw [e126] at g127
                      refine wq_al (p' := 68) (n := 960) (ck_185 _ _ rfl) rfl (ly_k I106.1.1.1 88 rfl) (by omega) (e126) ?_
                      refine wq_k1 (p' := 71) (ck_185 _ _ rfl) rfl ⟨by omega, by omega⟩ (fun c128 => ?_) (fun c129 => ?_)
                      · have c128 : v125 < (0) := c128
                        refine av_wp_sqF ck_185 2 (pc' := 38) (lv' := [some (.inr (.inr (.inl (some (77))))), some (.inl x), some (.inl k16), some (.inl (k104 + (1)))]) (st' := []) (h' := h105) rfl ?_
                        exact I114 _ (by omega) ((k104 + (1))) (n108) (a109) (m110) h105 (by omega) (by omega) I106 F107 rfl
                      · have c129 : (0) ≤ v125 := c129
                        refine av_wp_sqF ck_185 1 (pc' := 72) (lv' := [some (.inr (.inr (.inl (some (77))))), some (.inl x), some (.inl k16), some (.inl k104)]) (st' := [.inr (.inr (.inl (some (77))))]) (h' := h105) rfl ?_
                        refine wq_gr (p' := 75) (ck_185 _ _ rfl) rfl (congrArg Prod.fst (ly_k I106.1.1.1 77 rfl)) rfl (ly_g I106.1.1.1 77 55 117 rfl) ?_
                        refine av_wp_sqF ck_185 1 (pc' := 76) (lv' := [some (.inr (.inr (.inl (some (77))))), some (.inl x), some (.inl k16), some (.inl k104)]) (st' := [.inr (.inr (.inl (some (77)))), .inr (.inr (.inl (some (117))))]) (h' := h105) rfl ?_
                        refine wq_gr (p' := 79) (ck_185 _ _ rfl) rfl (congrArg Prod.fst (ly_k I106.1.1.1 77 rfl)) rfl (ly_g I106.1.1.1 77 10 88 rfl) ?_
                        refine av_wp_sqF ck_185 5 (pc' := 85) (lv' := [some (.inr (.inr (.inl (some (77))))), some (.inl x), some (.inl k16), some (.inl k104)]) (st' := [.inl (((12) * k16) + k104), .inr (.inr (.inl (some (88)))), .inr (.inr (.inl (some (117))))]) (h' := h105) rfl ?_
                        obtain ⟨v130, e131⟩ : ∃ v, hA h105 88 (Int.toNat ((((12) * k16) + k104))) = v := ⟨_, rfl⟩
                        have g132 : -1 ≤ hA h105 88 (Int.toNat ((((12) * k16) + k104))) ∧ hA h105 88 (Int.toNat ((((12) * k16) + k104))) ≤ 15 := im_m I106.1.1 88 (by decide) (by decide) _
                        rw [e131] at g132
                        refine wq_al (p' := 86) (n := 960) (ck_185 _ _ rfl) rfl (ly_k I106.1.1.1 88 rfl) (by omega) (e131) ?_
                        refine av_wp_sqF ck_185 1 (pc' := 87) (lv' := [some (.inr (.inr (.inl (some (77))))), some (.inl x), some (.inl k16), some (.inl k104)]) (st' := [.inl (1), .inl v130, .inr (.inr (.inl (some (117))))]) (h' := h105) rfl ?_
                        refine im_zs (p' := 88) (l := 16) rfl rfl I106 F107 (ly_k I106.1.1.1 117 rfl) (by omega) (by omega) (by omega) (fun h133 I134 F135 => ?_)
                        refine av_wp_sqF ck_185 2 (pc' := 38) (lv' := [some (.inr (.inr (.inl (some (77))))), some (.inl x), some (.inl k16), some (.inl (k104 + (1)))]) (st' := []) (h' := h133) rfl ?_
                        exact I114 _ (by omega) ((k104 + (1))) (n108) (a109) (m110) h133 (by omega) (by omega) I134 F135 rfl
              exact L113 _ ((0)) (n21) (a22) (m23) h18 (by omega) (by omega) I19 F20 rfl
        exact L26 _ (x) (none) (n5) (a6) (m7) h2 rfl (by omega) (by omega) I3 F4 rfl
      · have c15 : k1 < (16) := c15
        refine av_wp_sqF ck_185 1 (pc' := 9) (lv' := [some (.inr (.inr (.inl (some (77))))), some (.inl x), some (.inl k1), none]) (st' := [.inr (.inr (.inl (some (77))))]) (h' := h2) rfl ?_
        refine wq_gr (p' := 12) (ck_185 _ _ rfl) rfl (congrArg Prod.fst (ly_k I3.1.1.1 77 rfl)) rfl (ly_g I3.1.1.1 77 55 117 rfl) ?_
        refine av_wp_sqF ck_185 3 (pc' := 15) (lv' := [some (.inr (.inr (.inl (some (77))))), some (.inl x), some (.inl k1), none]) (st' := [.inl x, .inl k1, .inl k1, .inr (.inr (.inl (some (117))))]) (h' := h2) rfl ?_
        refine wq_k2 (p' := 18) (ck_185 _ _ rfl) rfl ⟨by omega, by omega⟩ ⟨by omega, by omega⟩ (fun c136 => ?_) (fun c137 => ?_)
        · have c136 : k1 ≠ x := c136
          refine av_wp_sqF ck_185 1 (pc' := 23) (lv' := [some (.inr (.inr (.inl (some (77))))), some (.inl x), some (.inl k1), none]) (st' := [.inl (0), .inl k1, .inr (.inr (.inl (some (117))))]) (h' := h2) rfl ?_
          refine im_zs (p' := 24) (l := 16) rfl rfl I3 F4 (ly_k I3.1.1.1 117 rfl) (by omega) (by omega) (by omega) (fun h138 I139 F140 => ?_)
          refine av_wp_sqF ck_185 2 (pc' := 2) (lv' := [some (.inr (.inr (.inl (some (77))))), some (.inl x), some (.inl (k1 + (1))), none]) (st' := []) (h' := h138) rfl ?_
          exact I11 _ (by omega) ((k1 + (1))) (n5) (a6) (m7) h138 (by omega) (by omega) I139 F140 rfl
        · have c137 : k1 = x := c137
          refine av_wp_sqF ck_185 2 (pc' := 23) (lv' := [some (.inr (.inr (.inl (some (77))))), some (.inl x), some (.inl k1), none]) (st' := [.inl (1), .inl k1, .inr (.inr (.inl (some (117))))]) (h' := h2) rfl ?_
          refine im_zs (p' := 24) (l := 16) rfl rfl I3 F4 (ly_k I3.1.1.1 117 rfl) (by omega) (by omega) (by omega) (fun h141 I142 F143 => ?_)
          refine av_wp_sqF ck_185 2 (pc' := 2) (lv' := [some (.inr (.inr (.inl (some (77))))), some (.inl x), some (.inl (k1 + (1))), none]) (st' := []) (h' := h141) rfl ?_
          exact I11 _ (by omega) ((k1 + (1))) (n5) (a6) (m7) h141 (by omega) (by omega) I142 F143 rfl
  exact L10 _ ((0)) (n) (a) (m) h (by omega) (by omega) I F rfl

set_option maxRecDepth 100000 in
set_option maxHeartbeats 4000000 in
theorem ct_186 {g h : av_H} {n a m : Int} (I : IMF n a m h) (F : FM g h) (x : Int) (qx : -2147483648 ≤ x ∧ x ≤ 2147483647) (l : Int) (ql : -2147483648 ≤ l ∧ l ≤ 2147483647) (y : Int) (qy : -2147483648 ≤ y ∧ y ≤ 2147483647) {Q : Option av_V → av_H → Prop} (hq0 : ∀ n' a' m' h', IMF n' a' m' h' → FM g h' → Q (some (.inl 0)) h') (hq1 : ∀ n' a' m' h', (1 ≤ m' ∧ m' ≤ 1024 ∧ m' = cmB (hA g) (x).toNat ∧ 0 ≤ x ∧ x ≤ 15 ∧ x < hA g 78 0 ∧ 0 ≤ l ∧ l ≤ 7 ∧ 0 ≤ y ∧ y < m') → IMF n' a' m' h' → FM g h' → Q (some (.inl 1)) h') : av_wp none cd_186 0 [some (.inr (.inr (.inl (some (77))))), some (.inl x), some (.inl l), some (.inl y)] [] h Q := by
  have gn := im_n I.1.1
  rw [I.2.1] at gn
  have ga := im_a I.1.1
  rw [I.2.2.1] at ga
  have gm := im_cm I.1.1
  rw [I.2.2.2] at gm
  have z78 := congrFun (F.2.2.2.2.2.2 78 rfl) 0
  refine av_wp_sqF ck_186 2 (pc' := 2) (lv' := [some (.inr (.inr (.inl (some (77))))), some (.inl x), some (.inl l), some (.inl y)]) (st' := [.inl x, .inr (.inr (.inl (some (77))))]) (h' := h) rfl ?_
  refine wq_cv (p' := 5) (av_qc (.invokevirtual 299) 149 1 0 8) 2 cd_149 [.inl x] (77) 8 [some (.inr (.inr (.inl (some (77))))), some (.inl x)] (ck_186 _ _ rfl) rfl rfl pp_149 rfl rfl rfl (congrArg Prod.fst (ly_k I.1.1.1 77 rfl)) rfl rfl rfl rfl ?_
  refine ct_149 I.1 F (x) (by omega) (fun v1 p2 => ?_)
  show av_wp _ cd_186 5 [some (.inr (.inr (.inl (some (77))))), some (.inl x), some (.inl l), some (.inl y)] [.inl v1] h _
  refine wq_k1 (p' := 8) (ck_186 _ _ rfl) rfl ⟨by omega, by omega⟩ (fun c3 => ?_) (fun c4 => ?_)
  · have c3 : v1 = (0) := c3
    refine av_wp_sqF ck_186 1 (pc' := 21) (lv' := [some (.inr (.inr (.inl (some (77))))), some (.inl x), some (.inl l), some (.inl y)]) (st' := [.inl (0)]) (h' := h) rfl ?_
    refine av_wp_ret (v := some (.inl (0))) (ck_186 _ _ rfl) rfl rfl ?_
    exact hq0 _ _ _ h I F
  · have c4 : v1 ≠ (0) := c4
    refine av_wp_sqF ck_186 2 (pc' := 10) (lv' := [some (.inr (.inr (.inl (some (77))))), some (.inl x), some (.inl l), some (.inl y)]) (st' := [.inl l, .inr (.inr (.inl (some (77))))]) (h' := h) rfl ?_
    refine wq_cv (p' := 13) (av_qc (.invokevirtual 345) 150 1 0 8) 2 cd_150 [.inl l] (77) 8 [some (.inr (.inr (.inl (some (77))))), some (.inl l)] (ck_186 _ _ rfl) rfl rfl pp_150 rfl rfl rfl (congrArg Prod.fst (ly_k I.1.1.1 77 rfl)) rfl rfl rfl rfl ?_
    refine ct_150 I.1 F (l) (by omega) (fun v5 p6 => ?_)
    show av_wp _ cd_186 13 [some (.inr (.inr (.inl (some (77))))), some (.inl x), some (.inl l), some (.inl y)] [.inl v5] h _
    refine wq_k1 (p' := 16) (ck_186 _ _ rfl) rfl ⟨by omega, by omega⟩ (fun c7 => ?_) (fun c8 => ?_)
    · have c7 : v5 = (0) := c7
      refine av_wp_sqF ck_186 1 (pc' := 21) (lv' := [some (.inr (.inr (.inl (some (77))))), some (.inl x), some (.inl l), some (.inl y)]) (st' := [.inl (0)]) (h' := h) rfl ?_
      refine av_wp_ret (v := some (.inl (0))) (ck_186 _ _ rfl) rfl rfl ?_
      exact hq0 _ _ _ h I F
    · have c8 : v5 ≠ (0) := c8
      refine av_wp_sqF ck_186 1 (pc' := 17) (lv' := [some (.inr (.inr (.inl (some (77))))), some (.inl x), some (.inl l), some (.inl y)]) (st' := [.inl y]) (h' := h) rfl ?_
      refine wq_k1 (p' := 20) (ck_186 _ _ rfl) rfl ⟨by omega, by omega⟩ (fun c9 => ?_) (fun c10 => ?_)
      · have c9 : (0) ≤ y := c9
        refine av_wp_sqF ck_186 3 (pc' := 25) (lv' := [some (.inr (.inr (.inl (some (77))))), some (.inl x), some (.inl l), some (.inl y)]) (st' := [.inl (0), .inl l, .inr (.inr (.inl (some (77))))]) (h' := h) rfl ?_
        refine wq_cv (p' := 28) (av_qc (.invokevirtual 348) 159 2 0 8) 5 cd_159 [.inl (0), .inl l] (77) 8 [some (.inr (.inr (.inl (some (77))))), some (.inl l), some (.inl (0)), none, none] (ck_186 _ _ rfl) rfl rfl pp_159 rfl rfl rfl (congrArg Prod.fst (ly_k I.1.1.1 77 rfl)) rfl rfl rfl rfl ?_
        refine ct_159 I F (l) (by omega) ((0)) (fun h13 I14 F15 => ?_)
        show av_wp _ cd_186 28 [some (.inr (.inr (.inl (some (77))))), some (.inl x), some (.inl l), some (.inl y)] [] h13 _
        refine av_wp_sqF ck_186 2 (pc' := 30) (lv' := [some (.inr (.inr (.inl (some (77))))), some (.inl x), some (.inl l), some (.inl y)]) (st' := [.inl x, .inr (.inr (.inl (some (77))))]) (h' := h13) rfl ?_
        refine wq_cv (p' := 33) (av_qc (.invokevirtual 440) 185 1 0 8) 4 cd_185 [.inl x] (77) 8 [some (.inr (.inr (.inl (some (77))))), some (.inl x), none, none] (ck_186 _ _ rfl) rfl rfl pp_185 rfl rfl rfl (congrArg Prod.fst (ly_k I14.1.1.1 77 rfl)) rfl rfl rfl rfl ?_
        refine ct_185 I14 F15 (x) (by omega) (by have z1 := congrFun (F.2.2.2.2.2.2 78 rfl) 0; omega) (fun n21 a22 m23 h18 p17 I19 F20 => ?_)
        have g24 := im_n I19.1.1
        rw [I19.2.1] at g24
        have g25 := im_a I19.1.1
        rw [I19.2.2.1] at g25
        have g26 := im_cm I19.1.1
        rw [I19.2.2.2] at g26
        show av_wp _ cd_186 33 [some (.inr (.inr (.inl (some (77))))), some (.inl x), some (.inl l), some (.inl y)] [] h18 _
        refine av_wp_sqF ck_186 1 (pc' := 34) (lv' := [some (.inr (.inr (.inl (some (77))))), some (.inl x), some (.inl l), some (.inl y)]) (st' := [.inr (.inr (.inl (some (77))))]) (h' := h18) rfl ?_
        refine wq_cv (p' := 37) (av_qc (.invokevirtual 427) 164 0 0 8) 1 cd_164 [] (77) 8 [some (.inr (.inr (.inl (some (77)))))] (ck_186 _ _ rfl) rfl rfl pp_164 rfl rfl rfl (congrArg Prod.fst (ly_k I19.1.1.1 77 rfl)) rfl rfl rfl rfl ?_
        refine ct_164 I19 F20  (fun v27 p28 => ?_)
        show av_wp _ cd_186 37 [some (.inr (.inr (.inl (some (77))))), some (.inl x), some (.inl l), some (.inl y)] [.inl v27] h18 _
        refine wq_k1 (p' := 40) (ck_186 _ _ rfl) rfl ⟨by omega, by omega⟩ (fun c29 => ?_) (fun c30 => ?_)
        · have c29 : v27 = (0) := c29
          refine av_wp_sqF ck_186 1 (pc' := 49) (lv' := [some (.inr (.inr (.inl (some (77))))), some (.inl x), some (.inl l), some (.inl y)]) (st' := [.inl (0)]) (h' := h18) rfl ?_
          refine av_wp_ret (v := some (.inl (0))) (ck_186 _ _ rfl) rfl rfl ?_
          exact hq0 _ _ _ h18 I19 F20
        · have c30 : v27 ≠ (0) := c30
          refine av_wp_sqF ck_186 2 (pc' := 42) (lv' := [some (.inr (.inr (.inl (some (77))))), some (.inl x), some (.inl l), some (.inl y)]) (st' := [.inr (.inr (.inl (some (77)))), .inl y]) (h' := h18) rfl ?_
          refine wq_gi (p' := 45) (ck_186 _ _ rfl) rfl (congrArg Prod.fst (ly_k I19.1.1.1 77 rfl)) rfl (I19.2.2.2) ?_
          refine wq_k2 (p' := 48) (ck_186 _ _ rfl) rfl ⟨by omega, by omega⟩ ⟨by omega, by omega⟩ (fun c31 => ?_) (fun c32 => ?_)
          · have c31 : y < m23 := c31
            refine av_wp_sqF ck_186 2 (pc' := 52) (lv' := [some (.inr (.inr (.inl (some (77))))), some (.inl x), some (.inl l), some (.inl y)]) (st' := [.inl y, .inr (.inr (.inl (some (77))))]) (h' := h18) rfl ?_
            refine wq_cv (p' := 55) (av_qc (.invokevirtual 431) 181 1 0 8) 2 cd_181 [.inl y] (77) 8 [some (.inr (.inr (.inl (some (77))))), some (.inl y)] (ck_186 _ _ rfl) rfl rfl pp_181 rfl rfl rfl (congrArg Prod.fst (ly_k I19.1.1.1 77 rfl)) rfl rfl rfl rfl ?_
            refine ct_181 I19 F20 (y) (fun h35 I36 F37 => ?_)
            show av_wp _ cd_186 55 [some (.inr (.inr (.inl (some (77))))), some (.inl x), some (.inl l), some (.inl y)] [] h35 _
            refine av_wp_sqF ck_186 1 (pc' := 56) (lv' := [some (.inr (.inr (.inl (some (77))))), some (.inl x), some (.inl l), some (.inl y)]) (st' := [.inl (1)]) (h' := h35) rfl ?_
            refine av_wp_ret (v := some (.inl (1))) (ck_186 _ _ rfl) rfl rfl ?_
            exact hq1 _ _ _ h35 (by omega) I36 F37
          · have c32 : m23 ≤ y := c32
            refine av_wp_sqF ck_186 1 (pc' := 49) (lv' := [some (.inr (.inr (.inl (some (77))))), some (.inl x), some (.inl l), some (.inl y)]) (st' := [.inl (0)]) (h' := h18) rfl ?_
            refine av_wp_ret (v := some (.inl (0))) (ck_186 _ _ rfl) rfl rfl ?_
            exact hq0 _ _ _ h18 I19 F20
      · have c10 : y < (0) := c10
        refine av_wp_sqF ck_186 1 (pc' := 21) (lv' := [some (.inr (.inr (.inl (some (77))))), some (.inl x), some (.inl l), some (.inl y)]) (st' := [.inl (0)]) (h' := h) rfl ?_
        refine av_wp_ret (v := some (.inl (0))) (ck_186 _ _ rfl) rfl rfl ?_
        exact hq0 _ _ _ h I F

set_option maxRecDepth 100000 in
set_option maxHeartbeats 4000000 in
theorem ct_188 {g h : av_H} {n a m : Int} (I : IMF n a m h) (F : FM g h) (x : Int) (qx : 0 ≤ x ∧ x ≤ 15) (qg : x < hA g 78 0) {Q : Option av_V → av_H → Prop} (hq : ∀ n' a' m' h', (1 ≤ m' ∧ m' = cmB (hA g) (x).toNat) → IMF n' a' m' h' → FM g h' → Q none h') : av_wp none cd_188 0 [some (.inr (.inr (.inl (some (77))))), some (.inl x), none] [] h Q := by
  have gn := im_n I.1.1
  rw [I.2.1] at gn
  have ga := im_a I.1.1
  rw [I.2.2.1] at ga
  have gm := im_cm I.1.1
  rw [I.2.2.2] at gm
  refine av_wp_sqF ck_188 2 (pc' := 2) (lv' := [some (.inr (.inr (.inl (some (77))))), some (.inl x), some (.inl (0))]) (st' := []) (h' := h) rfl ?_
  have L10 : ∀ (m9 : Nat) (k1 : Int) (n5 : Int) (a6 : Int) (m7 : Int) (h2 : av_H), (0 ≤ k1 ∧ k1 ≤ 16) → (0 ≤ n5 ∧ n5 ≤ 12) ∧ (0 ≤ a6 ∧ a6 ≤ 48) ∧ (0 ≤ m7 ∧ m7 ≤ 1025) → IMF n5 a6 m7 h2 → FM g h2 → (16 - k1).toNat = m9 → av_wp none cd_188 2 [some (.inr (.inr (.inl (some (77))))), some (.inl x), some (.inl k1)] [] h2 Q := by
    intro m9
    induction m9 using Nat.strongRecOn with
    | _ m9 I11 =>
      intro k1 n5 a6 m7 h2 g13 g8 I3 F4 e12
      refine av_wp_sqF ck_188 2 (pc' := 5) (lv' := [some (.inr (.inr (.inl (some (77))))), some (.inl x), some (.inl k1)]) (st' := [.inl (16), .inl k1]) (h' := h2) rfl ?_
      refine wq_k2 (p' := 8) (ck_188 _ _ rfl) rfl ⟨by omega, by omega⟩ ⟨by omega, by omega⟩ (fun c14 => ?_) (fun c15 => ?_)
      · have c14 : (16) ≤ k1 := c14
        refine av_wp_sqF ck_188 2 (pc' := 23) (lv' := [some (.inr (.inr (.inl (some (77))))), some (.inl x), some (.inl k1)]) (st' := [.inl x, .inr (.inr (.inl (some (77))))]) (h' := h2) rfl ?_
        refine wq_cv (p' := 26) (av_qc (.invokevirtual 434) 162 1 0 8) 5 cd_162 [.inl x] (77) 8 [some (.inr (.inr (.inl (some (77))))), some (.inl x), none, none, none] (ck_188 _ _ rfl) rfl rfl pp_162 rfl rfl rfl (congrArg Prod.fst (ly_k I3.1.1.1 77 rfl)) rfl rfl rfl rfl ?_
        refine ct_162 I3.1 (x) (by have z1 := congrFun (F4.2.2.2.2.2.2 78 rfl) 0; omega) (fun n16 h17 i18 e19 b22 F20 => ?_)
        have F21 := FM_tr F4 F20
        obtain ⟨a23, e25⟩ : ∃ x, hF h17 77 28 = x := ⟨_, rfl⟩
        obtain ⟨m24, e26⟩ : ∃ x, hF h17 77 29 = x := ⟨_, rfl⟩
        have I27 : IMF n16 a23 m24 h17 := ⟨i18, e19, e25, e26⟩
        have g28 := im_n I27.1.1
        rw [I27.2.1] at g28
        have g29 := im_a I27.1.1
        rw [I27.2.2.1] at g29
        have g30 := im_cm I27.1.1
        rw [I27.2.2.2] at g30
        show av_wp _ cd_188 26 [some (.inr (.inr (.inl (some (77))))), some (.inl x), some (.inl k1)] [] h17 _
        refine av_wp_sqF ck_188 1 (pc' := 27) (lv' := [some (.inr (.inr (.inl (some (77))))), some (.inl x), some (.inl k1)]) (st' := [.inr (.inr (.inl (some (77))))]) (h' := h17) rfl ?_
        refine wq_cv (p' := 30) (av_qc (.invokevirtual 424) 163 0 0 8) 4 cd_163 [] (77) 8 [some (.inr (.inr (.inl (some (77))))), none, none, none] (ck_188 _ _ rfl) rfl rfl pp_163 rfl rfl rfl (congrArg Prod.fst (ly_k I27.1.1.1 77 rfl)) rfl rfl rfl rfl ?_
        refine ct_163 I27.1 I27.2.1 F21 (fun a31 m32 h33 z34 I35 F36 => ?_)
        have z34_1 := z34.1
        have z34_2 := cm_of F4 (by omega) b22 z34.2
        have g37 := im_a I35.1.1
        rw [I35.2.2.1] at g37
        have g38 := im_cm I35.1.1
        rw [I35.2.2.2] at g38
        show av_wp _ cd_188 30 [some (.inr (.inr (.inl (some (77))))), some (.inl x), some (.inl k1)] [] h33 _
        refine av_wp_ret (v := none) (ck_188 _ _ rfl) rfl rfl ?_
        exact hq _ _ _ h33 (by omega) I35 F36
      · have c15 : k1 < (16) := c15
        refine av_wp_sqF ck_188 1 (pc' := 9) (lv' := [some (.inr (.inr (.inl (some (77))))), some (.inl x), some (.inl k1)]) (st' := [.inr (.inr (.inl (some (77))))]) (h' := h2) rfl ?_
        refine wq_gr (p' := 12) (ck_188 _ _ rfl) rfl (congrArg Prod.fst (ly_k I3.1.1.1 77 rfl)) rfl (ly_g I3.1.1.1 77 54 116 rfl) ?_
        refine av_wp_sqF ck_188 2 (pc' := 14) (lv' := [some (.inr (.inr (.inl (some (77))))), some (.inl x), some (.inl k1)]) (st' := [.inl (0), .inl k1, .inr (.inr (.inl (some (116))))]) (h' := h2) rfl ?_
        refine im_zs (p' := 15) (l := 16) rfl rfl I3 F4 (ly_k I3.1.1.1 116 rfl) (by omega) (by omega) (by omega) (fun h39 I40 F41 => ?_)
        refine av_wp_sqF ck_188 2 (pc' := 2) (lv' := [some (.inr (.inr (.inl (some (77))))), some (.inl x), some (.inl (k1 + (1)))]) (st' := []) (h' := h39) rfl ?_
        exact I11 _ (by omega) ((k1 + (1))) (n5) (a6) (m7) h39 (by omega) (by omega) I40 F41 rfl
  exact L10 _ ((0)) (n) (a) (m) h (by omega) (by omega) I F rfl

set_option maxRecDepth 100000 in
set_option maxHeartbeats 4000000 in
theorem ct_187 {g h : av_H} {n a m : Int} (I : IMF n a m h) (F : FM g h) (x : Int) (qx : -2147483648 ≤ x ∧ x ≤ 2147483647) (w : Int) (qw : -2147483648 ≤ w ∧ w ≤ 2147483647) {Q : Option av_V → av_H → Prop} (hq : ∀ (v : Int) n' a' m' h', IMF n' a' m' h' → FM g h' → Q (some (.inl v)) h') : av_wp none cd_187 0 [some (.inr (.inr (.inl (some (77))))), some (.inl x), some (.inl w)] [] h Q := by
  have gn := im_n I.1.1
  rw [I.2.1] at gn
  have ga := im_a I.1.1
  rw [I.2.2.1] at ga
  have gm := im_cm I.1.1
  rw [I.2.2.2] at gm
  refine av_wp_sqF ck_187 2 (pc' := 2) (lv' := [some (.inr (.inr (.inl (some (77))))), some (.inl x), some (.inl w)]) (st' := [.inl x, .inr (.inr (.inl (some (77))))]) (h' := h) rfl ?_
  refine wq_cv (p' := 5) (av_qc (.invokevirtual 299) 149 1 0 8) 2 cd_149 [.inl x] (77) 8 [some (.inr (.inr (.inl (some (77))))), some (.inl x)] (ck_187 _ _ rfl) rfl rfl pp_149 rfl rfl rfl (congrArg Prod.fst (ly_k I.1.1.1 77 rfl)) rfl rfl rfl rfl ?_
  refine ct_149 I.1 F (x) (by omega) (fun v1 p2 => ?_)
  show av_wp _ cd_187 5 [some (.inr (.inr (.inl (some (77))))), some (.inl x), some (.inl w)] [.inl v1] h _
  refine wq_k1 (p' := 8) (ck_187 _ _ rfl) rfl ⟨by omega, by omega⟩ (fun c3 => ?_) (fun c4 => ?_)
  · have c3 : v1 = (0) := c3
    refine av_wp_sqF ck_187 1 (pc' := 19) (lv' := [some (.inr (.inr (.inl (some (77))))), some (.inl x), some (.inl w)]) (st' := [.inl (-2)]) (h' := h) rfl ?_
    refine av_wp_ret (v := some (.inl (-2))) (ck_187 _ _ rfl) rfl rfl ?_
    exact hq _ _ _ _ h I F
  · have c4 : v1 ≠ (0) := c4
    refine av_wp_sqF ck_187 3 (pc' := 11) (lv' := [some (.inr (.inr (.inl (some (77))))), some (.inl x), some (.inl w)]) (st' := [.inl (2), .inl (0), .inl w]) (h' := h) rfl ?_
    refine wq_cs (p' := 14) (av_qc (.invokestatic 176) 127 3 2 8) 3 cd_127 [.inl w, .inl (0), .inl (2)] [.inl (2), .inl (0), .inl w] [some (.inl w), some (.inl (0)), some (.inl (2))] (ck_187 _ _ rfl) rfl rfl pp_127 (fun _ => rfl) rfl rfl ?_
    refine ct_127 (g := h) (w) (by omega) ((0)) (by omega) ((2)) (by omega) (fun v5 p6 => ?_)
    show av_wp _ cd_187 14 [some (.inr (.inr (.inl (some (77))))), some (.inl x), some (.inl w)] [.inl v5] h _
    refine wq_k1 (p' := 17) (ck_187 _ _ rfl) rfl ⟨by omega, by omega⟩ (fun c7 => ?_) (fun c8 => ?_)
    · have c7 : v5 ≠ (0) := c7
      refine av_wp_sqF ck_187 2 (pc' := 22) (lv' := [some (.inr (.inr (.inl (some (77))))), some (.inl x), some (.inl w)]) (st' := [.inl x, .inr (.inr (.inl (some (77))))]) (h' := h) rfl ?_
      refine wq_cv (p' := 25) (av_qc (.invokevirtual 443) 188 1 0 8) 3 cd_188 [.inl x] (77) 8 [some (.inr (.inr (.inl (some (77))))), some (.inl x), none] (ck_187 _ _ rfl) rfl rfl pp_188 rfl rfl rfl (congrArg Prod.fst (ly_k I.1.1.1 77 rfl)) rfl rfl rfl rfl ?_
      refine ct_188 I F (x) (by omega) (by have z1 := congrFun (F.2.2.2.2.2.2 78 rfl) 0; omega) (fun n14 a15 m16 h11 p10 I12 F13 => ?_)
      have g17 := im_n I12.1.1
      rw [I12.2.1] at g17
      have g18 := im_a I12.1.1
      rw [I12.2.2.1] at g18
      have g19 := im_cm I12.1.1
      rw [I12.2.2.2] at g19
      show av_wp _ cd_187 25 [some (.inr (.inr (.inl (some (77))))), some (.inl x), some (.inl w)] [] h11 _
      refine av_wp_sqF ck_187 1 (pc' := 26) (lv' := [some (.inr (.inr (.inl (some (77))))), some (.inl x), some (.inl w)]) (st' := [.inl w]) (h' := h11) rfl ?_
      refine wq_k1 (p' := 29) (ck_187 _ _ rfl) rfl ⟨by omega, by omega⟩ (fun c20 => ?_) (fun c21 => ?_)
      · have c20 : w ≠ (0) := c20
        refine av_wp_sqF ck_187 2 (pc' := 38) (lv' := [some (.inr (.inr (.inl (some (77))))), some (.inl x), some (.inl w)]) (st' := [.inl (1), .inl w]) (h' := h11) rfl ?_
        refine wq_k2 (p' := 41) (ck_187 _ _ rfl) rfl ⟨by omega, by omega⟩ ⟨by omega, by omega⟩ (fun c22 => ?_) (fun c23 => ?_)
        · have c22 : w ≠ (1) := c22
          refine av_wp_sqF ck_187 1 (pc' := 49) (lv' := [some (.inr (.inr (.inl (some (77))))), some (.inl x), some (.inl w)]) (st' := [.inr (.inr (.inl (some (77))))]) (h' := h11) rfl ?_
          refine wq_cv (p' := 52) (av_qc (.invokevirtual 427) 164 0 0 8) 1 cd_164 [] (77) 8 [some (.inr (.inr (.inl (some (77)))))] (ck_187 _ _ rfl) rfl rfl pp_164 rfl rfl rfl (congrArg Prod.fst (ly_k I12.1.1.1 77 rfl)) rfl rfl rfl rfl ?_
          refine ct_164 I12 F13  (fun v24 p25 => ?_)
          show av_wp _ cd_187 52 [some (.inr (.inr (.inl (some (77))))), some (.inl x), some (.inl w)] [.inl v24] h11 _
          refine wq_k1 (p' := 55) (ck_187 _ _ rfl) rfl ⟨by omega, by omega⟩ (fun c26 => ?_) (fun c27 => ?_)
          · have c26 : v24 = (0) := c26
            refine av_wp_sqF ck_187 1 (pc' := 63) (lv' := [some (.inr (.inr (.inl (some (77))))), some (.inl x), some (.inl w)]) (st' := [.inl (-1)]) (h' := h11) rfl ?_
            refine av_wp_ret (v := some (.inl (-1))) (ck_187 _ _ rfl) rfl rfl ?_
            exact hq _ _ _ _ h11 I12 F13
          · have c27 : v24 ≠ (0) := c27
            refine av_wp_sqF ck_187 1 (pc' := 56) (lv' := [some (.inr (.inr (.inl (some (77))))), some (.inl x), some (.inl w)]) (st' := [.inr (.inr (.inl (some (77))))]) (h' := h11) rfl ?_
            refine wq_gi (p' := 59) (ck_187 _ _ rfl) rfl (congrArg Prod.fst (ly_k I12.1.1.1 77 rfl)) rfl (I12.2.2.2) ?_
            refine av_wp_sqF ck_187 1 (pc' := 63) (lv' := [some (.inr (.inr (.inl (some (77))))), some (.inl x), some (.inl w)]) (st' := [.inl m16]) (h' := h11) rfl ?_
            refine av_wp_ret (v := some (.inl m16)) (ck_187 _ _ rfl) rfl rfl ?_
            exact hq _ _ _ _ h11 I12 F13
        · have c23 : w = (1) := c23
          refine av_wp_sqF ck_187 1 (pc' := 42) (lv' := [some (.inr (.inr (.inl (some (77))))), some (.inl x), some (.inl w)]) (st' := [.inr (.inr (.inl (some (77))))]) (h' := h11) rfl ?_
          refine wq_gi (p' := 45) (ck_187 _ _ rfl) rfl (congrArg Prod.fst (ly_k I12.1.1.1 77 rfl)) rfl (I12.2.2.1) ?_
          refine av_wp_sqF ck_187 1 (pc' := 63) (lv' := [some (.inr (.inr (.inl (some (77))))), some (.inl x), some (.inl w)]) (st' := [.inl a15]) (h' := h11) rfl ?_
          refine av_wp_ret (v := some (.inl a15)) (ck_187 _ _ rfl) rfl rfl ?_
          exact hq _ _ _ _ h11 I12 F13
      · have c21 : w = (0) := c21
        refine av_wp_sqF ck_187 1 (pc' := 30) (lv' := [some (.inr (.inr (.inl (some (77))))), some (.inl x), some (.inl w)]) (st' := [.inr (.inr (.inl (some (77))))]) (h' := h11) rfl ?_
        refine wq_gi (p' := 33) (ck_187 _ _ rfl) rfl (congrArg Prod.fst (ly_k I12.1.1.1 77 rfl)) rfl (I12.2.1) ?_
        refine av_wp_sqF ck_187 1 (pc' := 63) (lv' := [some (.inr (.inr (.inl (some (77))))), some (.inl x), some (.inl w)]) (st' := [.inl n14]) (h' := h11) rfl ?_
        refine av_wp_ret (v := some (.inl n14)) (ck_187 _ _ rfl) rfl rfl ?_
        exact hq _ _ _ _ h11 I12 F13
    · have c8 : v5 = (0) := c8
      refine av_wp_sqF ck_187 1 (pc' := 19) (lv' := [some (.inr (.inr (.inl (some (77))))), some (.inl x), some (.inl w)]) (st' := [.inl (-2)]) (h' := h) rfl ?_
      refine av_wp_ret (v := some (.inl (-2))) (ck_187 _ _ rfl) rfl rfl ?_
      exact hq _ _ _ _ h I F

set_option maxRecDepth 100000 in
set_option maxHeartbeats 4000000 in
theorem ct_189 {g h : av_H} {n a m : Int} (I : IMF n a m h) (F : FM g h) (x : Int) (qx : -2147483648 ≤ x ∧ x ≤ 2147483647) (y : Int) (qy : -2147483648 ≤ y ∧ y ≤ 2147483647) (k : Int) (qk : -2147483648 ≤ k ∧ k ≤ 2147483647) (w : Int) (qw : -2147483648 ≤ w ∧ w ≤ 2147483647) {Q : Option av_V → av_H → Prop} (hq : ∀ (v : Int) n' a' m' h', IMF n' a' m' h' → FM g h' → Q (some (.inl v)) h') : av_wp none cd_189 0 [some (.inr (.inr (.inl (some (77))))), some (.inl x), some (.inl y), some (.inl k), some (.inl w)] [] h Q := by
  have gn := im_n I.1.1
  rw [I.2.1] at gn
  have ga := im_a I.1.1
  rw [I.2.2.1] at ga
  have gm := im_cm I.1.1
  rw [I.2.2.2] at gm
  refine av_wp_sqF ck_189 2 (pc' := 2) (lv' := [some (.inr (.inr (.inl (some (77))))), some (.inl x), some (.inl y), some (.inl k), some (.inl w)]) (st' := [.inl x, .inr (.inr (.inl (some (77))))]) (h' := h) rfl ?_
  refine wq_cv (p' := 5) (av_qc (.invokevirtual 299) 149 1 0 8) 2 cd_149 [.inl x] (77) 8 [some (.inr (.inr (.inl (some (77))))), some (.inl x)] (ck_189 _ _ rfl) rfl rfl pp_149 rfl rfl rfl (congrArg Prod.fst (ly_k I.1.1.1 77 rfl)) rfl rfl rfl rfl ?_
  refine ct_149 I.1 F (x) (by omega) (fun v1 p2 => ?_)
  show av_wp _ cd_189 5 [some (.inr (.inr (.inl (some (77))))), some (.inl x), some (.inl y), some (.inl k), some (.inl w)] [.inl v1] h _
  refine wq_k1 (p' := 8) (ck_189 _ _ rfl) rfl ⟨by omega, by omega⟩ (fun c3 => ?_) (fun c4 => ?_)
  · have c3 : v1 = (0) := c3
    refine av_wp_sqF ck_189 1 (pc' := 24) (lv' := [some (.inr (.inr (.inl (some (77))))), some (.inl x), some (.inl y), some (.inl k), some (.inl w)]) (st' := [.inl (-2)]) (h' := h) rfl ?_
    refine av_wp_ret (v := some (.inl (-2))) (ck_189 _ _ rfl) rfl rfl ?_
    exact hq _ _ _ _ h I F
  · have c4 : v1 ≠ (0) := c4
    refine av_wp_sqF ck_189 1 (pc' := 9) (lv' := [some (.inr (.inr (.inl (some (77))))), some (.inl x), some (.inl y), some (.inl k), some (.inl w)]) (st' := [.inl y]) (h' := h) rfl ?_
    refine wq_k1 (p' := 12) (ck_189 _ _ rfl) rfl ⟨by omega, by omega⟩ (fun c5 => ?_) (fun c6 => ?_)
    · have c5 : y < (0) := c5
      refine av_wp_sqF ck_189 1 (pc' := 24) (lv' := [some (.inr (.inr (.inl (some (77))))), some (.inl x), some (.inl y), some (.inl k), some (.inl w)]) (st' := [.inl (-2)]) (h' := h) rfl ?_
      refine av_wp_ret (v := some (.inl (-2))) (ck_189 _ _ rfl) rfl rfl ?_
      exact hq _ _ _ _ h I F
    · have c6 : (0) ≤ y := c6
      refine av_wp_sqF ck_189 3 (pc' := 16) (lv' := [some (.inr (.inr (.inl (some (77))))), some (.inl x), some (.inl y), some (.inl k), some (.inl w)]) (st' := [.inl (2), .inl (0), .inl w]) (h' := h) rfl ?_
      refine wq_cs (p' := 19) (av_qc (.invokestatic 176) 127 3 2 8) 3 cd_127 [.inl w, .inl (0), .inl (2)] [.inl (2), .inl (0), .inl w] [some (.inl w), some (.inl (0)), some (.inl (2))] (ck_189 _ _ rfl) rfl rfl pp_127 (fun _ => rfl) rfl rfl ?_
      refine ct_127 (g := h) (w) (by omega) ((0)) (by omega) ((2)) (by omega) (fun v7 p8 => ?_)
      show av_wp _ cd_189 19 [some (.inr (.inr (.inl (some (77))))), some (.inl x), some (.inl y), some (.inl k), some (.inl w)] [.inl v7] h _
      refine wq_k1 (p' := 22) (ck_189 _ _ rfl) rfl ⟨by omega, by omega⟩ (fun c9 => ?_) (fun c10 => ?_)
      · have c9 : v7 ≠ (0) := c9
        refine av_wp_sqF ck_189 2 (pc' := 27) (lv' := [some (.inr (.inr (.inl (some (77))))), some (.inl x), some (.inl y), some (.inl k), some (.inl w)]) (st' := [.inl x, .inr (.inr (.inl (some (77))))]) (h' := h) rfl ?_
        refine wq_cv (p' := 30) (av_qc (.invokevirtual 443) 188 1 0 8) 3 cd_188 [.inl x] (77) 8 [some (.inr (.inr (.inl (some (77))))), some (.inl x), none] (ck_189 _ _ rfl) rfl rfl pp_188 rfl rfl rfl (congrArg Prod.fst (ly_k I.1.1.1 77 rfl)) rfl rfl rfl rfl ?_
        refine ct_188 I F (x) (by omega) (by have z1 := congrFun (F.2.2.2.2.2.2 78 rfl) 0; omega) (fun n16 a17 m18 h13 p12 I14 F15 => ?_)
        have g19 := im_n I14.1.1
        rw [I14.2.1] at g19
        have g20 := im_a I14.1.1
        rw [I14.2.2.1] at g20
        have g21 := im_cm I14.1.1
        rw [I14.2.2.2] at g21
        show av_wp _ cd_189 30 [some (.inr (.inr (.inl (some (77))))), some (.inl x), some (.inl y), some (.inl k), some (.inl w)] [] h13 _
        refine av_wp_sqF ck_189 1 (pc' := 31) (lv' := [some (.inr (.inr (.inl (some (77))))), some (.inl x), some (.inl y), some (.inl k), some (.inl w)]) (st' := [.inr (.inr (.inl (some (77))))]) (h' := h13) rfl ?_
        refine wq_cv (p' := 34) (av_qc (.invokevirtual 427) 164 0 0 8) 1 cd_164 [] (77) 8 [some (.inr (.inr (.inl (some (77)))))] (ck_189 _ _ rfl) rfl rfl pp_164 rfl rfl rfl (congrArg Prod.fst (ly_k I14.1.1.1 77 rfl)) rfl rfl rfl rfl ?_
        refine ct_164 I14 F15  (fun v22 p23 => ?_)
        show av_wp _ cd_189 34 [some (.inr (.inr (.inl (some (77))))), some (.inl x), some (.inl y), some (.inl k), some (.inl w)] [.inl v22] h13 _
        refine wq_k1 (p' := 37) (ck_189 _ _ rfl) rfl ⟨by omega, by omega⟩ (fun c24 => ?_) (fun c25 => ?_)
        · have c24 : v22 = (0) := c24
          refine av_wp_sqF ck_189 1 (pc' := 59) (lv' := [some (.inr (.inr (.inl (some (77))))), some (.inl x), some (.inl y), some (.inl k), some (.inl w)]) (st' := [.inl (-2)]) (h' := h13) rfl ?_
          refine av_wp_ret (v := some (.inl (-2))) (ck_189 _ _ rfl) rfl rfl ?_
          exact hq _ _ _ _ h13 I14 F15
        · have c25 : v22 ≠ (0) := c25
          refine av_wp_sqF ck_189 2 (pc' := 39) (lv' := [some (.inr (.inr (.inl (some (77))))), some (.inl x), some (.inl y), some (.inl k), some (.inl w)]) (st' := [.inr (.inr (.inl (some (77)))), .inl y]) (h' := h13) rfl ?_
          refine wq_gi (p' := 42) (ck_189 _ _ rfl) rfl (congrArg Prod.fst (ly_k I14.1.1.1 77 rfl)) rfl (I14.2.2.2) ?_
          refine wq_k2 (p' := 45) (ck_189 _ _ rfl) rfl ⟨by omega, by omega⟩ ⟨by omega, by omega⟩ (fun c26 => ?_) (fun c27 => ?_)
          · have c26 : m18 ≤ y := c26
            refine av_wp_sqF ck_189 1 (pc' := 59) (lv' := [some (.inr (.inr (.inl (some (77))))), some (.inl x), some (.inl y), some (.inl k), some (.inl w)]) (st' := [.inl (-2)]) (h' := h13) rfl ?_
            refine av_wp_ret (v := some (.inl (-2))) (ck_189 _ _ rfl) rfl rfl ?_
            exact hq _ _ _ _ h13 I14 F15
          · have c27 : y < m18 := c27
            refine av_wp_sqF ck_189 1 (pc' := 46) (lv' := [some (.inr (.inr (.inl (some (77))))), some (.inl x), some (.inl y), some (.inl k), some (.inl w)]) (st' := [.inl k]) (h' := h13) rfl ?_
            refine wq_k1 (p' := 49) (ck_189 _ _ rfl) rfl ⟨by omega, by omega⟩ (fun c28 => ?_) (fun c29 => ?_)
            · have c28 : k < (0) := c28
              refine av_wp_sqF ck_189 1 (pc' := 59) (lv' := [some (.inr (.inr (.inl (some (77))))), some (.inl x), some (.inl y), some (.inl k), some (.inl w)]) (st' := [.inl (-2)]) (h' := h13) rfl ?_
              refine av_wp_ret (v := some (.inl (-2))) (ck_189 _ _ rfl) rfl rfl ?_
              exact hq _ _ _ _ h13 I14 F15
            · have c29 : (0) ≤ k := c29
              refine av_wp_sqF ck_189 2 (pc' := 51) (lv' := [some (.inr (.inr (.inl (some (77))))), some (.inl x), some (.inl y), some (.inl k), some (.inl w)]) (st' := [.inr (.inr (.inl (some (77)))), .inl k]) (h' := h13) rfl ?_
              refine wq_gi (p' := 54) (ck_189 _ _ rfl) rfl (congrArg Prod.fst (ly_k I14.1.1.1 77 rfl)) rfl (I14.2.1) ?_
              refine wq_k2 (p' := 57) (ck_189 _ _ rfl) rfl ⟨by omega, by omega⟩ ⟨by omega, by omega⟩ (fun c30 => ?_) (fun c31 => ?_)
              · have c30 : k < n16 := c30
                refine av_wp_sqF ck_189 2 (pc' := 62) (lv' := [some (.inr (.inr (.inl (some (77))))), some (.inl x), some (.inl y), some (.inl k), some (.inl w)]) (st' := [.inl y, .inr (.inr (.inl (some (77))))]) (h' := h13) rfl ?_
                refine wq_cv (p' := 65) (av_qc (.invokevirtual 412) 165 1 0 8) 5 cd_165 [.inl y] (77) 8 [some (.inr (.inr (.inl (some (77))))), some (.inl y), none, none, none] (ck_189 _ _ rfl) rfl rfl pp_165 rfl rfl rfl (congrArg Prod.fst (ly_k I14.1.1.1 77 rfl)) rfl rfl rfl rfl ?_
                refine ct_165 I14 F15 (y) (fun h34 I35 F36 => ?_)
                show av_wp _ cd_189 65 [some (.inr (.inr (.inl (some (77))))), some (.inl x), some (.inl y), some (.inl k), some (.inl w)] [] h34 _
                refine av_wp_sqF ck_189 3 (pc' := 69) (lv' := [some (.inr (.inr (.inl (some (77))))), some (.inl x), some (.inl y), some (.inl k), some (.inl w)]) (st' := [.inl w, .inl k, .inr (.inr (.inl (some (77))))]) (h' := h34) rfl ?_
                refine wq_cv (p' := 72) (av_qc (.invokevirtual 363) 166 2 0 8) 3 cd_166 [.inl w, .inl k] (77) 8 [some (.inr (.inr (.inl (some (77))))), some (.inl k), some (.inl w)] (ck_189 _ _ rfl) rfl rfl pp_166 rfl rfl rfl (congrArg Prod.fst (ly_k I35.1.1.1 77 rfl)) rfl rfl rfl rfl ?_
                refine ct_166 I35 F36 (k) (by omega) (w) (fun v37 => ?_)
                show av_wp _ cd_189 72 [some (.inr (.inr (.inl (some (77))))), some (.inl x), some (.inl y), some (.inl k), some (.inl w)] [.inl v37] h34 _
                refine av_wp_ret (v := some (.inl v37)) (ck_189 _ _ rfl) rfl rfl ?_
                exact hq _ _ _ _ h34 I35 F36
              · have c31 : n16 ≤ k := c31
                refine av_wp_sqF ck_189 1 (pc' := 59) (lv' := [some (.inr (.inr (.inl (some (77))))), some (.inl x), some (.inl y), some (.inl k), some (.inl w)]) (st' := [.inl (-2)]) (h' := h13) rfl ?_
                refine av_wp_ret (v := some (.inl (-2))) (ck_189 _ _ rfl) rfl rfl ?_
                exact hq _ _ _ _ h13 I14 F15
      · have c10 : v7 = (0) := c10
        refine av_wp_sqF ck_189 1 (pc' := 24) (lv' := [some (.inr (.inr (.inl (some (77))))), some (.inl x), some (.inl y), some (.inl k), some (.inl w)]) (st' := [.inl (-2)]) (h' := h) rfl ?_
        refine av_wp_ret (v := some (.inl (-2))) (ck_189 _ _ rfl) rfl rfl ?_
        exact hq _ _ _ _ h I F

set_option maxRecDepth 100000 in
set_option maxHeartbeats 4000000 in
theorem ct_190 {g h : av_H} {n a m : Int} (I : IMF n a m h) (F : FM g h) (x : Int) (qx : -2147483648 ≤ x ∧ x ≤ 2147483647) (l : Int) (ql : -2147483648 ≤ l ∧ l ≤ 2147483647) (y : Int) (qy : -2147483648 ≤ y ∧ y ≤ 2147483647) (w : Int) (qw : -2147483648 ≤ w ∧ w ≤ 2147483647) {Q : Option av_V → av_H → Prop} (hq : ∀ (v : Int) n' a' m' h', IMF n' a' m' h' → FM g h' → Q (some (.inl v)) h') : av_wp none cd_190 0 [some (.inr (.inr (.inl (some (77))))), some (.inl x), some (.inl l), some (.inl y), some (.inl w)] [] h Q := by
  have gn := im_n I.1.1
  rw [I.2.1] at gn
  have ga := im_a I.1.1
  rw [I.2.2.1] at ga
  have gm := im_cm I.1.1
  rw [I.2.2.2] at gm
  refine av_wp_sqF ck_190 3 (pc' := 4) (lv' := [some (.inr (.inr (.inl (some (77))))), some (.inl x), some (.inl l), some (.inl y), some (.inl w)]) (st' := [.inl (2), .inl (0), .inl w]) (h' := h) rfl ?_
  refine wq_cs (p' := 7) (av_qc (.invokestatic 176) 127 3 2 8) 3 cd_127 [.inl w, .inl (0), .inl (2)] [.inl (2), .inl (0), .inl w] [some (.inl w), some (.inl (0)), some (.inl (2))] (ck_190 _ _ rfl) rfl rfl pp_127 (fun _ => rfl) rfl rfl ?_
  refine ct_127 (g := h) (w) (by omega) ((0)) (by omega) ((2)) (by omega) (fun v1 p2 => ?_)
  show av_wp _ cd_190 7 [some (.inr (.inr (.inl (some (77))))), some (.inl x), some (.inl l), some (.inl y), some (.inl w)] [.inl v1] h _
  refine wq_k1 (p' := 10) (ck_190 _ _ rfl) rfl ⟨by omega, by omega⟩ (fun c3 => ?_) (fun c4 => ?_)
  · have c3 : v1 ≠ (0) := c3
    refine av_wp_sqF ck_190 4 (pc' := 26) (lv' := [some (.inr (.inr (.inl (some (77))))), some (.inl x), some (.inl l), some (.inl y), some (.inl w)]) (st' := [.inl y, .inl l, .inl x, .inr (.inr (.inl (some (77))))]) (h' := h) rfl ?_
    refine wq_cv (p' := 29) (av_qc (.invokevirtual 446) 186 3 0 8) 4 cd_186 [.inl y, .inl l, .inl x] (77) 8 [some (.inr (.inr (.inl (some (77))))), some (.inl x), some (.inl l), some (.inl y)] (ck_190 _ _ rfl) rfl rfl pp_186 rfl rfl rfl (congrArg Prod.fst (ly_k I.1.1.1 77 rfl)) rfl rfl rfl rfl ?_
    refine ct_186 I F (x) (by omega) (l) (by omega) (y) (by omega) (fun n9 a10 m11 h5 I6 F7 => ?_) (fun n9 a10 m11 h5 p8 I6 F7 => ?_)
    · have g12 := im_n I6.1.1
      rw [I6.2.1] at g12
      have g13 := im_a I6.1.1
      rw [I6.2.2.1] at g13
      have g14 := im_cm I6.1.1
      rw [I6.2.2.2] at g14
      show av_wp _ cd_190 29 [some (.inr (.inr (.inl (some (77))))), some (.inl x), some (.inl l), some (.inl y), some (.inl w)] [.inl (0)] h5 _
      refine av_wp_sqF ck_190 2 (pc' := 34) (lv' := [some (.inr (.inr (.inl (some (77))))), some (.inl x), some (.inl l), some (.inl y), some (.inl w)]) (st' := [.inl (-3)]) (h' := h5) rfl ?_
      refine av_wp_ret (v := some (.inl (-3))) (ck_190 _ _ rfl) rfl rfl ?_
      exact hq _ _ _ _ h5 I6 F7
    · have g15 := im_n I6.1.1
      rw [I6.2.1] at g15
      have g16 := im_a I6.1.1
      rw [I6.2.2.1] at g16
      have g17 := im_cm I6.1.1
      rw [I6.2.2.2] at g17
      show av_wp _ cd_190 29 [some (.inr (.inr (.inl (some (77))))), some (.inl x), some (.inl l), some (.inl y), some (.inl w)] [.inl (1)] h5 _
      refine av_wp_sqF ck_190 2 (pc' := 36) (lv' := [some (.inr (.inr (.inl (some (77))))), some (.inl x), some (.inl l), some (.inl y), some (.inl w)]) (st' := [.inr (.inr (.inl (some (77))))]) (h' := h5) rfl ?_
      obtain ⟨v18, e19⟩ : ∃ v, hF h5 77 50 = v := ⟨_, rfl⟩
      have g20 := im_has I6.1.1
      rw [e19] at g20
      refine wq_gb (p' := 39) (ck_190 _ _ rfl) rfl (congrArg Prod.fst (ly_k I6.1.1.1 77 rfl)) rfl (e19) ?_
      refine wq_k1 (p' := 42) (ck_190 _ _ rfl) rfl ⟨by omega, by omega⟩ (fun c21 => ?_) (fun c22 => ?_)
      · have c21 : v18 ≠ (0) := c21
        refine av_wp_sqF ck_190 1 (pc' := 47) (lv' := [some (.inr (.inr (.inl (some (77))))), some (.inl x), some (.inl l), some (.inl y), some (.inl w)]) (st' := [.inl w]) (h' := h5) rfl ?_
        refine wq_k1 (p' := 50) (ck_190 _ _ rfl) rfl ⟨by omega, by omega⟩ (fun c23 => ?_) (fun c24 => ?_)
        · have c23 : w ≠ (0) := c23
          refine av_wp_sqF ck_190 2 (pc' := 60) (lv' := [some (.inr (.inr (.inl (some (77))))), some (.inl x), some (.inl l), some (.inl y), some (.inl w)]) (st' := [.inl (1), .inl w]) (h' := h5) rfl ?_
          refine wq_k2 (p' := 63) (ck_190 _ _ rfl) rfl ⟨by omega, by omega⟩ ⟨by omega, by omega⟩ (fun c25 => ?_) (fun c26 => ?_)
          · have c25 : w ≠ (1) := c25
            refine av_wp_sqF ck_190 2 (pc' := 73) (lv' := [some (.inr (.inr (.inl (some (77))))), some (.inl x), some (.inl l), some (.inl y), some (.inl w)]) (st' := [.inl (2), .inl w]) (h' := h5) rfl ?_
            refine wq_k2 (p' := 76) (ck_190 _ _ rfl) rfl ⟨by omega, by omega⟩ ⟨by omega, by omega⟩ (fun c27 => ?_) (fun c28 => ?_)
            · have c27 : w ≠ (2) := c27
              refine av_wp_sqF ck_190 4 (pc' := 89) (lv' := [some (.inr (.inr (.inl (some (77))))), some (.inl x), some (.inl l), some (.inl y), some (.inl w)]) (st' := [.inl (w - (10)), .inr (.inr (.inl (some (77))))]) (h' := h5) rfl ?_
              refine wq_cv (p' := 92) (av_qc (.invokevirtual 449) 183 1 0 8) 3 cd_183 [.inl (w - (10))] (77) 8 [some (.inr (.inr (.inl (some (77))))), some (.inl (w - (10))), none] (ck_190 _ _ rfl) rfl rfl pp_183 rfl rfl rfl (congrArg Prod.fst (ly_k I6.1.1.1 77 rfl)) rfl rfl rfl rfl ?_
              refine ct_183 I6 F7 ((w - (10))) (by omega) (fun v29 => ?_)
              show av_wp _ cd_190 92 [some (.inr (.inr (.inl (some (77))))), some (.inl x), some (.inl l), some (.inl y), some (.inl w)] [.inl v29] h5 _
              refine av_wp_ret (v := some (.inl v29)) (ck_190 _ _ rfl) rfl rfl ?_
              exact hq _ _ _ _ h5 I6 F7
            · have c28 : w = (2) := c28
              refine av_wp_sqF ck_190 1 (pc' := 77) (lv' := [some (.inr (.inr (.inl (some (77))))), some (.inl x), some (.inl l), some (.inl y), some (.inl w)]) (st' := [.inr (.inr (.inl (some (77))))]) (h' := h5) rfl ?_
              obtain ⟨v31, e32⟩ : ∃ v, hF h5 77 53 = v := ⟨_, rfl⟩
              refine wq_gi (p' := 80) (ck_190 _ _ rfl) rfl (congrArg Prod.fst (ly_k I6.1.1.1 77 rfl)) rfl (e32) ?_
              refine av_wp_sqF ck_190 1 (pc' := 92) (lv' := [some (.inr (.inr (.inl (some (77))))), some (.inl x), some (.inl l), some (.inl y), some (.inl w)]) (st' := [.inl v31]) (h' := h5) rfl ?_
              refine av_wp_ret (v := some (.inl v31)) (ck_190 _ _ rfl) rfl rfl ?_
              exact hq _ _ _ _ h5 I6 F7
          · have c26 : w = (1) := c26
            refine av_wp_sqF ck_190 1 (pc' := 64) (lv' := [some (.inr (.inr (.inl (some (77))))), some (.inl x), some (.inl l), some (.inl y), some (.inl w)]) (st' := [.inr (.inr (.inl (some (77))))]) (h' := h5) rfl ?_
            obtain ⟨v33, e34⟩ : ∃ v, hF h5 77 52 = v := ⟨_, rfl⟩
            have g35 := im_of I6.1.1
            rw [e34] at g35
            refine wq_gi (p' := 67) (ck_190 _ _ rfl) rfl (congrArg Prod.fst (ly_k I6.1.1.1 77 rfl)) rfl (e34) ?_
            refine av_wp_sqF ck_190 1 (pc' := 92) (lv' := [some (.inr (.inr (.inl (some (77))))), some (.inl x), some (.inl l), some (.inl y), some (.inl w)]) (st' := [.inl v33]) (h' := h5) rfl ?_
            refine av_wp_ret (v := some (.inl v33)) (ck_190 _ _ rfl) rfl rfl ?_
            exact hq _ _ _ _ h5 I6 F7
        · have c24 : w = (0) := c24
          refine av_wp_sqF ck_190 1 (pc' := 51) (lv' := [some (.inr (.inr (.inl (some (77))))), some (.inl x), some (.inl l), some (.inl y), some (.inl w)]) (st' := [.inr (.inr (.inl (some (77))))]) (h' := h5) rfl ?_
          obtain ⟨v36, e37⟩ : ∃ v, hF h5 77 51 = v := ⟨_, rfl⟩
          have g38 := im_by I6.1.1
          rw [e37] at g38
          refine wq_gi (p' := 54) (ck_190 _ _ rfl) rfl (congrArg Prod.fst (ly_k I6.1.1.1 77 rfl)) rfl (e37) ?_
          refine av_wp_sqF ck_190 1 (pc' := 92) (lv' := [some (.inr (.inr (.inl (some (77))))), some (.inl x), some (.inl l), some (.inl y), some (.inl w)]) (st' := [.inl v36]) (h' := h5) rfl ?_
          refine av_wp_ret (v := some (.inl v36)) (ck_190 _ _ rfl) rfl rfl ?_
          exact hq _ _ _ _ h5 I6 F7
      · have c22 : v18 = (0) := c22
        refine av_wp_sqF ck_190 1 (pc' := 44) (lv' := [some (.inr (.inr (.inl (some (77))))), some (.inl x), some (.inl l), some (.inl y), some (.inl w)]) (st' := [.inl (-2)]) (h' := h5) rfl ?_
        refine av_wp_ret (v := some (.inl (-2))) (ck_190 _ _ rfl) rfl rfl ?_
        exact hq _ _ _ _ h5 I6 F7
  · have c4 : v1 = (0) := c4
    refine av_wp_sqF ck_190 3 (pc' := 16) (lv' := [some (.inr (.inr (.inl (some (77))))), some (.inl x), some (.inl l), some (.inl y), some (.inl w)]) (st' := [.inl (14), .inl (10), .inl w]) (h' := h) rfl ?_
    refine wq_cs (p' := 19) (av_qc (.invokestatic 176) 127 3 2 8) 3 cd_127 [.inl w, .inl (10), .inl (14)] [.inl (14), .inl (10), .inl w] [some (.inl w), some (.inl (10)), some (.inl (14))] (ck_190 _ _ rfl) rfl rfl pp_127 (fun _ => rfl) rfl rfl ?_
    refine ct_127 (g := h) (w) (by omega) ((10)) (by omega) ((14)) (by omega) (fun v39 p40 => ?_)
    show av_wp _ cd_190 19 [some (.inr (.inr (.inl (some (77))))), some (.inl x), some (.inl l), some (.inl y), some (.inl w)] [.inl v39] h _
    refine wq_k1 (p' := 22) (ck_190 _ _ rfl) rfl ⟨by omega, by omega⟩ (fun c41 => ?_) (fun c42 => ?_)
    · have c41 : v39 = (0) := c41
      refine av_wp_sqF ck_190 1 (pc' := 34) (lv' := [some (.inr (.inr (.inl (some (77))))), some (.inl x), some (.inl l), some (.inl y), some (.inl w)]) (st' := [.inl (-3)]) (h' := h) rfl ?_
      refine av_wp_ret (v := some (.inl (-3))) (ck_190 _ _ rfl) rfl rfl ?_
      exact hq _ _ _ _ h I F
    · have c42 : v39 ≠ (0) := c42
      refine av_wp_sqF ck_190 4 (pc' := 26) (lv' := [some (.inr (.inr (.inl (some (77))))), some (.inl x), some (.inl l), some (.inl y), some (.inl w)]) (st' := [.inl y, .inl l, .inl x, .inr (.inr (.inl (some (77))))]) (h' := h) rfl ?_
      refine wq_cv (p' := 29) (av_qc (.invokevirtual 446) 186 3 0 8) 4 cd_186 [.inl y, .inl l, .inl x] (77) 8 [some (.inr (.inr (.inl (some (77))))), some (.inl x), some (.inl l), some (.inl y)] (ck_190 _ _ rfl) rfl rfl pp_186 rfl rfl rfl (congrArg Prod.fst (ly_k I.1.1.1 77 rfl)) rfl rfl rfl rfl ?_
      refine ct_186 I F (x) (by omega) (l) (by omega) (y) (by omega) (fun n47 a48 m49 h43 I44 F45 => ?_) (fun n47 a48 m49 h43 p46 I44 F45 => ?_)
      · have g50 := im_n I44.1.1
        rw [I44.2.1] at g50
        have g51 := im_a I44.1.1
        rw [I44.2.2.1] at g51
        have g52 := im_cm I44.1.1
        rw [I44.2.2.2] at g52
        show av_wp _ cd_190 29 [some (.inr (.inr (.inl (some (77))))), some (.inl x), some (.inl l), some (.inl y), some (.inl w)] [.inl (0)] h43 _
        refine av_wp_sqF ck_190 2 (pc' := 34) (lv' := [some (.inr (.inr (.inl (some (77))))), some (.inl x), some (.inl l), some (.inl y), some (.inl w)]) (st' := [.inl (-3)]) (h' := h43) rfl ?_
        refine av_wp_ret (v := some (.inl (-3))) (ck_190 _ _ rfl) rfl rfl ?_
        exact hq _ _ _ _ h43 I44 F45
      · have g53 := im_n I44.1.1
        rw [I44.2.1] at g53
        have g54 := im_a I44.1.1
        rw [I44.2.2.1] at g54
        have g55 := im_cm I44.1.1
        rw [I44.2.2.2] at g55
        show av_wp _ cd_190 29 [some (.inr (.inr (.inl (some (77))))), some (.inl x), some (.inl l), some (.inl y), some (.inl w)] [.inl (1)] h43 _
        refine av_wp_sqF ck_190 2 (pc' := 36) (lv' := [some (.inr (.inr (.inl (some (77))))), some (.inl x), some (.inl l), some (.inl y), some (.inl w)]) (st' := [.inr (.inr (.inl (some (77))))]) (h' := h43) rfl ?_
        obtain ⟨v56, e57⟩ : ∃ v, hF h43 77 50 = v := ⟨_, rfl⟩
        have g58 := im_has I44.1.1
        rw [e57] at g58
        refine wq_gb (p' := 39) (ck_190 _ _ rfl) rfl (congrArg Prod.fst (ly_k I44.1.1.1 77 rfl)) rfl (e57) ?_
        refine wq_k1 (p' := 42) (ck_190 _ _ rfl) rfl ⟨by omega, by omega⟩ (fun c59 => ?_) (fun c60 => ?_)
        · have c59 : v56 ≠ (0) := c59
          refine av_wp_sqF ck_190 1 (pc' := 47) (lv' := [some (.inr (.inr (.inl (some (77))))), some (.inl x), some (.inl l), some (.inl y), some (.inl w)]) (st' := [.inl w]) (h' := h43) rfl ?_
          refine wq_k1 (p' := 50) (ck_190 _ _ rfl) rfl ⟨by omega, by omega⟩ (fun c61 => ?_) (fun c62 => ?_)
          · have c61 : w ≠ (0) := c61
            refine av_wp_sqF ck_190 2 (pc' := 60) (lv' := [some (.inr (.inr (.inl (some (77))))), some (.inl x), some (.inl l), some (.inl y), some (.inl w)]) (st' := [.inl (1), .inl w]) (h' := h43) rfl ?_
            refine wq_k2 (p' := 63) (ck_190 _ _ rfl) rfl ⟨by omega, by omega⟩ ⟨by omega, by omega⟩ (fun c63 => ?_) (fun c64 => ?_)
            · have c63 : w ≠ (1) := c63
              refine av_wp_sqF ck_190 2 (pc' := 73) (lv' := [some (.inr (.inr (.inl (some (77))))), some (.inl x), some (.inl l), some (.inl y), some (.inl w)]) (st' := [.inl (2), .inl w]) (h' := h43) rfl ?_
              refine wq_k2 (p' := 76) (ck_190 _ _ rfl) rfl ⟨by omega, by omega⟩ ⟨by omega, by omega⟩ (fun c65 => ?_) (fun c66 => ?_)
              · have c65 : w ≠ (2) := c65
                refine av_wp_sqF ck_190 4 (pc' := 89) (lv' := [some (.inr (.inr (.inl (some (77))))), some (.inl x), some (.inl l), some (.inl y), some (.inl w)]) (st' := [.inl (w - (10)), .inr (.inr (.inl (some (77))))]) (h' := h43) rfl ?_
                refine wq_cv (p' := 92) (av_qc (.invokevirtual 449) 183 1 0 8) 3 cd_183 [.inl (w - (10))] (77) 8 [some (.inr (.inr (.inl (some (77))))), some (.inl (w - (10))), none] (ck_190 _ _ rfl) rfl rfl pp_183 rfl rfl rfl (congrArg Prod.fst (ly_k I44.1.1.1 77 rfl)) rfl rfl rfl rfl ?_
                refine ct_183 I44 F45 ((w - (10))) (by omega) (fun v67 => ?_)
                show av_wp _ cd_190 92 [some (.inr (.inr (.inl (some (77))))), some (.inl x), some (.inl l), some (.inl y), some (.inl w)] [.inl v67] h43 _
                refine av_wp_ret (v := some (.inl v67)) (ck_190 _ _ rfl) rfl rfl ?_
                exact hq _ _ _ _ h43 I44 F45
              · have c66 : w = (2) := c66
                refine av_wp_sqF ck_190 1 (pc' := 77) (lv' := [some (.inr (.inr (.inl (some (77))))), some (.inl x), some (.inl l), some (.inl y), some (.inl w)]) (st' := [.inr (.inr (.inl (some (77))))]) (h' := h43) rfl ?_
                obtain ⟨v69, e70⟩ : ∃ v, hF h43 77 53 = v := ⟨_, rfl⟩
                refine wq_gi (p' := 80) (ck_190 _ _ rfl) rfl (congrArg Prod.fst (ly_k I44.1.1.1 77 rfl)) rfl (e70) ?_
                refine av_wp_sqF ck_190 1 (pc' := 92) (lv' := [some (.inr (.inr (.inl (some (77))))), some (.inl x), some (.inl l), some (.inl y), some (.inl w)]) (st' := [.inl v69]) (h' := h43) rfl ?_
                refine av_wp_ret (v := some (.inl v69)) (ck_190 _ _ rfl) rfl rfl ?_
                exact hq _ _ _ _ h43 I44 F45
            · have c64 : w = (1) := c64
              refine av_wp_sqF ck_190 1 (pc' := 64) (lv' := [some (.inr (.inr (.inl (some (77))))), some (.inl x), some (.inl l), some (.inl y), some (.inl w)]) (st' := [.inr (.inr (.inl (some (77))))]) (h' := h43) rfl ?_
              obtain ⟨v71, e72⟩ : ∃ v, hF h43 77 52 = v := ⟨_, rfl⟩
              have g73 := im_of I44.1.1
              rw [e72] at g73
              refine wq_gi (p' := 67) (ck_190 _ _ rfl) rfl (congrArg Prod.fst (ly_k I44.1.1.1 77 rfl)) rfl (e72) ?_
              refine av_wp_sqF ck_190 1 (pc' := 92) (lv' := [some (.inr (.inr (.inl (some (77))))), some (.inl x), some (.inl l), some (.inl y), some (.inl w)]) (st' := [.inl v71]) (h' := h43) rfl ?_
              refine av_wp_ret (v := some (.inl v71)) (ck_190 _ _ rfl) rfl rfl ?_
              exact hq _ _ _ _ h43 I44 F45
          · have c62 : w = (0) := c62
            refine av_wp_sqF ck_190 1 (pc' := 51) (lv' := [some (.inr (.inr (.inl (some (77))))), some (.inl x), some (.inl l), some (.inl y), some (.inl w)]) (st' := [.inr (.inr (.inl (some (77))))]) (h' := h43) rfl ?_
            obtain ⟨v74, e75⟩ : ∃ v, hF h43 77 51 = v := ⟨_, rfl⟩
            have g76 := im_by I44.1.1
            rw [e75] at g76
            refine wq_gi (p' := 54) (ck_190 _ _ rfl) rfl (congrArg Prod.fst (ly_k I44.1.1.1 77 rfl)) rfl (e75) ?_
            refine av_wp_sqF ck_190 1 (pc' := 92) (lv' := [some (.inr (.inr (.inl (some (77))))), some (.inl x), some (.inl l), some (.inl y), some (.inl w)]) (st' := [.inl v74]) (h' := h43) rfl ?_
            refine av_wp_ret (v := some (.inl v74)) (ck_190 _ _ rfl) rfl rfl ?_
            exact hq _ _ _ _ h43 I44 F45
        · have c60 : v56 = (0) := c60
          refine av_wp_sqF ck_190 1 (pc' := 44) (lv' := [some (.inr (.inr (.inl (some (77))))), some (.inl x), some (.inl l), some (.inl y), some (.inl w)]) (st' := [.inl (-2)]) (h' := h43) rfl ?_
          refine av_wp_ret (v := some (.inl (-2))) (ck_190 _ _ rfl) rfl rfl ?_
          exact hq _ _ _ _ h43 I44 F45

