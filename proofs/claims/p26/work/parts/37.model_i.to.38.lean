section
set_option maxRecDepth 100000 in
set_option maxHeartbeats 4000000 in
theorem ct_206 {g h : av_H} {n a m : Int} (I : IMF n a m h) (F : FM g h) (x : Int) (y : Int) {Q : Option av_V → av_H → Prop} (hq : ∀ v : Int, Q (some (.inl v)) h) : av_wp none cd_206 0 [some (.inr (.inr (.inl (some (77))))), some (.inl x), some (.inl y), none, none] [] h Q := by
  have gn := im_n I.1.1
  rw [I.2.1] at gn
  have ga := im_a I.1.1
  rw [I.2.2.1] at ga
  have gm := im_cm I.1.1
  rw [I.2.2.2] at gm
  refine av_wp_sqF ck_206 1 (pc' := 1) (lv' := [some (.inr (.inr (.inl (some (77))))), some (.inl x), some (.inl y), none, none]) (st' := [.inr (.inr (.inl (some (77))))]) (h' := h) rfl ?_
  obtain ⟨v1, e2⟩ : ∃ v, hF h 77 50 = v := ⟨_, rfl⟩
  have g3 := im_has I.1.1
  rw [e2] at g3
  refine wq_gb (p' := 4) (ck_206 _ _ rfl) rfl (congrArg Prod.fst (ly_k I.1.1.1 77 rfl)) rfl (e2) ?_
  refine wq_k1 (p' := 7) (ck_206 _ _ rfl) rfl ⟨by omega, by omega⟩ (fun c4 => ?_) (fun c5 => ?_)
  · have c4 : v1 = (0) := c4
    refine av_wp_sqF ck_206 4 (pc' := 22) (lv' := [some (.inr (.inr (.inl (some (77))))), some (.inl x), some (.inl y), some (.inl (0)), some (.inl (0))]) (st' := []) (h' := h) rfl ?_
    have L9 : ∀ (m8 : Nat) (k6 : Int) (k7 : Int), (0 ≤ k7 ∧ k7 ≤ 12) → (12 - k7).toNat = m8 → av_wp none cd_206 22 [some (.inr (.inr (.inl (some (77))))), some (.inl x), some (.inl y), some (.inl k6), some (.inl k7)] [] h Q := by
      intro m8
      induction m8 using Nat.strongRecOn with
      | _ m8 I10 =>
        intro k6 k7 g12 e11
        refine av_wp_sqF ck_206 2 (pc' := 25) (lv' := [some (.inr (.inr (.inl (some (77))))), some (.inl x), some (.inl y), some (.inl k6), some (.inl k7)]) (st' := [.inr (.inr (.inl (some (77)))), .inl k7]) (h' := h) rfl ?_
        refine wq_gi (p' := 28) (ck_206 _ _ rfl) rfl (congrArg Prod.fst (ly_k I.1.1.1 77 rfl)) rfl (I.2.1) ?_
        refine wq_k2 (p' := 31) (ck_206 _ _ rfl) rfl ⟨by omega, by omega⟩ ⟨by omega, by omega⟩ (fun c13 => ?_) (fun c14 => ?_)
        · have c13 : n ≤ k7 := c13
          refine av_wp_sqF ck_206 1 (pc' := 142) (lv' := [some (.inr (.inr (.inl (some (77))))), some (.inl x), some (.inl y), some (.inl k6), some (.inl k7)]) (st' := [.inl k6]) (h' := h) rfl ?_
          refine av_wp_ret (v := some (.inl k6)) (ck_206 _ _ rfl) rfl rfl ?_
          exact hq _
        · have c14 : k7 < n := c14
          refine av_wp_sqF ck_206 2 (pc' := 34) (lv' := [some (.inr (.inr (.inl (some (77))))), some (.inl x), some (.inl y), some (.inl k6), some (.inl k7)]) (st' := [.inl k7, .inr (.inr (.inl (some (77))))]) (h' := h) rfl ?_
          refine wq_cv (p' := 37) (av_qc (.invokevirtual 369) 168 1 0 8) 2 cd_168 [.inl k7] (77) 8 [some (.inr (.inr (.inl (some (77))))), some (.inl k7)] (ck_206 _ _ rfl) rfl rfl pp_168 rfl rfl rfl (congrArg Prod.fst (ly_k I.1.1.1 77 rfl)) rfl rfl rfl rfl ?_
          refine ct_168 I F (k7) (by omega) (fun v15 p16 => ?_)
          show av_wp _ cd_206 37 [some (.inr (.inr (.inl (some (77))))), some (.inl x), some (.inl y), some (.inl k6), some (.inl k7)] [.inl v15] h _
          have J18 : ∀ (j17 : Int),  av_wp none cd_206 135 [some (.inr (.inr (.inl (some (77))))), some (.inl x), some (.inl y), some (.inl j17), some (.inl k7)] [] h Q := by
            intro j17
            refine av_wp_sqF ck_206 2 (pc' := 22) (lv' := [some (.inr (.inr (.inl (some (77))))), some (.inl x), some (.inl y), some (.inl j17), some (.inl (k7 + (1)))]) (st' := []) (h' := h) rfl ?_
            exact I10 _ (by omega) (j17) ((k7 + (1))) (by omega) rfl
          refine wq_k1 (p' := 40) (ck_206 _ _ rfl) rfl ⟨by omega, by omega⟩ (fun c19 => ?_) (fun c20 => ?_)
          · have c19 : v15 = (0) := c19
            exact J18 (k6)
          · have c20 : v15 ≠ (0) := c20
            refine av_wp_sqF ck_206 3 (pc' := 44) (lv' := [some (.inr (.inr (.inl (some (77))))), some (.inl x), some (.inl y), some (.inl k6), some (.inl k7)]) (st' := [.inl y, .inl k7, .inr (.inr (.inl (some (77))))]) (h' := h) rfl ?_
            refine wq_cv (p' := 47) (av_qc (.invokevirtual 403) 175 2 0 8) 3 cd_175 [.inl y, .inl k7] (77) 8 [some (.inr (.inr (.inl (some (77))))), some (.inl k7), some (.inl y)] (ck_206 _ _ rfl) rfl rfl pp_175 rfl rfl rfl (congrArg Prod.fst (ly_k I.1.1.1 77 rfl)) rfl rfl rfl rfl ?_
            refine ct_175 I F (k7) (by omega) (y) (fun v21 p22 => ?_)
            show av_wp _ cd_206 47 [some (.inr (.inr (.inl (some (77))))), some (.inl x), some (.inl y), some (.inl k6), some (.inl k7)] [.inl v21] h _
            refine wq_k1 (p' := 50) (ck_206 _ _ rfl) rfl ⟨by omega, by omega⟩ (fun c23 => ?_) (fun c24 => ?_)
            · have c23 : v21 ≠ (0) := c23
              refine av_wp_sqF ck_206 1 (pc' := 54) (lv' := [some (.inr (.inr (.inl (some (77))))), some (.inl x), some (.inl y), some (.inl k6), some (.inl k7)]) (st' := [.inr (.inr (.inl (some (77))))]) (h' := h) rfl ?_
              refine wq_gr (p' := 57) (ck_206 _ _ rfl) rfl (congrArg Prod.fst (ly_k I.1.1.1 77 rfl)) rfl (ly_g I.1.1.1 77 35 101 rfl) ?_
              refine av_wp_sqF ck_206 1 (pc' := 59) (lv' := [some (.inr (.inr (.inl (some (77))))), some (.inl x), some (.inl y), some (.inl k6), some (.inl k7)]) (st' := [.inl k7, .inr (.inr (.inl (some (101))))]) (h' := h) rfl ?_
              obtain ⟨v25, e26⟩ : ∃ v, hA h 101 (Int.toNat (k7)) = v := ⟨_, rfl⟩
              have g27 : 0 ≤ hA h 101 (Int.toNat (k7)) ∧ hA h 101 (Int.toNat (k7)) ≤ 2 := im_w I.1.1 101 (by decide) (by decide) _
              rw [e26] at g27
              refine wq_al (p' := 60) (n := 12) (ck_206 _ _ rfl) rfl (ly_k I.1.1.1 101 rfl) (by omega) (e26) ?_
              refine av_wp_sqF ck_206 1 (pc' := 61) (lv' := [some (.inr (.inr (.inl (some (77))))), some (.inl x), some (.inl y), some (.inl k6), some (.inl k7)]) (st' := [.inl x, .inl v25]) (h' := h) rfl ?_
              have J29 : ∀ (j28 : Int),  av_wp none cd_206 99 [some (.inr (.inr (.inl (some (77))))), some (.inl x), some (.inl y), some (.inl j28), some (.inl k7)] [] h Q := by
                intro j28
                refine av_wp_sqF ck_206 1 (pc' := 100) (lv' := [some (.inr (.inr (.inl (some (77))))), some (.inl x), some (.inl y), some (.inl j28), some (.inl k7)]) (st' := [.inr (.inr (.inl (some (77))))]) (h' := h) rfl ?_
                refine wq_gr (p' := 103) (ck_206 _ _ rfl) rfl (congrArg Prod.fst (ly_k I.1.1.1 77 rfl)) rfl (ly_g I.1.1.1 77 36 102 rfl) ?_
                refine av_wp_sqF ck_206 1 (pc' := 105) (lv' := [some (.inr (.inr (.inl (some (77))))), some (.inl x), some (.inl y), some (.inl j28), some (.inl k7)]) (st' := [.inl k7, .inr (.inr (.inl (some (102))))]) (h' := h) rfl ?_
                obtain ⟨v30, e31⟩ : ∃ v, hA h 102 (Int.toNat (k7)) = v := ⟨_, rfl⟩
                have g32 : -1 ≤ hA h 102 (Int.toNat (k7)) ∧ hA h 102 (Int.toNat (k7)) ≤ 2 := im_w I.1.1 102 (by decide) (by decide) _
                rw [e31] at g32
                refine wq_al (p' := 106) (n := 12) (ck_206 _ _ rfl) rfl (ly_k I.1.1.1 102 rfl) (by omega) (e31) ?_
                refine av_wp_sqF ck_206 1 (pc' := 107) (lv' := [some (.inr (.inr (.inl (some (77))))), some (.inl x), some (.inl y), some (.inl j28), some (.inl k7)]) (st' := [.inl x, .inl v30]) (h' := h) rfl ?_
                refine wq_c2 (p' := 110) (ck_206 _ _ rfl) rfl ?_ ?_
                · exact J18 (j28)
                · refine av_wp_sqF ck_206 1 (pc' := 111) (lv' := [some (.inr (.inr (.inl (some (77))))), some (.inl x), some (.inl y), some (.inl j28), some (.inl k7)]) (st' := [.inr (.inr (.inl (some (77))))]) (h' := h) rfl ?_
                  refine wq_gr (p' := 114) (ck_206 _ _ rfl) rfl (congrArg Prod.fst (ly_k I.1.1.1 77 rfl)) rfl (ly_g I.1.1.1 77 44 110 rfl) ?_
                  refine av_wp_sqF ck_206 1 (pc' := 116) (lv' := [some (.inr (.inr (.inl (some (77))))), some (.inl x), some (.inl y), some (.inl j28), some (.inl k7)]) (st' := [.inl k7, .inr (.inr (.inl (some (110))))]) (h' := h) rfl ?_
                  obtain ⟨v33, e34⟩ : ∃ v, hA h 110 (Int.toNat (k7)) = v := ⟨_, rfl⟩
                  refine wq_al (p' := 117) (n := 12) (ck_206 _ _ rfl) rfl (ly_k I.1.1.1 110 rfl) (by omega) (e34) ?_
                  refine wq_c1 (p' := 120) (ck_206 _ _ rfl) rfl ?_ ?_
                  · exact J18 (j28)
                  · refine av_wp_sqF ck_206 1 (pc' := 121) (lv' := [some (.inr (.inr (.inl (some (77))))), some (.inl x), some (.inl y), some (.inl j28), some (.inl k7)]) (st' := [.inr (.inr (.inl (some (77))))]) (h' := h) rfl ?_
                    refine wq_gr (p' := 124) (ck_206 _ _ rfl) rfl (congrArg Prod.fst (ly_k I.1.1.1 77 rfl)) rfl (ly_g I.1.1.1 77 44 110 rfl) ?_
                    refine av_wp_sqF ck_206 1 (pc' := 126) (lv' := [some (.inr (.inr (.inl (some (77))))), some (.inl x), some (.inl y), some (.inl j28), some (.inl k7)]) (st' := [.inl k7, .inr (.inr (.inl (some (110))))]) (h' := h) rfl ?_
                    obtain ⟨v36, e37⟩ : ∃ v, hA h 110 (Int.toNat (k7)) = v := ⟨_, rfl⟩
                    refine wq_al (p' := 127) (n := 12) (ck_206 _ _ rfl) rfl (ly_k I.1.1.1 110 rfl) (by omega) (e37) ?_
                    refine av_wp_sqF ck_206 1 (pc' := 128) (lv' := [some (.inr (.inr (.inl (some (77))))), some (.inl x), some (.inl y), some (.inl j28), some (.inl k7)]) (st' := [.inl y, .inl v36]) (h' := h) rfl ?_
                    refine wq_c2 (p' := 131) (ck_206 _ _ rfl) rfl ?_ ?_
                    · exact J18 (j28)
                    · refine av_wp_sqF ck_206 4 (pc' := 135) (lv' := [some (.inr (.inr (.inl (some (77))))), some (.inl x), some (.inl y), some (.inl (av_or j28 (2))), some (.inl k7)]) (st' := []) (h' := h) rfl ?_
                      exact J18 ((av_or j28 (2)))
              refine wq_c2 (p' := 64) (ck_206 _ _ rfl) rfl ?_ ?_
              · exact J29 (k6)
              · refine av_wp_sqF ck_206 1 (pc' := 65) (lv' := [some (.inr (.inr (.inl (some (77))))), some (.inl x), some (.inl y), some (.inl k6), some (.inl k7)]) (st' := [.inr (.inr (.inl (some (77))))]) (h' := h) rfl ?_
                refine wq_gr (p' := 68) (ck_206 _ _ rfl) rfl (congrArg Prod.fst (ly_k I.1.1.1 77 rfl)) rfl (ly_g I.1.1.1 77 33 99 rfl) ?_
                refine av_wp_sqF ck_206 1 (pc' := 70) (lv' := [some (.inr (.inr (.inl (some (77))))), some (.inl x), some (.inl y), some (.inl k6), some (.inl k7)]) (st' := [.inl k7, .inr (.inr (.inl (some (99))))]) (h' := h) rfl ?_
                obtain ⟨v39, e40⟩ : ∃ v, hA h 99 (Int.toNat (k7)) = v := ⟨_, rfl⟩
                have g41 : -1 ≤ hA h 99 (Int.toNat (k7)) ∧ hA h 99 (Int.toNat (k7)) ≤ 1999 := im_w I.1.1 99 (by decide) (by decide) _
                rw [e40] at g41
                refine wq_al (p' := 71) (n := 12) (ck_206 _ _ rfl) rfl (ly_k I.1.1.1 99 rfl) (by omega) (e40) ?_
                refine wq_k1 (p' := 74) (ck_206 _ _ rfl) rfl ⟨by omega, by omega⟩ (fun c42 => ?_) (fun c43 => ?_)
                · have c42 : v39 < (0) := c42
                  refine av_wp_sqF ck_206 4 (pc' := 99) (lv' := [some (.inr (.inr (.inl (some (77))))), some (.inl x), some (.inl y), some (.inl (av_or k6 (1))), some (.inl k7)]) (st' := []) (h' := h) rfl ?_
                  exact J29 ((av_or k6 (1)))
                · have c43 : (0) ≤ v39 := c43
                  refine av_wp_sqF ck_206 1 (pc' := 75) (lv' := [some (.inr (.inr (.inl (some (77))))), some (.inl x), some (.inl y), some (.inl k6), some (.inl k7)]) (st' := [.inr (.inr (.inl (some (77))))]) (h' := h) rfl ?_
                  refine wq_gr (p' := 78) (ck_206 _ _ rfl) rfl (congrArg Prod.fst (ly_k I.1.1.1 77 rfl)) rfl (ly_g I.1.1.1 77 26 95 rfl) ?_
                  refine av_wp_sqF ck_206 1 (pc' := 80) (lv' := [some (.inr (.inr (.inl (some (77))))), some (.inl x), some (.inl y), some (.inl k6), some (.inl k7)]) (st' := [.inl (6), .inr (.inr (.inl (some (95))))]) (h' := h) rfl ?_
                  obtain ⟨v44, e45⟩ : ∃ v, hA h 95 (Int.toNat ((6))) = v := ⟨_, rfl⟩
                  refine wq_al (p' := 81) (n := 13) (ck_206 _ _ rfl) rfl (ly_k I.1.1.1 95 rfl) (by omega) (e45) ?_
                  refine wq_c1 (p' := 84) (ck_206 _ _ rfl) rfl ?_ ?_
                  · refine av_wp_sqF ck_206 4 (pc' := 99) (lv' := [some (.inr (.inr (.inl (some (77))))), some (.inl x), some (.inl y), some (.inl (av_or k6 (1))), some (.inl k7)]) (st' := []) (h' := h) rfl ?_
                    exact J29 ((av_or k6 (1)))
                  · refine av_wp_sqF ck_206 2 (pc' := 86) (lv' := [some (.inr (.inr (.inl (some (77))))), some (.inl x), some (.inl y), some (.inl k6), some (.inl k7)]) (st' := [.inr (.inr (.inl (some (77)))), .inl y]) (h' := h) rfl ?_
                    refine wq_gr (p' := 89) (ck_206 _ _ rfl) rfl (congrArg Prod.fst (ly_k I.1.1.1 77 rfl)) rfl (ly_g I.1.1.1 77 33 99 rfl) ?_
                    refine av_wp_sqF ck_206 1 (pc' := 91) (lv' := [some (.inr (.inr (.inl (some (77))))), some (.inl x), some (.inl y), some (.inl k6), some (.inl k7)]) (st' := [.inl k7, .inr (.inr (.inl (some (99)))), .inl y]) (h' := h) rfl ?_
                    obtain ⟨v47, e48⟩ : ∃ v, hA h 99 (Int.toNat (k7)) = v := ⟨_, rfl⟩
                    have g49 : -1 ≤ hA h 99 (Int.toNat (k7)) ∧ hA h 99 (Int.toNat (k7)) ≤ 1999 := im_w I.1.1 99 (by decide) (by decide) _
                    rw [e48] at g49
                    refine wq_al (p' := 92) (n := 12) (ck_206 _ _ rfl) rfl (ly_k I.1.1.1 99 rfl) (by omega) (e48) ?_
                    refine wq_c2 (p' := 95) (ck_206 _ _ rfl) rfl ?_ ?_
                    · exact J29 (k6)
                    · refine av_wp_sqF ck_206 4 (pc' := 99) (lv' := [some (.inr (.inr (.inl (some (77))))), some (.inl x), some (.inl y), some (.inl (av_or k6 (1))), some (.inl k7)]) (st' := []) (h' := h) rfl ?_
                      exact J29 ((av_or k6 (1)))
            · have c24 : v21 = (0) := c24
              refine av_wp_sqF ck_206 1 (pc' := 135) (lv' := [some (.inr (.inr (.inl (some (77))))), some (.inl x), some (.inl y), some (.inl k6), some (.inl k7)]) (st' := []) (h' := h) rfl ?_
              exact J18 (k6)
    exact L9 _ ((0)) ((0)) (by omega) rfl
  · have c5 : v1 ≠ (0) := c5
    refine av_wp_sqF ck_206 2 (pc' := 9) (lv' := [some (.inr (.inr (.inl (some (77))))), some (.inl x), some (.inl y), none, none]) (st' := [.inr (.inr (.inl (some (77)))), .inl y]) (h' := h) rfl ?_
    obtain ⟨v50, e51⟩ : ∃ v, hF h 77 53 = v := ⟨_, rfl⟩
    refine wq_gi (p' := 12) (ck_206 _ _ rfl) rfl (congrArg Prod.fst (ly_k I.1.1.1 77 rfl)) rfl (e51) ?_
    refine wq_c2 (p' := 15) (ck_206 _ _ rfl) rfl ?_ ?_
    · refine av_wp_sqF ck_206 4 (pc' := 22) (lv' := [some (.inr (.inr (.inl (some (77))))), some (.inl x), some (.inl y), some (.inl (0)), some (.inl (0))]) (st' := []) (h' := h) rfl ?_
      have L55 : ∀ (m54 : Nat) (k52 : Int) (k53 : Int), (0 ≤ k53 ∧ k53 ≤ 12) → (12 - k53).toNat = m54 → av_wp none cd_206 22 [some (.inr (.inr (.inl (some (77))))), some (.inl x), some (.inl y), some (.inl k52), some (.inl k53)] [] h Q := by
        intro m54
        induction m54 using Nat.strongRecOn with
        | _ m54 I56 =>
          intro k52 k53 g58 e57
          refine av_wp_sqF ck_206 2 (pc' := 25) (lv' := [some (.inr (.inr (.inl (some (77))))), some (.inl x), some (.inl y), some (.inl k52), some (.inl k53)]) (st' := [.inr (.inr (.inl (some (77)))), .inl k53]) (h' := h) rfl ?_
          refine wq_gi (p' := 28) (ck_206 _ _ rfl) rfl (congrArg Prod.fst (ly_k I.1.1.1 77 rfl)) rfl (I.2.1) ?_
          refine wq_k2 (p' := 31) (ck_206 _ _ rfl) rfl ⟨by omega, by omega⟩ ⟨by omega, by omega⟩ (fun c59 => ?_) (fun c60 => ?_)
          · have c59 : n ≤ k53 := c59
            refine av_wp_sqF ck_206 1 (pc' := 142) (lv' := [some (.inr (.inr (.inl (some (77))))), some (.inl x), some (.inl y), some (.inl k52), some (.inl k53)]) (st' := [.inl k52]) (h' := h) rfl ?_
            refine av_wp_ret (v := some (.inl k52)) (ck_206 _ _ rfl) rfl rfl ?_
            exact hq _
          · have c60 : k53 < n := c60
            refine av_wp_sqF ck_206 2 (pc' := 34) (lv' := [some (.inr (.inr (.inl (some (77))))), some (.inl x), some (.inl y), some (.inl k52), some (.inl k53)]) (st' := [.inl k53, .inr (.inr (.inl (some (77))))]) (h' := h) rfl ?_
            refine wq_cv (p' := 37) (av_qc (.invokevirtual 369) 168 1 0 8) 2 cd_168 [.inl k53] (77) 8 [some (.inr (.inr (.inl (some (77))))), some (.inl k53)] (ck_206 _ _ rfl) rfl rfl pp_168 rfl rfl rfl (congrArg Prod.fst (ly_k I.1.1.1 77 rfl)) rfl rfl rfl rfl ?_
            refine ct_168 I F (k53) (by omega) (fun v61 p62 => ?_)
            show av_wp _ cd_206 37 [some (.inr (.inr (.inl (some (77))))), some (.inl x), some (.inl y), some (.inl k52), some (.inl k53)] [.inl v61] h _
            have J64 : ∀ (j63 : Int),  av_wp none cd_206 135 [some (.inr (.inr (.inl (some (77))))), some (.inl x), some (.inl y), some (.inl j63), some (.inl k53)] [] h Q := by
              intro j63
              refine av_wp_sqF ck_206 2 (pc' := 22) (lv' := [some (.inr (.inr (.inl (some (77))))), some (.inl x), some (.inl y), some (.inl j63), some (.inl (k53 + (1)))]) (st' := []) (h' := h) rfl ?_
              exact I56 _ (by omega) (j63) ((k53 + (1))) (by omega) rfl
            refine wq_k1 (p' := 40) (ck_206 _ _ rfl) rfl ⟨by omega, by omega⟩ (fun c65 => ?_) (fun c66 => ?_)
            · have c65 : v61 = (0) := c65
              exact J64 (k52)
            · have c66 : v61 ≠ (0) := c66
              refine av_wp_sqF ck_206 3 (pc' := 44) (lv' := [some (.inr (.inr (.inl (some (77))))), some (.inl x), some (.inl y), some (.inl k52), some (.inl k53)]) (st' := [.inl y, .inl k53, .inr (.inr (.inl (some (77))))]) (h' := h) rfl ?_
              refine wq_cv (p' := 47) (av_qc (.invokevirtual 403) 175 2 0 8) 3 cd_175 [.inl y, .inl k53] (77) 8 [some (.inr (.inr (.inl (some (77))))), some (.inl k53), some (.inl y)] (ck_206 _ _ rfl) rfl rfl pp_175 rfl rfl rfl (congrArg Prod.fst (ly_k I.1.1.1 77 rfl)) rfl rfl rfl rfl ?_
              refine ct_175 I F (k53) (by omega) (y) (fun v67 p68 => ?_)
              show av_wp _ cd_206 47 [some (.inr (.inr (.inl (some (77))))), some (.inl x), some (.inl y), some (.inl k52), some (.inl k53)] [.inl v67] h _
              refine wq_k1 (p' := 50) (ck_206 _ _ rfl) rfl ⟨by omega, by omega⟩ (fun c69 => ?_) (fun c70 => ?_)
              · have c69 : v67 ≠ (0) := c69
                refine av_wp_sqF ck_206 1 (pc' := 54) (lv' := [some (.inr (.inr (.inl (some (77))))), some (.inl x), some (.inl y), some (.inl k52), some (.inl k53)]) (st' := [.inr (.inr (.inl (some (77))))]) (h' := h) rfl ?_
                refine wq_gr (p' := 57) (ck_206 _ _ rfl) rfl (congrArg Prod.fst (ly_k I.1.1.1 77 rfl)) rfl (ly_g I.1.1.1 77 35 101 rfl) ?_
                refine av_wp_sqF ck_206 1 (pc' := 59) (lv' := [some (.inr (.inr (.inl (some (77))))), some (.inl x), some (.inl y), some (.inl k52), some (.inl k53)]) (st' := [.inl k53, .inr (.inr (.inl (some (101))))]) (h' := h) rfl ?_
                obtain ⟨v71, e72⟩ : ∃ v, hA h 101 (Int.toNat (k53)) = v := ⟨_, rfl⟩
                have g73 : 0 ≤ hA h 101 (Int.toNat (k53)) ∧ hA h 101 (Int.toNat (k53)) ≤ 2 := im_w I.1.1 101 (by decide) (by decide) _
                rw [e72] at g73
                refine wq_al (p' := 60) (n := 12) (ck_206 _ _ rfl) rfl (ly_k I.1.1.1 101 rfl) (by omega) (e72) ?_
                refine av_wp_sqF ck_206 1 (pc' := 61) (lv' := [some (.inr (.inr (.inl (some (77))))), some (.inl x), some (.inl y), some (.inl k52), some (.inl k53)]) (st' := [.inl x, .inl v71]) (h' := h) rfl ?_
                have J75 : ∀ (j74 : Int),  av_wp none cd_206 99 [some (.inr (.inr (.inl (some (77))))), some (.inl x), some (.inl y), some (.inl j74), some (.inl k53)] [] h Q := by
                  intro j74
                  refine av_wp_sqF ck_206 1 (pc' := 100) (lv' := [some (.inr (.inr (.inl (some (77))))), some (.inl x), some (.inl y), some (.inl j74), some (.inl k53)]) (st' := [.inr (.inr (.inl (some (77))))]) (h' := h) rfl ?_
                  refine wq_gr (p' := 103) (ck_206 _ _ rfl) rfl (congrArg Prod.fst (ly_k I.1.1.1 77 rfl)) rfl (ly_g I.1.1.1 77 36 102 rfl) ?_
                  refine av_wp_sqF ck_206 1 (pc' := 105) (lv' := [some (.inr (.inr (.inl (some (77))))), some (.inl x), some (.inl y), some (.inl j74), some (.inl k53)]) (st' := [.inl k53, .inr (.inr (.inl (some (102))))]) (h' := h) rfl ?_
                  obtain ⟨v76, e77⟩ : ∃ v, hA h 102 (Int.toNat (k53)) = v := ⟨_, rfl⟩
                  have g78 : -1 ≤ hA h 102 (Int.toNat (k53)) ∧ hA h 102 (Int.toNat (k53)) ≤ 2 := im_w I.1.1 102 (by decide) (by decide) _
                  rw [e77] at g78
                  refine wq_al (p' := 106) (n := 12) (ck_206 _ _ rfl) rfl (ly_k I.1.1.1 102 rfl) (by omega) (e77) ?_
                  refine av_wp_sqF ck_206 1 (pc' := 107) (lv' := [some (.inr (.inr (.inl (some (77))))), some (.inl x), some (.inl y), some (.inl j74), some (.inl k53)]) (st' := [.inl x, .inl v76]) (h' := h) rfl ?_
                  refine wq_c2 (p' := 110) (ck_206 _ _ rfl) rfl ?_ ?_
                  · exact J64 (j74)
                  · refine av_wp_sqF ck_206 1 (pc' := 111) (lv' := [some (.inr (.inr (.inl (some (77))))), some (.inl x), some (.inl y), some (.inl j74), some (.inl k53)]) (st' := [.inr (.inr (.inl (some (77))))]) (h' := h) rfl ?_
                    refine wq_gr (p' := 114) (ck_206 _ _ rfl) rfl (congrArg Prod.fst (ly_k I.1.1.1 77 rfl)) rfl (ly_g I.1.1.1 77 44 110 rfl) ?_
                    refine av_wp_sqF ck_206 1 (pc' := 116) (lv' := [some (.inr (.inr (.inl (some (77))))), some (.inl x), some (.inl y), some (.inl j74), some (.inl k53)]) (st' := [.inl k53, .inr (.inr (.inl (some (110))))]) (h' := h) rfl ?_
                    obtain ⟨v79, e80⟩ : ∃ v, hA h 110 (Int.toNat (k53)) = v := ⟨_, rfl⟩
                    refine wq_al (p' := 117) (n := 12) (ck_206 _ _ rfl) rfl (ly_k I.1.1.1 110 rfl) (by omega) (e80) ?_
                    refine wq_c1 (p' := 120) (ck_206 _ _ rfl) rfl ?_ ?_
                    · exact J64 (j74)
                    · refine av_wp_sqF ck_206 1 (pc' := 121) (lv' := [some (.inr (.inr (.inl (some (77))))), some (.inl x), some (.inl y), some (.inl j74), some (.inl k53)]) (st' := [.inr (.inr (.inl (some (77))))]) (h' := h) rfl ?_
                      refine wq_gr (p' := 124) (ck_206 _ _ rfl) rfl (congrArg Prod.fst (ly_k I.1.1.1 77 rfl)) rfl (ly_g I.1.1.1 77 44 110 rfl) ?_
                      refine av_wp_sqF ck_206 1 (pc' := 126) (lv' := [some (.inr (.inr (.inl (some (77))))), some (.inl x), some (.inl y), some (.inl j74), some (.inl k53)]) (st' := [.inl k53, .inr (.inr (.inl (some (110))))]) (h' := h) rfl ?_
                      obtain ⟨v82, e83⟩ : ∃ v, hA h 110 (Int.toNat (k53)) = v := ⟨_, rfl⟩
                      refine wq_al (p' := 127) (n := 12) (ck_206 _ _ rfl) rfl (ly_k I.1.1.1 110 rfl) (by omega) (e83) ?_
                      refine av_wp_sqF ck_206 1 (pc' := 128) (lv' := [some (.inr (.inr (.inl (some (77))))), some (.inl x), some (.inl y), some (.inl j74), some (.inl k53)]) (st' := [.inl y, .inl v82]) (h' := h) rfl ?_
                      refine wq_c2 (p' := 131) (ck_206 _ _ rfl) rfl ?_ ?_
                      · exact J64 (j74)
                      · refine av_wp_sqF ck_206 4 (pc' := 135) (lv' := [some (.inr (.inr (.inl (some (77))))), some (.inl x), some (.inl y), some (.inl (av_or j74 (2))), some (.inl k53)]) (st' := []) (h' := h) rfl ?_
                        exact J64 ((av_or j74 (2)))
                refine wq_c2 (p' := 64) (ck_206 _ _ rfl) rfl ?_ ?_
                · exact J75 (k52)
                · refine av_wp_sqF ck_206 1 (pc' := 65) (lv' := [some (.inr (.inr (.inl (some (77))))), some (.inl x), some (.inl y), some (.inl k52), some (.inl k53)]) (st' := [.inr (.inr (.inl (some (77))))]) (h' := h) rfl ?_
                  refine wq_gr (p' := 68) (ck_206 _ _ rfl) rfl (congrArg Prod.fst (ly_k I.1.1.1 77 rfl)) rfl (ly_g I.1.1.1 77 33 99 rfl) ?_
                  refine av_wp_sqF ck_206 1 (pc' := 70) (lv' := [some (.inr (.inr (.inl (some (77))))), some (.inl x), some (.inl y), some (.inl k52), some (.inl k53)]) (st' := [.inl k53, .inr (.inr (.inl (some (99))))]) (h' := h) rfl ?_
                  obtain ⟨v85, e86⟩ : ∃ v, hA h 99 (Int.toNat (k53)) = v := ⟨_, rfl⟩
                  have g87 : -1 ≤ hA h 99 (Int.toNat (k53)) ∧ hA h 99 (Int.toNat (k53)) ≤ 1999 := im_w I.1.1 99 (by decide) (by decide) _
                  rw [e86] at g87
                  refine wq_al (p' := 71) (n := 12) (ck_206 _ _ rfl) rfl (ly_k I.1.1.1 99 rfl) (by omega) (e86) ?_
                  refine wq_k1 (p' := 74) (ck_206 _ _ rfl) rfl ⟨by omega, by omega⟩ (fun c88 => ?_) (fun c89 => ?_)
                  · have c88 : v85 < (0) := c88
                    refine av_wp_sqF ck_206 4 (pc' := 99) (lv' := [some (.inr (.inr (.inl (some (77))))), some (.inl x), some (.inl y), some (.inl (av_or k52 (1))), some (.inl k53)]) (st' := []) (h' := h) rfl ?_
                    exact J75 ((av_or k52 (1)))
                  · have c89 : (0) ≤ v85 := c89
                    refine av_wp_sqF ck_206 1 (pc' := 75) (lv' := [some (.inr (.inr (.inl (some (77))))), some (.inl x), some (.inl y), some (.inl k52), some (.inl k53)]) (st' := [.inr (.inr (.inl (some (77))))]) (h' := h) rfl ?_
                    refine wq_gr (p' := 78) (ck_206 _ _ rfl) rfl (congrArg Prod.fst (ly_k I.1.1.1 77 rfl)) rfl (ly_g I.1.1.1 77 26 95 rfl) ?_
                    refine av_wp_sqF ck_206 1 (pc' := 80) (lv' := [some (.inr (.inr (.inl (some (77))))), some (.inl x), some (.inl y), some (.inl k52), some (.inl k53)]) (st' := [.inl (6), .inr (.inr (.inl (some (95))))]) (h' := h) rfl ?_
                    obtain ⟨v90, e91⟩ : ∃ v, hA h 95 (Int.toNat ((6))) = v := ⟨_, rfl⟩
                    refine wq_al (p' := 81) (n := 13) (ck_206 _ _ rfl) rfl (ly_k I.1.1.1 95 rfl) (by omega) (e91) ?_
                    refine wq_c1 (p' := 84) (ck_206 _ _ rfl) rfl ?_ ?_
                    · refine av_wp_sqF ck_206 4 (pc' := 99) (lv' := [some (.inr (.inr (.inl (some (77))))), some (.inl x), some (.inl y), some (.inl (av_or k52 (1))), some (.inl k53)]) (st' := []) (h' := h) rfl ?_
                      exact J75 ((av_or k52 (1)))
                    · refine av_wp_sqF ck_206 2 (pc' := 86) (lv' := [some (.inr (.inr (.inl (some (77))))), some (.inl x), some (.inl y), some (.inl k52), some (.inl k53)]) (st' := [.inr (.inr (.inl (some (77)))), .inl y]) (h' := h) rfl ?_
                      refine wq_gr (p' := 89) (ck_206 _ _ rfl) rfl (congrArg Prod.fst (ly_k I.1.1.1 77 rfl)) rfl (ly_g I.1.1.1 77 33 99 rfl) ?_
                      refine av_wp_sqF ck_206 1 (pc' := 91) (lv' := [some (.inr (.inr (.inl (some (77))))), some (.inl x), some (.inl y), some (.inl k52), some (.inl k53)]) (st' := [.inl k53, .inr (.inr (.inl (some (99)))), .inl y]) (h' := h) rfl ?_
                      obtain ⟨v93, e94⟩ : ∃ v, hA h 99 (Int.toNat (k53)) = v := ⟨_, rfl⟩
                      have g95 : -1 ≤ hA h 99 (Int.toNat (k53)) ∧ hA h 99 (Int.toNat (k53)) ≤ 1999 := im_w I.1.1 99 (by decide) (by decide) _
                      rw [e94] at g95
                      refine wq_al (p' := 92) (n := 12) (ck_206 _ _ rfl) rfl (ly_k I.1.1.1 99 rfl) (by omega) (e94) ?_
                      refine wq_c2 (p' := 95) (ck_206 _ _ rfl) rfl ?_ ?_
                      · exact J75 (k52)
                      · refine av_wp_sqF ck_206 4 (pc' := 99) (lv' := [some (.inr (.inr (.inl (some (77))))), some (.inl x), some (.inl y), some (.inl (av_or k52 (1))), some (.inl k53)]) (st' := []) (h' := h) rfl ?_
                        exact J75 ((av_or k52 (1)))
              · have c70 : v67 = (0) := c70
                refine av_wp_sqF ck_206 1 (pc' := 135) (lv' := [some (.inr (.inr (.inl (some (77))))), some (.inl x), some (.inl y), some (.inl k52), some (.inl k53)]) (st' := []) (h' := h) rfl ?_
                exact J64 (k52)
      exact L55 _ ((0)) ((0)) (by omega) rfl
    · refine av_wp_sqF ck_206 1 (pc' := 16) (lv' := [some (.inr (.inr (.inl (some (77))))), some (.inl x), some (.inl y), none, none]) (st' := [.inl (0)]) (h' := h) rfl ?_
      refine av_wp_ret (v := some (.inl (0))) (ck_206 _ _ rfl) rfl rfl ?_
      exact hq _

set_option maxRecDepth 100000 in
set_option maxHeartbeats 4000000 in
theorem ct_207 {g h : av_H} {n a m : Int} (I : IMF n a m h) (F : FM g h) (x : Int) (qx : -2147483648 ≤ x ∧ x ≤ 2147483647) (l : Int) (ql : -2147483648 ≤ l ∧ l ≤ 2147483647) (y : Int) (qy : -2147483648 ≤ y ∧ y ≤ 2147483647) (z : Int) (qz : -2147483648 ≤ z ∧ z ≤ 2147483647) (w : Int) (qw : -2147483648 ≤ w ∧ w ≤ 2147483647) {Q : Option av_V → av_H → Prop} (hq : ∀ (v : Int) n' a' m' h', IMF n' a' m' h' → FM g h' → Q (some (.inl v)) h') : av_wp none cd_207 0 [some (.inr (.inr (.inl (some (77))))), some (.inl x), some (.inl l), some (.inl y), some (.inl z), some (.inl w)] [] h Q := by
  have gn := im_n I.1.1
  rw [I.2.1] at gn
  have ga := im_a I.1.1
  rw [I.2.2.1] at ga
  have gm := im_cm I.1.1
  rw [I.2.2.2] at gm
  refine av_wp_sqF ck_207 3 (pc' := 4) (lv' := [some (.inr (.inr (.inl (some (77))))), some (.inl x), some (.inl l), some (.inl y), some (.inl z), some (.inl w)]) (st' := [.inl (2), .inl (0), .inl z]) (h' := h) rfl ?_
  refine wq_cs (p' := 7) (av_qc (.invokestatic 176) 127 3 2 8) 3 cd_127 [.inl z, .inl (0), .inl (2)] [.inl (2), .inl (0), .inl z] [some (.inl z), some (.inl (0)), some (.inl (2))] (ck_207 _ _ rfl) rfl rfl pp_127 (fun _ => rfl) rfl rfl ?_
  refine ct_127 (g := h) (z) (by omega) ((0)) (by omega) ((2)) (by omega) (fun v1 p2 => ?_)
  show av_wp _ cd_207 7 [some (.inr (.inr (.inl (some (77))))), some (.inl x), some (.inl l), some (.inl y), some (.inl z), some (.inl w)] [.inl v1] h _
  refine wq_k1 (p' := 10) (ck_207 _ _ rfl) rfl ⟨by omega, by omega⟩ (fun c3 => ?_) (fun c4 => ?_)
  · have c3 : v1 = (0) := c3
    refine av_wp_sqF ck_207 1 (pc' := 34) (lv' := [some (.inr (.inr (.inl (some (77))))), some (.inl x), some (.inl l), some (.inl y), some (.inl z), some (.inl w)]) (st' := [.inl (-2)]) (h' := h) rfl ?_
    refine av_wp_ret (v := some (.inl (-2))) (ck_207 _ _ rfl) rfl rfl ?_
    exact hq _ _ _ _ h I F
  · have c4 : v1 ≠ (0) := c4
    refine av_wp_sqF ck_207 3 (pc' := 16) (lv' := [some (.inr (.inr (.inl (some (77))))), some (.inl x), some (.inl l), some (.inl y), some (.inl z), some (.inl w)]) (st' := [.inl (9998), .inl (0), .inl w]) (h' := h) rfl ?_
    refine wq_cs (p' := 19) (av_qc (.invokestatic 176) 127 3 2 8) 3 cd_127 [.inl w, .inl (0), .inl (9998)] [.inl (9998), .inl (0), .inl w] [some (.inl w), some (.inl (0)), some (.inl (9998))] (ck_207 _ _ rfl) rfl rfl pp_127 (fun _ => rfl) rfl rfl ?_
    refine ct_127 (g := h) (w) (by omega) ((0)) (by omega) ((9998)) (by omega) (fun v5 p6 => ?_)
    show av_wp _ cd_207 19 [some (.inr (.inr (.inl (some (77))))), some (.inl x), some (.inl l), some (.inl y), some (.inl z), some (.inl w)] [.inl v5] h _
    refine wq_k1 (p' := 22) (ck_207 _ _ rfl) rfl ⟨by omega, by omega⟩ (fun c7 => ?_) (fun c8 => ?_)
    · have c7 : v5 = (0) := c7
      refine av_wp_sqF ck_207 1 (pc' := 34) (lv' := [some (.inr (.inr (.inl (some (77))))), some (.inl x), some (.inl l), some (.inl y), some (.inl z), some (.inl w)]) (st' := [.inl (-2)]) (h' := h) rfl ?_
      refine av_wp_ret (v := some (.inl (-2))) (ck_207 _ _ rfl) rfl rfl ?_
      exact hq _ _ _ _ h I F
    · have c8 : v5 ≠ (0) := c8
      refine av_wp_sqF ck_207 4 (pc' := 26) (lv' := [some (.inr (.inr (.inl (some (77))))), some (.inl x), some (.inl l), some (.inl y), some (.inl z), some (.inl w)]) (st' := [.inl y, .inl l, .inl x, .inr (.inr (.inl (some (77))))]) (h' := h) rfl ?_
      refine wq_cv (p' := 29) (av_qc (.invokevirtual 446) 186 3 0 8) 4 cd_186 [.inl y, .inl l, .inl x] (77) 8 [some (.inr (.inr (.inl (some (77))))), some (.inl x), some (.inl l), some (.inl y)] (ck_207 _ _ rfl) rfl rfl pp_186 rfl rfl rfl (congrArg Prod.fst (ly_k I.1.1.1 77 rfl)) rfl rfl rfl rfl ?_
      refine ct_186 I F (x) (by omega) (l) (by omega) (y) (by omega) (fun n13 a14 m15 h9 I10 F11 => ?_) (fun n13 a14 m15 h9 p12 I10 F11 => ?_)
      · have g16 := im_n I10.1.1
        rw [I10.2.1] at g16
        have g17 := im_a I10.1.1
        rw [I10.2.2.1] at g17
        have g18 := im_cm I10.1.1
        rw [I10.2.2.2] at g18
        show av_wp _ cd_207 29 [some (.inr (.inr (.inl (some (77))))), some (.inl x), some (.inl l), some (.inl y), some (.inl z), some (.inl w)] [.inl (0)] h9 _
        refine av_wp_sqF ck_207 2 (pc' := 34) (lv' := [some (.inr (.inr (.inl (some (77))))), some (.inl x), some (.inl l), some (.inl y), some (.inl z), some (.inl w)]) (st' := [.inl (-2)]) (h' := h9) rfl ?_
        refine av_wp_ret (v := some (.inl (-2))) (ck_207 _ _ rfl) rfl rfl ?_
        exact hq _ _ _ _ h9 I10 F11
      · have g19 := im_n I10.1.1
        rw [I10.2.1] at g19
        have g20 := im_a I10.1.1
        rw [I10.2.2.1] at g20
        have g21 := im_cm I10.1.1
        rw [I10.2.2.2] at g21
        show av_wp _ cd_207 29 [some (.inr (.inr (.inl (some (77))))), some (.inl x), some (.inl l), some (.inl y), some (.inl z), some (.inl w)] [.inl (1)] h9 _
        refine av_wp_sqF ck_207 4 (pc' := 40) (lv' := [some (.inr (.inr (.inl (some (77))))), some (.inl x), some (.inl l), some (.inl y), some (.inl z), some (.inl w)]) (st' := [.inl w, .inl z, .inr (.inr (.inl (some (77))))]) (h' := h9) rfl ?_
        refine wq_cv (p' := 43) (av_qc (.invokevirtual 473) 206 2 0 8) 5 cd_206 [.inl w, .inl z] (77) 8 [some (.inr (.inr (.inl (some (77))))), some (.inl z), some (.inl w), none, none] (ck_207 _ _ rfl) rfl rfl pp_206 rfl rfl rfl (congrArg Prod.fst (ly_k I10.1.1.1 77 rfl)) rfl rfl rfl rfl ?_
        refine ct_206 I10 F11 (z) (w) (fun v22 => ?_)
        show av_wp _ cd_207 43 [some (.inr (.inr (.inl (some (77))))), some (.inl x), some (.inl l), some (.inl y), some (.inl z), some (.inl w)] [.inl v22] h9 _
        refine av_wp_ret (v := some (.inl v22)) (ck_207 _ _ rfl) rfl rfl ?_
        exact hq _ _ _ _ h9 I10 F11

set_option maxRecDepth 100000 in
set_option maxHeartbeats 4000000 in
theorem ct_208 {g h : av_H} {n a m : Int} (I : IMF n a m h) (F : FM g h) (x : Int) (qx : -2147483648 ≤ x ∧ x ≤ 2147483647) (l : Int) (ql : -2147483648 ≤ l ∧ l ≤ 2147483647) (y : Int) (qy : -2147483648 ≤ y ∧ y ≤ 2147483647) (z : Int) (qz : -2147483648 ≤ z ∧ z ≤ 2147483647) (w : Int) (qw : -2147483648 ≤ w ∧ w ≤ 2147483647) {Q : Option av_V → av_H → Prop} (hq : ∀ (v : Int) n' a' m' h', IMF n' a' m' h' → FM g h' → Q (some (.inl v)) h') : av_wp none cd_208 0 [some (.inr (.inr (.inl (some (77))))), some (.inl x), some (.inl l), some (.inl y), some (.inl z), some (.inl w), none] [] h Q := by
  have gn := im_n I.1.1
  rw [I.2.1] at gn
  have ga := im_a I.1.1
  rw [I.2.2.1] at ga
  have gm := im_cm I.1.1
  rw [I.2.2.2] at gm
  refine av_wp_sqF ck_208 3 (pc' := 4) (lv' := [some (.inr (.inr (.inl (some (77))))), some (.inl x), some (.inl l), some (.inl y), some (.inl z), some (.inl w), none]) (st' := [.inl (2), .inl (0), .inl z]) (h' := h) rfl ?_
  refine wq_cs (p' := 7) (av_qc (.invokestatic 176) 127 3 2 8) 3 cd_127 [.inl z, .inl (0), .inl (2)] [.inl (2), .inl (0), .inl z] [some (.inl z), some (.inl (0)), some (.inl (2))] (ck_208 _ _ rfl) rfl rfl pp_127 (fun _ => rfl) rfl rfl ?_
  refine ct_127 (g := h) (z) (by omega) ((0)) (by omega) ((2)) (by omega) (fun v1 p2 => ?_)
  show av_wp _ cd_208 7 [some (.inr (.inr (.inl (some (77))))), some (.inl x), some (.inl l), some (.inl y), some (.inl z), some (.inl w), none] [.inl v1] h _
  refine wq_k1 (p' := 10) (ck_208 _ _ rfl) rfl ⟨by omega, by omega⟩ (fun c3 => ?_) (fun c4 => ?_)
  · have c3 : v1 = (0) := c3
    refine av_wp_sqF ck_208 1 (pc' := 32) (lv' := [some (.inr (.inr (.inl (some (77))))), some (.inl x), some (.inl l), some (.inl y), some (.inl z), some (.inl w), none]) (st' := [.inl (-2)]) (h' := h) rfl ?_
    refine av_wp_ret (v := some (.inl (-2))) (ck_208 _ _ rfl) rfl rfl ?_
    exact hq _ _ _ _ h I F
  · have c4 : v1 ≠ (0) := c4
    refine av_wp_sqF ck_208 3 (pc' := 14) (lv' := [some (.inr (.inr (.inl (some (77))))), some (.inl x), some (.inl l), some (.inl y), some (.inl z), some (.inl w), none]) (st' := [.inl (2), .inl (1), .inl w]) (h' := h) rfl ?_
    refine wq_cs (p' := 17) (av_qc (.invokestatic 176) 127 3 2 8) 3 cd_127 [.inl w, .inl (1), .inl (2)] [.inl (2), .inl (1), .inl w] [some (.inl w), some (.inl (1)), some (.inl (2))] (ck_208 _ _ rfl) rfl rfl pp_127 (fun _ => rfl) rfl rfl ?_
    refine ct_127 (g := h) (w) (by omega) ((1)) (by omega) ((2)) (by omega) (fun v5 p6 => ?_)
    show av_wp _ cd_208 17 [some (.inr (.inr (.inl (some (77))))), some (.inl x), some (.inl l), some (.inl y), some (.inl z), some (.inl w), none] [.inl v5] h _
    refine wq_k1 (p' := 20) (ck_208 _ _ rfl) rfl ⟨by omega, by omega⟩ (fun c7 => ?_) (fun c8 => ?_)
    · have c7 : v5 = (0) := c7
      refine av_wp_sqF ck_208 1 (pc' := 32) (lv' := [some (.inr (.inr (.inl (some (77))))), some (.inl x), some (.inl l), some (.inl y), some (.inl z), some (.inl w), none]) (st' := [.inl (-2)]) (h' := h) rfl ?_
      refine av_wp_ret (v := some (.inl (-2))) (ck_208 _ _ rfl) rfl rfl ?_
      exact hq _ _ _ _ h I F
    · have c8 : v5 ≠ (0) := c8
      refine av_wp_sqF ck_208 4 (pc' := 24) (lv' := [some (.inr (.inr (.inl (some (77))))), some (.inl x), some (.inl l), some (.inl y), some (.inl z), some (.inl w), none]) (st' := [.inl y, .inl l, .inl x, .inr (.inr (.inl (some (77))))]) (h' := h) rfl ?_
      refine wq_cv (p' := 27) (av_qc (.invokevirtual 446) 186 3 0 8) 4 cd_186 [.inl y, .inl l, .inl x] (77) 8 [some (.inr (.inr (.inl (some (77))))), some (.inl x), some (.inl l), some (.inl y)] (ck_208 _ _ rfl) rfl rfl pp_186 rfl rfl rfl (congrArg Prod.fst (ly_k I.1.1.1 77 rfl)) rfl rfl rfl rfl ?_
      refine ct_186 I F (x) (by omega) (l) (by omega) (y) (by omega) (fun n13 a14 m15 h9 I10 F11 => ?_) (fun n13 a14 m15 h9 p12 I10 F11 => ?_)
      · have g16 := im_n I10.1.1
        rw [I10.2.1] at g16
        have g17 := im_a I10.1.1
        rw [I10.2.2.1] at g17
        have g18 := im_cm I10.1.1
        rw [I10.2.2.2] at g18
        show av_wp _ cd_208 27 [some (.inr (.inr (.inl (some (77))))), some (.inl x), some (.inl l), some (.inl y), some (.inl z), some (.inl w), none] [.inl (0)] h9 _
        refine av_wp_sqF ck_208 2 (pc' := 32) (lv' := [some (.inr (.inr (.inl (some (77))))), some (.inl x), some (.inl l), some (.inl y), some (.inl z), some (.inl w), none]) (st' := [.inl (-2)]) (h' := h9) rfl ?_
        refine av_wp_ret (v := some (.inl (-2))) (ck_208 _ _ rfl) rfl rfl ?_
        exact hq _ _ _ _ h9 I10 F11
      · have g19 := im_n I10.1.1
        rw [I10.2.1] at g19
        have g20 := im_a I10.1.1
        rw [I10.2.2.1] at g20
        have g21 := im_cm I10.1.1
        rw [I10.2.2.2] at g21
        show av_wp _ cd_208 27 [some (.inr (.inr (.inl (some (77))))), some (.inl x), some (.inl l), some (.inl y), some (.inl z), some (.inl w), none] [.inl (1)] h9 _
        refine av_wp_sqF ck_208 3 (pc' := 38) (lv' := [some (.inr (.inr (.inl (some (77))))), some (.inl x), some (.inl l), some (.inl y), some (.inl z), some (.inl w), some (.inl (9998))]) (st' := []) (h' := h9) rfl ?_
        have L24 : ∀ (m23 : Nat) (k22 : Int), (-1 ≤ k22 ∧ k22 ≤ 9998) → (k22 + 1).toNat = m23 → av_wp none cd_208 38 [some (.inr (.inr (.inl (some (77))))), some (.inl x), some (.inl l), some (.inl y), some (.inl z), some (.inl w), some (.inl k22)] [] h9 Q := by
          intro m23
          induction m23 using Nat.strongRecOn with
          | _ m23 I25 =>
            intro k22 g27 e26
            refine av_wp_sqF ck_208 1 (pc' := 40) (lv' := [some (.inr (.inr (.inl (some (77))))), some (.inl x), some (.inl l), some (.inl y), some (.inl z), some (.inl w), some (.inl k22)]) (st' := [.inl k22]) (h' := h9) rfl ?_
            refine wq_k1 (p' := 43) (ck_208 _ _ rfl) rfl ⟨by omega, by omega⟩ (fun c28 => ?_) (fun c29 => ?_)
            · have c28 : k22 < (0) := c28
              refine av_wp_sqF ck_208 1 (pc' := 65) (lv' := [some (.inr (.inr (.inl (some (77))))), some (.inl x), some (.inl l), some (.inl y), some (.inl z), some (.inl w), some (.inl k22)]) (st' := [.inl k22]) (h' := h9) rfl ?_
              refine av_wp_ret (v := some (.inl k22)) (ck_208 _ _ rfl) rfl rfl ?_
              exact hq _ _ _ _ h9 I10 F11
            · have c29 : (0) ≤ k22 := c29
              refine av_wp_sqF ck_208 3 (pc' := 48) (lv' := [some (.inr (.inr (.inl (some (77))))), some (.inl x), some (.inl l), some (.inl y), some (.inl z), some (.inl w), some (.inl k22)]) (st' := [.inl k22, .inl z, .inr (.inr (.inl (some (77))))]) (h' := h9) rfl ?_
              refine wq_cv (p' := 51) (av_qc (.invokevirtual 473) 206 2 0 8) 5 cd_206 [.inl k22, .inl z] (77) 8 [some (.inr (.inr (.inl (some (77))))), some (.inl z), some (.inl k22), none, none] (ck_208 _ _ rfl) rfl rfl pp_206 rfl rfl rfl (congrArg Prod.fst (ly_k I10.1.1.1 77 rfl)) rfl rfl rfl rfl ?_
              refine ct_206 I10 F11 (z) (k22) (fun v30 => ?_)
              show av_wp _ cd_208 51 [some (.inr (.inr (.inl (some (77))))), some (.inl x), some (.inl l), some (.inl y), some (.inl z), some (.inl w), some (.inl k22)] [.inl v30] h9 _
              refine av_wp_sqF ck_208 2 (pc' := 54) (lv' := [some (.inr (.inr (.inl (some (77))))), some (.inl x), some (.inl l), some (.inl y), some (.inl z), some (.inl w), some (.inl k22)]) (st' := [.inl (av_and v30 w)]) (h' := h9) rfl ?_
              refine wq_c1 (p' := 57) (ck_208 _ _ rfl) rfl ?_ ?_
              · refine av_wp_sqF ck_208 1 (pc' := 65) (lv' := [some (.inr (.inr (.inl (some (77))))), some (.inl x), some (.inl l), some (.inl y), some (.inl z), some (.inl w), some (.inl k22)]) (st' := [.inl k22]) (h' := h9) rfl ?_
                refine av_wp_ret (v := some (.inl k22)) (ck_208 _ _ rfl) rfl rfl ?_
                exact hq _ _ _ _ h9 I10 F11
              · refine av_wp_sqF ck_208 2 (pc' := 38) (lv' := [some (.inr (.inr (.inl (some (77))))), some (.inl x), some (.inl l), some (.inl y), some (.inl z), some (.inl w), some (.inl (k22 + (-1)))]) (st' := []) (h' := h9) rfl ?_
                exact I25 _ (by omega) ((k22 + (-1))) (by omega) rfl
        exact L24 _ ((9998)) (by omega) rfl

set_option maxRecDepth 100000 in
set_option maxHeartbeats 4000000 in
theorem ct_209 {g h : av_H} {n a m : Int} (I : IMF n a m h) (F : FM g h)  {Q : Option av_V → av_H → Prop} (hq : ∀ (v : Int) n' a' m' h', IMF n' a' m' h' → FM g h' → Q (some (.inl v)) h') : av_wp none cd_209 0 [some (.inr (.inr (.inl (some (77))))), none, none] [] h Q := by
  have gn := im_n I.1.1
  rw [I.2.1] at gn
  have ga := im_a I.1.1
  rw [I.2.2.1] at ga
  have gm := im_cm I.1.1
  rw [I.2.2.2] at gm
  refine av_wp_sqF ck_209 1 (pc' := 1) (lv' := [some (.inr (.inr (.inl (some (77))))), none, none]) (st' := [.inr (.inr (.inl (some (77))))]) (h' := h) rfl ?_
  refine wq_cv (p' := 4) (av_qc (.invokevirtual 424) 163 0 0 8) 4 cd_163 [] (77) 8 [some (.inr (.inr (.inl (some (77))))), none, none, none] (ck_209 _ _ rfl) rfl rfl pp_163 rfl rfl rfl (congrArg Prod.fst (ly_k I.1.1.1 77 rfl)) rfl rfl rfl rfl ?_
  refine ct_163 I.1 I.2.1 F (fun a1 m2 h3 z4 I5 F6 => ?_)
  have z4_1 := z4.1
  have g7 := im_a I5.1.1
  rw [I5.2.2.1] at g7
  have g8 := im_cm I5.1.1
  rw [I5.2.2.2] at g8
  show av_wp _ cd_209 4 [some (.inr (.inr (.inl (some (77))))), none, none] [] h3 _
  refine av_wp_sqF ck_209 1 (pc' := 5) (lv' := [some (.inr (.inr (.inl (some (77))))), none, none]) (st' := [.inr (.inr (.inl (some (77))))]) (h' := h3) rfl ?_
  refine wq_cv (p' := 8) (av_qc (.invokevirtual 427) 164 0 0 8) 1 cd_164 [] (77) 8 [some (.inr (.inr (.inl (some (77)))))] (ck_209 _ _ rfl) rfl rfl pp_164 rfl rfl rfl (congrArg Prod.fst (ly_k I5.1.1.1 77 rfl)) rfl rfl rfl rfl ?_
  refine ct_164 I5 F6  (fun v9 p10 => ?_)
  show av_wp _ cd_209 8 [some (.inr (.inr (.inl (some (77))))), none, none] [.inl v9] h3 _
  refine wq_k1 (p' := 11) (ck_209 _ _ rfl) rfl ⟨by omega, by omega⟩ (fun c11 => ?_) (fun c12 => ?_)
  · have c11 : v9 ≠ (0) := c11
    refine av_wp_sqF ck_209 4 (pc' := 18) (lv' := [some (.inr (.inr (.inl (some (77))))), some (.inl (0)), some (.inl (0))]) (st' := []) (h' := h3) rfl ?_
    have L23 : ∀ (m22 : Nat) (k13 : Int) (k14 : Int) (n18 : Int) (a19 : Int) (m20 : Int) (h15 : av_H), (0 ≤ k14 ∧ k14 ≤ 1025) → (0 ≤ n18 ∧ n18 ≤ 12) ∧ (0 ≤ a19 ∧ a19 ≤ 48) ∧ (0 ≤ m20 ∧ m20 ≤ 1025) → IMF n18 a19 m20 h15 → FM g h15 → (1025 - k14).toNat = m22 → av_wp none cd_209 18 [some (.inr (.inr (.inl (some (77))))), some (.inl k13), some (.inl k14)] [] h15 Q := by
      intro m22
      induction m22 using Nat.strongRecOn with
      | _ m22 I24 =>
        intro k13 k14 n18 a19 m20 h15 g26 g21 I16 F17 e25
        refine av_wp_sqF ck_209 2 (pc' := 20) (lv' := [some (.inr (.inr (.inl (some (77))))), some (.inl k13), some (.inl k14)]) (st' := [.inr (.inr (.inl (some (77)))), .inl k14]) (h' := h15) rfl ?_
        refine wq_gi (p' := 23) (ck_209 _ _ rfl) rfl (congrArg Prod.fst (ly_k I16.1.1.1 77 rfl)) rfl (I16.2.2.2) ?_
        refine wq_k2 (p' := 26) (ck_209 _ _ rfl) rfl ⟨by omega, by omega⟩ ⟨by omega, by omega⟩ (fun c27 => ?_) (fun c28 => ?_)
        · have c27 : m20 ≤ k14 := c27
          refine av_wp_sqF ck_209 1 (pc' := 53) (lv' := [some (.inr (.inr (.inl (some (77))))), some (.inl k13), some (.inl k14)]) (st' := [.inl k13]) (h' := h15) rfl ?_
          refine av_wp_ret (v := some (.inl k13)) (ck_209 _ _ rfl) rfl rfl ?_
          exact hq _ _ _ _ h15 I16 F17
        · have c28 : k14 < m20 := c28
          refine av_wp_sqF ck_209 2 (pc' := 28) (lv' := [some (.inr (.inr (.inl (some (77))))), some (.inl k13), some (.inl k14)]) (st' := [.inl k14, .inr (.inr (.inl (some (77))))]) (h' := h15) rfl ?_
          refine wq_cv (p' := 31) (av_qc (.invokevirtual 431) 181 1 0 8) 2 cd_181 [.inl k14] (77) 8 [some (.inr (.inr (.inl (some (77))))), some (.inl k14)] (ck_209 _ _ rfl) rfl rfl pp_181 rfl rfl rfl (congrArg Prod.fst (ly_k I16.1.1.1 77 rfl)) rfl rfl rfl rfl ?_
          refine ct_181 I16 F17 (k14) (fun h31 I32 F33 => ?_)
          show av_wp _ cd_209 31 [some (.inr (.inr (.inl (some (77))))), some (.inl k13), some (.inl k14)] [] h31 _
          refine av_wp_sqF ck_209 2 (pc' := 33) (lv' := [some (.inr (.inr (.inl (some (77))))), some (.inl k13), some (.inl k14)]) (st' := [.inr (.inr (.inl (some (77)))), .inl k13]) (h' := h31) rfl ?_
          obtain ⟨v34, e35⟩ : ∃ v, hF h31 77 50 = v := ⟨_, rfl⟩
          have g36 := im_has I32.1.1
          rw [e35] at g36
          refine wq_gb (p' := 36) (ck_209 _ _ rfl) rfl (congrArg Prod.fst (ly_k I32.1.1.1 77 rfl)) rfl (e35) ?_
          have J39 : ∀ (j37 : Int), (0 ≤ j37 ∧ j37 ≤ 1) →  av_wp none cd_209 44 [some (.inr (.inr (.inl (some (77))))), some (.inl k13), some (.inl k14)] [.inl j37, .inl k13] h31 Q := by
            intro j37 g38
            refine av_wp_sqF ck_209 4 (pc' := 18) (lv' := [some (.inr (.inr (.inl (some (77))))), some (.inl (k13 + j37)), some (.inl (k14 + (1)))]) (st' := []) (h' := h31) rfl ?_
            exact I24 _ (by omega) ((k13 + j37)) ((k14 + (1))) (n18) (a19) (m20) h31 (by omega) (by omega) I32 F33 rfl
          refine wq_k1 (p' := 39) (ck_209 _ _ rfl) rfl ⟨by omega, by omega⟩ (fun c40 => ?_) (fun c41 => ?_)
          · have c40 : v34 = (0) := c40
            refine av_wp_sqF ck_209 1 (pc' := 44) (lv' := [some (.inr (.inr (.inl (some (77))))), some (.inl k13), some (.inl k14)]) (st' := [.inl (0), .inl k13]) (h' := h31) rfl ?_
            exact J39 ((0)) (by omega)
          · have c41 : v34 ≠ (0) := c41
            refine av_wp_sqF ck_209 2 (pc' := 44) (lv' := [some (.inr (.inr (.inl (some (77))))), some (.inl k13), some (.inl k14)]) (st' := [.inl (1), .inl k13]) (h' := h31) rfl ?_
            exact J39 ((1)) (by omega)
    exact L23 _ ((0)) ((0)) (n) (a1) (m2) h3 (by omega) (by omega) I5 F6 rfl
  · have c12 : v9 = (0) := c12
    refine av_wp_sqF ck_209 1 (pc' := 13) (lv' := [some (.inr (.inr (.inl (some (77))))), none, none]) (st' := [.inl (-2)]) (h' := h3) rfl ?_
    refine av_wp_ret (v := some (.inl (-2))) (ck_209 _ _ rfl) rfl rfl ?_
    exact hq _ _ _ _ h3 I5 F6

set_option maxRecDepth 100000 in
set_option maxHeartbeats 4000000 in
theorem ct_210 {g h : av_H} {n a m : Int} (I : IMF n a m h) (F : FM g h) (x : Int) (qx : -2147483648 ≤ x ∧ x ≤ 2147483647) (l : Int) (ql : -2147483648 ≤ l ∧ l ≤ 2147483647) (k : Int) (qk : -2147483648 ≤ k ∧ k ≤ 2147483647) {Q : Option av_V → av_H → Prop} (hq : ∀ v : Int, ((v = 1 ∧ 0 ≤ x ∧ x ≤ 15 ∧ x < hA h 78 0 ∧ 0 ≤ l ∧ l ≤ 7 ∧ 0 ≤ k ∧ k ≤ 11) ∨ v = 0) → Q (some (.inl v)) h) : av_wp none cd_210 0 [some (.inr (.inr (.inl (some (77))))), some (.inl x), some (.inl l), some (.inl k)] [] h Q := by
  have gn := im_n I.1.1
  rw [I.2.1] at gn
  have ga := im_a I.1.1
  rw [I.2.2.1] at ga
  have gm := im_cm I.1.1
  rw [I.2.2.2] at gm
  refine av_wp_sqF ck_210 2 (pc' := 2) (lv' := [some (.inr (.inr (.inl (some (77))))), some (.inl x), some (.inl l), some (.inl k)]) (st' := [.inl x, .inr (.inr (.inl (some (77))))]) (h' := h) rfl ?_
  refine wq_cv (p' := 5) (av_qc (.invokevirtual 299) 149 1 0 8) 2 cd_149 [.inl x] (77) 8 [some (.inr (.inr (.inl (some (77))))), some (.inl x)] (ck_210 _ _ rfl) rfl rfl pp_149 rfl rfl rfl (congrArg Prod.fst (ly_k I.1.1.1 77 rfl)) rfl rfl rfl rfl ?_
  refine ct_149 I.1 F (x) (by omega) (fun v1 p2 => ?_)
  show av_wp _ cd_210 5 [some (.inr (.inr (.inl (some (77))))), some (.inl x), some (.inl l), some (.inl k)] [.inl v1] h _
  refine wq_k1 (p' := 8) (ck_210 _ _ rfl) rfl ⟨by omega, by omega⟩ (fun c3 => ?_) (fun c4 => ?_)
  · have c3 : v1 = (0) := c3
    refine av_wp_sqF ck_210 1 (pc' := 35) (lv' := [some (.inr (.inr (.inl (some (77))))), some (.inl x), some (.inl l), some (.inl k)]) (st' := [.inl (0)]) (h' := h) rfl ?_
    refine av_wp_ret (v := some (.inl (0))) (ck_210 _ _ rfl) rfl rfl ?_
    exact hq _ (by omega)
  · have c4 : v1 ≠ (0) := c4
    refine av_wp_sqF ck_210 2 (pc' := 10) (lv' := [some (.inr (.inr (.inl (some (77))))), some (.inl x), some (.inl l), some (.inl k)]) (st' := [.inl l, .inr (.inr (.inl (some (77))))]) (h' := h) rfl ?_
    refine wq_cv (p' := 13) (av_qc (.invokevirtual 345) 150 1 0 8) 2 cd_150 [.inl l] (77) 8 [some (.inr (.inr (.inl (some (77))))), some (.inl l)] (ck_210 _ _ rfl) rfl rfl pp_150 rfl rfl rfl (congrArg Prod.fst (ly_k I.1.1.1 77 rfl)) rfl rfl rfl rfl ?_
    refine ct_150 I.1 F (l) (by omega) (fun v5 p6 => ?_)
    show av_wp _ cd_210 13 [some (.inr (.inr (.inl (some (77))))), some (.inl x), some (.inl l), some (.inl k)] [.inl v5] h _
    refine wq_k1 (p' := 16) (ck_210 _ _ rfl) rfl ⟨by omega, by omega⟩ (fun c7 => ?_) (fun c8 => ?_)
    · have c7 : v5 = (0) := c7
      refine av_wp_sqF ck_210 1 (pc' := 35) (lv' := [some (.inr (.inr (.inl (some (77))))), some (.inl x), some (.inl l), some (.inl k)]) (st' := [.inl (0)]) (h' := h) rfl ?_
      refine av_wp_ret (v := some (.inl (0))) (ck_210 _ _ rfl) rfl rfl ?_
      exact hq _ (by omega)
    · have c8 : v5 ≠ (0) := c8
      refine av_wp_sqF ck_210 1 (pc' := 17) (lv' := [some (.inr (.inr (.inl (some (77))))), some (.inl x), some (.inl l), some (.inl k)]) (st' := [.inl k]) (h' := h) rfl ?_
      refine wq_k1 (p' := 20) (ck_210 _ _ rfl) rfl ⟨by omega, by omega⟩ (fun c9 => ?_) (fun c10 => ?_)
      · have c9 : k < (0) := c9
        refine av_wp_sqF ck_210 1 (pc' := 35) (lv' := [some (.inr (.inr (.inl (some (77))))), some (.inl x), some (.inl l), some (.inl k)]) (st' := [.inl (0)]) (h' := h) rfl ?_
        refine av_wp_ret (v := some (.inl (0))) (ck_210 _ _ rfl) rfl rfl ?_
        exact hq _ (by omega)
      · have c10 : (0) ≤ k := c10
        refine av_wp_sqF ck_210 2 (pc' := 22) (lv' := [some (.inr (.inr (.inl (some (77))))), some (.inl x), some (.inl l), some (.inl k)]) (st' := [.inr (.inr (.inl (some (77)))), .inl k]) (h' := h) rfl ?_
        refine wq_gr (p' := 25) (ck_210 _ _ rfl) rfl (congrArg Prod.fst (ly_k I.1.1.1 77 rfl)) rfl (ly_g I.1.1.1 77 3 81 rfl) ?_
        refine av_wp_sqF ck_210 1 (pc' := 26) (lv' := [some (.inr (.inr (.inl (some (77))))), some (.inl x), some (.inl l), some (.inl k)]) (st' := [.inl x, .inr (.inr (.inl (some (81)))), .inl k]) (h' := h) rfl ?_
        obtain ⟨v11, e12⟩ : ∃ v, hA h 81 (Int.toNat (x)) = v := ⟨_, rfl⟩
        have g13 := im_many I.1.1 (Int.toNat (x))
        rw [e12] at g13
        refine wq_al (p' := 27) (n := 80) (ck_210 _ _ rfl) rfl (ly_k I.1.1.1 81 rfl) (by omega) (e12) ?_
        refine wq_k2 (p' := 30) (ck_210 _ _ rfl) rfl ⟨by omega, by omega⟩ ⟨by omega, by omega⟩ (fun c14 => ?_) (fun c15 => ?_)
        · have c14 : v11 ≤ k := c14
          refine av_wp_sqF ck_210 1 (pc' := 35) (lv' := [some (.inr (.inr (.inl (some (77))))), some (.inl x), some (.inl l), some (.inl k)]) (st' := [.inl (0)]) (h' := h) rfl ?_
          refine av_wp_ret (v := some (.inl (0))) (ck_210 _ _ rfl) rfl rfl ?_
          exact hq _ (by omega)
        · have c15 : k < v11 := c15
          refine av_wp_sqF ck_210 2 (pc' := 35) (lv' := [some (.inr (.inr (.inl (some (77))))), some (.inl x), some (.inl l), some (.inl k)]) (st' := [.inl (1)]) (h' := h) rfl ?_
          refine av_wp_ret (v := some (.inl (1))) (ck_210 _ _ rfl) rfl rfl ?_
          exact hq _ (by omega)

set_option maxRecDepth 100000 in
set_option maxHeartbeats 4000000 in
theorem ct_211 {g h : av_H} {n a m : Int} (I : IMF n a m h) (F : FM g h) (x : Int) (qx : -2147483648 ≤ x ∧ x ≤ 2147483647) (l : Int) (ql : -2147483648 ≤ l ∧ l ≤ 2147483647) (k : Int) (qk : -2147483648 ≤ k ∧ k ≤ 2147483647) {Q : Option av_V → av_H → Prop} (hq : ∀ (v : Int) n' a' m' h', IMF n' a' m' h' → FM g h' → Q (some (.inl v)) h') : av_wp none cd_211 0 [some (.inr (.inr (.inl (some (77))))), some (.inl x), some (.inl l), some (.inl k)] [] h Q := by
  have gn := im_n I.1.1
  rw [I.2.1] at gn
  have ga := im_a I.1.1
  rw [I.2.2.1] at ga
  have gm := im_cm I.1.1
  rw [I.2.2.2] at gm
  refine av_wp_sqF ck_211 4 (pc' := 4) (lv' := [some (.inr (.inr (.inl (some (77))))), some (.inl x), some (.inl l), some (.inl k)]) (st' := [.inl k, .inl l, .inl x, .inr (.inr (.inl (some (77))))]) (h' := h) rfl ?_
  refine wq_cv (p' := 7) (av_qc (.invokevirtual 476) 210 3 0 8) 4 cd_210 [.inl k, .inl l, .inl x] (77) 8 [some (.inr (.inr (.inl (some (77))))), some (.inl x), some (.inl l), some (.inl k)] (ck_211 _ _ rfl) rfl rfl pp_210 rfl rfl rfl (congrArg Prod.fst (ly_k I.1.1.1 77 rfl)) rfl rfl rfl rfl ?_
  refine ct_210 I F (x) (by omega) (l) (by omega) (k) (by omega) (fun v1 p2 => ?_)
  show av_wp _ cd_211 7 [some (.inr (.inr (.inl (some (77))))), some (.inl x), some (.inl l), some (.inl k)] [.inl v1] h _
  refine wq_k1 (p' := 10) (ck_211 _ _ rfl) rfl ⟨by omega, by omega⟩ (fun c3 => ?_) (fun c4 => ?_)
  · have c3 : v1 = (0) := c3
    refine av_wp_sqF ck_211 1 (pc' := 27) (lv' := [some (.inr (.inr (.inl (some (77))))), some (.inl x), some (.inl l), some (.inl k)]) (st' := [.inl (-2)]) (h' := h) rfl ?_
    refine av_wp_ret (v := some (.inl (-2))) (ck_211 _ _ rfl) rfl rfl ?_
    exact hq _ _ _ _ h I F
  · have c4 : v1 ≠ (0) := c4
    refine av_wp_sqF ck_211 1 (pc' := 11) (lv' := [some (.inr (.inr (.inl (some (77))))), some (.inl x), some (.inl l), some (.inl k)]) (st' := [.inr (.inr (.inl (some (77))))]) (h' := h) rfl ?_
    refine wq_gr (p' := 14) (ck_211 _ _ rfl) rfl (congrArg Prod.fst (ly_k I.1.1.1 77 rfl)) rfl (ly_g I.1.1.1 77 8 86 rfl) ?_
    refine av_wp_sqF ck_211 5 (pc' := 20) (lv' := [some (.inr (.inr (.inl (some (77))))), some (.inl x), some (.inl l), some (.inl k)]) (st' := [.inl (((12) * x) + k), .inr (.inr (.inl (some (86))))]) (h' := h) rfl ?_
    obtain ⟨v5, e6⟩ : ∃ v, hA h 86 (Int.toNat ((((12) * x) + k))) = v := ⟨_, rfl⟩
    have g7 : 0 ≤ hA h 86 (Int.toNat ((((12) * x) + k))) ∧ hA h 86 (Int.toNat ((((12) * x) + k))) ≤ 3 := im_m I.1.1 86 (by decide) (by decide) _
    rw [e6] at g7
    refine wq_al (p' := 21) (n := 960) (ck_211 _ _ rfl) rfl (ly_k I.1.1.1 86 rfl) (by omega) (e6) ?_
    refine av_wp_sqF ck_211 1 (pc' := 22) (lv' := [some (.inr (.inr (.inl (some (77))))), some (.inl x), some (.inl l), some (.inl k)]) (st' := [.inl (1), .inl v5]) (h' := h) rfl ?_
    refine wq_k2 (p' := 25) (ck_211 _ _ rfl) rfl ⟨by omega, by omega⟩ ⟨by omega, by omega⟩ (fun c8 => ?_) (fun c9 => ?_)
    · have c8 : v5 ≤ (1) := c8
      refine av_wp_sqF ck_211 3 (pc' := 31) (lv' := [some (.inr (.inr (.inl (some (77))))), some (.inl x), some (.inl l), some (.inl k)]) (st' := [.inl (0), .inl l, .inr (.inr (.inl (some (77))))]) (h' := h) rfl ?_
      refine wq_cv (p' := 34) (av_qc (.invokevirtual 348) 159 2 0 8) 5 cd_159 [.inl (0), .inl l] (77) 8 [some (.inr (.inr (.inl (some (77))))), some (.inl l), some (.inl (0)), none, none] (ck_211 _ _ rfl) rfl rfl pp_159 rfl rfl rfl (congrArg Prod.fst (ly_k I.1.1.1 77 rfl)) rfl rfl rfl rfl ?_
      refine ct_159 I F (l) (by omega) ((0)) (fun h12 I13 F14 => ?_)
      show av_wp _ cd_211 34 [some (.inr (.inr (.inl (some (77))))), some (.inl x), some (.inl l), some (.inl k)] [] h12 _
      refine av_wp_sqF ck_211 2 (pc' := 36) (lv' := [some (.inr (.inr (.inl (some (77))))), some (.inl x), some (.inl l), some (.inl k)]) (st' := [.inl x, .inr (.inr (.inl (some (77))))]) (h' := h12) rfl ?_
      refine wq_cv (p' := 39) (av_qc (.invokevirtual 440) 185 1 0 8) 4 cd_185 [.inl x] (77) 8 [some (.inr (.inr (.inl (some (77))))), some (.inl x), none, none] (ck_211 _ _ rfl) rfl rfl pp_185 rfl rfl rfl (congrArg Prod.fst (ly_k I13.1.1.1 77 rfl)) rfl rfl rfl rfl ?_
      refine ct_185 I13 F14 (x) (by omega) (by have z1 := congrFun (F.2.2.2.2.2.2 78 rfl) 0; omega) (fun n20 a21 m22 h17 p16 I18 F19 => ?_)
      have g23 := im_n I18.1.1
      rw [I18.2.1] at g23
      have g24 := im_a I18.1.1
      rw [I18.2.2.1] at g24
      have g25 := im_cm I18.1.1
      rw [I18.2.2.2] at g25
      show av_wp _ cd_211 39 [some (.inr (.inr (.inl (some (77))))), some (.inl x), some (.inl l), some (.inl k)] [] h17 _
      refine av_wp_sqF ck_211 1 (pc' := 40) (lv' := [some (.inr (.inr (.inl (some (77))))), some (.inl x), some (.inl l), some (.inl k)]) (st' := [.inr (.inr (.inl (some (77))))]) (h' := h17) rfl ?_
      refine wq_gr (p' := 43) (ck_211 _ _ rfl) rfl (congrArg Prod.fst (ly_k I18.1.1.1 77 rfl)) rfl (ly_g I18.1.1.1 77 32 98 rfl) ?_
      refine av_wp_sqF ck_211 2 (pc' := 45) (lv' := [some (.inr (.inr (.inl (some (77))))), some (.inl x), some (.inl l), some (.inl k)]) (st' := [.inl (2), .inl k, .inr (.inr (.inl (some (98))))]) (h' := h17) rfl ?_
      refine im_ws (p' := 46) (l := 12) rfl rfl I18 F19 (ly_k I18.1.1.1 98 rfl) (by omega) (show (0 : Int) ≤ (2) ∧ (2) ≤ (2 : Int) by omega) (by omega) (fun h26 I27 F28 => ?_)
      refine av_wp_sqF ck_211 1 (pc' := 47) (lv' := [some (.inr (.inr (.inl (some (77))))), some (.inl x), some (.inl l), some (.inl k)]) (st' := [.inr (.inr (.inl (some (77))))]) (h' := h26) rfl ?_
      refine wq_cv (p' := 50) (av_qc (.invokevirtual 479) 209 0 0 8) 3 cd_209 [] (77) 8 [some (.inr (.inr (.inl (some (77))))), none, none] (ck_211 _ _ rfl) rfl rfl pp_209 rfl rfl rfl (congrArg Prod.fst (ly_k I27.1.1.1 77 rfl)) rfl rfl rfl rfl ?_
      refine ct_209 I27 F28  (fun v29 n34 a35 m36 h31 I32 F33 => ?_)
      have g37 := im_n I32.1.1
      rw [I32.2.1] at g37
      have g38 := im_a I32.1.1
      rw [I32.2.2.1] at g38
      have g39 := im_cm I32.1.1
      rw [I32.2.2.2] at g39
      show av_wp _ cd_211 50 [some (.inr (.inr (.inl (some (77))))), some (.inl x), some (.inl l), some (.inl k)] [.inl v29] h31 _
      refine av_wp_ret (v := some (.inl v29)) (ck_211 _ _ rfl) rfl rfl ?_
      exact hq _ _ _ _ h31 I32 F33
    · have c9 : (1) < v5 := c9
      refine av_wp_sqF ck_211 1 (pc' := 27) (lv' := [some (.inr (.inr (.inl (some (77))))), some (.inl x), some (.inl l), some (.inl k)]) (st' := [.inl (-2)]) (h' := h) rfl ?_
      refine av_wp_ret (v := some (.inl (-2))) (ck_211 _ _ rfl) rfl rfl ?_
      exact hq _ _ _ _ h I F
end
section
/-! READING: bytes, tokens; what both readers do to the place where they stand -/
abbrev TT : Type := Nat × Nat × Int × Int
/-- the sort of a byte: 1 a letter, 2 a digit, 3 a semicolon, 4 a blank, 5 any other -/
def so (x : Int) : Int := if 97 ≤ x ∧ x ≤ 122 then 1 else if 48 ≤ x ∧ x ≤ 57 then 2 else if x = 59 then 3 else if x = 32 ∨ x = 10 then 4 else 5
theorem so_r (x : Int) : 1 ≤ so x ∧ so x ≤ 5 := by
  unfold so
  (repeat' split) <;> omega
/-- the first place from a on whose byte isn't of the sort s, or the end -/
def edf (b : Nat → Int) (lim : Nat) (s : Int) : Nat → Nat → Nat
  | 0, a => a
  | n + 1, a => if a < lim ∧ so (b a) = s then edf b lim s n (a + 1) else a
def edn (b : Nat → Int) (lim : Nat) (s : Int) (a : Nat) : Nat := edf b lim s (lim - a) a
theorem edn_go {b : Nat → Int} {lim a : Nat} {s : Int} (h : a < lim) (hs : so (b a) = s) : edn b lim s a = edn b lim s (a + 1) := by
  unfold edn
  rw [show lim - a = (lim - (a + 1)) + 1 by omega]
  show (if a < lim ∧ so (b a) = s then edf b lim s (lim - (a + 1)) (a + 1) else a) = _
  rw [if_pos ⟨h, hs⟩]
theorem edn_end {b : Nat → Int} {lim a : Nat} {s : Int} (h : ¬ (a < lim ∧ so (b a) = s)) : edn b lim s a = a := by
  unfold edn
  cases hn : lim - a with
  | zero => rfl
  | succ n =>
    show (if a < lim ∧ so (b a) = s then edf b lim s n (a + 1) else a) = _
    rw [if_neg h]
theorem edn_le {b : Nat → Int} {lim : Nat} {s : Int} : ∀ (n a : Nat), lim - a = n → a ≤ lim → a ≤ edn b lim s a ∧ edn b lim s a ≤ lim := by
  intro n
  induction n with
  | zero => intro a h1 h2; rw [edn_end (by omega)]; omega
  | succ n ih =>
    intro a h1 h2
    by_cases h : a < lim ∧ so (b a) = s
    · rw [edn_go h.1 h.2]
      have := ih (a + 1) (by omega) (by omega)
      omega
    · rw [edn_end h]; omega
/-- on to the next token: its first place, the place behind it, its sort (0: there is none), the fault's place (-1: none) -/
def adv (b : Nat → Int) (lim : Nat) (t : TT) : TT :=
  (edn b lim 4 t.2.1, (if edn b lim 4 t.2.1 < lim then (if so (b (edn b lim 4 t.2.1)) = 1 ∨ so (b (edn b lim 4 t.2.1)) = 2 then edn b lim (so (b (edn b lim 4 t.2.1))) (edn b lim 4 t.2.1 + 1) else edn b lim 4 t.2.1 + 1) else edn b lim 4 t.2.1), (if edn b lim 4 t.2.1 < lim then so (b (edn b lim 4 t.2.1)) else 0), t.2.2.2)
def fal (t : TT) : TT := (t.1, t.2.1, t.2.2.1, if t.2.2.2 = -1 then (t.1 : Int) else t.2.2.2)
/-- which word of a list the token is, the list's signs one by one -/
def pkf (b : Nat → Int) (f p : Nat) : List Int → Int → Nat → Bool → Int
  | [], i, a, al => if al = true ∧ a = p then i else -1
  | c :: cs, i, a, al => if c = 32 then (if al = true ∧ a = p then i else pkf b f p cs (i + 1) f true) else pkf b f p cs i (a + 1) (al && decide (a < p ∧ b a = c))
def pkv (b : Nat → Int) (t : TT) (n : Nat) : Int := if t.2.2.2 = -1 ∧ t.2.2.1 = 1 then pkf b t.1 t.2.1 (av_lit n) 0 t.1 true else -1
def cho (b : Nat → Int) (lim : Nat) (t : TT) (n : Nat) : TT := if pkv b t n = -1 then fal t else adv b lim t
def sem (b : Nat → Int) (lim : Nat) (t : TT) : TT := if t.2.2.2 = -1 ∧ t.2.2.1 = 3 then adv b lim t else fal t
/-- the number that n digits from f on are -/
def dgv (b : Nat → Int) (f : Nat) : Nat → Int
  | 0 => 0
  | n + 1 => dgv b f n * 10 + b (f + n) - 48
def vlv (b : Nat → Int) (t : TT) : Int := if t.2.2.2 = -1 ∧ t.2.2.1 = 2 ∧ (t.2.1 : Int) - t.1 ≤ 4 then dgv b t.1 (t.2.1 - t.1) else -1
def nmt (b : Nat → Int) (lim : Nat) (t : TT) (lo hi : Int) : TT := if vlv b t ≠ -1 ∧ lo ≤ vlv b t ∧ vlv b t ≤ hi then adv b lim t else fal t
def nmv (b : Nat → Int) (t : TT) (lo hi : Int) : Int := if vlv b t ≠ -1 ∧ lo ≤ vlv b t ∧ vlv b t ≤ hi then vlv b t else -1
/-- the class's reader stands so -/
def WF (lim : Nat) (t : TT) : Prop := t.1 ≤ 900 ∧ t.2.1 ≤ lim ∧ lim ≤ 900 ∧ (0 ≤ t.2.2.1 ∧ t.2.2.1 ≤ 5) ∧ (-1 ≤ t.2.2.2 ∧ t.2.2.2 ≤ 900)
def CT (b : Nat → Int) (lim : Nat) (t : TT) (r d : Nat → Int) (h : av_H) : Prop := LY h ∧ hA h 2 = b ∧ (∀ j, -128 ≤ b j ∧ b j ≤ 127) ∧ hF h 1 2 = (lim : Int) ∧ hF h 1 3 = (t.1 : Int) ∧ hF h 1 4 = (t.2.1 : Int) ∧ hF h 1 5 = t.2.2.1 ∧ hF h 1 6 = t.2.2.2 ∧ hA h 23 = r ∧ hA h 25 = d ∧ WF lim t ∧ (∀ j, -2000 ≤ r j ∧ r j ≤ 100000) ∧ (∀ j, -2 ≤ d j ∧ d j ≤ 999)
def tF (o f : Nat) : Bool := Nat.beq o 1 && (Nat.beq f 2 || Nat.beq f 3 || Nat.beq f 4 || Nat.beq f 5 || Nat.beq f 6)
def FT (g h : av_H) : Prop := h.1 = g.1 ∧ h.2.1 = g.2.1 ∧ hK h = hK g ∧ hR h = hR g ∧ hG h = hG g ∧ (∀ o f, tF o f = false → hF h o f = hF g o f) ∧ (∀ a, a ≠ 23 → a ≠ 25 → hA h a = hA g a)
theorem FT_rf (h : av_H) : FT h h := ⟨rfl, rfl, rfl, rfl, rfl, fun _ _ _ => rfl, fun _ _ _ => rfl⟩
theorem FT_wF {g h : av_H} {o f : Nat} {v : Int} (F : FT g h) (e : tF o f = true) : FT g (hwF h o f v) := ⟨F.1, F.2.1, F.2.2.1, F.2.2.2.1, F.2.2.2.2.1, fun k q hk => by
  show av_u2 h.2.2.2.2.1 o f v k q = _
  have hne : ¬ (k = o ∧ q = f) := fun z => by rw [z.1, z.2, e] at hk; cases hk
  rw [av_u2, if_neg hne]
  exact F.2.2.2.2.2.1 k q hk, F.2.2.2.2.2.2⟩
theorem FT_wA {g h : av_H} {a j : Nat} {v : Int} (F : FT g h) (e : a = 23 ∨ a = 25) : FT g (hwA h a j v) := ⟨F.1, F.2.1, F.2.2.1, F.2.2.2.1, F.2.2.2.2.1, F.2.2.2.2.2.1, fun k h1 h2 => by
  rw [hA_ne (by omega)]
  exact F.2.2.2.2.2.2 k h1 h2⟩
section
variable {b r d : Nat → Int} {lim : Nat} {t : TT} {h : av_H}
theorem ct_b (C : CT b lim t r d h) : hA h 2 = b := C.2.1
theorem ct_bv (C : CT b lim t r d h) (j : Nat) : -128 ≤ b j ∧ b j ≤ 127 := C.2.2.1 j
theorem ct_l (C : CT b lim t r d h) : hF h 1 2 = (lim : Int) := C.2.2.2.1
theorem ct_f (C : CT b lim t r d h) : hF h 1 3 = (t.1 : Int) := C.2.2.2.2.1
theorem ct_p (C : CT b lim t r d h) : hF h 1 4 = (t.2.1 : Int) := C.2.2.2.2.2.1
theorem ct_s (C : CT b lim t r d h) : hF h 1 5 = t.2.2.1 := C.2.2.2.2.2.2.1
theorem ct_w (C : CT b lim t r d h) : hF h 1 6 = t.2.2.2 := C.2.2.2.2.2.2.2.1
theorem ct_r (C : CT b lim t r d h) : hA h 23 = r := C.2.2.2.2.2.2.2.2.1
theorem ct_d (C : CT b lim t r d h) : hA h 25 = d := C.2.2.2.2.2.2.2.2.2.1
theorem ct_wf (C : CT b lim t r d h) : t.1 ≤ 900 ∧ t.2.1 ≤ lim ∧ lim ≤ 900 ∧ (0 ≤ t.2.2.1 ∧ t.2.2.1 ≤ 5) ∧ (-1 ≤ t.2.2.2 ∧ t.2.2.2 ≤ 900) := C.2.2.2.2.2.2.2.2.2.2.1
theorem ct_rv (C : CT b lim t r d h) (j : Nat) : -2000 ≤ r j ∧ r j ≤ 100000 := C.2.2.2.2.2.2.2.2.2.2.2.1 j
theorem ct_dv (C : CT b lim t r d h) (j : Nat) : -2 ≤ d j ∧ d j ≤ 999 := C.2.2.2.2.2.2.2.2.2.2.2.2 j
theorem ct_wF {f : Nat} {v : Int} (C : CT b lim t r d h) (t' : TT) (e2 : f ≠ 2) (e3 : (t'.1 : Int) = if f = 3 then v else (t.1 : Int)) (e4 : (t'.2.1 : Int) = if f = 4 then v else (t.2.1 : Int)) (e5 : t'.2.2.1 = if f = 5 then v else t.2.2.1) (e6 : t'.2.2.2 = if f = 6 then v else t.2.2.2) (w : WF lim t') : CT b lim t' r d (hwF h 1 f v) := by
  refine ⟨C.1, C.2.1, C.2.2.1, (hF_oth (Ne.symm e2)).trans C.2.2.2.1, ?_, ?_, ?_, ?_, C.2.2.2.2.2.2.2.2.1, C.2.2.2.2.2.2.2.2.2.1, w, C.2.2.2.2.2.2.2.2.2.2.2⟩
  · rw [e3]
    by_cases e : f = 3
    · subst e; rw [if_pos rfl]; exact hF_self
    · rw [if_neg e]; exact (hF_oth (Ne.symm e)).trans (ct_f C)
  · rw [e4]
    by_cases e : f = 4
    · subst e; rw [if_pos rfl]; exact hF_self
    · rw [if_neg e]; exact (hF_oth (Ne.symm e)).trans (ct_p C)
  · rw [e5]
    by_cases e : f = 5
    · subst e; rw [if_pos rfl]; exact hF_self
    · rw [if_neg e]; exact (hF_oth (Ne.symm e)).trans (ct_s C)
  · rw [e6]
    by_cases e : f = 6
    · subst e; rw [if_pos rfl]; exact hF_self
    · rw [if_neg e]; exact (hF_oth (Ne.symm e)).trans (ct_w C)
end
section
variable {sc : av_Sr} {cd : List (Nat × av_E)} {Q : Option av_V → av_H → Prop} {pc p' : Nat} {lv : av_L} {r' : List av_V} {g h : av_H} {b r d : Nat → Int} {lim : Nat} {t : TT}
theorem ct_p3 {idx : Nat} {v : Int} (hx : cd.lookup pc = some (av_qf (.putfield idx) 6 3 0)) (hp : pc + 3 = p') (C : CT b lim t r d h) (F : FT g h) (k : Nat) (e : v = (k : Int)) (hk : k ≤ lim) (hw : ∀ h', CT b lim (k, t.2) r d h' → FT g h' → av_wp sc cd p' lv r' h' Q) : av_wp sc cd pc lv (.inl v :: .inr (.inr (.inl (some 1))) :: r') h Q :=
  wq_pi hx hp (congrArg Prod.fst (ly_k C.1 1 rfl)) rfl (hw _ (ct_wF C (k, t.2) (by decide) (by rw [if_pos rfl]; exact e.symm) rfl rfl rfl ⟨Nat.le_trans hk (ct_wf C).2.2.1, (ct_wf C).2⟩) (FT_wF F rfl))
theorem ct_p4 {idx : Nat} {v : Int} (hx : cd.lookup pc = some (av_qf (.putfield idx) 6 4 0)) (hp : pc + 3 = p') (C : CT b lim t r d h) (F : FT g h) (k : Nat) (e : v = (k : Int)) (hk : k ≤ lim) (hw : ∀ h', CT b lim (t.1, k, t.2.2) r d h' → FT g h' → av_wp sc cd p' lv r' h' Q) : av_wp sc cd pc lv (.inl v :: .inr (.inr (.inl (some 1))) :: r') h Q :=
  wq_pi hx hp (congrArg Prod.fst (ly_k C.1 1 rfl)) rfl (hw _ (ct_wF C (t.1, k, t.2.2) (by decide) rfl (by rw [if_pos rfl]; exact e.symm) rfl rfl ⟨(ct_wf C).1, hk, (ct_wf C).2.2⟩) (FT_wF F rfl))
theorem ct_p5 {idx : Nat} {v : Int} (hx : cd.lookup pc = some (av_qf (.putfield idx) 6 5 0)) (hp : pc + 3 = p') (C : CT b lim t r d h) (F : FT g h) (hk : 0 ≤ v ∧ v ≤ 5) (hw : ∀ h', CT b lim (t.1, t.2.1, v, t.2.2.2) r d h' → FT g h' → av_wp sc cd p' lv r' h' Q) : av_wp sc cd pc lv (.inl v :: .inr (.inr (.inl (some 1))) :: r') h Q :=
  wq_pi hx hp (congrArg Prod.fst (ly_k C.1 1 rfl)) rfl (hw _ (ct_wF C (t.1, t.2.1, v, t.2.2.2) (by decide) rfl rfl (by rw [if_pos rfl]) rfl ⟨(ct_wf C).1, (ct_wf C).2.1, (ct_wf C).2.2.1, hk, (ct_wf C).2.2.2.2⟩) (FT_wF F rfl))
theorem ct_p6 {idx : Nat} {v : Int} (hx : cd.lookup pc = some (av_qf (.putfield idx) 6 6 0)) (hp : pc + 3 = p') (C : CT b lim t r d h) (F : FT g h) (hk : -1 ≤ v ∧ v ≤ 900) (hw : ∀ h', CT b lim (t.1, t.2.1, t.2.2.1, v) r d h' → FT g h' → av_wp sc cd p' lv r' h' Q) : av_wp sc cd pc lv (.inl v :: .inr (.inr (.inl (some 1))) :: r') h Q :=
  wq_pi hx hp (congrArg Prod.fst (ly_k C.1 1 rfl)) rfl (hw _ (ct_wF C (t.1, t.2.1, t.2.2.1, v) (by decide) rfl rfl rfl (by rw [if_pos rfl]) ⟨(ct_wf C).1, (ct_wf C).2.1, (ct_wf C).2.2.1, (ct_wf C).2.2.2.1, hk⟩) (FT_wF F rfl))
end
/-! the words of a list, sign by sign -/
def PKI (b : Nat → Int) (f p : Nat) (L : List Int) (R i idx a al : Int) : Prop := (i ≤ L.length ∧ pkf b f p (L.drop i.toNat) idx a.toNat (decide (al = 1)) = R) ∨ (i = L.length + 1 ∧ R = -1)
def sgn (L : List Int) (i : Int) : Int := if i < L.length then L.getD i.toNat 0 else 32
theorem drop_c {L : List Int} {i : Int} (h0 : 0 ≤ i) (h1 : i < L.length) : L.drop i.toNat = L.getD i.toNat 0 :: L.drop (i + 1).toNat := by
  have hl : i.toNat < L.length := by omega
  rw [List.drop_eq_getElem_cons hl, show (i + 1).toNat = i.toNat + 1 by omega, List.getD_eq_getElem?_getD, List.getElem?_eq_getElem hl]
  rfl
theorem PKI_char {b : Nat → Int} {f p : Nat} {L : List Int} {R i idx a al al' : Int} (h : PKI b f p L R i idx a al) (h0 : 0 ≤ i) (ha : 0 ≤ a) (h1 : i ≤ L.length) (hs : sgn L i ≠ 32) (hal : (al' = 1 ∧ al = 1 ∧ a < p ∧ b a.toNat = sgn L i) ∨ (al' = 0 ∧ ¬ (al = 1 ∧ a < p ∧ b a.toNat = sgn L i))) : PKI b f p L R (i + 1) idx (a + 1) al' := by
  have hl : i < L.length := by
    unfold sgn at hs
    split at hs
    · assumption
    · exact absurd rfl hs
  have hg : sgn L i = L.getD i.toNat 0 := if_pos hl
  rw [hg] at hs hal
  rcases h with h | h
  · left
    refine ⟨by omega, ?_⟩
    rw [← h.2, drop_c h0 hl]
    show _ = (if L.getD i.toNat 0 = 32 then _ else pkf b f p (L.drop (i + 1).toNat) idx (a.toNat + 1) (decide (al = 1) && decide (a.toNat < p ∧ b a.toNat = L.getD i.toNat 0)))
    rw [if_neg hs, show (a + 1).toNat = a.toNat + 1 by omega]
    congr 1
    rcases hal with ⟨e1, e2, e3, e4⟩ | ⟨e1, e2⟩
    · rw [e1, e2, decide_eq_true (show a.toNat < p ∧ b a.toNat = L.getD i.toNat 0 from ⟨by omega, e4⟩)]
      rfl
    · rw [e1, show decide ((0 : Int) = 1) = false from rfl]
      symm
      rw [Bool.and_eq_false_iff]
      by_cases e : al = 1
      · right
        exact decide_eq_false (fun z => e2 ⟨e, by omega, z.2⟩)
      · left
        exact decide_eq_false e
  · omega
theorem PKI_hit {b : Nat → Int} {f p : Nat} {L : List Int} {R i idx a al : Int} (h : PKI b f p L R i idx a al) (h0 : 0 ≤ i) (ha : 0 ≤ a) (h1 : i ≤ L.length) (hs : sgn L i = 32) (hal : al = 1) (hp : a = p) : idx = R := by
  rcases h with h | h
  · rw [← h.2, hal, show decide ((1 : Int) = 1) = true from rfl]
    by_cases hl : i < L.length
    · rw [drop_c h0 hl]
      have hg : sgn L i = L.getD i.toNat 0 := if_pos hl
      rw [hg] at hs
      show _ = (if L.getD i.toNat 0 = 32 then (if true = true ∧ a.toNat = p then idx else _) else _)
      rw [if_pos hs, if_pos ⟨rfl, by omega⟩]
    · rw [List.drop_eq_nil_of_le (by omega)]
      show _ = (if true = true ∧ a.toNat = p then idx else -1)
      rw [if_pos ⟨rfl, by omega⟩]
  · omega
theorem PKI_miss {b : Nat → Int} {f p : Nat} {L : List Int} {R i idx a al : Int} (h : PKI b f p L R i idx a al) (h0 : 0 ≤ i) (ha : 0 ≤ a) (h1 : i ≤ L.length) (hs : sgn L i = 32) (hal : ¬ (al = 1 ∧ a = p)) : PKI b f p L R (i + 1) (idx + 1) (f : Int) 1 := by
  rcases h with h | h
  · have hn : ¬ (decide (al = 1) = true ∧ a.toNat = p) := fun z => hal ⟨of_decide_eq_true z.1, by omega⟩
    by_cases hl : i < L.length
    · left
      refine ⟨by omega, ?_⟩
      rw [← h.2, drop_c h0 hl]
      have hg : sgn L i = L.getD i.toNat 0 := if_pos hl
      rw [hg] at hs
      show _ = (if L.getD i.toNat 0 = 32 then (if decide (al = 1) = true ∧ a.toNat = p then idx else pkf b f p (L.drop (i + 1).toNat) (idx + 1) f true) else _)
      rw [if_pos hs, if_neg hn]
      rfl
    · right
      refine ⟨by omega, ?_⟩
      rw [← h.2, List.drop_eq_nil_of_le (by omega)]
      show (if decide (al = 1) = true ∧ a.toNat = p then idx else -1) = -1
      rw [if_neg hn]
  · omega
theorem PKI_0 {b : Nat → Int} {f p : Nat} {L : List Int} : PKI b f p L (pkf b f p L 0 f true) 0 0 (f : Int) 1 := Or.inl ⟨by omega, rfl⟩
theorem PKI_x {b : Nat → Int} {f p : Nat} {L : List Int} {R i idx a al : Int} (h : PKI b f p L R i idx a al) (h1 : L.length < i) : R = -1 := by
  rcases h with h | h
  · omega
  · exact h.2
/-- the library's length and charAt of a literal -/
theorem wq_sl {sc : av_Sr} {cd : List (Nat × av_E)} {Q : Option av_V → av_H → Prop} {pc p' : Nat} {lv : av_L} {r : List av_V} {h : av_H} {ins : Instr} {k : Nat} (hx : cd.lookup pc = some (av_qa ins 1005)) (hp : pc + 3 = p') (hk : av_kd (av_qa ins 1005) = 0) (hs : ∀ lv st, av_stp sc (av_qa ins 1005) pc lv st h = av_lib 1005 pc lv st h) (hr : Nat.ble (r.map av_cat).sum 8 = true) (hn : k < 20) (hw : av_wp sc cd p' lv (.inl ((av_lit k).length : Int) :: r) h Q) : av_wp sc cd pc lv (.inr (.inr (.inr k)) :: r) h Q := by
  subst hp
  refine av_wp_st1 hx (pc' := pc + 3) (lv' := lv) (st' := .inl ((av_lit k).length : Int) :: r) (h' := h) hk ?_ hw
  rw [hs]
  simp only [av_lib]
  rw [if_pos ⟨Nat.le_of_ble_eq_true hr, hn⟩]
theorem wq_sc {sc : av_Sr} {cd : List (Nat × av_E)} {Q : Option av_V → av_H → Prop} {pc p' : Nat} {lv : av_L} {r : List av_V} {h : av_H} {ins : Instr} {k : Nat} {i : Int} (hx : cd.lookup pc = some (av_qa ins 1006)) (hp : pc + 3 = p') (hk : av_kd (av_qa ins 1006) = 0) (hs : ∀ lv st, av_stp sc (av_qa ins 1006) pc lv st h = av_lib 1006 pc lv st h) (hr : Nat.ble (r.map av_cat).sum 8 = true) (hn : k < 20) (hi : 0 ≤ i ∧ i < (av_lit k).length ∧ ((av_lit k).length : Int) < 2147483648) (hw : av_wp sc cd p' lv (.inl (sgn (av_lit k) i) :: r) h Q) : av_wp sc cd pc lv (.inl i :: .inr (.inr (.inr k)) :: r) h Q := by
  subst hp
  refine av_wp_st1 hx (pc' := pc + 3) (lv' := lv) (st' := .inl (sgn (av_lit k) i) :: r) (h' := h) hk ?_ hw
  rw [hs]
  simp only [av_lib]
  rw [if_pos ⟨Nat.le_of_ble_eq_true hr, hn, av_inO hi⟩, av_rgw ⟨by omega, by omega⟩]
  unfold sgn
  rw [if_pos hi.2.1]
theorem lit_v : ∀ k, k < 20 → (av_lit k).length ≤ 60 ∧ ∀ c ∈ av_lit k, 32 ≤ c ∧ c ≤ 122 := by decide +kernel
theorem sgn_r {k : Nat} (hk : k < 20) (i : Int) : 0 ≤ sgn (av_lit k) i ∧ sgn (av_lit k) i ≤ 122 := by
  unfold sgn
  split
  · rw [List.getD_eq_getElem?_getD]
    cases e : (av_lit k)[i.toNat]? with
    | none => show (0 : Int) ≤ 0 ∧ (0 : Int) ≤ 122; omega
    | some c =>
      have := (lit_v k hk).2 c (List.mem_of_getElem? e)
      show (0 : Int) ≤ c ∧ c ≤ 122
      omega
  · omega
theorem pkf_le {b : Nat → Int} {f p : Nat} : ∀ (L : List Int) (i : Int) (a : Nat) (al : Bool), 0 ≤ i → -1 ≤ pkf b f p L i a al ∧ pkf b f p L i a al ≤ i + L.count 32 := by
  intro L
  induction L with
  | nil =>
    intro i a al hi
    show -1 ≤ (if al = true ∧ a = p then i else -1) ∧ (if al = true ∧ a = p then i else -1) ≤ i + 0
    split <;> omega
  | cons c cs ih =>
    intro i a al hi
    show -1 ≤ (if c = 32 then (if al = true ∧ a = p then i else pkf b f p cs (i + 1) f true) else pkf b f p cs i (a + 1) (al && decide (a < p ∧ b a = c))) ∧ (if c = 32 then (if al = true ∧ a = p then i else pkf b f p cs (i + 1) f true) else pkf b f p cs i (a + 1) (al && decide (a < p ∧ b a = c))) ≤ i + ((c :: cs).count 32 : Nat)
    by_cases e : c = 32
    · subst e
      rw [if_pos rfl, List.count_cons_self]
      split
      · omega
      · have := ih (i + 1) f true (by omega)
        omega
    · rw [if_neg e, List.count_cons_of_ne e]
      exact ih i (a + 1) _ hi
theorem pkv_le {b : Nat → Int} {t : TT} (n c : Nat) (e : (av_lit n).count 32 = c) : -1 ≤ pkv b t n ∧ pkv b t n ≤ c := by
  unfold pkv
  split
  · have := pkf_le (b := b) (f := t.1) (p := t.2.1) (av_lit n) 0 t.1 true (by omega)
    rw [e] at this
    omega
  · omega
end
