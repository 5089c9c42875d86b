set_option maxRecDepth 100000 in
set_option maxHeartbeats 4000000 in
theorem cx_206 {g h : av_H} {n a m : Int} (I : IMF n a m h) (F : FM g h) {u ro : Nat → Int} {a0 : Nat → Nat → Int} {s : Nat} (en : n = (s : Int)) (X : LR u ro a0 s (hA h)) (W : UW u s) (R : RLW ro) (H : HBd s a0) {ma : Int} (MB : (hF h 77 50 = 0 ∧ ma = 9999) ∨ (hF h 77 50 = 1 ∧ hF h 77 53 = ma ∧ ma ≠ 9999)) (qm : -1 ≤ ma ∧ ma ≤ 9999) (P5 : ∀ k, k < s → a0 2 k ≠ 0 → hA h 113 k = o5 ro a0 k ∧ hA h 114 k = (eav u ro a0 s k s).1) (ER : ∀ k, k < s → -1 ≤ (eav u ro a0 s k s).1 ∧ (eav u ro a0 s k s).1 ≤ 9999) (A2 : ∀ k, k < s → 0 ≤ a0 2 k ∧ a0 2 k ≤ 1) (x : Int) (qx : 0 ≤ x ∧ x ≤ 2) (y : Int) (qy : 0 ≤ y ∧ y ≤ 9998) {Q : Option av_V → av_H → Prop} (hq : ∀ v : Int, CNV u ro a0 s ma x y v → Q (some (.inl v)) h) : av_wp none cd_206 0 [some (.inr (.inr (.inl (some (77))))), some (.inl x), some (.inl y), none, none] [] h Q := by
  have gn := im_n I.1.1
  rw [I.2.1] at gn
  have ga := im_a I.1.1
  rw [I.2.2.1] at ga
  have gm := im_cm I.1.1
  rw [I.2.2.2] at gm
  have s12 : s ≤ 12 := by omega
  have Z := ZE_rf (L := [113, 114, 115]) (K := [50, 51, 52, 53]) h
  refine av_wp_sqF ck_206 1 (pc' := 1) (lv' := [some (.inr (.inr (.inl (some (77))))), some (.inl x), some (.inl y), none, none]) (st' := [.inr (.inr (.inl (some (77))))]) (h' := h) rfl ?_
  obtain ⟨v1, e2⟩ : ∃ v, hF h 77 50 = v := ⟨_, rfl⟩
  have g3 := im_has I.1.1
  rw [e2] at g3
  have q4 : (v1 = 0 ∧ ma = 9999) ∨ (v1 = 1 ∧ hF h 77 53 = ma ∧ ma ≠ 9999) := by rw [← e2]; exact MB
  refine wq_gb (p' := 4) (ck_206 _ _ rfl) rfl (congrArg Prod.fst (ly_k I.1.1.1 77 rfl)) rfl (e2) ?_
  refine wq_k1 (p' := 7) (ck_206 _ _ rfl) rfl ⟨by omega, by omega⟩ (fun c5 => ?_) (fun c6 => ?_)
  · have c5 : v1 = (0) := c5
    refine av_wp_sqF ck_206 4 (pc' := 22) (lv' := [some (.inr (.inr (.inl (some (77))))), some (.inl x), some (.inl y), some (.inl (0)), some (.inl (0))]) (st' := []) (h' := h) rfl ?_
    have L10 : ∀ (m9 : Nat) (k7 : Int) (k8 : Int), CNI u ro a0 s ma x y (Int.toNat k8) k7 → k8 ≤ (s : Int) → (0 ≤ k7 ∧ k7 ≤ 3) → (0 ≤ k8 ∧ k8 ≤ 12) → ((s : Int) - k8).toNat = m9 → av_wp none cd_206 22 [some (.inr (.inr (.inl (some (77))))), some (.inl x), some (.inl y), some (.inl k7), some (.inl k8)] [] h Q := by
      intro m9
      induction m9 using Nat.strongRecOn with
      | _ m9 I11 =>
        intro k7 k8 g13 g14 g15 g16 e12
        refine av_wp_sqF ck_206 2 (pc' := 25) (lv' := [some (.inr (.inr (.inl (some (77))))), some (.inl x), some (.inl y), some (.inl k7), some (.inl k8)]) (st' := [.inr (.inr (.inl (some (77)))), .inl k8]) (h' := h) rfl ?_
        refine wq_gi (p' := 28) (ck_206 _ _ rfl) rfl (congrArg Prod.fst (ly_k I.1.1.1 77 rfl)) rfl (I.2.1) ?_
        refine wq_k2 (p' := 31) (ck_206 _ _ rfl) rfl ⟨by omega, by omega⟩ ⟨by omega, by omega⟩ (fun c17 => ?_) (fun c18 => ?_)
        · have c17 : n ≤ k8 := c17
          refine av_wp_sqF ck_206 1 (pc' := 142) (lv' := [some (.inr (.inr (.inl (some (77))))), some (.inl x), some (.inl y), some (.inl k7), some (.inl k8)]) (st' := [.inl k7]) (h' := h) rfl ?_
          refine av_wp_ret (v := some (.inl k7)) (ck_206 _ _ rfl) rfl rfl ?_
          exact hq _ (by have z := g13; rw [show Int.toNat k8 = s by omega] at z; exact z)
        · have c18 : k8 < n := c18
          refine av_wp_sqF ck_206 2 (pc' := 34) (lv' := [some (.inr (.inr (.inl (some (77))))), some (.inl x), some (.inl y), some (.inl k7), some (.inl k8)]) (st' := [.inl k8, .inr (.inr (.inl (some (77))))]) (h' := h) rfl ?_
          refine wq_cv (p' := 37) (av_qc (.invokevirtual 369) 168 1 0 8) 2 cd_168 [.inl k8] (77) 8 [some (.inr (.inr (.inl (some (77))))), some (.inl k8)] (ck_206 _ _ rfl) rfl rfl pp_168 rfl rfl rfl (congrArg Prod.fst (ly_k I.1.1.1 77 rfl)) rfl rfl rfl rfl ?_
          refine cx_168 I F en X W R H (k8) (by omega) (fun v19 p20 => ?_)
          have g21 := A2 (Int.toNat (k8)) (by omega)
          rw [← p20] at g21
          show av_wp _ cd_206 37 [some (.inr (.inr (.inl (some (77))))), some (.inl x), some (.inl y), some (.inl k7), some (.inl k8)] [.inl v19] h _
          refine wq_k1 (p' := 40) (ck_206 _ _ rfl) rfl ⟨by omega, by omega⟩ (fun c22 => ?_) (fun c23 => ?_)
          · have c22 : v19 = (0) := c22
            refine av_wp_sqF ck_206 2 (pc' := 22) (lv' := [some (.inr (.inr (.inl (some (77))))), some (.inl x), some (.inl y), some (.inl k7), some (.inl (k8 + (1)))]) (st' := []) (h' := h) rfl ?_
            exact I11 _ (by omega) (k7) ((k8 + (1))) (by have z5 := o5_r (ro := ro) H (q := (Int.toNat k8)) (by omega); have z6 := rl_6 R; rw [show Int.toNat (k8 + (1)) = Int.toNat k8 + 1 by omega]; exact CNI_s g13 (my1 (by omega) z6 (by omega)) (my2 (by omega) (by omega)) (by omega) (by omega) (by omega)) (by omega) (by omega) (by omega) rfl
          · have c23 : v19 ≠ (0) := c23
            refine av_wp_sqF ck_206 3 (pc' := 44) (lv' := [some (.inr (.inr (.inl (some (77))))), some (.inl x), some (.inl y), some (.inl k7), some (.inl k8)]) (st' := [.inl y, .inl k8, .inr (.inr (.inl (some (77))))]) (h' := h) rfl ?_
            refine wq_cv (p' := 47) (av_qc (.invokevirtual 403) 175 2 0 8) 3 cd_175 [.inl y, .inl k8] (77) 8 [some (.inr (.inr (.inl (some (77))))), some (.inl k8), some (.inl y)] (ck_206 _ _ rfl) rfl rfl pp_175 rfl rfl rfl (congrArg Prod.fst (ly_k I.1.1.1 77 rfl)) rfl rfl rfl rfl ?_
            have q26 := P5 (Int.toNat (k8)) (by omega) (by rw [← p20]; omega)
            have q26o := o5_r (ro := ro) H (q := (Int.toNat (k8))) (by omega)
            have q26e := ER (Int.toNat (k8)) (by omega)
            refine cx_175 I F en X W R H (k8) (by omega) (y) (by omega) (by rw [q26.1]; omega) (by rw [q26.2]; omega) (fun v24 p25 => ?_)
            rw [q26.1, q26.2] at p25
            have g27 := opR_d p25
            clear p25
            show av_wp _ cd_206 47 [some (.inr (.inr (.inl (some (77))))), some (.inl x), some (.inl y), some (.inl k7), some (.inl k8)] [.inl v24] h _
            refine wq_k1 (p' := 50) (ck_206 _ _ rfl) rfl ⟨by omega, by omega⟩ (fun c28 => ?_) (fun c29 => ?_)
            · have c28 : v24 ≠ (0) := c28
              refine av_wp_sqF ck_206 1 (pc' := 54) (lv' := [some (.inr (.inr (.inl (some (77))))), some (.inl x), some (.inl y), some (.inl k7), some (.inl k8)]) (st' := [.inr (.inr (.inl (some (77))))]) (h' := h) rfl ?_
              refine wq_gr (p' := 57) (ck_206 _ _ rfl) rfl (congrArg Prod.fst (ly_k I.1.1.1 77 rfl)) rfl (ly_g I.1.1.1 77 35 101 rfl) ?_
              refine av_wp_sqF ck_206 1 (pc' := 59) (lv' := [some (.inr (.inr (.inl (some (77))))), some (.inl x), some (.inl y), some (.inl k7), some (.inl k8)]) (st' := [.inl k8, .inr (.inr (.inl (some (101))))]) (h' := h) rfl ?_
              obtain ⟨v30, e31⟩ : ∃ v, hA h 101 (Int.toNat (k8)) = v := ⟨_, rfl⟩
              have g32 : 0 ≤ hA h 101 (Int.toNat (k8)) ∧ hA h 101 (Int.toNat (k8)) ≤ 2 := im_w I.1.1 101 (by decide) (by decide) _
              rw [e31] at g32
              have y33 : hA h 101 (Int.toNat (k8)) = v30 := (congrFun (Z.1 101 rfl) _).symm.trans e31
              have y34 := (X.1 (Int.toNat (k8)) (by omega)).1.2.2.2.2.1
              rw [e31] at y34
              refine wq_al (p' := 60) (n := 12) (ck_206 _ _ rfl) rfl (ly_k I.1.1.1 101 rfl) (by omega) (e31) ?_
              refine av_wp_sqF ck_206 1 (pc' := 61) (lv' := [some (.inr (.inr (.inl (some (77))))), some (.inl x), some (.inl y), some (.inl k7), some (.inl k8)]) (st' := [.inl x, .inl v30]) (h' := h) rfl ?_
              refine wq_k2 (p' := 64) (ck_206 _ _ rfl) rfl ⟨by omega, by omega⟩ ⟨by omega, by omega⟩ (fun c35 => ?_) (fun c36 => ?_)
              · have c35 : v30 ≠ x := c35
                refine av_wp_sqF ck_206 1 (pc' := 100) (lv' := [some (.inr (.inr (.inl (some (77))))), some (.inl x), some (.inl y), some (.inl k7), some (.inl k8)]) (st' := [.inr (.inr (.inl (some (77))))]) (h' := h) rfl ?_
                refine wq_gr (p' := 103) (ck_206 _ _ rfl) rfl (congrArg Prod.fst (ly_k I.1.1.1 77 rfl)) rfl (ly_g I.1.1.1 77 36 102 rfl) ?_
                refine av_wp_sqF ck_206 1 (pc' := 105) (lv' := [some (.inr (.inr (.inl (some (77))))), some (.inl x), some (.inl y), some (.inl k7), some (.inl k8)]) (st' := [.inl k8, .inr (.inr (.inl (some (102))))]) (h' := h) rfl ?_
                obtain ⟨v37, e38⟩ : ∃ v, hA h 102 (Int.toNat (k8)) = v := ⟨_, rfl⟩
                have g39 : -1 ≤ hA h 102 (Int.toNat (k8)) ∧ hA h 102 (Int.toNat (k8)) ≤ 2 := im_w I.1.1 102 (by decide) (by decide) _
                rw [e38] at g39
                have y40 : hA h 102 (Int.toNat (k8)) = v37 := (congrFun (Z.1 102 rfl) _).symm.trans e38
                have y41 := (X.1 (Int.toNat (k8)) (by omega)).1.2.2.2.2.2.1
                rw [e38] at y41
                refine wq_al (p' := 106) (n := 12) (ck_206 _ _ rfl) rfl (ly_k I.1.1.1 102 rfl) (by omega) (e38) ?_
                refine av_wp_sqF ck_206 1 (pc' := 107) (lv' := [some (.inr (.inr (.inl (some (77))))), some (.inl x), some (.inl y), some (.inl k7), some (.inl k8)]) (st' := [.inl x, .inl v37]) (h' := h) rfl ?_
                refine wq_k2 (p' := 110) (ck_206 _ _ rfl) rfl ⟨by omega, by omega⟩ ⟨by omega, by omega⟩ (fun c42 => ?_) (fun c43 => ?_)
                · have c42 : v37 ≠ x := c42
                  refine av_wp_sqF ck_206 2 (pc' := 22) (lv' := [some (.inr (.inr (.inl (some (77))))), some (.inl x), some (.inl y), some (.inl k7), some (.inl (k8 + (1)))]) (st' := []) (h' := h) rfl ?_
                  exact I11 _ (by omega) (k7) ((k8 + (1))) (by have z5 := o5_r (ro := ro) H (q := (Int.toNat k8)) (by omega); have z6 := rl_6 R; rw [show Int.toNat (k8 + (1)) = Int.toNat k8 + 1 by omega]; exact CNI_s g13 (my1 (by omega) z6 (by omega)) (my2 (by omega) (by omega)) (by omega) (by omega) (by omega)) (by omega) (by omega) (by omega) rfl
                · have c43 : v37 = x := c43
                  refine av_wp_sqF ck_206 1 (pc' := 111) (lv' := [some (.inr (.inr (.inl (some (77))))), some (.inl x), some (.inl y), some (.inl k7), some (.inl k8)]) (st' := [.inr (.inr (.inl (some (77))))]) (h' := h) rfl ?_
                  refine wq_gr (p' := 114) (ck_206 _ _ rfl) rfl (congrArg Prod.fst (ly_k I.1.1.1 77 rfl)) rfl (ly_g I.1.1.1 77 44 110 rfl) ?_
                  refine av_wp_sqF ck_206 1 (pc' := 116) (lv' := [some (.inr (.inr (.inl (some (77))))), some (.inl x), some (.inl y), some (.inl k7), some (.inl k8)]) (st' := [.inl k8, .inr (.inr (.inl (some (110))))]) (h' := h) rfl ?_
                  obtain ⟨v44, e45⟩ : ∃ v, hA h 110 (Int.toNat (k8)) = v := ⟨_, rfl⟩
                  have y47 : hA h 110 (Int.toNat (k8)) = v44 := (congrFun (Z.1 110 rfl) _).symm.trans e45
                  have y48 : v44 = hw a0 (Int.toNat (k8)) 1 := LR_w X (by omega) (by omega) s12 (Or.inr (Or.inl ⟨rfl, e45.symm⟩))
                  have g49 := hw_r H (k := (Int.toNat (k8))) (by omega) 1
                  rw [← y48] at g49
                  refine wq_al (p' := 117) (n := 12) (ck_206 _ _ rfl) rfl (ly_k I.1.1.1 110 rfl) (by omega) (e45) ?_
                  refine wq_k1 (p' := 120) (ck_206 _ _ rfl) rfl ⟨by omega, by omega⟩ (fun c50 => ?_) (fun c51 => ?_)
                  · have c50 : v44 < (0) := c50
                    refine av_wp_sqF ck_206 2 (pc' := 22) (lv' := [some (.inr (.inr (.inl (some (77))))), some (.inl x), some (.inl y), some (.inl k7), some (.inl (k8 + (1)))]) (st' := []) (h' := h) rfl ?_
                    exact I11 _ (by omega) (k7) ((k8 + (1))) (by have z5 := o5_r (ro := ro) H (q := (Int.toNat k8)) (by omega); have z6 := rl_6 R; rw [show Int.toNat (k8 + (1)) = Int.toNat k8 + 1 by omega]; exact CNI_s g13 (my1 (by omega) z6 (by omega)) (my2 (by omega) (by omega)) (by omega) (by omega) (by omega)) (by omega) (by omega) (by omega) rfl
                  · have c51 : (0) ≤ v44 := c51
                    refine av_wp_sqF ck_206 1 (pc' := 121) (lv' := [some (.inr (.inr (.inl (some (77))))), some (.inl x), some (.inl y), some (.inl k7), some (.inl k8)]) (st' := [.inr (.inr (.inl (some (77))))]) (h' := h) rfl ?_
                    refine wq_gr (p' := 124) (ck_206 _ _ rfl) rfl (congrArg Prod.fst (ly_k I.1.1.1 77 rfl)) rfl (ly_g I.1.1.1 77 44 110 rfl) ?_
                    refine av_wp_sqF ck_206 1 (pc' := 126) (lv' := [some (.inr (.inr (.inl (some (77))))), some (.inl x), some (.inl y), some (.inl k7), some (.inl k8)]) (st' := [.inl k8, .inr (.inr (.inl (some (110))))]) (h' := h) rfl ?_
                    obtain ⟨v52, e53⟩ : ∃ v, hA h 110 (Int.toNat (k8)) = v := ⟨_, rfl⟩
                    have y55 : hA h 110 (Int.toNat (k8)) = v52 := (congrFun (Z.1 110 rfl) _).symm.trans e53
                    have y56 : v52 = hw a0 (Int.toNat (k8)) 1 := LR_w X (by omega) (by omega) s12 (Or.inr (Or.inl ⟨rfl, e53.symm⟩))
                    have g57 := hw_r H (k := (Int.toNat (k8))) (by omega) 1
                    rw [← y56] at g57
                    refine wq_al (p' := 127) (n := 12) (ck_206 _ _ rfl) rfl (ly_k I.1.1.1 110 rfl) (by omega) (e53) ?_
                    refine av_wp_sqF ck_206 1 (pc' := 128) (lv' := [some (.inr (.inr (.inl (some (77))))), some (.inl x), some (.inl y), some (.inl k7), some (.inl k8)]) (st' := [.inl y, .inl v52]) (h' := h) rfl ?_
                    refine wq_k2 (p' := 131) (ck_206 _ _ rfl) rfl ⟨by omega, by omega⟩ ⟨by omega, by omega⟩ (fun c58 => ?_) (fun c59 => ?_)
                    · have c58 : y < v52 := c58
                      refine av_wp_sqF ck_206 2 (pc' := 22) (lv' := [some (.inr (.inr (.inl (some (77))))), some (.inl x), some (.inl y), some (.inl k7), some (.inl (k8 + (1)))]) (st' := []) (h' := h) rfl ?_
                      exact I11 _ (by omega) (k7) ((k8 + (1))) (by have z5 := o5_r (ro := ro) H (q := (Int.toNat k8)) (by omega); have z6 := rl_6 R; rw [show Int.toNat (k8 + (1)) = Int.toNat k8 + 1 by omega]; exact CNI_s g13 (my1 (by omega) z6 (by omega)) (my2 (by omega) (by omega)) (by omega) (by omega) (by omega)) (by omega) (by omega) (by omega) rfl
                    · have c59 : v52 ≤ y := c59
                      refine av_wp_sqF ck_206 2 (pc' := 133) (lv' := [some (.inr (.inr (.inl (some (77))))), some (.inl x), some (.inl y), some (.inl k7), some (.inl k8)]) (st' := [.inl (2), .inl k7]) (h' := h) rfl ?_
                      refine av_wp_sqF ck_206 1 (pc' := 134) (lv' := [some (.inr (.inr (.inl (some (77))))), some (.inl x), some (.inl y), some (.inl k7), some (.inl k8)]) (st' := [.inl (av_or k7 (2))]) (h' := h) rfl ?_
                      have g61 := or_2 (x := k7) (by omega)
                      generalize av_or k7 (2) = v60 at g61 ⊢
                      refine av_wp_sqF ck_206 3 (pc' := 22) (lv' := [some (.inr (.inr (.inl (some (77))))), some (.inl x), some (.inl y), some (.inl v60), some (.inl (k8 + (1)))]) (st' := []) (h' := h) rfl ?_
                      exact I11 _ (by omega) (v60) ((k8 + (1))) (by have z5 := o5_r (ro := ro) H (q := (Int.toNat k8)) (by omega); have z6 := rl_6 R; rw [show Int.toNat (k8 + (1)) = Int.toNat k8 + 1 by omega]; exact CNI_s g13 (my1 (by omega) z6 (by omega)) (my2 (by omega) (by omega)) (by omega) (by omega) (by omega)) (by omega) (by omega) (by omega) rfl
              · have c36 : v30 = x := c36
                refine av_wp_sqF ck_206 1 (pc' := 65) (lv' := [some (.inr (.inr (.inl (some (77))))), some (.inl x), some (.inl y), some (.inl k7), some (.inl k8)]) (st' := [.inr (.inr (.inl (some (77))))]) (h' := h) rfl ?_
                refine wq_gr (p' := 68) (ck_206 _ _ rfl) rfl (congrArg Prod.fst (ly_k I.1.1.1 77 rfl)) rfl (ly_g I.1.1.1 77 33 99 rfl) ?_
                refine av_wp_sqF ck_206 1 (pc' := 70) (lv' := [some (.inr (.inr (.inl (some (77))))), some (.inl x), some (.inl y), some (.inl k7), some (.inl k8)]) (st' := [.inl k8, .inr (.inr (.inl (some (99))))]) (h' := h) rfl ?_
                obtain ⟨v62, e63⟩ : ∃ v, hA h 99 (Int.toNat (k8)) = v := ⟨_, rfl⟩
                have g64 : -1 ≤ hA h 99 (Int.toNat (k8)) ∧ hA h 99 (Int.toNat (k8)) ≤ 1999 := im_w I.1.1 99 (by decide) (by decide) _
                rw [e63] at g64
                have y65 : hA h 99 (Int.toNat (k8)) = v62 := (congrFun (Z.1 99 rfl) _).symm.trans e63
                have y66 := (X.1 (Int.toNat (k8)) (by omega)).1.2.2.1
                rw [e63] at y66
                have g67 := W (Int.toNat (k8)) (by omega)
                rw [← y66] at g67
                refine wq_al (p' := 71) (n := 12) (ck_206 _ _ rfl) rfl (ly_k I.1.1.1 99 rfl) (by omega) (e63) ?_
                refine wq_k1 (p' := 74) (ck_206 _ _ rfl) rfl ⟨by omega, by omega⟩ (fun c68 => ?_) (fun c69 => ?_)
                · have c68 : v62 < (0) := c68
                  refine av_wp_sqF ck_206 2 (pc' := 97) (lv' := [some (.inr (.inr (.inl (some (77))))), some (.inl x), some (.inl y), some (.inl k7), some (.inl k8)]) (st' := [.inl (1), .inl k7]) (h' := h) rfl ?_
                  refine av_wp_sqF ck_206 1 (pc' := 98) (lv' := [some (.inr (.inr (.inl (some (77))))), some (.inl x), some (.inl y), some (.inl k7), some (.inl k8)]) (st' := [.inl (av_or k7 (1))]) (h' := h) rfl ?_
                  have g71 := or_1 (x := k7) (by omega)
                  generalize av_or k7 (1) = v70 at g71 ⊢
                  refine av_wp_sqF ck_206 2 (pc' := 100) (lv' := [some (.inr (.inr (.inl (some (77))))), some (.inl x), some (.inl y), some (.inl v70), some (.inl k8)]) (st' := [.inr (.inr (.inl (some (77))))]) (h' := h) rfl ?_
                  refine wq_gr (p' := 103) (ck_206 _ _ rfl) rfl (congrArg Prod.fst (ly_k I.1.1.1 77 rfl)) rfl (ly_g I.1.1.1 77 36 102 rfl) ?_
                  refine av_wp_sqF ck_206 1 (pc' := 105) (lv' := [some (.inr (.inr (.inl (some (77))))), some (.inl x), some (.inl y), some (.inl v70), some (.inl k8)]) (st' := [.inl k8, .inr (.inr (.inl (some (102))))]) (h' := h) rfl ?_
                  obtain ⟨v72, e73⟩ : ∃ v, hA h 102 (Int.toNat (k8)) = v := ⟨_, rfl⟩
                  have g74 : -1 ≤ hA h 102 (Int.toNat (k8)) ∧ hA h 102 (Int.toNat (k8)) ≤ 2 := im_w I.1.1 102 (by decide) (by decide) _
                  rw [e73] at g74
                  have y75 : hA h 102 (Int.toNat (k8)) = v72 := (congrFun (Z.1 102 rfl) _).symm.trans e73
                  have y76 := (X.1 (Int.toNat (k8)) (by omega)).1.2.2.2.2.2.1
                  rw [e73] at y76
                  refine wq_al (p' := 106) (n := 12) (ck_206 _ _ rfl) rfl (ly_k I.1.1.1 102 rfl) (by omega) (e73) ?_
                  refine av_wp_sqF ck_206 1 (pc' := 107) (lv' := [some (.inr (.inr (.inl (some (77))))), some (.inl x), some (.inl y), some (.inl v70), some (.inl k8)]) (st' := [.inl x, .inl v72]) (h' := h) rfl ?_
                  refine wq_k2 (p' := 110) (ck_206 _ _ rfl) rfl ⟨by omega, by omega⟩ ⟨by omega, by omega⟩ (fun c77 => ?_) (fun c78 => ?_)
                  · have c77 : v72 ≠ x := c77
                    refine av_wp_sqF ck_206 2 (pc' := 22) (lv' := [some (.inr (.inr (.inl (some (77))))), some (.inl x), some (.inl y), some (.inl v70), some (.inl (k8 + (1)))]) (st' := []) (h' := h) rfl ?_
                    exact I11 _ (by omega) (v70) ((k8 + (1))) (by have z5 := o5_r (ro := ro) H (q := (Int.toNat k8)) (by omega); have z6 := rl_6 R; rw [show Int.toNat (k8 + (1)) = Int.toNat k8 + 1 by omega]; exact CNI_s g13 (my1 (by omega) z6 (by omega)) (my2 (by omega) (by omega)) (by omega) (by omega) (by omega)) (by omega) (by omega) (by omega) rfl
                  · have c78 : v72 = x := c78
                    refine av_wp_sqF ck_206 1 (pc' := 111) (lv' := [some (.inr (.inr (.inl (some (77))))), some (.inl x), some (.inl y), some (.inl v70), some (.inl k8)]) (st' := [.inr (.inr (.inl (some (77))))]) (h' := h) rfl ?_
                    refine wq_gr (p' := 114) (ck_206 _ _ rfl) rfl (congrArg Prod.fst (ly_k I.1.1.1 77 rfl)) rfl (ly_g I.1.1.1 77 44 110 rfl) ?_
                    refine av_wp_sqF ck_206 1 (pc' := 116) (lv' := [some (.inr (.inr (.inl (some (77))))), some (.inl x), some (.inl y), some (.inl v70), some (.inl k8)]) (st' := [.inl k8, .inr (.inr (.inl (some (110))))]) (h' := h) rfl ?_
                    obtain ⟨v79, e80⟩ : ∃ v, hA h 110 (Int.toNat (k8)) = v := ⟨_, rfl⟩
                    have y82 : hA h 110 (Int.toNat (k8)) = v79 := (congrFun (Z.1 110 rfl) _).symm.trans e80
                    have y83 : v79 = hw a0 (Int.toNat (k8)) 1 := LR_w X (by omega) (by omega) s12 (Or.inr (Or.inl ⟨rfl, e80.symm⟩))
                    have g84 := hw_r H (k := (Int.toNat (k8))) (by omega) 1
                    rw [← y83] at g84
                    refine wq_al (p' := 117) (n := 12) (ck_206 _ _ rfl) rfl (ly_k I.1.1.1 110 rfl) (by omega) (e80) ?_
                    refine wq_k1 (p' := 120) (ck_206 _ _ rfl) rfl ⟨by omega, by omega⟩ (fun c85 => ?_) (fun c86 => ?_)
                    · have c85 : v79 < (0) := c85
                      refine av_wp_sqF ck_206 2 (pc' := 22) (lv' := [some (.inr (.inr (.inl (some (77))))), some (.inl x), some (.inl y), some (.inl v70), some (.inl (k8 + (1)))]) (st' := []) (h' := h) rfl ?_
                      exact I11 _ (by omega) (v70) ((k8 + (1))) (by have z5 := o5_r (ro := ro) H (q := (Int.toNat k8)) (by omega); have z6 := rl_6 R; rw [show Int.toNat (k8 + (1)) = Int.toNat k8 + 1 by omega]; exact CNI_s g13 (my1 (by omega) z6 (by omega)) (my2 (by omega) (by omega)) (by omega) (by omega) (by omega)) (by omega) (by omega) (by omega) rfl
                    · have c86 : (0) ≤ v79 := c86
                      refine av_wp_sqF ck_206 1 (pc' := 121) (lv' := [some (.inr (.inr (.inl (some (77))))), some (.inl x), some (.inl y), some (.inl v70), some (.inl k8)]) (st' := [.inr (.inr (.inl (some (77))))]) (h' := h) rfl ?_
                      refine wq_gr (p' := 124) (ck_206 _ _ rfl) rfl (congrArg Prod.fst (ly_k I.1.1.1 77 rfl)) rfl (ly_g I.1.1.1 77 44 110 rfl) ?_
                      refine av_wp_sqF ck_206 1 (pc' := 126) (lv' := [some (.inr (.inr (.inl (some (77))))), some (.inl x), some (.inl y), some (.inl v70), some (.inl k8)]) (st' := [.inl k8, .inr (.inr (.inl (some (110))))]) (h' := h) rfl ?_
                      obtain ⟨v87, e88⟩ : ∃ v, hA h 110 (Int.toNat (k8)) = v := ⟨_, rfl⟩
                      have y90 : hA h 110 (Int.toNat (k8)) = v87 := (congrFun (Z.1 110 rfl) _).symm.trans e88
                      have y91 : v87 = hw a0 (Int.toNat (k8)) 1 := LR_w X (by omega) (by omega) s12 (Or.inr (Or.inl ⟨rfl, e88.symm⟩))
                      have g92 := hw_r H (k := (Int.toNat (k8))) (by omega) 1
                      rw [← y91] at g92
                      refine wq_al (p' := 127) (n := 12) (ck_206 _ _ rfl) rfl (ly_k I.1.1.1 110 rfl) (by omega) (e88) ?_
                      refine av_wp_sqF ck_206 1 (pc' := 128) (lv' := [some (.inr (.inr (.inl (some (77))))), some (.inl x), some (.inl y), some (.inl v70), some (.inl k8)]) (st' := [.inl y, .inl v87]) (h' := h) rfl ?_
                      refine wq_k2 (p' := 131) (ck_206 _ _ rfl) rfl ⟨by omega, by omega⟩ ⟨by omega, by omega⟩ (fun c93 => ?_) (fun c94 => ?_)
                      · have c93 : y < v87 := c93
                        refine av_wp_sqF ck_206 2 (pc' := 22) (lv' := [some (.inr (.inr (.inl (some (77))))), some (.inl x), some (.inl y), some (.inl v70), some (.inl (k8 + (1)))]) (st' := []) (h' := h) rfl ?_
                        exact I11 _ (by omega) (v70) ((k8 + (1))) (by have z5 := o5_r (ro := ro) H (q := (Int.toNat k8)) (by omega); have z6 := rl_6 R; rw [show Int.toNat (k8 + (1)) = Int.toNat k8 + 1 by omega]; exact CNI_s g13 (my1 (by omega) z6 (by omega)) (my2 (by omega) (by omega)) (by omega) (by omega) (by omega)) (by omega) (by omega) (by omega) rfl
                      · have c94 : v87 ≤ y := c94
                        refine av_wp_sqF ck_206 2 (pc' := 133) (lv' := [some (.inr (.inr (.inl (some (77))))), some (.inl x), some (.inl y), some (.inl v70), some (.inl k8)]) (st' := [.inl (2), .inl v70]) (h' := h) rfl ?_
                        refine av_wp_sqF ck_206 1 (pc' := 134) (lv' := [some (.inr (.inr (.inl (some (77))))), some (.inl x), some (.inl y), some (.inl v70), some (.inl k8)]) (st' := [.inl (av_or v70 (2))]) (h' := h) rfl ?_
                        have g96 := or_2 (x := v70) (by omega)
                        generalize av_or v70 (2) = v95 at g96 ⊢
                        refine av_wp_sqF ck_206 3 (pc' := 22) (lv' := [some (.inr (.inr (.inl (some (77))))), some (.inl x), some (.inl y), some (.inl v95), some (.inl (k8 + (1)))]) (st' := []) (h' := h) rfl ?_
                        exact I11 _ (by omega) (v95) ((k8 + (1))) (by have z5 := o5_r (ro := ro) H (q := (Int.toNat k8)) (by omega); have z6 := rl_6 R; rw [show Int.toNat (k8 + (1)) = Int.toNat k8 + 1 by omega]; exact CNI_s g13 (my1 (by omega) z6 (by omega)) (my2 (by omega) (by omega)) (by omega) (by omega) (by omega)) (by omega) (by omega) (by omega) rfl
                · have c69 : (0) ≤ v62 := c69
                  refine av_wp_sqF ck_206 1 (pc' := 75) (lv' := [some (.inr (.inr (.inl (some (77))))), some (.inl x), some (.inl y), some (.inl k7), some (.inl k8)]) (st' := [.inr (.inr (.inl (some (77))))]) (h' := h) rfl ?_
                  refine wq_gr (p' := 78) (ck_206 _ _ rfl) rfl (congrArg Prod.fst (ly_k I.1.1.1 77 rfl)) rfl (ly_g I.1.1.1 77 26 95 rfl) ?_
                  refine av_wp_sqF ck_206 1 (pc' := 80) (lv' := [some (.inr (.inr (.inl (some (77))))), some (.inl x), some (.inl y), some (.inl k7), some (.inl k8)]) (st' := [.inl (6), .inr (.inr (.inl (some (95))))]) (h' := h) rfl ?_
                  obtain ⟨v97, e98⟩ : ∃ v, hA h 95 (Int.toNat ((6))) = v := ⟨_, rfl⟩
                  have y100 : hA h 95 (Int.toNat ((6))) = v97 := (congrFun (Z.1 95 rfl) _).symm.trans e98
                  have y101 : ro 6 = v97 := (X.2 6 (by omega)).symm.trans e98
                  have g102 := rl_6 R
                  refine wq_al (p' := 81) (n := 13) (ck_206 _ _ rfl) rfl (ly_k I.1.1.1 95 rfl) (by omega) (e98) ?_
                  refine wq_k1 (p' := 84) (ck_206 _ _ rfl) rfl ⟨by omega, by omega⟩ (fun c103 => ?_) (fun c104 => ?_)
                  · have c103 : v97 = (0) := c103
                    refine av_wp_sqF ck_206 2 (pc' := 97) (lv' := [some (.inr (.inr (.inl (some (77))))), some (.inl x), some (.inl y), some (.inl k7), some (.inl k8)]) (st' := [.inl (1), .inl k7]) (h' := h) rfl ?_
                    refine av_wp_sqF ck_206 1 (pc' := 98) (lv' := [some (.inr (.inr (.inl (some (77))))), some (.inl x), some (.inl y), some (.inl k7), some (.inl k8)]) (st' := [.inl (av_or k7 (1))]) (h' := h) rfl ?_
                    have g106 := or_1 (x := k7) (by omega)
                    generalize av_or k7 (1) = v105 at g106 ⊢
                    refine av_wp_sqF ck_206 2 (pc' := 100) (lv' := [some (.inr (.inr (.inl (some (77))))), some (.inl x), some (.inl y), some (.inl v105), some (.inl k8)]) (st' := [.inr (.inr (.inl (some (77))))]) (h' := h) rfl ?_
                    refine wq_gr (p' := 103) (ck_206 _ _ rfl) rfl (congrArg Prod.fst (ly_k I.1.1.1 77 rfl)) rfl (ly_g I.1.1.1 77 36 102 rfl) ?_
                    refine av_wp_sqF ck_206 1 (pc' := 105) (lv' := [some (.inr (.inr (.inl (some (77))))), some (.inl x), some (.inl y), some (.inl v105), some (.inl k8)]) (st' := [.inl k8, .inr (.inr (.inl (some (102))))]) (h' := h) rfl ?_
                    obtain ⟨v107, e108⟩ : ∃ v, hA h 102 (Int.toNat (k8)) = v := ⟨_, rfl⟩
                    have g109 : -1 ≤ hA h 102 (Int.toNat (k8)) ∧ hA h 102 (Int.toNat (k8)) ≤ 2 := im_w I.1.1 102 (by decide) (by decide) _
                    rw [e108] at g109
                    have y110 : hA h 102 (Int.toNat (k8)) = v107 := (congrFun (Z.1 102 rfl) _).symm.trans e108
                    have y111 := (X.1 (Int.toNat (k8)) (by omega)).1.2.2.2.2.2.1
                    rw [e108] at y111
                    refine wq_al (p' := 106) (n := 12) (ck_206 _ _ rfl) rfl (ly_k I.1.1.1 102 rfl) (by omega) (e108) ?_
                    refine av_wp_sqF ck_206 1 (pc' := 107) (lv' := [some (.inr (.inr (.inl (some (77))))), some (.inl x), some (.inl y), some (.inl v105), some (.inl k8)]) (st' := [.inl x, .inl v107]) (h' := h) rfl ?_
                    refine wq_k2 (p' := 110) (ck_206 _ _ rfl) rfl ⟨by omega, by omega⟩ ⟨by omega, by omega⟩ (fun c112 => ?_) (fun c113 => ?_)
                    · have c112 : v107 ≠ x := c112
                      refine av_wp_sqF ck_206 2 (pc' := 22) (lv' := [some (.inr (.inr (.inl (some (77))))), some (.inl x), some (.inl y), some (.inl v105), some (.inl (k8 + (1)))]) (st' := []) (h' := h) rfl ?_
                      exact I11 _ (by omega) (v105) ((k8 + (1))) (by have z5 := o5_r (ro := ro) H (q := (Int.toNat k8)) (by omega); have z6 := rl_6 R; rw [show Int.toNat (k8 + (1)) = Int.toNat k8 + 1 by omega]; exact CNI_s g13 (my1 (by omega) z6 (by omega)) (my2 (by omega) (by omega)) (by omega) (by omega) (by omega)) (by omega) (by omega) (by omega) rfl
                    · have c113 : v107 = x := c113
                      refine av_wp_sqF ck_206 1 (pc' := 111) (lv' := [some (.inr (.inr (.inl (some (77))))), some (.inl x), some (.inl y), some (.inl v105), some (.inl k8)]) (st' := [.inr (.inr (.inl (some (77))))]) (h' := h) rfl ?_
                      refine wq_gr (p' := 114) (ck_206 _ _ rfl) rfl (congrArg Prod.fst (ly_k I.1.1.1 77 rfl)) rfl (ly_g I.1.1.1 77 44 110 rfl) ?_
                      refine av_wp_sqF ck_206 1 (pc' := 116) (lv' := [some (.inr (.inr (.inl (some (77))))), some (.inl x), some (.inl y), some (.inl v105), some (.inl k8)]) (st' := [.inl k8, .inr (.inr (.inl (some (110))))]) (h' := h) rfl ?_
                      obtain ⟨v114, e115⟩ : ∃ v, hA h 110 (Int.toNat (k8)) = v := ⟨_, rfl⟩
                      have y117 : hA h 110 (Int.toNat (k8)) = v114 := (congrFun (Z.1 110 rfl) _).symm.trans e115
                      have y118 : v114 = hw a0 (Int.toNat (k8)) 1 := LR_w X (by omega) (by omega) s12 (Or.inr (Or.inl ⟨rfl, e115.symm⟩))
                      have g119 := hw_r H (k := (Int.toNat (k8))) (by omega) 1
                      rw [← y118] at g119
                      refine wq_al (p' := 117) (n := 12) (ck_206 _ _ rfl) rfl (ly_k I.1.1.1 110 rfl) (by omega) (e115) ?_
                      refine wq_k1 (p' := 120) (ck_206 _ _ rfl) rfl ⟨by omega, by omega⟩ (fun c120 => ?_) (fun c121 => ?_)
                      · have c120 : v114 < (0) := c120
                        refine av_wp_sqF ck_206 2 (pc' := 22) (lv' := [some (.inr (.inr (.inl (some (77))))), some (.inl x), some (.inl y), some (.inl v105), some (.inl (k8 + (1)))]) (st' := []) (h' := h) rfl ?_
                        exact I11 _ (by omega) (v105) ((k8 + (1))) (by have z5 := o5_r (ro := ro) H (q := (Int.toNat k8)) (by omega); have z6 := rl_6 R; rw [show Int.toNat (k8 + (1)) = Int.toNat k8 + 1 by omega]; exact CNI_s g13 (my1 (by omega) z6 (by omega)) (my2 (by omega) (by omega)) (by omega) (by omega) (by omega)) (by omega) (by omega) (by omega) rfl
                      · have c121 : (0) ≤ v114 := c121
                        refine av_wp_sqF ck_206 1 (pc' := 121) (lv' := [some (.inr (.inr (.inl (some (77))))), some (.inl x), some (.inl y), some (.inl v105), some (.inl k8)]) (st' := [.inr (.inr (.inl (some (77))))]) (h' := h) rfl ?_
                        refine wq_gr (p' := 124) (ck_206 _ _ rfl) rfl (congrArg Prod.fst (ly_k I.1.1.1 77 rfl)) rfl (ly_g I.1.1.1 77 44 110 rfl) ?_
                        refine av_wp_sqF ck_206 1 (pc' := 126) (lv' := [some (.inr (.inr (.inl (some (77))))), some (.inl x), some (.inl y), some (.inl v105), some (.inl k8)]) (st' := [.inl k8, .inr (.inr (.inl (some (110))))]) (h' := h) rfl ?_
                        obtain ⟨v122, e123⟩ : ∃ v, hA h 110 (Int.toNat (k8)) = v := ⟨_, rfl⟩
                        have y125 : hA h 110 (Int.toNat (k8)) = v122 := (congrFun (Z.1 110 rfl) _).symm.trans e123
                        have y126 : v122 = hw a0 (Int.toNat (k8)) 1 := LR_w X (by omega) (by omega) s12 (Or.inr (Or.inl ⟨rfl, e123.symm⟩))
                        have g127 := hw_r H (k := (Int.toNat (k8))) (by omega) 1
                        rw [← y126] at g127
                        refine wq_al (p' := 127) (n := 12) (ck_206 _ _ rfl) rfl (ly_k I.1.1.1 110 rfl) (by omega) (e123) ?_
                        refine av_wp_sqF ck_206 1 (pc' := 128) (lv' := [some (.inr (.inr (.inl (some (77))))), some (.inl x), some (.inl y), some (.inl v105), some (.inl k8)]) (st' := [.inl y, .inl v122]) (h' := h) rfl ?_
                        refine wq_k2 (p' := 131) (ck_206 _ _ rfl) rfl ⟨by omega, by omega⟩ ⟨by omega, by omega⟩ (fun c128 => ?_) (fun c129 => ?_)
                        · have c128 : y < v122 := c128
                          refine av_wp_sqF ck_206 2 (pc' := 22) (lv' := [some (.inr (.inr (.inl (some (77))))), some (.inl x), some (.inl y), some (.inl v105), some (.inl (k8 + (1)))]) (st' := []) (h' := h) rfl ?_
                          exact I11 _ (by omega) (v105) ((k8 + (1))) (by have z5 := o5_r (ro := ro) H (q := (Int.toNat k8)) (by omega); have z6 := rl_6 R; rw [show Int.toNat (k8 + (1)) = Int.toNat k8 + 1 by omega]; exact CNI_s g13 (my1 (by omega) z6 (by omega)) (my2 (by omega) (by omega)) (by omega) (by omega) (by omega)) (by omega) (by omega) (by omega) rfl
                        · have c129 : v122 ≤ y := c129
                          refine av_wp_sqF ck_206 2 (pc' := 133) (lv' := [some (.inr (.inr (.inl (some (77))))), some (.inl x), some (.inl y), some (.inl v105), some (.inl k8)]) (st' := [.inl (2), .inl v105]) (h' := h) rfl ?_
                          refine av_wp_sqF ck_206 1 (pc' := 134) (lv' := [some (.inr (.inr (.inl (some (77))))), some (.inl x), some (.inl y), some (.inl v105), some (.inl k8)]) (st' := [.inl (av_or v105 (2))]) (h' := h) rfl ?_
                          have g131 := or_2 (x := v105) (by omega)
                          generalize av_or v105 (2) = v130 at g131 ⊢
                          refine av_wp_sqF ck_206 3 (pc' := 22) (lv' := [some (.inr (.inr (.inl (some (77))))), some (.inl x), some (.inl y), some (.inl v130), some (.inl (k8 + (1)))]) (st' := []) (h' := h) rfl ?_
                          exact I11 _ (by omega) (v130) ((k8 + (1))) (by have z5 := o5_r (ro := ro) H (q := (Int.toNat k8)) (by omega); have z6 := rl_6 R; rw [show Int.toNat (k8 + (1)) = Int.toNat k8 + 1 by omega]; exact CNI_s g13 (my1 (by omega) z6 (by omega)) (my2 (by omega) (by omega)) (by omega) (by omega) (by omega)) (by omega) (by omega) (by omega) rfl
                  · have c104 : v97 ≠ (0) := c104
                    refine av_wp_sqF ck_206 2 (pc' := 86) (lv' := [some (.inr (.inr (.inl (some (77))))), some (.inl x), some (.inl y), some (.inl k7), some (.inl k8)]) (st' := [.inr (.inr (.inl (some (77)))), .inl y]) (h' := h) rfl ?_
                    refine wq_gr (p' := 89) (ck_206 _ _ rfl) rfl (congrArg Prod.fst (ly_k I.1.1.1 77 rfl)) rfl (ly_g I.1.1.1 77 33 99 rfl) ?_
                    refine av_wp_sqF ck_206 1 (pc' := 91) (lv' := [some (.inr (.inr (.inl (some (77))))), some (.inl x), some (.inl y), some (.inl k7), some (.inl k8)]) (st' := [.inl k8, .inr (.inr (.inl (some (99)))), .inl y]) (h' := h) rfl ?_
                    obtain ⟨v132, e133⟩ : ∃ v, hA h 99 (Int.toNat (k8)) = v := ⟨_, rfl⟩
                    have g134 : -1 ≤ hA h 99 (Int.toNat (k8)) ∧ hA h 99 (Int.toNat (k8)) ≤ 1999 := im_w I.1.1 99 (by decide) (by decide) _
                    rw [e133] at g134
                    have y135 : hA h 99 (Int.toNat (k8)) = v132 := (congrFun (Z.1 99 rfl) _).symm.trans e133
                    have y136 := (X.1 (Int.toNat (k8)) (by omega)).1.2.2.1
                    rw [e133] at y136
                    have g137 := W (Int.toNat (k8)) (by omega)
                    rw [← y136] at g137
                    refine wq_al (p' := 92) (n := 12) (ck_206 _ _ rfl) rfl (ly_k I.1.1.1 99 rfl) (by omega) (e133) ?_
                    refine wq_k2 (p' := 95) (ck_206 _ _ rfl) rfl ⟨by omega, by omega⟩ ⟨by omega, by omega⟩ (fun c138 => ?_) (fun c139 => ?_)
                    · have c138 : y ≤ v132 := c138
                      refine av_wp_sqF ck_206 1 (pc' := 100) (lv' := [some (.inr (.inr (.inl (some (77))))), some (.inl x), some (.inl y), some (.inl k7), some (.inl k8)]) (st' := [.inr (.inr (.inl (some (77))))]) (h' := h) rfl ?_
                      refine wq_gr (p' := 103) (ck_206 _ _ rfl) rfl (congrArg Prod.fst (ly_k I.1.1.1 77 rfl)) rfl (ly_g I.1.1.1 77 36 102 rfl) ?_
                      refine av_wp_sqF ck_206 1 (pc' := 105) (lv' := [some (.inr (.inr (.inl (some (77))))), some (.inl x), some (.inl y), some (.inl k7), some (.inl k8)]) (st' := [.inl k8, .inr (.inr (.inl (some (102))))]) (h' := h) rfl ?_
                      obtain ⟨v140, e141⟩ : ∃ v, hA h 102 (Int.toNat (k8)) = v := ⟨_, rfl⟩
                      have g142 : -1 ≤ hA h 102 (Int.toNat (k8)) ∧ hA h 102 (Int.toNat (k8)) ≤ 2 := im_w I.1.1 102 (by decide) (by decide) _
                      rw [e141] at g142
                      have y143 : hA h 102 (Int.toNat (k8)) = v140 := (congrFun (Z.1 102 rfl) _).symm.trans e141
                      have y144 := (X.1 (Int.toNat (k8)) (by omega)).1.2.2.2.2.2.1
                      rw [e141] at y144
                      refine wq_al (p' := 106) (n := 12) (ck_206 _ _ rfl) rfl (ly_k I.1.1.1 102 rfl) (by omega) (e141) ?_
                      refine av_wp_sqF ck_206 1 (pc' := 107) (lv' := [some (.inr (.inr (.inl (some (77))))), some (.inl x), some (.inl y), some (.inl k7), some (.inl k8)]) (st' := [.inl x, .inl v140]) (h' := h) rfl ?_
                      refine wq_k2 (p' := 110) (ck_206 _ _ rfl) rfl ⟨by omega, by omega⟩ ⟨by omega, by omega⟩ (fun c145 => ?_) (fun c146 => ?_)
                      · have c145 : v140 ≠ x := c145
                        refine av_wp_sqF ck_206 2 (pc' := 22) (lv' := [some (.inr (.inr (.inl (some (77))))), some (.inl x), some (.inl y), some (.inl k7), some (.inl (k8 + (1)))]) (st' := []) (h' := h) rfl ?_
                        exact I11 _ (by omega) (k7) ((k8 + (1))) (by have z5 := o5_r (ro := ro) H (q := (Int.toNat k8)) (by omega); have z6 := rl_6 R; rw [show Int.toNat (k8 + (1)) = Int.toNat k8 + 1 by omega]; exact CNI_s g13 (my1 (by omega) z6 (by omega)) (my2 (by omega) (by omega)) (by omega) (by omega) (by omega)) (by omega) (by omega) (by omega) rfl
                      · have c146 : v140 = x := c146
                        refine av_wp_sqF ck_206 1 (pc' := 111) (lv' := [some (.inr (.inr (.inl (some (77))))), some (.inl x), some (.inl y), some (.inl k7), some (.inl k8)]) (st' := [.inr (.inr (.inl (some (77))))]) (h' := h) rfl ?_
                        refine wq_gr (p' := 114) (ck_206 _ _ rfl) rfl (congrArg Prod.fst (ly_k I.1.1.1 77 rfl)) rfl (ly_g I.1.1.1 77 44 110 rfl) ?_
                        refine av_wp_sqF ck_206 1 (pc' := 116) (lv' := [some (.inr (.inr (.inl (some (77))))), some (.inl x), some (.inl y), some (.inl k7), some (.inl k8)]) (st' := [.inl k8, .inr (.inr (.inl (some (110))))]) (h' := h) rfl ?_
                        obtain ⟨v147, e148⟩ : ∃ v, hA h 110 (Int.toNat (k8)) = v := ⟨_, rfl⟩
                        have y150 : hA h 110 (Int.toNat (k8)) = v147 := (congrFun (Z.1 110 rfl) _).symm.trans e148
                        have y151 : v147 = hw a0 (Int.toNat (k8)) 1 := LR_w X (by omega) (by omega) s12 (Or.inr (Or.inl ⟨rfl, e148.symm⟩))
                        have g152 := hw_r H (k := (Int.toNat (k8))) (by omega) 1
                        rw [← y151] at g152
                        refine wq_al (p' := 117) (n := 12) (ck_206 _ _ rfl) rfl (ly_k I.1.1.1 110 rfl) (by omega) (e148) ?_
                        refine wq_k1 (p' := 120) (ck_206 _ _ rfl) rfl ⟨by omega, by omega⟩ (fun c153 => ?_) (fun c154 => ?_)
                        · have c153 : v147 < (0) := c153
                          refine av_wp_sqF ck_206 2 (pc' := 22) (lv' := [some (.inr (.inr (.inl (some (77))))), some (.inl x), some (.inl y), some (.inl k7), some (.inl (k8 + (1)))]) (st' := []) (h' := h) rfl ?_
                          exact I11 _ (by omega) (k7) ((k8 + (1))) (by have z5 := o5_r (ro := ro) H (q := (Int.toNat k8)) (by omega); have z6 := rl_6 R; rw [show Int.toNat (k8 + (1)) = Int.toNat k8 + 1 by omega]; exact CNI_s g13 (my1 (by omega) z6 (by omega)) (my2 (by omega) (by omega)) (by omega) (by omega) (by omega)) (by omega) (by omega) (by omega) rfl
                        · have c154 : (0) ≤ v147 := c154
                          refine av_wp_sqF ck_206 1 (pc' := 121) (lv' := [some (.inr (.inr (.inl (some (77))))), some (.inl x), some (.inl y), some (.inl k7), some (.inl k8)]) (st' := [.inr (.inr (.inl (some (77))))]) (h' := h) rfl ?_
                          refine wq_gr (p' := 124) (ck_206 _ _ rfl) rfl (congrArg Prod.fst (ly_k I.1.1.1 77 rfl)) rfl (ly_g I.1.1.1 77 44 110 rfl) ?_
                          refine av_wp_sqF ck_206 1 (pc' := 126) (lv' := [some (.inr (.inr (.inl (some (77))))), some (.inl x), some (.inl y), some (.inl k7), some (.inl k8)]) (st' := [.inl k8, .inr (.inr (.inl (some (110))))]) (h' := h) rfl ?_
                          obtain ⟨v155, e156⟩ : ∃ v, hA h 110 (Int.toNat (k8)) = v := ⟨_, rfl⟩
                          have y158 : hA h 110 (Int.toNat (k8)) = v155 := (congrFun (Z.1 110 rfl) _).symm.trans e156
                          have y159 : v155 = hw a0 (Int.toNat (k8)) 1 := LR_w X (by omega) (by omega) s12 (Or.inr (Or.inl ⟨rfl, e156.symm⟩))
                          have g160 := hw_r H (k := (Int.toNat (k8))) (by omega) 1
                          rw [← y159] at g160
                          refine wq_al (p' := 127) (n := 12) (ck_206 _ _ rfl) rfl (ly_k I.1.1.1 110 rfl) (by omega) (e156) ?_
                          refine av_wp_sqF ck_206 1 (pc' := 128) (lv' := [some (.inr (.inr (.inl (some (77))))), some (.inl x), some (.inl y), some (.inl k7), some (.inl k8)]) (st' := [.inl y, .inl v155]) (h' := h) rfl ?_
                          refine wq_k2 (p' := 131) (ck_206 _ _ rfl) rfl ⟨by omega, by omega⟩ ⟨by omega, by omega⟩ (fun c161 => ?_) (fun c162 => ?_)
                          · have c161 : y < v155 := c161
                            refine av_wp_sqF ck_206 2 (pc' := 22) (lv' := [some (.inr (.inr (.inl (some (77))))), some (.inl x), some (.inl y), some (.inl k7), some (.inl (k8 + (1)))]) (st' := []) (h' := h) rfl ?_
                            exact I11 _ (by omega) (k7) ((k8 + (1))) (by have z5 := o5_r (ro := ro) H (q := (Int.toNat k8)) (by omega); have z6 := rl_6 R; rw [show Int.toNat (k8 + (1)) = Int.toNat k8 + 1 by omega]; exact CNI_s g13 (my1 (by omega) z6 (by omega)) (my2 (by omega) (by omega)) (by omega) (by omega) (by omega)) (by omega) (by omega) (by omega) rfl
                          · have c162 : v155 ≤ y := c162
                            refine av_wp_sqF ck_206 2 (pc' := 133) (lv' := [some (.inr (.inr (.inl (some (77))))), some (.inl x), some (.inl y), some (.inl k7), some (.inl k8)]) (st' := [.inl (2), .inl k7]) (h' := h) rfl ?_
                            refine av_wp_sqF ck_206 1 (pc' := 134) (lv' := [some (.inr (.inr (.inl (some (77))))), some (.inl x), some (.inl y), some (.inl k7), some (.inl k8)]) (st' := [.inl (av_or k7 (2))]) (h' := h) rfl ?_
                            have g164 := or_2 (x := k7) (by omega)
                            generalize av_or k7 (2) = v163 at g164 ⊢
                            refine av_wp_sqF ck_206 3 (pc' := 22) (lv' := [some (.inr (.inr (.inl (some (77))))), some (.inl x), some (.inl y), some (.inl v163), some (.inl (k8 + (1)))]) (st' := []) (h' := h) rfl ?_
                            exact I11 _ (by omega) (v163) ((k8 + (1))) (by have z5 := o5_r (ro := ro) H (q := (Int.toNat k8)) (by omega); have z6 := rl_6 R; rw [show Int.toNat (k8 + (1)) = Int.toNat k8 + 1 by omega]; exact CNI_s g13 (my1 (by omega) z6 (by omega)) (my2 (by omega) (by omega)) (by omega) (by omega) (by omega)) (by omega) (by omega) (by omega) rfl
                    · have c139 : v132 < y := c139
                      refine av_wp_sqF ck_206 2 (pc' := 97) (lv' := [some (.inr (.inr (.inl (some (77))))), some (.inl x), some (.inl y), some (.inl k7), some (.inl k8)]) (st' := [.inl (1), .inl k7]) (h' := h) rfl ?_
                      refine av_wp_sqF ck_206 1 (pc' := 98) (lv' := [some (.inr (.inr (.inl (some (77))))), some (.inl x), some (.inl y), some (.inl k7), some (.inl k8)]) (st' := [.inl (av_or k7 (1))]) (h' := h) rfl ?_
                      have g166 := or_1 (x := k7) (by omega)
                      generalize av_or k7 (1) = v165 at g166 ⊢
                      refine av_wp_sqF ck_206 2 (pc' := 100) (lv' := [some (.inr (.inr (.inl (some (77))))), some (.inl x), some (.inl y), some (.inl v165), some (.inl k8)]) (st' := [.inr (.inr (.inl (some (77))))]) (h' := h) rfl ?_
                      refine wq_gr (p' := 103) (ck_206 _ _ rfl) rfl (congrArg Prod.fst (ly_k I.1.1.1 77 rfl)) rfl (ly_g I.1.1.1 77 36 102 rfl) ?_
                      refine av_wp_sqF ck_206 1 (pc' := 105) (lv' := [some (.inr (.inr (.inl (some (77))))), some (.inl x), some (.inl y), some (.inl v165), some (.inl k8)]) (st' := [.inl k8, .inr (.inr (.inl (some (102))))]) (h' := h) rfl ?_
                      obtain ⟨v167, e168⟩ : ∃ v, hA h 102 (Int.toNat (k8)) = v := ⟨_, rfl⟩
                      have g169 : -1 ≤ hA h 102 (Int.toNat (k8)) ∧ hA h 102 (Int.toNat (k8)) ≤ 2 := im_w I.1.1 102 (by decide) (by decide) _
                      rw [e168] at g169
                      have y170 : hA h 102 (Int.toNat (k8)) = v167 := (congrFun (Z.1 102 rfl) _).symm.trans e168
                      have y171 := (X.1 (Int.toNat (k8)) (by omega)).1.2.2.2.2.2.1
                      rw [e168] at y171
                      refine wq_al (p' := 106) (n := 12) (ck_206 _ _ rfl) rfl (ly_k I.1.1.1 102 rfl) (by omega) (e168) ?_
                      refine av_wp_sqF ck_206 1 (pc' := 107) (lv' := [some (.inr (.inr (.inl (some (77))))), some (.inl x), some (.inl y), some (.inl v165), some (.inl k8)]) (st' := [.inl x, .inl v167]) (h' := h) rfl ?_
                      refine wq_k2 (p' := 110) (ck_206 _ _ rfl) rfl ⟨by omega, by omega⟩ ⟨by omega, by omega⟩ (fun c172 => ?_) (fun c173 => ?_)
                      · have c172 : v167 ≠ x := c172
                        refine av_wp_sqF ck_206 2 (pc' := 22) (lv' := [some (.inr (.inr (.inl (some (77))))), some (.inl x), some (.inl y), some (.inl v165), some (.inl (k8 + (1)))]) (st' := []) (h' := h) rfl ?_
                        exact I11 _ (by omega) (v165) ((k8 + (1))) (by have z5 := o5_r (ro := ro) H (q := (Int.toNat k8)) (by omega); have z6 := rl_6 R; rw [show Int.toNat (k8 + (1)) = Int.toNat k8 + 1 by omega]; exact CNI_s g13 (my1 (by omega) z6 (by omega)) (my2 (by omega) (by omega)) (by omega) (by omega) (by omega)) (by omega) (by omega) (by omega) rfl
                      · have c173 : v167 = x := c173
                        refine av_wp_sqF ck_206 1 (pc' := 111) (lv' := [some (.inr (.inr (.inl (some (77))))), some (.inl x), some (.inl y), some (.inl v165), some (.inl k8)]) (st' := [.inr (.inr (.inl (some (77))))]) (h' := h) rfl ?_
                        refine wq_gr (p' := 114) (ck_206 _ _ rfl) rfl (congrArg Prod.fst (ly_k I.1.1.1 77 rfl)) rfl (ly_g I.1.1.1 77 44 110 rfl) ?_
                        refine av_wp_sqF ck_206 1 (pc' := 116) (lv' := [some (.inr (.inr (.inl (some (77))))), some (.inl x), some (.inl y), some (.inl v165), some (.inl k8)]) (st' := [.inl k8, .inr (.inr (.inl (some (110))))]) (h' := h) rfl ?_
                        obtain ⟨v174, e175⟩ : ∃ v, hA h 110 (Int.toNat (k8)) = v := ⟨_, rfl⟩
                        have y177 : hA h 110 (Int.toNat (k8)) = v174 := (congrFun (Z.1 110 rfl) _).symm.trans e175
                        have y178 : v174 = hw a0 (Int.toNat (k8)) 1 := LR_w X (by omega) (by omega) s12 (Or.inr (Or.inl ⟨rfl, e175.symm⟩))
                        have g179 := hw_r H (k := (Int.toNat (k8))) (by omega) 1
                        rw [← y178] at g179
                        refine wq_al (p' := 117) (n := 12) (ck_206 _ _ rfl) rfl (ly_k I.1.1.1 110 rfl) (by omega) (e175) ?_
                        refine wq_k1 (p' := 120) (ck_206 _ _ rfl) rfl ⟨by omega, by omega⟩ (fun c180 => ?_) (fun c181 => ?_)
                        · have c180 : v174 < (0) := c180
                          refine av_wp_sqF ck_206 2 (pc' := 22) (lv' := [some (.inr (.inr (.inl (some (77))))), some (.inl x), some (.inl y), some (.inl v165), some (.inl (k8 + (1)))]) (st' := []) (h' := h) rfl ?_
                          exact I11 _ (by omega) (v165) ((k8 + (1))) (by have z5 := o5_r (ro := ro) H (q := (Int.toNat k8)) (by omega); have z6 := rl_6 R; rw [show Int.toNat (k8 + (1)) = Int.toNat k8 + 1 by omega]; exact CNI_s g13 (my1 (by omega) z6 (by omega)) (my2 (by omega) (by omega)) (by omega) (by omega) (by omega)) (by omega) (by omega) (by omega) rfl
                        · have c181 : (0) ≤ v174 := c181
                          refine av_wp_sqF ck_206 1 (pc' := 121) (lv' := [some (.inr (.inr (.inl (some (77))))), some (.inl x), some (.inl y), some (.inl v165), some (.inl k8)]) (st' := [.inr (.inr (.inl (some (77))))]) (h' := h) rfl ?_
                          refine wq_gr (p' := 124) (ck_206 _ _ rfl) rfl (congrArg Prod.fst (ly_k I.1.1.1 77 rfl)) rfl (ly_g I.1.1.1 77 44 110 rfl) ?_
                          refine av_wp_sqF ck_206 1 (pc' := 126) (lv' := [some (.inr (.inr (.inl (some (77))))), some (.inl x), some (.inl y), some (.inl v165), some (.inl k8)]) (st' := [.inl k8, .inr (.inr (.inl (some (110))))]) (h' := h) rfl ?_
                          obtain ⟨v182, e183⟩ : ∃ v, hA h 110 (Int.toNat (k8)) = v := ⟨_, rfl⟩
                          have y185 : hA h 110 (Int.toNat (k8)) = v182 := (congrFun (Z.1 110 rfl) _).symm.trans e183
                          have y186 : v182 = hw a0 (Int.toNat (k8)) 1 := LR_w X (by omega) (by omega) s12 (Or.inr (Or.inl ⟨rfl, e183.symm⟩))
                          have g187 := hw_r H (k := (Int.toNat (k8))) (by omega) 1
                          rw [← y186] at g187
                          refine wq_al (p' := 127) (n := 12) (ck_206 _ _ rfl) rfl (ly_k I.1.1.1 110 rfl) (by omega) (e183) ?_
                          refine av_wp_sqF ck_206 1 (pc' := 128) (lv' := [some (.inr (.inr (.inl (some (77))))), some (.inl x), some (.inl y), some (.inl v165), some (.inl k8)]) (st' := [.inl y, .inl v182]) (h' := h) rfl ?_
                          refine wq_k2 (p' := 131) (ck_206 _ _ rfl) rfl ⟨by omega, by omega⟩ ⟨by omega, by omega⟩ (fun c188 => ?_) (fun c189 => ?_)
                          · have c188 : y < v182 := c188
                            refine av_wp_sqF ck_206 2 (pc' := 22) (lv' := [some (.inr (.inr (.inl (some (77))))), some (.inl x), some (.inl y), some (.inl v165), some (.inl (k8 + (1)))]) (st' := []) (h' := h) rfl ?_
                            exact I11 _ (by omega) (v165) ((k8 + (1))) (by have z5 := o5_r (ro := ro) H (q := (Int.toNat k8)) (by omega); have z6 := rl_6 R; rw [show Int.toNat (k8 + (1)) = Int.toNat k8 + 1 by omega]; exact CNI_s g13 (my1 (by omega) z6 (by omega)) (my2 (by omega) (by omega)) (by omega) (by omega) (by omega)) (by omega) (by omega) (by omega) rfl
                          · have c189 : v182 ≤ y := c189
                            refine av_wp_sqF ck_206 2 (pc' := 133) (lv' := [some (.inr (.inr (.inl (some (77))))), some (.inl x), some (.inl y), some (.inl v165), some (.inl k8)]) (st' := [.inl (2), .inl v165]) (h' := h) rfl ?_
                            refine av_wp_sqF ck_206 1 (pc' := 134) (lv' := [some (.inr (.inr (.inl (some (77))))), some (.inl x), some (.inl y), some (.inl v165), some (.inl k8)]) (st' := [.inl (av_or v165 (2))]) (h' := h) rfl ?_
                            have g191 := or_2 (x := v165) (by omega)
                            generalize av_or v165 (2) = v190 at g191 ⊢
                            refine av_wp_sqF ck_206 3 (pc' := 22) (lv' := [some (.inr (.inr (.inl (some (77))))), some (.inl x), some (.inl y), some (.inl v190), some (.inl (k8 + (1)))]) (st' := []) (h' := h) rfl ?_
                            exact I11 _ (by omega) (v190) ((k8 + (1))) (by have z5 := o5_r (ro := ro) H (q := (Int.toNat k8)) (by omega); have z6 := rl_6 R; rw [show Int.toNat (k8 + (1)) = Int.toNat k8 + 1 by omega]; exact CNI_s g13 (my1 (by omega) z6 (by omega)) (my2 (by omega) (by omega)) (by omega) (by omega) (by omega)) (by omega) (by omega) (by omega) rfl
            · have c29 : v24 = (0) := c29
              refine av_wp_sqF ck_206 3 (pc' := 22) (lv' := [some (.inr (.inr (.inl (some (77))))), some (.inl x), some (.inl y), some (.inl k7), some (.inl (k8 + (1)))]) (st' := []) (h' := h) rfl ?_
              exact I11 _ (by omega) (k7) ((k8 + (1))) (by have z5 := o5_r (ro := ro) H (q := (Int.toNat k8)) (by omega); have z6 := rl_6 R; rw [show Int.toNat (k8 + (1)) = Int.toNat k8 + 1 by omega]; exact CNI_s g13 (my1 (by omega) z6 (by omega)) (my2 (by omega) (by omega)) (by omega) (by omega) (by omega)) (by omega) (by omega) (by omega) rfl
    exact L10 _ ((0)) ((0)) CNI_0 (by omega) (by omega) (by omega) rfl
  · have c6 : v1 ≠ (0) := c6
    refine av_wp_sqF ck_206 2 (pc' := 9) (lv' := [some (.inr (.inr (.inl (some (77))))), some (.inl x), some (.inl y), none, none]) (st' := [.inr (.inr (.inl (some (77)))), .inl y]) (h' := h) rfl ?_
    obtain ⟨v192, e193⟩ : ∃ v, hF h 77 53 = v := ⟨_, rfl⟩
    refine wq_gi (p' := 12) (ck_206 _ _ rfl) rfl (congrArg Prod.fst (ly_k I.1.1.1 77 rfl)) rfl (e193) ?_
    refine wq_k2 (p' := 15) (ck_206 _ _ rfl) rfl ⟨by omega, by omega⟩ ⟨by omega, by omega⟩ (fun c194 => ?_) (fun c195 => ?_)
    · have c194 : y < v192 := c194
      refine av_wp_sqF ck_206 4 (pc' := 22) (lv' := [some (.inr (.inr (.inl (some (77))))), some (.inl x), some (.inl y), some (.inl (0)), some (.inl (0))]) (st' := []) (h' := h) rfl ?_
      have L199 : ∀ (m198 : Nat) (k196 : Int) (k197 : Int), CNI u ro a0 s ma x y (Int.toNat k197) k196 → k197 ≤ (s : Int) → (0 ≤ k196 ∧ k196 ≤ 3) → (0 ≤ k197 ∧ k197 ≤ 12) → ((s : Int) - k197).toNat = m198 → av_wp none cd_206 22 [some (.inr (.inr (.inl (some (77))))), some (.inl x), some (.inl y), some (.inl k196), some (.inl k197)] [] h Q := by
        intro m198
        induction m198 using Nat.strongRecOn with
        | _ m198 I200 =>
          intro k196 k197 g202 g203 g204 g205 e201
          refine av_wp_sqF ck_206 2 (pc' := 25) (lv' := [some (.inr (.inr (.inl (some (77))))), some (.inl x), some (.inl y), some (.inl k196), some (.inl k197)]) (st' := [.inr (.inr (.inl (some (77)))), .inl k197]) (h' := h) rfl ?_
          refine wq_gi (p' := 28) (ck_206 _ _ rfl) rfl (congrArg Prod.fst (ly_k I.1.1.1 77 rfl)) rfl (I.2.1) ?_
          refine wq_k2 (p' := 31) (ck_206 _ _ rfl) rfl ⟨by omega, by omega⟩ ⟨by omega, by omega⟩ (fun c206 => ?_) (fun c207 => ?_)
          · have c206 : n ≤ k197 := c206
            refine av_wp_sqF ck_206 1 (pc' := 142) (lv' := [some (.inr (.inr (.inl (some (77))))), some (.inl x), some (.inl y), some (.inl k196), some (.inl k197)]) (st' := [.inl k196]) (h' := h) rfl ?_
            refine av_wp_ret (v := some (.inl k196)) (ck_206 _ _ rfl) rfl rfl ?_
            exact hq _ (by have z := g202; rw [show Int.toNat k197 = s by omega] at z; exact z)
          · have c207 : k197 < n := c207
            refine av_wp_sqF ck_206 2 (pc' := 34) (lv' := [some (.inr (.inr (.inl (some (77))))), some (.inl x), some (.inl y), some (.inl k196), some (.inl k197)]) (st' := [.inl k197, .inr (.inr (.inl (some (77))))]) (h' := h) rfl ?_
            refine wq_cv (p' := 37) (av_qc (.invokevirtual 369) 168 1 0 8) 2 cd_168 [.inl k197] (77) 8 [some (.inr (.inr (.inl (some (77))))), some (.inl k197)] (ck_206 _ _ rfl) rfl rfl pp_168 rfl rfl rfl (congrArg Prod.fst (ly_k I.1.1.1 77 rfl)) rfl rfl rfl rfl ?_
            refine cx_168 I F en X W R H (k197) (by omega) (fun v208 p209 => ?_)
            have g210 := A2 (Int.toNat (k197)) (by omega)
            rw [← p209] at g210
            show av_wp _ cd_206 37 [some (.inr (.inr (.inl (some (77))))), some (.inl x), some (.inl y), some (.inl k196), some (.inl k197)] [.inl v208] h _
            refine wq_k1 (p' := 40) (ck_206 _ _ rfl) rfl ⟨by omega, by omega⟩ (fun c211 => ?_) (fun c212 => ?_)
            · have c211 : v208 = (0) := c211
              refine av_wp_sqF ck_206 2 (pc' := 22) (lv' := [some (.inr (.inr (.inl (some (77))))), some (.inl x), some (.inl y), some (.inl k196), some (.inl (k197 + (1)))]) (st' := []) (h' := h) rfl ?_
              exact I200 _ (by omega) (k196) ((k197 + (1))) (by have z5 := o5_r (ro := ro) H (q := (Int.toNat k197)) (by omega); have z6 := rl_6 R; rw [show Int.toNat (k197 + (1)) = Int.toNat k197 + 1 by omega]; exact CNI_s g202 (my1 (by omega) z6 (by omega)) (my2 (by omega) (by omega)) (by omega) (by omega) (by omega)) (by omega) (by omega) (by omega) rfl
            · have c212 : v208 ≠ (0) := c212
              refine av_wp_sqF ck_206 3 (pc' := 44) (lv' := [some (.inr (.inr (.inl (some (77))))), some (.inl x), some (.inl y), some (.inl k196), some (.inl k197)]) (st' := [.inl y, .inl k197, .inr (.inr (.inl (some (77))))]) (h' := h) rfl ?_
              refine wq_cv (p' := 47) (av_qc (.invokevirtual 403) 175 2 0 8) 3 cd_175 [.inl y, .inl k197] (77) 8 [some (.inr (.inr (.inl (some (77))))), some (.inl k197), some (.inl y)] (ck_206 _ _ rfl) rfl rfl pp_175 rfl rfl rfl (congrArg Prod.fst (ly_k I.1.1.1 77 rfl)) rfl rfl rfl rfl ?_
              have q215 := P5 (Int.toNat (k197)) (by omega) (by rw [← p209]; omega)
              have q215o := o5_r (ro := ro) H (q := (Int.toNat (k197))) (by omega)
              have q215e := ER (Int.toNat (k197)) (by omega)
              refine cx_175 I F en X W R H (k197) (by omega) (y) (by omega) (by rw [q215.1]; omega) (by rw [q215.2]; omega) (fun v213 p214 => ?_)
              rw [q215.1, q215.2] at p214
              have g216 := opR_d p214
              clear p214
              show av_wp _ cd_206 47 [some (.inr (.inr (.inl (some (77))))), some (.inl x), some (.inl y), some (.inl k196), some (.inl k197)] [.inl v213] h _
              refine wq_k1 (p' := 50) (ck_206 _ _ rfl) rfl ⟨by omega, by omega⟩ (fun c217 => ?_) (fun c218 => ?_)
              · have c217 : v213 ≠ (0) := c217
                refine av_wp_sqF ck_206 1 (pc' := 54) (lv' := [some (.inr (.inr (.inl (some (77))))), some (.inl x), some (.inl y), some (.inl k196), some (.inl k197)]) (st' := [.inr (.inr (.inl (some (77))))]) (h' := h) rfl ?_
                refine wq_gr (p' := 57) (ck_206 _ _ rfl) rfl (congrArg Prod.fst (ly_k I.1.1.1 77 rfl)) rfl (ly_g I.1.1.1 77 35 101 rfl) ?_
                refine av_wp_sqF ck_206 1 (pc' := 59) (lv' := [some (.inr (.inr (.inl (some (77))))), some (.inl x), some (.inl y), some (.inl k196), some (.inl k197)]) (st' := [.inl k197, .inr (.inr (.inl (some (101))))]) (h' := h) rfl ?_
                obtain ⟨v219, e220⟩ : ∃ v, hA h 101 (Int.toNat (k197)) = v := ⟨_, rfl⟩
                have g221 : 0 ≤ hA h 101 (Int.toNat (k197)) ∧ hA h 101 (Int.toNat (k197)) ≤ 2 := im_w I.1.1 101 (by decide) (by decide) _
                rw [e220] at g221
                have y222 : hA h 101 (Int.toNat (k197)) = v219 := (congrFun (Z.1 101 rfl) _).symm.trans e220
                have y223 := (X.1 (Int.toNat (k197)) (by omega)).1.2.2.2.2.1
                rw [e220] at y223
                refine wq_al (p' := 60) (n := 12) (ck_206 _ _ rfl) rfl (ly_k I.1.1.1 101 rfl) (by omega) (e220) ?_
                refine av_wp_sqF ck_206 1 (pc' := 61) (lv' := [some (.inr (.inr (.inl (some (77))))), some (.inl x), some (.inl y), some (.inl k196), some (.inl k197)]) (st' := [.inl x, .inl v219]) (h' := h) rfl ?_
                refine wq_k2 (p' := 64) (ck_206 _ _ rfl) rfl ⟨by omega, by omega⟩ ⟨by omega, by omega⟩ (fun c224 => ?_) (fun c225 => ?_)
                · have c224 : v219 ≠ x := c224
                  refine av_wp_sqF ck_206 1 (pc' := 100) (lv' := [some (.inr (.inr (.inl (some (77))))), some (.inl x), some (.inl y), some (.inl k196), some (.inl k197)]) (st' := [.inr (.inr (.inl (some (77))))]) (h' := h) rfl ?_
                  refine wq_gr (p' := 103) (ck_206 _ _ rfl) rfl (congrArg Prod.fst (ly_k I.1.1.1 77 rfl)) rfl (ly_g I.1.1.1 77 36 102 rfl) ?_
                  refine av_wp_sqF ck_206 1 (pc' := 105) (lv' := [some (.inr (.inr (.inl (some (77))))), some (.inl x), some (.inl y), some (.inl k196), some (.inl k197)]) (st' := [.inl k197, .inr (.inr (.inl (some (102))))]) (h' := h) rfl ?_
                  obtain ⟨v226, e227⟩ : ∃ v, hA h 102 (Int.toNat (k197)) = v := ⟨_, rfl⟩
                  have g228 : -1 ≤ hA h 102 (Int.toNat (k197)) ∧ hA h 102 (Int.toNat (k197)) ≤ 2 := im_w I.1.1 102 (by decide) (by decide) _
                  rw [e227] at g228
                  have y229 : hA h 102 (Int.toNat (k197)) = v226 := (congrFun (Z.1 102 rfl) _).symm.trans e227
                  have y230 := (X.1 (Int.toNat (k197)) (by omega)).1.2.2.2.2.2.1
                  rw [e227] at y230
                  refine wq_al (p' := 106) (n := 12) (ck_206 _ _ rfl) rfl (ly_k I.1.1.1 102 rfl) (by omega) (e227) ?_
                  refine av_wp_sqF ck_206 1 (pc' := 107) (lv' := [some (.inr (.inr (.inl (some (77))))), some (.inl x), some (.inl y), some (.inl k196), some (.inl k197)]) (st' := [.inl x, .inl v226]) (h' := h) rfl ?_
                  refine wq_k2 (p' := 110) (ck_206 _ _ rfl) rfl ⟨by omega, by omega⟩ ⟨by omega, by omega⟩ (fun c231 => ?_) (fun c232 => ?_)
                  · have c231 : v226 ≠ x := c231
                    refine av_wp_sqF ck_206 2 (pc' := 22) (lv' := [some (.inr (.inr (.inl (some (77))))), some (.inl x), some (.inl y), some (.inl k196), some (.inl (k197 + (1)))]) (st' := []) (h' := h) rfl ?_
                    exact I200 _ (by omega) (k196) ((k197 + (1))) (by have z5 := o5_r (ro := ro) H (q := (Int.toNat k197)) (by omega); have z6 := rl_6 R; rw [show Int.toNat (k197 + (1)) = Int.toNat k197 + 1 by omega]; exact CNI_s g202 (my1 (by omega) z6 (by omega)) (my2 (by omega) (by omega)) (by omega) (by omega) (by omega)) (by omega) (by omega) (by omega) rfl
                  · have c232 : v226 = x := c232
                    refine av_wp_sqF ck_206 1 (pc' := 111) (lv' := [some (.inr (.inr (.inl (some (77))))), some (.inl x), some (.inl y), some (.inl k196), some (.inl k197)]) (st' := [.inr (.inr (.inl (some (77))))]) (h' := h) rfl ?_
                    refine wq_gr (p' := 114) (ck_206 _ _ rfl) rfl (congrArg Prod.fst (ly_k I.1.1.1 77 rfl)) rfl (ly_g I.1.1.1 77 44 110 rfl) ?_
                    refine av_wp_sqF ck_206 1 (pc' := 116) (lv' := [some (.inr (.inr (.inl (some (77))))), some (.inl x), some (.inl y), some (.inl k196), some (.inl k197)]) (st' := [.inl k197, .inr (.inr (.inl (some (110))))]) (h' := h) rfl ?_
                    obtain ⟨v233, e234⟩ : ∃ v, hA h 110 (Int.toNat (k197)) = v := ⟨_, rfl⟩
                    have y236 : hA h 110 (Int.toNat (k197)) = v233 := (congrFun (Z.1 110 rfl) _).symm.trans e234
                    have y237 : v233 = hw a0 (Int.toNat (k197)) 1 := LR_w X (by omega) (by omega) s12 (Or.inr (Or.inl ⟨rfl, e234.symm⟩))
                    have g238 := hw_r H (k := (Int.toNat (k197))) (by omega) 1
                    rw [← y237] at g238
                    refine wq_al (p' := 117) (n := 12) (ck_206 _ _ rfl) rfl (ly_k I.1.1.1 110 rfl) (by omega) (e234) ?_
                    refine wq_k1 (p' := 120) (ck_206 _ _ rfl) rfl ⟨by omega, by omega⟩ (fun c239 => ?_) (fun c240 => ?_)
                    · have c239 : v233 < (0) := c239
                      refine av_wp_sqF ck_206 2 (pc' := 22) (lv' := [some (.inr (.inr (.inl (some (77))))), some (.inl x), some (.inl y), some (.inl k196), some (.inl (k197 + (1)))]) (st' := []) (h' := h) rfl ?_
                      exact I200 _ (by omega) (k196) ((k197 + (1))) (by have z5 := o5_r (ro := ro) H (q := (Int.toNat k197)) (by omega); have z6 := rl_6 R; rw [show Int.toNat (k197 + (1)) = Int.toNat k197 + 1 by omega]; exact CNI_s g202 (my1 (by omega) z6 (by omega)) (my2 (by omega) (by omega)) (by omega) (by omega) (by omega)) (by omega) (by omega) (by omega) rfl
                    · have c240 : (0) ≤ v233 := c240
                      refine av_wp_sqF ck_206 1 (pc' := 121) (lv' := [some (.inr (.inr (.inl (some (77))))), some (.inl x), some (.inl y), some (.inl k196), some (.inl k197)]) (st' := [.inr (.inr (.inl (some (77))))]) (h' := h) rfl ?_
                      refine wq_gr (p' := 124) (ck_206 _ _ rfl) rfl (congrArg Prod.fst (ly_k I.1.1.1 77 rfl)) rfl (ly_g I.1.1.1 77 44 110 rfl) ?_
                      refine av_wp_sqF ck_206 1 (pc' := 126) (lv' := [some (.inr (.inr (.inl (some (77))))), some (.inl x), some (.inl y), some (.inl k196), some (.inl k197)]) (st' := [.inl k197, .inr (.inr (.inl (some (110))))]) (h' := h) rfl ?_
                      obtain ⟨v241, e242⟩ : ∃ v, hA h 110 (Int.toNat (k197)) = v := ⟨_, rfl⟩
                      have y244 : hA h 110 (Int.toNat (k197)) = v241 := (congrFun (Z.1 110 rfl) _).symm.trans e242
                      have y245 : v241 = hw a0 (Int.toNat (k197)) 1 := LR_w X (by omega) (by omega) s12 (Or.inr (Or.inl ⟨rfl, e242.symm⟩))
                      have g246 := hw_r H (k := (Int.toNat (k197))) (by omega) 1
                      rw [← y245] at g246
                      refine wq_al (p' := 127) (n := 12) (ck_206 _ _ rfl) rfl (ly_k I.1.1.1 110 rfl) (by omega) (e242) ?_
                      refine av_wp_sqF ck_206 1 (pc' := 128) (lv' := [some (.inr (.inr (.inl (some (77))))), some (.inl x), some (.inl y), some (.inl k196), some (.inl k197)]) (st' := [.inl y, .inl v241]) (h' := h) rfl ?_
                      refine wq_k2 (p' := 131) (ck_206 _ _ rfl) rfl ⟨by omega, by omega⟩ ⟨by omega, by omega⟩ (fun c247 => ?_) (fun c248 => ?_)
                      · have c247 : y < v241 := c247
                        refine av_wp_sqF ck_206 2 (pc' := 22) (lv' := [some (.inr (.inr (.inl (some (77))))), some (.inl x), some (.inl y), some (.inl k196), some (.inl (k197 + (1)))]) (st' := []) (h' := h) rfl ?_
                        exact I200 _ (by omega) (k196) ((k197 + (1))) (by have z5 := o5_r (ro := ro) H (q := (Int.toNat k197)) (by omega); have z6 := rl_6 R; rw [show Int.toNat (k197 + (1)) = Int.toNat k197 + 1 by omega]; exact CNI_s g202 (my1 (by omega) z6 (by omega)) (my2 (by omega) (by omega)) (by omega) (by omega) (by omega)) (by omega) (by omega) (by omega) rfl
                      · have c248 : v241 ≤ y := c248
                        refine av_wp_sqF ck_206 2 (pc' := 133) (lv' := [some (.inr (.inr (.inl (some (77))))), some (.inl x), some (.inl y), some (.inl k196), some (.inl k197)]) (st' := [.inl (2), .inl k196]) (h' := h) rfl ?_
                        refine av_wp_sqF ck_206 1 (pc' := 134) (lv' := [some (.inr (.inr (.inl (some (77))))), some (.inl x), some (.inl y), some (.inl k196), some (.inl k197)]) (st' := [.inl (av_or k196 (2))]) (h' := h) rfl ?_
                        have g250 := or_2 (x := k196) (by omega)
                        generalize av_or k196 (2) = v249 at g250 ⊢
                        refine av_wp_sqF ck_206 3 (pc' := 22) (lv' := [some (.inr (.inr (.inl (some (77))))), some (.inl x), some (.inl y), some (.inl v249), some (.inl (k197 + (1)))]) (st' := []) (h' := h) rfl ?_
                        exact I200 _ (by omega) (v249) ((k197 + (1))) (by have z5 := o5_r (ro := ro) H (q := (Int.toNat k197)) (by omega); have z6 := rl_6 R; rw [show Int.toNat (k197 + (1)) = Int.toNat k197 + 1 by omega]; exact CNI_s g202 (my1 (by omega) z6 (by omega)) (my2 (by omega) (by omega)) (by omega) (by omega) (by omega)) (by omega) (by omega) (by omega) rfl
                · have c225 : v219 = x := c225
                  refine av_wp_sqF ck_206 1 (pc' := 65) (lv' := [some (.inr (.inr (.inl (some (77))))), some (.inl x), some (.inl y), some (.inl k196), some (.inl k197)]) (st' := [.inr (.inr (.inl (some (77))))]) (h' := h) rfl ?_
                  refine wq_gr (p' := 68) (ck_206 _ _ rfl) rfl (congrArg Prod.fst (ly_k I.1.1.1 77 rfl)) rfl (ly_g I.1.1.1 77 33 99 rfl) ?_
                  refine av_wp_sqF ck_206 1 (pc' := 70) (lv' := [some (.inr (.inr (.inl (some (77))))), some (.inl x), some (.inl y), some (.inl k196), some (.inl k197)]) (st' := [.inl k197, .inr (.inr (.inl (some (99))))]) (h' := h) rfl ?_
                  obtain ⟨v251, e252⟩ : ∃ v, hA h 99 (Int.toNat (k197)) = v := ⟨_, rfl⟩
                  have g253 : -1 ≤ hA h 99 (Int.toNat (k197)) ∧ hA h 99 (Int.toNat (k197)) ≤ 1999 := im_w I.1.1 99 (by decide) (by decide) _
                  rw [e252] at g253
                  have y254 : hA h 99 (Int.toNat (k197)) = v251 := (congrFun (Z.1 99 rfl) _).symm.trans e252
                  have y255 := (X.1 (Int.toNat (k197)) (by omega)).1.2.2.1
                  rw [e252] at y255
                  have g256 := W (Int.toNat (k197)) (by omega)
                  rw [← y255] at g256
                  refine wq_al (p' := 71) (n := 12) (ck_206 _ _ rfl) rfl (ly_k I.1.1.1 99 rfl) (by omega) (e252) ?_
                  refine wq_k1 (p' := 74) (ck_206 _ _ rfl) rfl ⟨by omega, by omega⟩ (fun c257 => ?_) (fun c258 => ?_)
                  · have c257 : v251 < (0) := c257
                    refine av_wp_sqF ck_206 2 (pc' := 97) (lv' := [some (.inr (.inr (.inl (some (77))))), some (.inl x), some (.inl y), some (.inl k196), some (.inl k197)]) (st' := [.inl (1), .inl k196]) (h' := h) rfl ?_
                    refine av_wp_sqF ck_206 1 (pc' := 98) (lv' := [some (.inr (.inr (.inl (some (77))))), some (.inl x), some (.inl y), some (.inl k196), some (.inl k197)]) (st' := [.inl (av_or k196 (1))]) (h' := h) rfl ?_
                    have g260 := or_1 (x := k196) (by omega)
                    generalize av_or k196 (1) = v259 at g260 ⊢
                    refine av_wp_sqF ck_206 2 (pc' := 100) (lv' := [some (.inr (.inr (.inl (some (77))))), some (.inl x), some (.inl y), some (.inl v259), some (.inl k197)]) (st' := [.inr (.inr (.inl (some (77))))]) (h' := h) rfl ?_
                    refine wq_gr (p' := 103) (ck_206 _ _ rfl) rfl (congrArg Prod.fst (ly_k I.1.1.1 77 rfl)) rfl (ly_g I.1.1.1 77 36 102 rfl) ?_
                    refine av_wp_sqF ck_206 1 (pc' := 105) (lv' := [some (.inr (.inr (.inl (some (77))))), some (.inl x), some (.inl y), some (.inl v259), some (.inl k197)]) (st' := [.inl k197, .inr (.inr (.inl (some (102))))]) (h' := h) rfl ?_
                    obtain ⟨v261, e262⟩ : ∃ v, hA h 102 (Int.toNat (k197)) = v := ⟨_, rfl⟩
                    have g263 : -1 ≤ hA h 102 (Int.toNat (k197)) ∧ hA h 102 (Int.toNat (k197)) ≤ 2 := im_w I.1.1 102 (by decide) (by decide) _
                    rw [e262] at g263
                    have y264 : hA h 102 (Int.toNat (k197)) = v261 := (congrFun (Z.1 102 rfl) _).symm.trans e262
                    have y265 := (X.1 (Int.toNat (k197)) (by omega)).1.2.2.2.2.2.1
                    rw [e262] at y265
                    refine wq_al (p' := 106) (n := 12) (ck_206 _ _ rfl) rfl (ly_k I.1.1.1 102 rfl) (by omega) (e262) ?_
                    refine av_wp_sqF ck_206 1 (pc' := 107) (lv' := [some (.inr (.inr (.inl (some (77))))), some (.inl x), some (.inl y), some (.inl v259), some (.inl k197)]) (st' := [.inl x, .inl v261]) (h' := h) rfl ?_
                    refine wq_k2 (p' := 110) (ck_206 _ _ rfl) rfl ⟨by omega, by omega⟩ ⟨by omega, by omega⟩ (fun c266 => ?_) (fun c267 => ?_)
                    · have c266 : v261 ≠ x := c266
                      refine av_wp_sqF ck_206 2 (pc' := 22) (lv' := [some (.inr (.inr (.inl (some (77))))), some (.inl x), some (.inl y), some (.inl v259), some (.inl (k197 + (1)))]) (st' := []) (h' := h) rfl ?_
                      exact I200 _ (by omega) (v259) ((k197 + (1))) (by have z5 := o5_r (ro := ro) H (q := (Int.toNat k197)) (by omega); have z6 := rl_6 R; rw [show Int.toNat (k197 + (1)) = Int.toNat k197 + 1 by omega]; exact CNI_s g202 (my1 (by omega) z6 (by omega)) (my2 (by omega) (by omega)) (by omega) (by omega) (by omega)) (by omega) (by omega) (by omega) rfl
                    · have c267 : v261 = x := c267
                      refine av_wp_sqF ck_206 1 (pc' := 111) (lv' := [some (.inr (.inr (.inl (some (77))))), some (.inl x), some (.inl y), some (.inl v259), some (.inl k197)]) (st' := [.inr (.inr (.inl (some (77))))]) (h' := h) rfl ?_
                      refine wq_gr (p' := 114) (ck_206 _ _ rfl) rfl (congrArg Prod.fst (ly_k I.1.1.1 77 rfl)) rfl (ly_g I.1.1.1 77 44 110 rfl) ?_
                      refine av_wp_sqF ck_206 1 (pc' := 116) (lv' := [some (.inr (.inr (.inl (some (77))))), some (.inl x), some (.inl y), some (.inl v259), some (.inl k197)]) (st' := [.inl k197, .inr (.inr (.inl (some (110))))]) (h' := h) rfl ?_
                      obtain ⟨v268, e269⟩ : ∃ v, hA h 110 (Int.toNat (k197)) = v := ⟨_, rfl⟩
                      have y271 : hA h 110 (Int.toNat (k197)) = v268 := (congrFun (Z.1 110 rfl) _).symm.trans e269
                      have y272 : v268 = hw a0 (Int.toNat (k197)) 1 := LR_w X (by omega) (by omega) s12 (Or.inr (Or.inl ⟨rfl, e269.symm⟩))
                      have g273 := hw_r H (k := (Int.toNat (k197))) (by omega) 1
                      rw [← y272] at g273
                      refine wq_al (p' := 117) (n := 12) (ck_206 _ _ rfl) rfl (ly_k I.1.1.1 110 rfl) (by omega) (e269) ?_
                      refine wq_k1 (p' := 120) (ck_206 _ _ rfl) rfl ⟨by omega, by omega⟩ (fun c274 => ?_) (fun c275 => ?_)
                      · have c274 : v268 < (0) := c274
                        refine av_wp_sqF ck_206 2 (pc' := 22) (lv' := [some (.inr (.inr (.inl (some (77))))), some (.inl x), some (.inl y), some (.inl v259), some (.inl (k197 + (1)))]) (st' := []) (h' := h) rfl ?_
                        exact I200 _ (by omega) (v259) ((k197 + (1))) (by have z5 := o5_r (ro := ro) H (q := (Int.toNat k197)) (by omega); have z6 := rl_6 R; rw [show Int.toNat (k197 + (1)) = Int.toNat k197 + 1 by omega]; exact CNI_s g202 (my1 (by omega) z6 (by omega)) (my2 (by omega) (by omega)) (by omega) (by omega) (by omega)) (by omega) (by omega) (by omega) rfl
                      · have c275 : (0) ≤ v268 := c275
                        refine av_wp_sqF ck_206 1 (pc' := 121) (lv' := [some (.inr (.inr (.inl (some (77))))), some (.inl x), some (.inl y), some (.inl v259), some (.inl k197)]) (st' := [.inr (.inr (.inl (some (77))))]) (h' := h) rfl ?_
                        refine wq_gr (p' := 124) (ck_206 _ _ rfl) rfl (congrArg Prod.fst (ly_k I.1.1.1 77 rfl)) rfl (ly_g I.1.1.1 77 44 110 rfl) ?_
                        refine av_wp_sqF ck_206 1 (pc' := 126) (lv' := [some (.inr (.inr (.inl (some (77))))), some (.inl x), some (.inl y), some (.inl v259), some (.inl k197)]) (st' := [.inl k197, .inr (.inr (.inl (some (110))))]) (h' := h) rfl ?_
                        obtain ⟨v276, e277⟩ : ∃ v, hA h 110 (Int.toNat (k197)) = v := ⟨_, rfl⟩
                        have y279 : hA h 110 (Int.toNat (k197)) = v276 := (congrFun (Z.1 110 rfl) _).symm.trans e277
                        have y280 : v276 = hw a0 (Int.toNat (k197)) 1 := LR_w X (by omega) (by omega) s12 (Or.inr (Or.inl ⟨rfl, e277.symm⟩))
                        have g281 := hw_r H (k := (Int.toNat (k197))) (by omega) 1
                        rw [← y280] at g281
                        refine wq_al (p' := 127) (n := 12) (ck_206 _ _ rfl) rfl (ly_k I.1.1.1 110 rfl) (by omega) (e277) ?_
                        refine av_wp_sqF ck_206 1 (pc' := 128) (lv' := [some (.inr (.inr (.inl (some (77))))), some (.inl x), some (.inl y), some (.inl v259), some (.inl k197)]) (st' := [.inl y, .inl v276]) (h' := h) rfl ?_
                        refine wq_k2 (p' := 131) (ck_206 _ _ rfl) rfl ⟨by omega, by omega⟩ ⟨by omega, by omega⟩ (fun c282 => ?_) (fun c283 => ?_)
                        · have c282 : y < v276 := c282
                          refine av_wp_sqF ck_206 2 (pc' := 22) (lv' := [some (.inr (.inr (.inl (some (77))))), some (.inl x), some (.inl y), some (.inl v259), some (.inl (k197 + (1)))]) (st' := []) (h' := h) rfl ?_
                          exact I200 _ (by omega) (v259) ((k197 + (1))) (by have z5 := o5_r (ro := ro) H (q := (Int.toNat k197)) (by omega); have z6 := rl_6 R; rw [show Int.toNat (k197 + (1)) = Int.toNat k197 + 1 by omega]; exact CNI_s g202 (my1 (by omega) z6 (by omega)) (my2 (by omega) (by omega)) (by omega) (by omega) (by omega)) (by omega) (by omega) (by omega) rfl
                        · have c283 : v276 ≤ y := c283
                          refine av_wp_sqF ck_206 2 (pc' := 133) (lv' := [some (.inr (.inr (.inl (some (77))))), some (.inl x), some (.inl y), some (.inl v259), some (.inl k197)]) (st' := [.inl (2), .inl v259]) (h' := h) rfl ?_
                          refine av_wp_sqF ck_206 1 (pc' := 134) (lv' := [some (.inr (.inr (.inl (some (77))))), some (.inl x), some (.inl y), some (.inl v259), some (.inl k197)]) (st' := [.inl (av_or v259 (2))]) (h' := h) rfl ?_
                          have g285 := or_2 (x := v259) (by omega)
                          generalize av_or v259 (2) = v284 at g285 ⊢
                          refine av_wp_sqF ck_206 3 (pc' := 22) (lv' := [some (.inr (.inr (.inl (some (77))))), some (.inl x), some (.inl y), some (.inl v284), some (.inl (k197 + (1)))]) (st' := []) (h' := h) rfl ?_
                          exact I200 _ (by omega) (v284) ((k197 + (1))) (by have z5 := o5_r (ro := ro) H (q := (Int.toNat k197)) (by omega); have z6 := rl_6 R; rw [show Int.toNat (k197 + (1)) = Int.toNat k197 + 1 by omega]; exact CNI_s g202 (my1 (by omega) z6 (by omega)) (my2 (by omega) (by omega)) (by omega) (by omega) (by omega)) (by omega) (by omega) (by omega) rfl
                  · have c258 : (0) ≤ v251 := c258
                    refine av_wp_sqF ck_206 1 (pc' := 75) (lv' := [some (.inr (.inr (.inl (some (77))))), some (.inl x), some (.inl y), some (.inl k196), some (.inl k197)]) (st' := [.inr (.inr (.inl (some (77))))]) (h' := h) rfl ?_
                    refine wq_gr (p' := 78) (ck_206 _ _ rfl) rfl (congrArg Prod.fst (ly_k I.1.1.1 77 rfl)) rfl (ly_g I.1.1.1 77 26 95 rfl) ?_
                    refine av_wp_sqF ck_206 1 (pc' := 80) (lv' := [some (.inr (.inr (.inl (some (77))))), some (.inl x), some (.inl y), some (.inl k196), some (.inl k197)]) (st' := [.inl (6), .inr (.inr (.inl (some (95))))]) (h' := h) rfl ?_
                    obtain ⟨v286, e287⟩ : ∃ v, hA h 95 (Int.toNat ((6))) = v := ⟨_, rfl⟩
                    have y289 : hA h 95 (Int.toNat ((6))) = v286 := (congrFun (Z.1 95 rfl) _).symm.trans e287
                    have y290 : ro 6 = v286 := (X.2 6 (by omega)).symm.trans e287
                    have g291 := rl_6 R
                    refine wq_al (p' := 81) (n := 13) (ck_206 _ _ rfl) rfl (ly_k I.1.1.1 95 rfl) (by omega) (e287) ?_
                    refine wq_k1 (p' := 84) (ck_206 _ _ rfl) rfl ⟨by omega, by omega⟩ (fun c292 => ?_) (fun c293 => ?_)
                    · have c292 : v286 = (0) := c292
                      refine av_wp_sqF ck_206 2 (pc' := 97) (lv' := [some (.inr (.inr (.inl (some (77))))), some (.inl x), some (.inl y), some (.inl k196), some (.inl k197)]) (st' := [.inl (1), .inl k196]) (h' := h) rfl ?_
                      refine av_wp_sqF ck_206 1 (pc' := 98) (lv' := [some (.inr (.inr (.inl (some (77))))), some (.inl x), some (.inl y), some (.inl k196), some (.inl k197)]) (st' := [.inl (av_or k196 (1))]) (h' := h) rfl ?_
                      have g295 := or_1 (x := k196) (by omega)
                      generalize av_or k196 (1) = v294 at g295 ⊢
                      refine av_wp_sqF ck_206 2 (pc' := 100) (lv' := [some (.inr (.inr (.inl (some (77))))), some (.inl x), some (.inl y), some (.inl v294), some (.inl k197)]) (st' := [.inr (.inr (.inl (some (77))))]) (h' := h) rfl ?_
                      refine wq_gr (p' := 103) (ck_206 _ _ rfl) rfl (congrArg Prod.fst (ly_k I.1.1.1 77 rfl)) rfl (ly_g I.1.1.1 77 36 102 rfl) ?_
                      refine av_wp_sqF ck_206 1 (pc' := 105) (lv' := [some (.inr (.inr (.inl (some (77))))), some (.inl x), some (.inl y), some (.inl v294), some (.inl k197)]) (st' := [.inl k197, .inr (.inr (.inl (some (102))))]) (h' := h) rfl ?_
                      obtain ⟨v296, e297⟩ : ∃ v, hA h 102 (Int.toNat (k197)) = v := ⟨_, rfl⟩
                      have g298 : -1 ≤ hA h 102 (Int.toNat (k197)) ∧ hA h 102 (Int.toNat (k197)) ≤ 2 := im_w I.1.1 102 (by decide) (by decide) _
                      rw [e297] at g298
                      have y299 : hA h 102 (Int.toNat (k197)) = v296 := (congrFun (Z.1 102 rfl) _).symm.trans e297
                      have y300 := (X.1 (Int.toNat (k197)) (by omega)).1.2.2.2.2.2.1
                      rw [e297] at y300
                      refine wq_al (p' := 106) (n := 12) (ck_206 _ _ rfl) rfl (ly_k I.1.1.1 102 rfl) (by omega) (e297) ?_
                      refine av_wp_sqF ck_206 1 (pc' := 107) (lv' := [some (.inr (.inr (.inl (some (77))))), some (.inl x), some (.inl y), some (.inl v294), some (.inl k197)]) (st' := [.inl x, .inl v296]) (h' := h) rfl ?_
                      refine wq_k2 (p' := 110) (ck_206 _ _ rfl) rfl ⟨by omega, by omega⟩ ⟨by omega, by omega⟩ (fun c301 => ?_) (fun c302 => ?_)
                      · have c301 : v296 ≠ x := c301
                        refine av_wp_sqF ck_206 2 (pc' := 22) (lv' := [some (.inr (.inr (.inl (some (77))))), some (.inl x), some (.inl y), some (.inl v294), some (.inl (k197 + (1)))]) (st' := []) (h' := h) rfl ?_
                        exact I200 _ (by omega) (v294) ((k197 + (1))) (by have z5 := o5_r (ro := ro) H (q := (Int.toNat k197)) (by omega); have z6 := rl_6 R; rw [show Int.toNat (k197 + (1)) = Int.toNat k197 + 1 by omega]; exact CNI_s g202 (my1 (by omega) z6 (by omega)) (my2 (by omega) (by omega)) (by omega) (by omega) (by omega)) (by omega) (by omega) (by omega) rfl
                      · have c302 : v296 = x := c302
                        refine av_wp_sqF ck_206 1 (pc' := 111) (lv' := [some (.inr (.inr (.inl (some (77))))), some (.inl x), some (.inl y), some (.inl v294), some (.inl k197)]) (st' := [.inr (.inr (.inl (some (77))))]) (h' := h) rfl ?_
                        refine wq_gr (p' := 114) (ck_206 _ _ rfl) rfl (congrArg Prod.fst (ly_k I.1.1.1 77 rfl)) rfl (ly_g I.1.1.1 77 44 110 rfl) ?_
                        refine av_wp_sqF ck_206 1 (pc' := 116) (lv' := [some (.inr (.inr (.inl (some (77))))), some (.inl x), some (.inl y), some (.inl v294), some (.inl k197)]) (st' := [.inl k197, .inr (.inr (.inl (some (110))))]) (h' := h) rfl ?_
                        obtain ⟨v303, e304⟩ : ∃ v, hA h 110 (Int.toNat (k197)) = v := ⟨_, rfl⟩
                        have y306 : hA h 110 (Int.toNat (k197)) = v303 := (congrFun (Z.1 110 rfl) _).symm.trans e304
                        have y307 : v303 = hw a0 (Int.toNat (k197)) 1 := LR_w X (by omega) (by omega) s12 (Or.inr (Or.inl ⟨rfl, e304.symm⟩))
                        have g308 := hw_r H (k := (Int.toNat (k197))) (by omega) 1
                        rw [← y307] at g308
                        refine wq_al (p' := 117) (n := 12) (ck_206 _ _ rfl) rfl (ly_k I.1.1.1 110 rfl) (by omega) (e304) ?_
                        refine wq_k1 (p' := 120) (ck_206 _ _ rfl) rfl ⟨by omega, by omega⟩ (fun c309 => ?_) (fun c310 => ?_)
                        · have c309 : v303 < (0) := c309
                          refine av_wp_sqF ck_206 2 (pc' := 22) (lv' := [some (.inr (.inr (.inl (some (77))))), some (.inl x), some (.inl y), some (.inl v294), some (.inl (k197 + (1)))]) (st' := []) (h' := h) rfl ?_
                          exact I200 _ (by omega) (v294) ((k197 + (1))) (by have z5 := o5_r (ro := ro) H (q := (Int.toNat k197)) (by omega); have z6 := rl_6 R; rw [show Int.toNat (k197 + (1)) = Int.toNat k197 + 1 by omega]; exact CNI_s g202 (my1 (by omega) z6 (by omega)) (my2 (by omega) (by omega)) (by omega) (by omega) (by omega)) (by omega) (by omega) (by omega) rfl
                        · have c310 : (0) ≤ v303 := c310
                          refine av_wp_sqF ck_206 1 (pc' := 121) (lv' := [some (.inr (.inr (.inl (some (77))))), some (.inl x), some (.inl y), some (.inl v294), some (.inl k197)]) (st' := [.inr (.inr (.inl (some (77))))]) (h' := h) rfl ?_
                          refine wq_gr (p' := 124) (ck_206 _ _ rfl) rfl (congrArg Prod.fst (ly_k I.1.1.1 77 rfl)) rfl (ly_g I.1.1.1 77 44 110 rfl) ?_
                          refine av_wp_sqF ck_206 1 (pc' := 126) (lv' := [some (.inr (.inr (.inl (some (77))))), some (.inl x), some (.inl y), some (.inl v294), some (.inl k197)]) (st' := [.inl k197, .inr (.inr (.inl (some (110))))]) (h' := h) rfl ?_
                          obtain ⟨v311, e312⟩ : ∃ v, hA h 110 (Int.toNat (k197)) = v := ⟨_, rfl⟩
                          have y314 : hA h 110 (Int.toNat (k197)) = v311 := (congrFun (Z.1 110 rfl) _).symm.trans e312
                          have y315 : v311 = hw a0 (Int.toNat (k197)) 1 := LR_w X (by omega) (by omega) s12 (Or.inr (Or.inl ⟨rfl, e312.symm⟩))
                          have g316 := hw_r H (k := (Int.toNat (k197))) (by omega) 1
                          rw [← y315] at g316
                          refine wq_al (p' := 127) (n := 12) (ck_206 _ _ rfl) rfl (ly_k I.1.1.1 110 rfl) (by omega) (e312) ?_
                          refine av_wp_sqF ck_206 1 (pc' := 128) (lv' := [some (.inr (.inr (.inl (some (77))))), some (.inl x), some (.inl y), some (.inl v294), some (.inl k197)]) (st' := [.inl y, .inl v311]) (h' := h) rfl ?_
                          refine wq_k2 (p' := 131) (ck_206 _ _ rfl) rfl ⟨by omega, by omega⟩ ⟨by omega, by omega⟩ (fun c317 => ?_) (fun c318 => ?_)
                          · have c317 : y < v311 := c317
                            refine av_wp_sqF ck_206 2 (pc' := 22) (lv' := [some (.inr (.inr (.inl (some (77))))), some (.inl x), some (.inl y), some (.inl v294), some (.inl (k197 + (1)))]) (st' := []) (h' := h) rfl ?_
                            exact I200 _ (by omega) (v294) ((k197 + (1))) (by have z5 := o5_r (ro := ro) H (q := (Int.toNat k197)) (by omega); have z6 := rl_6 R; rw [show Int.toNat (k197 + (1)) = Int.toNat k197 + 1 by omega]; exact CNI_s g202 (my1 (by omega) z6 (by omega)) (my2 (by omega) (by omega)) (by omega) (by omega) (by omega)) (by omega) (by omega) (by omega) rfl
                          · have c318 : v311 ≤ y := c318
                            refine av_wp_sqF ck_206 2 (pc' := 133) (lv' := [some (.inr (.inr (.inl (some (77))))), some (.inl x), some (.inl y), some (.inl v294), some (.inl k197)]) (st' := [.inl (2), .inl v294]) (h' := h) rfl ?_
                            refine av_wp_sqF ck_206 1 (pc' := 134) (lv' := [some (.inr (.inr (.inl (some (77))))), some (.inl x), some (.inl y), some (.inl v294), some (.inl k197)]) (st' := [.inl (av_or v294 (2))]) (h' := h) rfl ?_
                            have g320 := or_2 (x := v294) (by omega)
                            generalize av_or v294 (2) = v319 at g320 ⊢
                            refine av_wp_sqF ck_206 3 (pc' := 22) (lv' := [some (.inr (.inr (.inl (some (77))))), some (.inl x), some (.inl y), some (.inl v319), some (.inl (k197 + (1)))]) (st' := []) (h' := h) rfl ?_
                            exact I200 _ (by omega) (v319) ((k197 + (1))) (by have z5 := o5_r (ro := ro) H (q := (Int.toNat k197)) (by omega); have z6 := rl_6 R; rw [show Int.toNat (k197 + (1)) = Int.toNat k197 + 1 by omega]; exact CNI_s g202 (my1 (by omega) z6 (by omega)) (my2 (by omega) (by omega)) (by omega) (by omega) (by omega)) (by omega) (by omega) (by omega) rfl
                    · have c293 : v286 ≠ (0) := c293
                      refine av_wp_sqF ck_206 2 (pc' := 86) (lv' := [some (.inr (.inr (.inl (some (77))))), some (.inl x), some (.inl y), some (.inl k196), some (.inl k197)]) (st' := [.inr (.inr (.inl (some (77)))), .inl y]) (h' := h) rfl ?_
                      refine wq_gr (p' := 89) (ck_206 _ _ rfl) rfl (congrArg Prod.fst (ly_k I.1.1.1 77 rfl)) rfl (ly_g I.1.1.1 77 33 99 rfl) ?_
                      refine av_wp_sqF ck_206 1 (pc' := 91) (lv' := [some (.inr (.inr (.inl (some (77))))), some (.inl x), some (.inl y), some (.inl k196), some (.inl k197)]) (st' := [.inl k197, .inr (.inr (.inl (some (99)))), .inl y]) (h' := h) rfl ?_
                      obtain ⟨v321, e322⟩ : ∃ v, hA h 99 (Int.toNat (k197)) = v := ⟨_, rfl⟩
                      have g323 : -1 ≤ hA h 99 (Int.toNat (k197)) ∧ hA h 99 (Int.toNat (k197)) ≤ 1999 := im_w I.1.1 99 (by decide) (by decide) _
                      rw [e322] at g323
                      have y324 : hA h 99 (Int.toNat (k197)) = v321 := (congrFun (Z.1 99 rfl) _).symm.trans e322
                      have y325 := (X.1 (Int.toNat (k197)) (by omega)).1.2.2.1
                      rw [e322] at y325
                      have g326 := W (Int.toNat (k197)) (by omega)
                      rw [← y325] at g326
                      refine wq_al (p' := 92) (n := 12) (ck_206 _ _ rfl) rfl (ly_k I.1.1.1 99 rfl) (by omega) (e322) ?_
                      refine wq_k2 (p' := 95) (ck_206 _ _ rfl) rfl ⟨by omega, by omega⟩ ⟨by omega, by omega⟩ (fun c327 => ?_) (fun c328 => ?_)
                      · have c327 : y ≤ v321 := c327
                        refine av_wp_sqF ck_206 1 (pc' := 100) (lv' := [some (.inr (.inr (.inl (some (77))))), some (.inl x), some (.inl y), some (.inl k196), some (.inl k197)]) (st' := [.inr (.inr (.inl (some (77))))]) (h' := h) rfl ?_
                        refine wq_gr (p' := 103) (ck_206 _ _ rfl) rfl (congrArg Prod.fst (ly_k I.1.1.1 77 rfl)) rfl (ly_g I.1.1.1 77 36 102 rfl) ?_
                        refine av_wp_sqF ck_206 1 (pc' := 105) (lv' := [some (.inr (.inr (.inl (some (77))))), some (.inl x), some (.inl y), some (.inl k196), some (.inl k197)]) (st' := [.inl k197, .inr (.inr (.inl (some (102))))]) (h' := h) rfl ?_
                        obtain ⟨v329, e330⟩ : ∃ v, hA h 102 (Int.toNat (k197)) = v := ⟨_, rfl⟩
                        have g331 : -1 ≤ hA h 102 (Int.toNat (k197)) ∧ hA h 102 (Int.toNat (k197)) ≤ 2 := im_w I.1.1 102 (by decide) (by decide) _
                        rw [e330] at g331
                        have y332 : hA h 102 (Int.toNat (k197)) = v329 := (congrFun (Z.1 102 rfl) _).symm.trans e330
                        have y333 := (X.1 (Int.toNat (k197)) (by omega)).1.2.2.2.2.2.1
                        rw [e330] at y333
                        refine wq_al (p' := 106) (n := 12) (ck_206 _ _ rfl) rfl (ly_k I.1.1.1 102 rfl) (by omega) (e330) ?_
                        refine av_wp_sqF ck_206 1 (pc' := 107) (lv' := [some (.inr (.inr (.inl (some (77))))), some (.inl x), some (.inl y), some (.inl k196), some (.inl k197)]) (st' := [.inl x, .inl v329]) (h' := h) rfl ?_
                        refine wq_k2 (p' := 110) (ck_206 _ _ rfl) rfl ⟨by omega, by omega⟩ ⟨by omega, by omega⟩ (fun c334 => ?_) (fun c335 => ?_)
                        · have c334 : v329 ≠ x := c334
                          refine av_wp_sqF ck_206 2 (pc' := 22) (lv' := [some (.inr (.inr (.inl (some (77))))), some (.inl x), some (.inl y), some (.inl k196), some (.inl (k197 + (1)))]) (st' := []) (h' := h) rfl ?_
                          exact I200 _ (by omega) (k196) ((k197 + (1))) (by have z5 := o5_r (ro := ro) H (q := (Int.toNat k197)) (by omega); have z6 := rl_6 R; rw [show Int.toNat (k197 + (1)) = Int.toNat k197 + 1 by omega]; exact CNI_s g202 (my1 (by omega) z6 (by omega)) (my2 (by omega) (by omega)) (by omega) (by omega) (by omega)) (by omega) (by omega) (by omega) rfl
                        · have c335 : v329 = x := c335
                          refine av_wp_sqF ck_206 1 (pc' := 111) (lv' := [some (.inr (.inr (.inl (some (77))))), some (.inl x), some (.inl y), some (.inl k196), some (.inl k197)]) (st' := [.inr (.inr (.inl (some (77))))]) (h' := h) rfl ?_
                          refine wq_gr (p' := 114) (ck_206 _ _ rfl) rfl (congrArg Prod.fst (ly_k I.1.1.1 77 rfl)) rfl (ly_g I.1.1.1 77 44 110 rfl) ?_
                          refine av_wp_sqF ck_206 1 (pc' := 116) (lv' := [some (.inr (.inr (.inl (some (77))))), some (.inl x), some (.inl y), some (.inl k196), some (.inl k197)]) (st' := [.inl k197, .inr (.inr (.inl (some (110))))]) (h' := h) rfl ?_
                          obtain ⟨v336, e337⟩ : ∃ v, hA h 110 (Int.toNat (k197)) = v := ⟨_, rfl⟩
                          have y339 : hA h 110 (Int.toNat (k197)) = v336 := (congrFun (Z.1 110 rfl) _).symm.trans e337
                          have y340 : v336 = hw a0 (Int.toNat (k197)) 1 := LR_w X (by omega) (by omega) s12 (Or.inr (Or.inl ⟨rfl, e337.symm⟩))
                          have g341 := hw_r H (k := (Int.toNat (k197))) (by omega) 1
                          rw [← y340] at g341
                          refine wq_al (p' := 117) (n := 12) (ck_206 _ _ rfl) rfl (ly_k I.1.1.1 110 rfl) (by omega) (e337) ?_
                          refine wq_k1 (p' := 120) (ck_206 _ _ rfl) rfl ⟨by omega, by omega⟩ (fun c342 => ?_) (fun c343 => ?_)
                          · have c342 : v336 < (0) := c342
                            refine av_wp_sqF ck_206 2 (pc' := 22) (lv' := [some (.inr (.inr (.inl (some (77))))), some (.inl x), some (.inl y), some (.inl k196), some (.inl (k197 + (1)))]) (st' := []) (h' := h) rfl ?_
                            exact I200 _ (by omega) (k196) ((k197 + (1))) (by have z5 := o5_r (ro := ro) H (q := (Int.toNat k197)) (by omega); have z6 := rl_6 R; rw [show Int.toNat (k197 + (1)) = Int.toNat k197 + 1 by omega]; exact CNI_s g202 (my1 (by omega) z6 (by omega)) (my2 (by omega) (by omega)) (by omega) (by omega) (by omega)) (by omega) (by omega) (by omega) rfl
                          · have c343 : (0) ≤ v336 := c343
                            refine av_wp_sqF ck_206 1 (pc' := 121) (lv' := [some (.inr (.inr (.inl (some (77))))), some (.inl x), some (.inl y), some (.inl k196), some (.inl k197)]) (st' := [.inr (.inr (.inl (some (77))))]) (h' := h) rfl ?_
                            refine wq_gr (p' := 124) (ck_206 _ _ rfl) rfl (congrArg Prod.fst (ly_k I.1.1.1 77 rfl)) rfl (ly_g I.1.1.1 77 44 110 rfl) ?_
                            refine av_wp_sqF ck_206 1 (pc' := 126) (lv' := [some (.inr (.inr (.inl (some (77))))), some (.inl x), some (.inl y), some (.inl k196), some (.inl k197)]) (st' := [.inl k197, .inr (.inr (.inl (some (110))))]) (h' := h) rfl ?_
                            obtain ⟨v344, e345⟩ : ∃ v, hA h 110 (Int.toNat (k197)) = v := ⟨_, rfl⟩
                            have y347 : hA h 110 (Int.toNat (k197)) = v344 := (congrFun (Z.1 110 rfl) _).symm.trans e345
                            have y348 : v344 = hw a0 (Int.toNat (k197)) 1 := LR_w X (by omega) (by omega) s12 (Or.inr (Or.inl ⟨rfl, e345.symm⟩))
                            have g349 := hw_r H (k := (Int.toNat (k197))) (by omega) 1
                            rw [← y348] at g349
                            refine wq_al (p' := 127) (n := 12) (ck_206 _ _ rfl) rfl (ly_k I.1.1.1 110 rfl) (by omega) (e345) ?_
                            refine av_wp_sqF ck_206 1 (pc' := 128) (lv' := [some (.inr (.inr (.inl (some (77))))), some (.inl x), some (.inl y), some (.inl k196), some (.inl k197)]) (st' := [.inl y, .inl v344]) (h' := h) rfl ?_
                            refine wq_k2 (p' := 131) (ck_206 _ _ rfl) rfl ⟨by omega, by omega⟩ ⟨by omega, by omega⟩ (fun c350 => ?_) (fun c351 => ?_)
                            · have c350 : y < v344 := c350
                              refine av_wp_sqF ck_206 2 (pc' := 22) (lv' := [some (.inr (.inr (.inl (some (77))))), some (.inl x), some (.inl y), some (.inl k196), some (.inl (k197 + (1)))]) (st' := []) (h' := h) rfl ?_
                              exact I200 _ (by omega) (k196) ((k197 + (1))) (by have z5 := o5_r (ro := ro) H (q := (Int.toNat k197)) (by omega); have z6 := rl_6 R; rw [show Int.toNat (k197 + (1)) = Int.toNat k197 + 1 by omega]; exact CNI_s g202 (my1 (by omega) z6 (by omega)) (my2 (by omega) (by omega)) (by omega) (by omega) (by omega)) (by omega) (by omega) (by omega) rfl
                            · have c351 : v344 ≤ y := c351
                              refine av_wp_sqF ck_206 2 (pc' := 133) (lv' := [some (.inr (.inr (.inl (some (77))))), some (.inl x), some (.inl y), some (.inl k196), some (.inl k197)]) (st' := [.inl (2), .inl k196]) (h' := h) rfl ?_
                              refine av_wp_sqF ck_206 1 (pc' := 134) (lv' := [some (.inr (.inr (.inl (some (77))))), some (.inl x), some (.inl y), some (.inl k196), some (.inl k197)]) (st' := [.inl (av_or k196 (2))]) (h' := h) rfl ?_
                              have g353 := or_2 (x := k196) (by omega)
                              generalize av_or k196 (2) = v352 at g353 ⊢
                              refine av_wp_sqF ck_206 3 (pc' := 22) (lv' := [some (.inr (.inr (.inl (some (77))))), some (.inl x), some (.inl y), some (.inl v352), some (.inl (k197 + (1)))]) (st' := []) (h' := h) rfl ?_
                              exact I200 _ (by omega) (v352) ((k197 + (1))) (by have z5 := o5_r (ro := ro) H (q := (Int.toNat k197)) (by omega); have z6 := rl_6 R; rw [show Int.toNat (k197 + (1)) = Int.toNat k197 + 1 by omega]; exact CNI_s g202 (my1 (by omega) z6 (by omega)) (my2 (by omega) (by omega)) (by omega) (by omega) (by omega)) (by omega) (by omega) (by omega) rfl
                      · have c328 : v321 < y := c328
                        refine av_wp_sqF ck_206 2 (pc' := 97) (lv' := [some (.inr (.inr (.inl (some (77))))), some (.inl x), some (.inl y), some (.inl k196), some (.inl k197)]) (st' := [.inl (1), .inl k196]) (h' := h) rfl ?_
                        refine av_wp_sqF ck_206 1 (pc' := 98) (lv' := [some (.inr (.inr (.inl (some (77))))), some (.inl x), some (.inl y), some (.inl k196), some (.inl k197)]) (st' := [.inl (av_or k196 (1))]) (h' := h) rfl ?_
                        have g355 := or_1 (x := k196) (by omega)
                        generalize av_or k196 (1) = v354 at g355 ⊢
                        refine av_wp_sqF ck_206 2 (pc' := 100) (lv' := [some (.inr (.inr (.inl (some (77))))), some (.inl x), some (.inl y), some (.inl v354), some (.inl k197)]) (st' := [.inr (.inr (.inl (some (77))))]) (h' := h) rfl ?_
                        refine wq_gr (p' := 103) (ck_206 _ _ rfl) rfl (congrArg Prod.fst (ly_k I.1.1.1 77 rfl)) rfl (ly_g I.1.1.1 77 36 102 rfl) ?_
                        refine av_wp_sqF ck_206 1 (pc' := 105) (lv' := [some (.inr (.inr (.inl (some (77))))), some (.inl x), some (.inl y), some (.inl v354), some (.inl k197)]) (st' := [.inl k197, .inr (.inr (.inl (some (102))))]) (h' := h) rfl ?_
                        obtain ⟨v356, e357⟩ : ∃ v, hA h 102 (Int.toNat (k197)) = v := ⟨_, rfl⟩
                        have g358 : -1 ≤ hA h 102 (Int.toNat (k197)) ∧ hA h 102 (Int.toNat (k197)) ≤ 2 := im_w I.1.1 102 (by decide) (by decide) _
                        rw [e357] at g358
                        have y359 : hA h 102 (Int.toNat (k197)) = v356 := (congrFun (Z.1 102 rfl) _).symm.trans e357
                        have y360 := (X.1 (Int.toNat (k197)) (by omega)).1.2.2.2.2.2.1
                        rw [e357] at y360
                        refine wq_al (p' := 106) (n := 12) (ck_206 _ _ rfl) rfl (ly_k I.1.1.1 102 rfl) (by omega) (e357) ?_
                        refine av_wp_sqF ck_206 1 (pc' := 107) (lv' := [some (.inr (.inr (.inl (some (77))))), some (.inl x), some (.inl y), some (.inl v354), some (.inl k197)]) (st' := [.inl x, .inl v356]) (h' := h) rfl ?_
                        refine wq_k2 (p' := 110) (ck_206 _ _ rfl) rfl ⟨by omega, by omega⟩ ⟨by omega, by omega⟩ (fun c361 => ?_) (fun c362 => ?_)
                        · have c361 : v356 ≠ x := c361
                          refine av_wp_sqF ck_206 2 (pc' := 22) (lv' := [some (.inr (.inr (.inl (some (77))))), some (.inl x), some (.inl y), some (.inl v354), some (.inl (k197 + (1)))]) (st' := []) (h' := h) rfl ?_
                          exact I200 _ (by omega) (v354) ((k197 + (1))) (by have z5 := o5_r (ro := ro) H (q := (Int.toNat k197)) (by omega); have z6 := rl_6 R; rw [show Int.toNat (k197 + (1)) = Int.toNat k197 + 1 by omega]; exact CNI_s g202 (my1 (by omega) z6 (by omega)) (my2 (by omega) (by omega)) (by omega) (by omega) (by omega)) (by omega) (by omega) (by omega) rfl
                        · have c362 : v356 = x := c362
                          refine av_wp_sqF ck_206 1 (pc' := 111) (lv' := [some (.inr (.inr (.inl (some (77))))), some (.inl x), some (.inl y), some (.inl v354), some (.inl k197)]) (st' := [.inr (.inr (.inl (some (77))))]) (h' := h) rfl ?_
                          refine wq_gr (p' := 114) (ck_206 _ _ rfl) rfl (congrArg Prod.fst (ly_k I.1.1.1 77 rfl)) rfl (ly_g I.1.1.1 77 44 110 rfl) ?_
                          refine av_wp_sqF ck_206 1 (pc' := 116) (lv' := [some (.inr (.inr (.inl (some (77))))), some (.inl x), some (.inl y), some (.inl v354), some (.inl k197)]) (st' := [.inl k197, .inr (.inr (.inl (some (110))))]) (h' := h) rfl ?_
                          obtain ⟨v363, e364⟩ : ∃ v, hA h 110 (Int.toNat (k197)) = v := ⟨_, rfl⟩
                          have y366 : hA h 110 (Int.toNat (k197)) = v363 := (congrFun (Z.1 110 rfl) _).symm.trans e364
                          have y367 : v363 = hw a0 (Int.toNat (k197)) 1 := LR_w X (by omega) (by omega) s12 (Or.inr (Or.inl ⟨rfl, e364.symm⟩))
                          have g368 := hw_r H (k := (Int.toNat (k197))) (by omega) 1
                          rw [← y367] at g368
                          refine wq_al (p' := 117) (n := 12) (ck_206 _ _ rfl) rfl (ly_k I.1.1.1 110 rfl) (by omega) (e364) ?_
                          refine wq_k1 (p' := 120) (ck_206 _ _ rfl) rfl ⟨by omega, by omega⟩ (fun c369 => ?_) (fun c370 => ?_)
                          · have c369 : v363 < (0) := c369
                            refine av_wp_sqF ck_206 2 (pc' := 22) (lv' := [some (.inr (.inr (.inl (some (77))))), some (.inl x), some (.inl y), some (.inl v354), some (.inl (k197 + (1)))]) (st' := []) (h' := h) rfl ?_
                            exact I200 _ (by omega) (v354) ((k197 + (1))) (by have z5 := o5_r (ro := ro) H (q := (Int.toNat k197)) (by omega); have z6 := rl_6 R; rw [show Int.toNat (k197 + (1)) = Int.toNat k197 + 1 by omega]; exact CNI_s g202 (my1 (by omega) z6 (by omega)) (my2 (by omega) (by omega)) (by omega) (by omega) (by omega)) (by omega) (by omega) (by omega) rfl
                          · have c370 : (0) ≤ v363 := c370
                            refine av_wp_sqF ck_206 1 (pc' := 121) (lv' := [some (.inr (.inr (.inl (some (77))))), some (.inl x), some (.inl y), some (.inl v354), some (.inl k197)]) (st' := [.inr (.inr (.inl (some (77))))]) (h' := h) rfl ?_
                            refine wq_gr (p' := 124) (ck_206 _ _ rfl) rfl (congrArg Prod.fst (ly_k I.1.1.1 77 rfl)) rfl (ly_g I.1.1.1 77 44 110 rfl) ?_
                            refine av_wp_sqF ck_206 1 (pc' := 126) (lv' := [some (.inr (.inr (.inl (some (77))))), some (.inl x), some (.inl y), some (.inl v354), some (.inl k197)]) (st' := [.inl k197, .inr (.inr (.inl (some (110))))]) (h' := h) rfl ?_
                            obtain ⟨v371, e372⟩ : ∃ v, hA h 110 (Int.toNat (k197)) = v := ⟨_, rfl⟩
                            have y374 : hA h 110 (Int.toNat (k197)) = v371 := (congrFun (Z.1 110 rfl) _).symm.trans e372
                            have y375 : v371 = hw a0 (Int.toNat (k197)) 1 := LR_w X (by omega) (by omega) s12 (Or.inr (Or.inl ⟨rfl, e372.symm⟩))
                            have g376 := hw_r H (k := (Int.toNat (k197))) (by omega) 1
                            rw [← y375] at g376
                            refine wq_al (p' := 127) (n := 12) (ck_206 _ _ rfl) rfl (ly_k I.1.1.1 110 rfl) (by omega) (e372) ?_
                            refine av_wp_sqF ck_206 1 (pc' := 128) (lv' := [some (.inr (.inr (.inl (some (77))))), some (.inl x), some (.inl y), some (.inl v354), some (.inl k197)]) (st' := [.inl y, .inl v371]) (h' := h) rfl ?_
                            refine wq_k2 (p' := 131) (ck_206 _ _ rfl) rfl ⟨by omega, by omega⟩ ⟨by omega, by omega⟩ (fun c377 => ?_) (fun c378 => ?_)
                            · have c377 : y < v371 := c377
                              refine av_wp_sqF ck_206 2 (pc' := 22) (lv' := [some (.inr (.inr (.inl (some (77))))), some (.inl x), some (.inl y), some (.inl v354), some (.inl (k197 + (1)))]) (st' := []) (h' := h) rfl ?_
                              exact I200 _ (by omega) (v354) ((k197 + (1))) (by have z5 := o5_r (ro := ro) H (q := (Int.toNat k197)) (by omega); have z6 := rl_6 R; rw [show Int.toNat (k197 + (1)) = Int.toNat k197 + 1 by omega]; exact CNI_s g202 (my1 (by omega) z6 (by omega)) (my2 (by omega) (by omega)) (by omega) (by omega) (by omega)) (by omega) (by omega) (by omega) rfl
                            · have c378 : v371 ≤ y := c378
                              refine av_wp_sqF ck_206 2 (pc' := 133) (lv' := [some (.inr (.inr (.inl (some (77))))), some (.inl x), some (.inl y), some (.inl v354), some (.inl k197)]) (st' := [.inl (2), .inl v354]) (h' := h) rfl ?_
                              refine av_wp_sqF ck_206 1 (pc' := 134) (lv' := [some (.inr (.inr (.inl (some (77))))), some (.inl x), some (.inl y), some (.inl v354), some (.inl k197)]) (st' := [.inl (av_or v354 (2))]) (h' := h) rfl ?_
                              have g380 := or_2 (x := v354) (by omega)
                              generalize av_or v354 (2) = v379 at g380 ⊢
                              refine av_wp_sqF ck_206 3 (pc' := 22) (lv' := [some (.inr (.inr (.inl (some (77))))), some (.inl x), some (.inl y), some (.inl v379), some (.inl (k197 + (1)))]) (st' := []) (h' := h) rfl ?_
                              exact I200 _ (by omega) (v379) ((k197 + (1))) (by have z5 := o5_r (ro := ro) H (q := (Int.toNat k197)) (by omega); have z6 := rl_6 R; rw [show Int.toNat (k197 + (1)) = Int.toNat k197 + 1 by omega]; exact CNI_s g202 (my1 (by omega) z6 (by omega)) (my2 (by omega) (by omega)) (by omega) (by omega) (by omega)) (by omega) (by omega) (by omega) rfl
              · have c218 : v213 = (0) := c218
                refine av_wp_sqF ck_206 3 (pc' := 22) (lv' := [some (.inr (.inr (.inl (some (77))))), some (.inl x), some (.inl y), some (.inl k196), some (.inl (k197 + (1)))]) (st' := []) (h' := h) rfl ?_
                exact I200 _ (by omega) (k196) ((k197 + (1))) (by have z5 := o5_r (ro := ro) H (q := (Int.toNat k197)) (by omega); have z6 := rl_6 R; rw [show Int.toNat (k197 + (1)) = Int.toNat k197 + 1 by omega]; exact CNI_s g202 (my1 (by omega) z6 (by omega)) (my2 (by omega) (by omega)) (by omega) (by omega) (by omega)) (by omega) (by omega) (by omega) rfl
      exact L199 _ ((0)) ((0)) CNI_0 (by omega) (by omega) (by omega) rfl
    · have c195 : v192 ≤ y := c195
      refine av_wp_sqF ck_206 1 (pc' := 16) (lv' := [some (.inr (.inr (.inl (some (77))))), some (.inl x), some (.inl y), none, none]) (st' := [.inl (0)]) (h' := h) rfl ?_
      refine av_wp_ret (v := some (.inl (0))) (ck_206 _ _ rfl) rfl rfl ?_
      exact hq _ (CNV_9 (by omega))

