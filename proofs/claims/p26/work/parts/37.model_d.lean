set_option maxRecDepth 100000 in
set_option maxHeartbeats 4000000 in
theorem ct_163 {g h : av_H} {n : Int} (I : IM h) (hn : hF h 77 27 = n) (F : FM g h) {Q : Option av_V → av_H → Prop} (hq : ∀ a m h', (1 ≤ m ∧ m = cmf (hA h 105) (hA h 106) (hA h 98) (4 * n).toNat) → IMF n a m h' → FM g h' → Q none h') : av_wp none cd_163 0 [some (.inr (.inr (.inl (some (77))))), none, none, none] [] h Q := by
  have gn := im_n I.1
  rw [hn] at gn
  refine av_wp_sqF ck_163 2 (pc' := 2) (lv' := [some (.inr (.inr (.inl (some (77))))), none, none, none]) (st' := [.inl (0), .inr (.inr (.inl (some (77))))]) (h' := h) rfl ?_
  refine wq_pi (p' := 5) (ck_163 _ _ rfl) rfl (congrArg Prod.fst (ly_k I.1.1 77 rfl)) rfl ?_
  refine av_wp_sqF ck_163 2 (pc' := 7) (lv' := [some (.inr (.inr (.inl (some (77))))), none, none, none]) (st' := [.inl (1), .inr (.inr (.inl (some (77))))]) (h' := hwF h 77 28 (0)) rfl ?_
  refine wq_pi (p' := 10) (ck_163 _ _ rfl) rfl (congrArg Prod.fst (ly_k I.1.1 77 rfl)) rfl ?_
  obtain ⟨J0, F0⟩ := AJ_0 I hn
  generalize hwF (hwF h 77 28 (0)) 77 29 (1) = h0 at J0 F0 ⊢
  generalize hA h 105 = lo at hq J0
  generalize hA h 106 = hi at hq J0
  generalize hA h 98 = ls at hq J0
  have F1 := FM_tr F F0
  refine av_wp_sqF ck_163 2 (pc' := 12) (lv' := [some (.inr (.inr (.inl (some (77))))), some (.inl (0)), none, none]) (st' := []) (h' := h0) rfl ?_
  have L8 : ∀ (m7 : Nat) (k1 : Int) (a2 : Option av_V) (a3 : Option av_V) (h4 : av_H), av_lg a2 = false → av_lg a3 = false → k1 ≤ n → (0 ≤ k1 ∧ k1 ≤ 12) → AJ n lo hi ls (4 * k1).toNat h4 → FM g h4 → (12 - k1).toNat = m7 → av_wp none cd_163 12 [some (.inr (.inr (.inl (some (77))))), some (.inl k1), a2, a3] [] h4 Q := by
    intro m7
    induction m7 using Nat.strongRecOn with
    | _ m7 I9 =>
      intro k1 a2 a3 h4 g11 g12 g13 g14 J5 F6 e10
      have la2 := g11
      have la3 := g12
      refine av_wp_sqF ck_163 2 (pc' := 14) (lv' := [some (.inr (.inr (.inl (some (77))))), some (.inl k1), a2, a3]) (st' := [.inr (.inr (.inl (some (77)))), .inl k1]) (h' := h4) rfl ?_
      refine wq_gi (p' := 17) (ck_163 _ _ rfl) rfl (congrArg Prod.fst (ly_k J5.1.1.1 77 rfl)) rfl (J5.2.1) ?_
      refine wq_k2 (p' := 20) (ck_163 _ _ rfl) rfl ⟨by omega, by omega⟩ ⟨by omega, by omega⟩ (fun c15 => ?_) (fun c16 => ?_)
      · have c15 : n ≤ k1 := c15
        refine av_wp_ret (v := none) (ck_163 _ _ rfl) rfl rfl ?_
        have J17 := AJ_eq (t' := (4 * n).toNat) J5 (by omega)
        exact hq _ _ h4 ⟨J17.2.2.2.1, J17.2.2.2.2.1⟩ ⟨J17.1, J17.2.1, rfl, rfl⟩ F6
      · have c16 : k1 < n := c16
        refine av_wp_sqF ck_163 2 (pc' := 22) (lv' := [some (.inr (.inr (.inl (some (77))))), some (.inl k1), some (.inl (0)), a3]) (st' := []) (h' := h4) rfl ?_
        have L24 : ∀ (m23 : Nat) (k18 : Int) (a19 : Option av_V) (h20 : av_H), av_lg a19 = false → (0 ≤ k18 ∧ k18 ≤ 4) → AJ n lo hi ls (4 * k1 + k18).toNat h20 → FM g h20 → (4 - k18).toNat = m23 → av_wp none cd_163 22 [some (.inr (.inr (.inl (some (77))))), some (.inl k1), some (.inl k18), a19] [] h20 Q := by
          intro m23
          induction m23 using Nat.strongRecOn with
          | _ m23 I25 =>
            intro k18 a19 h20 g27 g28 J21 F22 e26
            have la19 := g27
            refine av_wp_sqF ck_163 2 (pc' := 24) (lv' := [some (.inr (.inr (.inl (some (77))))), some (.inl k1), some (.inl k18), a19]) (st' := [.inl (4), .inl k18]) (h' := h20) rfl ?_
            refine wq_k2 (p' := 27) (ck_163 _ _ rfl) rfl ⟨by omega, by omega⟩ ⟨by omega, by omega⟩ (fun c29 => ?_) (fun c30 => ?_)
            · have c29 : (4) ≤ k18 := c29
              refine av_wp_sqF ck_163 2 (pc' := 12) (lv' := [some (.inr (.inr (.inl (some (77))))), some (.inl (k1 + (1))), some (.inl k18), a19]) (st' := []) (h' := h20) rfl ?_
              exact I9 _ (by omega) ((k1 + (1))) (some (.inl k18)) (a19) h20 rfl la19 (by omega) (by omega) (AJ_eq J21 (by omega)) F22 rfl
            · have c30 : k18 < (4) := c30
              refine av_wp_sqF ck_163 2 (pc' := 29) (lv' := [some (.inr (.inr (.inl (some (77))))), some (.inl k1), some (.inl k18), a19]) (st' := [.inl (3), .inl k18]) (h' := h20) rfl ?_
              refine wq_k2 (p' := 32) (ck_163 _ _ rfl) rfl ⟨by omega, by omega⟩ ⟨by omega, by omega⟩ (fun c31 => ?_) (fun c32 => ?_)
              · have c31 : (3) ≤ k18 := c31
                refine av_wp_sqF ck_163 1 (pc' := 59) (lv' := [some (.inr (.inr (.inl (some (77))))), some (.inl k1), some (.inl k18), a19]) (st' := [.inr (.inr (.inl (some (77))))]) (h' := h20) rfl ?_
                refine wq_gr (p' := 62) (ck_163 _ _ rfl) rfl (congrArg Prod.fst (ly_k J21.1.1.1 77 rfl)) rfl (ly_g J21.1.1.1 77 32 98 rfl) ?_
                refine av_wp_sqF ck_163 1 (pc' := 63) (lv' := [some (.inr (.inr (.inl (some (77))))), some (.inl k1), some (.inl k18), a19]) (st' := [.inl k1, .inr (.inr (.inl (some (98))))]) (h' := h20) rfl ?_
                obtain ⟨v33, e34⟩ : ∃ v, hA h20 98 (Int.toNat (k1)) = v := ⟨_, rfl⟩
                have g35 : 0 ≤ hA h20 98 (Int.toNat (k1)) ∧ hA h20 98 (Int.toNat (k1)) ≤ 2 := im_w J21.1.1 98 (by decide) (by decide) _
                rw [e34] at g35
                refine wq_al (p' := 64) (n := 12) (ck_163 _ _ rfl) rfl (ly_k J21.1.1.1 98 rfl) (by omega) (e34) ?_
                refine av_wp_sqF ck_163 1 (pc' := 65) (lv' := [some (.inr (.inr (.inl (some (77))))), some (.inl k1), some (.inl k18), a19]) (st' := [.inl (1), .inl v33]) (h' := h20) rfl ?_
                refine wq_k2 (p' := 68) (ck_163 _ _ rfl) rfl ⟨by omega, by omega⟩ ⟨by omega, by omega⟩ (fun c36 => ?_) (fun c37 => ?_)
                · have c36 : v33 ≠ (1) := c36
                  refine av_wp_sqF ck_163 2 (pc' := 74) (lv' := [some (.inr (.inr (.inl (some (77))))), some (.inl k1), some (.inl k18), some (.inl (1))]) (st' := []) (h' := h20) rfl ?_
                  have u38 : cmv lo hi ls (4 * k1 + k18).toNat = (1) := cmv_c (by omega) (by omega) ((congrFun J21.2.2.2.2.2.2.2.symm _).trans e34) (by omega)
                  refine av_wp_sqF ck_163 3 (pc' := 79) (lv' := [some (.inr (.inr (.inl (some (77))))), some (.inl k1), some (.inl k18), some (.inl (1))]) (st' := []) (h' := h20) rfl ?_
                  have J39 := AJ_skip J21 u38 (by omega)
                  refine av_wp_sqF ck_163 3 (pc' := 22) (lv' := [some (.inr (.inr (.inl (some (77))))), some (.inl k1), some (.inl (k18 + (1))), some (.inl (1))]) (st' := []) (h' := h20) rfl ?_
                  exact I25 _ (by omega) ((k18 + (1))) (some (.inl (1))) h20 rfl (by omega) (AJ_eq J39 (by omega)) F22 rfl
                · have c37 : v33 = (1) := c37
                  refine av_wp_sqF ck_163 3 (pc' := 74) (lv' := [some (.inr (.inr (.inl (some (77))))), some (.inl k1), some (.inl k18), some (.inl (2))]) (st' := []) (h' := h20) rfl ?_
                  have u40 : cmv lo hi ls (4 * k1 + k18).toNat = (2) := cmv_b (by omega) (by omega) ((congrFun J21.2.2.2.2.2.2.2.symm _).trans e34) (by omega)
                  refine av_wp_sqF ck_163 3 (pc' := 82) (lv' := [some (.inr (.inr (.inl (some (77))))), some (.inl k1), some (.inl k18), some (.inl (2))]) (st' := []) (h' := h20) rfl ?_
                  have g41 := im_a J21.1.1
                  have g42 := im_cm J21.1.1
                  have g43 := J21.2.2.1
                  have g44 : 0 ≤ (hF h20 77 29) * (2) := Int.mul_nonneg (by omega) (by omega)
                  have g45 : (hF h20 77 29) * (2) ≤ 1025 * 2000 := Int.mul_le_mul (by omega) (by omega) (by omega) (by omega)
                  refine av_wp_sqF ck_163 1 (pc' := 83) (lv' := [some (.inr (.inr (.inl (some (77))))), some (.inl k1), some (.inl k18), some (.inl (2))]) (st' := [.inr (.inr (.inl (some (77))))]) (h' := h20) rfl ?_
                  refine wq_gr (p' := 86) (ck_163 _ _ rfl) rfl (congrArg Prod.fst (ly_k J21.1.1.1 77 rfl)) rfl (ly_g J21.1.1.1 77 41 107 rfl) ?_
                  refine av_wp_sqF ck_163 1 (pc' := 87) (lv' := [some (.inr (.inr (.inl (some (77))))), some (.inl k1), some (.inl k18), some (.inl (2))]) (st' := [.inr (.inr (.inl (some (77)))), .inr (.inr (.inl (some (107))))]) (h' := h20) rfl ?_
                  refine wq_gi (p' := 90) (ck_163 _ _ rfl) rfl (congrArg Prod.fst (ly_k J21.1.1.1 77 rfl)) rfl rfl ?_
                  refine av_wp_sqF ck_163 5 (pc' := 95) (lv' := [some (.inr (.inr (.inl (some (77))))), some (.inl k1), some (.inl k18), some (.inl (2))]) (st' := [.inl (((4) * k1) + k18), .inl (hF h20 77 28), .inr (.inr (.inl (some (107))))]) (h' := h20) rfl ?_
                  refine wq_as (p' := 96) (n := 48) (ck_163 _ _ rfl) rfl (ly_k J21.1.1.1 107 rfl) (by omega) ?_
                  refine av_wp_sqF ck_163 1 (pc' := 97) (lv' := [some (.inr (.inr (.inl (some (77))))), some (.inl k1), some (.inl k18), some (.inl (2))]) (st' := [.inr (.inr (.inl (some (77))))]) (h' := (hwA h20 107 (hF h20 77 28).toNat (((4) * k1) + k18))) rfl ?_
                  refine wq_gr (p' := 100) (ck_163 _ _ rfl) rfl (congrArg Prod.fst (ly_k J21.1.1.1 77 rfl)) rfl (ly_g J21.1.1.1 77 42 108 rfl) ?_
                  refine av_wp_sqF ck_163 1 (pc' := 101) (lv' := [some (.inr (.inr (.inl (some (77))))), some (.inl k1), some (.inl k18), some (.inl (2))]) (st' := [.inr (.inr (.inl (some (77)))), .inr (.inr (.inl (some (108))))]) (h' := (hwA h20 107 (hF h20 77 28).toNat (((4) * k1) + k18))) rfl ?_
                  refine wq_gi (v := (hF h20 77 28)) (p' := 104) rfl rfl (congrArg Prod.fst (ly_k J21.1.1.1 77 rfl)) rfl rfl ?_
                  refine av_wp_sqF ck_163 1 (pc' := 105) (lv' := [some (.inr (.inr (.inl (some (77))))), some (.inl k1), some (.inl k18), some (.inl (2))]) (st' := [.inl (2), .inl (hF h20 77 28), .inr (.inr (.inl (some (108))))]) (h' := (hwA h20 107 (hF h20 77 28).toNat (((4) * k1) + k18))) rfl ?_
                  refine wq_as (p' := 106) (n := 48) (ck_163 _ _ rfl) rfl (ly_k J21.1.1.1 108 rfl) (by omega) ?_
                  refine av_wp_sqF ck_163 2 (pc' := 108) (lv' := [some (.inr (.inr (.inl (some (77))))), some (.inl k1), some (.inl k18), some (.inl (2))]) (st' := [.inr (.inr (.inl (some (77)))), .inr (.inr (.inl (some (77))))]) (h' := (hwA (hwA h20 107 (hF h20 77 28).toNat (((4) * k1) + k18)) 108 (hF h20 77 28).toNat (2))) rfl ?_
                  refine wq_gi (v := (hF h20 77 28)) (p' := 111) rfl rfl (congrArg Prod.fst (ly_k J21.1.1.1 77 rfl)) rfl rfl ?_
                  refine av_wp_sqF ck_163 2 (pc' := 113) (lv' := [some (.inr (.inr (.inl (some (77))))), some (.inl k1), some (.inl k18), some (.inl (2))]) (st' := [.inl ((hF h20 77 28) + (1)), .inr (.inr (.inl (some (77))))]) (h' := (hwA (hwA h20 107 (hF h20 77 28).toNat (((4) * k1) + k18)) 108 (hF h20 77 28).toNat (2))) rfl ?_
                  refine wq_pi (p' := 116) (ck_163 _ _ rfl) rfl (congrArg Prod.fst (ly_k J21.1.1.1 77 rfl)) rfl ?_
                  refine av_wp_sqF ck_163 2 (pc' := 118) (lv' := [some (.inr (.inr (.inl (some (77))))), some (.inl k1), some (.inl k18), some (.inl (2))]) (st' := [.inr (.inr (.inl (some (77)))), .inr (.inr (.inl (some (77))))]) (h' := (hwF (hwA (hwA h20 107 (hF h20 77 28).toNat (((4) * k1) + k18)) 108 (hF h20 77 28).toNat (2)) 77 28 ((hF h20 77 28) + (1)))) rfl ?_
                  refine wq_gi (v := (hF h20 77 29)) (p' := 121) rfl rfl (congrArg Prod.fst (ly_k J21.1.1.1 77 rfl)) rfl (hF_oth (by decide)) ?_
                  refine av_wp_sqF ck_163 3 (pc' := 126) (lv' := [some (.inr (.inr (.inl (some (77))))), some (.inl k1), some (.inl k18), some (.inl (2))]) (st' := [.inl (1024), .inl ((hF h20 77 29) * (2)), .inr (.inr (.inl (some (77))))]) (h' := (hwF (hwA (hwA h20 107 (hF h20 77 28).toNat (((4) * k1) + k18)) 108 (hF h20 77 28).toNat (2)) 77 28 ((hF h20 77 28) + (1)))) rfl ?_
                  have J46 : ∀ m' : Int, ((1024 < (hF h20 77 29) * (2) ∧ m' = 1025) ∨ ((hF h20 77 29) * (2) ≤ 1024 ∧ m' = (hF h20 77 29) * (2))) → av_wp none cd_163 141 [some (.inr (.inr (.inl (some (77))))), some (.inl k1), some (.inl k18), some (.inl (2))] [.inl m', .inr (.inr (.inl (some (77))))] (hwF (hwA (hwA h20 107 (hF h20 77 28).toNat (((4) * k1) + k18)) 108 (hF h20 77 28).toNat (2)) 77 28 ((hF h20 77 28) + (1))) Q := by
                    intro m47 g48
                    refine wq_pi (p' := 144) (ck_163 _ _ rfl) rfl (congrArg Prod.fst (ly_k J21.1.1.1 77 rfl)) rfl ?_
                    obtain ⟨J49, F50⟩ := AJ_step (x := (((4) * k1) + k18)) (v := (2)) (m' := m47) J21 u40 (by omega) (by omega) (by omega) g48
                    generalize hwF (hwF (hwA (hwA h20 107 (hF h20 77 28).toNat (((4) * k1) + k18)) 108 (hF h20 77 28).toNat (2)) 77 28 ((hF h20 77 28) + (1))) 77 29 m47 = h52 at J49 F50 ⊢
                    have F51 := FM_tr F22 F50
                    refine av_wp_sqF ck_163 2 (pc' := 22) (lv' := [some (.inr (.inr (.inl (some (77))))), some (.inl k1), some (.inl (k18 + (1))), some (.inl (2))]) (st' := []) (h' := h52) rfl ?_
                    exact I25 _ (by omega) ((k18 + (1))) (some (.inl (2))) h52 rfl (by omega) (AJ_eq J49 (by omega)) F51 rfl
                  refine wq_k2 (p' := 129) (ck_163 _ _ rfl) rfl ⟨by omega, by omega⟩ ⟨by omega, by omega⟩ (fun z1 => ?_) (fun z1 => ?_)
                  · have z1 : (hF h20 77 29) * (2) ≤ (1024) := z1
                    refine av_wp_sqF ck_163 1 (pc' := 136) (lv' := [some (.inr (.inr (.inl (some (77))))), some (.inl k1), some (.inl k18), some (.inl (2))]) (st' := [.inr (.inr (.inl (some (77)))), .inr (.inr (.inl (some (77))))]) (h' := (hwF (hwA (hwA h20 107 (hF h20 77 28).toNat (((4) * k1) + k18)) 108 (hF h20 77 28).toNat (2)) 77 28 ((hF h20 77 28) + (1)))) rfl ?_
                    refine wq_gi (v := (hF h20 77 29)) (p' := 139) rfl rfl (congrArg Prod.fst (ly_k J21.1.1.1 77 rfl)) rfl (hF_oth (by decide)) ?_
                    refine av_wp_sqF ck_163 2 (pc' := 141) (lv' := [some (.inr (.inr (.inl (some (77))))), some (.inl k1), some (.inl k18), some (.inl (2))]) (st' := [.inl ((hF h20 77 29) * (2)), .inr (.inr (.inl (some (77))))]) (h' := (hwF (hwA (hwA h20 107 (hF h20 77 28).toNat (((4) * k1) + k18)) 108 (hF h20 77 28).toNat (2)) 77 28 ((hF h20 77 28) + (1)))) rfl ?_
                    exact J46 _ (Or.inr ⟨z1, rfl⟩)
                  · have z1 : (1024) < (hF h20 77 29) * (2) := z1
                    refine av_wp_sqF ck_163 2 (pc' := 141) (lv' := [some (.inr (.inr (.inl (some (77))))), some (.inl k1), some (.inl k18), some (.inl (2))]) (st' := [.inl (1025), .inr (.inr (.inl (some (77))))]) (h' := (hwF (hwA (hwA h20 107 (hF h20 77 28).toNat (((4) * k1) + k18)) 108 (hF h20 77 28).toNat (2)) 77 28 ((hF h20 77 28) + (1)))) rfl ?_
                    exact J46 _ (Or.inl ⟨z1, rfl⟩)
              · have c32 : k18 < (3) := c32
                refine av_wp_sqF ck_163 1 (pc' := 33) (lv' := [some (.inr (.inr (.inl (some (77))))), some (.inl k1), some (.inl k18), a19]) (st' := [.inr (.inr (.inl (some (77))))]) (h' := h20) rfl ?_
                refine wq_gr (p' := 36) (ck_163 _ _ rfl) rfl (congrArg Prod.fst (ly_k J21.1.1.1 77 rfl)) rfl (ly_g J21.1.1.1 77 40 106 rfl) ?_
                refine av_wp_sqF ck_163 5 (pc' := 41) (lv' := [some (.inr (.inr (.inl (some (77))))), some (.inl k1), some (.inl k18), a19]) (st' := [.inl (((3) * k1) + k18), .inr (.inr (.inl (some (106))))]) (h' := h20) rfl ?_
                obtain ⟨v53, e54⟩ : ∃ v, hA h20 106 (Int.toNat ((((3) * k1) + k18))) = v := ⟨_, rfl⟩
                have g55 : 0 ≤ hA h20 106 (Int.toNat ((((3) * k1) + k18))) ∧ hA h20 106 (Int.toNat ((((3) * k1) + k18))) ≤ 1999 := im_w J21.1.1 106 (by decide) (by decide) _
                rw [e54] at g55
                refine wq_al (p' := 42) (n := 36) (ck_163 _ _ rfl) rfl (ly_k J21.1.1.1 106 rfl) (by omega) (e54) ?_
                refine av_wp_sqF ck_163 1 (pc' := 43) (lv' := [some (.inr (.inr (.inl (some (77))))), some (.inl k1), some (.inl k18), a19]) (st' := [.inr (.inr (.inl (some (77)))), .inl v53]) (h' := h20) rfl ?_
                refine wq_gr (p' := 46) (ck_163 _ _ rfl) rfl (congrArg Prod.fst (ly_k J21.1.1.1 77 rfl)) rfl (ly_g J21.1.1.1 77 39 105 rfl) ?_
                refine av_wp_sqF ck_163 5 (pc' := 51) (lv' := [some (.inr (.inr (.inl (some (77))))), some (.inl k1), some (.inl k18), a19]) (st' := [.inl (((3) * k1) + k18), .inr (.inr (.inl (some (105)))), .inl v53]) (h' := h20) rfl ?_
                obtain ⟨v56, e57⟩ : ∃ v, hA h20 105 (Int.toNat ((((3) * k1) + k18))) = v := ⟨_, rfl⟩
                have g58 : 0 ≤ hA h20 105 (Int.toNat ((((3) * k1) + k18))) ∧ hA h20 105 (Int.toNat ((((3) * k1) + k18))) ≤ 1999 := im_w J21.1.1 105 (by decide) (by decide) _
                rw [e57] at g58
                refine wq_al (p' := 52) (n := 36) (ck_163 _ _ rfl) rfl (ly_k J21.1.1.1 105 rfl) (by omega) (e57) ?_
                refine av_wp_sqF ck_163 5 (pc' := 74) (lv' := [some (.inr (.inr (.inl (some (77))))), some (.inl k1), some (.inl k18), some (.inl ((v53 - v56) + (1)))]) (st' := []) (h' := h20) rfl ?_
                have u59 : cmv lo hi ls (4 * k1 + k18).toNat = ((v53 - v56) + (1)) := cmv_a (by omega) (by omega) ((congrFun J21.2.2.2.2.2.2.1.symm _).trans e54) ((congrFun J21.2.2.2.2.2.1.symm _).trans e57)
                refine av_wp_sqF ck_163 2 (pc' := 76) (lv' := [some (.inr (.inr (.inl (some (77))))), some (.inl k1), some (.inl k18), some (.inl ((v53 - v56) + (1)))]) (st' := [.inl (2), .inl ((v53 - v56) + (1))]) (h' := h20) rfl ?_
                refine wq_k2 (p' := 79) (ck_163 _ _ rfl) rfl ⟨by omega, by omega⟩ ⟨by omega, by omega⟩ (fun c60 => ?_) (fun c61 => ?_)
                · have c60 : (2) ≤ ((v53 - v56) + (1)) := c60
                  have g62 := im_a J21.1.1
                  have g63 := im_cm J21.1.1
                  have g64 := J21.2.2.1
                  have g65 : 0 ≤ (hF h20 77 29) * ((v53 - v56) + (1)) := Int.mul_nonneg (by omega) (by omega)
                  have g66 : (hF h20 77 29) * ((v53 - v56) + (1)) ≤ 1025 * 2000 := Int.mul_le_mul (by omega) (by omega) (by omega) (by omega)
                  refine av_wp_sqF ck_163 1 (pc' := 83) (lv' := [some (.inr (.inr (.inl (some (77))))), some (.inl k1), some (.inl k18), some (.inl ((v53 - v56) + (1)))]) (st' := [.inr (.inr (.inl (some (77))))]) (h' := h20) rfl ?_
                  refine wq_gr (p' := 86) (ck_163 _ _ rfl) rfl (congrArg Prod.fst (ly_k J21.1.1.1 77 rfl)) rfl (ly_g J21.1.1.1 77 41 107 rfl) ?_
                  refine av_wp_sqF ck_163 1 (pc' := 87) (lv' := [some (.inr (.inr (.inl (some (77))))), some (.inl k1), some (.inl k18), some (.inl ((v53 - v56) + (1)))]) (st' := [.inr (.inr (.inl (some (77)))), .inr (.inr (.inl (some (107))))]) (h' := h20) rfl ?_
                  refine wq_gi (p' := 90) (ck_163 _ _ rfl) rfl (congrArg Prod.fst (ly_k J21.1.1.1 77 rfl)) rfl rfl ?_
                  refine av_wp_sqF ck_163 5 (pc' := 95) (lv' := [some (.inr (.inr (.inl (some (77))))), some (.inl k1), some (.inl k18), some (.inl ((v53 - v56) + (1)))]) (st' := [.inl (((4) * k1) + k18), .inl (hF h20 77 28), .inr (.inr (.inl (some (107))))]) (h' := h20) rfl ?_
                  refine wq_as (p' := 96) (n := 48) (ck_163 _ _ rfl) rfl (ly_k J21.1.1.1 107 rfl) (by omega) ?_
                  refine av_wp_sqF ck_163 1 (pc' := 97) (lv' := [some (.inr (.inr (.inl (some (77))))), some (.inl k1), some (.inl k18), some (.inl ((v53 - v56) + (1)))]) (st' := [.inr (.inr (.inl (some (77))))]) (h' := (hwA h20 107 (hF h20 77 28).toNat (((4) * k1) + k18))) rfl ?_
                  refine wq_gr (p' := 100) (ck_163 _ _ rfl) rfl (congrArg Prod.fst (ly_k J21.1.1.1 77 rfl)) rfl (ly_g J21.1.1.1 77 42 108 rfl) ?_
                  refine av_wp_sqF ck_163 1 (pc' := 101) (lv' := [some (.inr (.inr (.inl (some (77))))), some (.inl k1), some (.inl k18), some (.inl ((v53 - v56) + (1)))]) (st' := [.inr (.inr (.inl (some (77)))), .inr (.inr (.inl (some (108))))]) (h' := (hwA h20 107 (hF h20 77 28).toNat (((4) * k1) + k18))) rfl ?_
                  refine wq_gi (v := (hF h20 77 28)) (p' := 104) rfl rfl (congrArg Prod.fst (ly_k J21.1.1.1 77 rfl)) rfl rfl ?_
                  refine av_wp_sqF ck_163 1 (pc' := 105) (lv' := [some (.inr (.inr (.inl (some (77))))), some (.inl k1), some (.inl k18), some (.inl ((v53 - v56) + (1)))]) (st' := [.inl ((v53 - v56) + (1)), .inl (hF h20 77 28), .inr (.inr (.inl (some (108))))]) (h' := (hwA h20 107 (hF h20 77 28).toNat (((4) * k1) + k18))) rfl ?_
                  refine wq_as (p' := 106) (n := 48) (ck_163 _ _ rfl) rfl (ly_k J21.1.1.1 108 rfl) (by omega) ?_
                  refine av_wp_sqF ck_163 2 (pc' := 108) (lv' := [some (.inr (.inr (.inl (some (77))))), some (.inl k1), some (.inl k18), some (.inl ((v53 - v56) + (1)))]) (st' := [.inr (.inr (.inl (some (77)))), .inr (.inr (.inl (some (77))))]) (h' := (hwA (hwA h20 107 (hF h20 77 28).toNat (((4) * k1) + k18)) 108 (hF h20 77 28).toNat ((v53 - v56) + (1)))) rfl ?_
                  refine wq_gi (v := (hF h20 77 28)) (p' := 111) rfl rfl (congrArg Prod.fst (ly_k J21.1.1.1 77 rfl)) rfl rfl ?_
                  refine av_wp_sqF ck_163 2 (pc' := 113) (lv' := [some (.inr (.inr (.inl (some (77))))), some (.inl k1), some (.inl k18), some (.inl ((v53 - v56) + (1)))]) (st' := [.inl ((hF h20 77 28) + (1)), .inr (.inr (.inl (some (77))))]) (h' := (hwA (hwA h20 107 (hF h20 77 28).toNat (((4) * k1) + k18)) 108 (hF h20 77 28).toNat ((v53 - v56) + (1)))) rfl ?_
                  refine wq_pi (p' := 116) (ck_163 _ _ rfl) rfl (congrArg Prod.fst (ly_k J21.1.1.1 77 rfl)) rfl ?_
                  refine av_wp_sqF ck_163 2 (pc' := 118) (lv' := [some (.inr (.inr (.inl (some (77))))), some (.inl k1), some (.inl k18), some (.inl ((v53 - v56) + (1)))]) (st' := [.inr (.inr (.inl (some (77)))), .inr (.inr (.inl (some (77))))]) (h' := (hwF (hwA (hwA h20 107 (hF h20 77 28).toNat (((4) * k1) + k18)) 108 (hF h20 77 28).toNat ((v53 - v56) + (1))) 77 28 ((hF h20 77 28) + (1)))) rfl ?_
                  refine wq_gi (v := (hF h20 77 29)) (p' := 121) rfl rfl (congrArg Prod.fst (ly_k J21.1.1.1 77 rfl)) rfl (hF_oth (by decide)) ?_
                  refine av_wp_sqF ck_163 3 (pc' := 126) (lv' := [some (.inr (.inr (.inl (some (77))))), some (.inl k1), some (.inl k18), some (.inl ((v53 - v56) + (1)))]) (st' := [.inl (1024), .inl ((hF h20 77 29) * ((v53 - v56) + (1))), .inr (.inr (.inl (some (77))))]) (h' := (hwF (hwA (hwA h20 107 (hF h20 77 28).toNat (((4) * k1) + k18)) 108 (hF h20 77 28).toNat ((v53 - v56) + (1))) 77 28 ((hF h20 77 28) + (1)))) rfl ?_
                  have J67 : ∀ m' : Int, ((1024 < (hF h20 77 29) * ((v53 - v56) + (1)) ∧ m' = 1025) ∨ ((hF h20 77 29) * ((v53 - v56) + (1)) ≤ 1024 ∧ m' = (hF h20 77 29) * ((v53 - v56) + (1)))) → av_wp none cd_163 141 [some (.inr (.inr (.inl (some (77))))), some (.inl k1), some (.inl k18), some (.inl ((v53 - v56) + (1)))] [.inl m', .inr (.inr (.inl (some (77))))] (hwF (hwA (hwA h20 107 (hF h20 77 28).toNat (((4) * k1) + k18)) 108 (hF h20 77 28).toNat ((v53 - v56) + (1))) 77 28 ((hF h20 77 28) + (1))) Q := by
                    intro m68 g69
                    refine wq_pi (p' := 144) (ck_163 _ _ rfl) rfl (congrArg Prod.fst (ly_k J21.1.1.1 77 rfl)) rfl ?_
                    obtain ⟨J70, F71⟩ := AJ_step (x := (((4) * k1) + k18)) (v := ((v53 - v56) + (1))) (m' := m68) J21 u59 (by omega) (by omega) (by omega) g69
                    generalize hwF (hwF (hwA (hwA h20 107 (hF h20 77 28).toNat (((4) * k1) + k18)) 108 (hF h20 77 28).toNat ((v53 - v56) + (1))) 77 28 ((hF h20 77 28) + (1))) 77 29 m68 = h73 at J70 F71 ⊢
                    have F72 := FM_tr F22 F71
                    refine av_wp_sqF ck_163 2 (pc' := 22) (lv' := [some (.inr (.inr (.inl (some (77))))), some (.inl k1), some (.inl (k18 + (1))), some (.inl ((v53 - v56) + (1)))]) (st' := []) (h' := h73) rfl ?_
                    exact I25 _ (by omega) ((k18 + (1))) (some (.inl ((v53 - v56) + (1)))) h73 rfl (by omega) (AJ_eq J70 (by omega)) F72 rfl
                  refine wq_k2 (p' := 129) (ck_163 _ _ rfl) rfl ⟨by omega, by omega⟩ ⟨by omega, by omega⟩ (fun z1 => ?_) (fun z1 => ?_)
                  · have z1 : (hF h20 77 29) * ((v53 - v56) + (1)) ≤ (1024) := z1
                    refine av_wp_sqF ck_163 1 (pc' := 136) (lv' := [some (.inr (.inr (.inl (some (77))))), some (.inl k1), some (.inl k18), some (.inl ((v53 - v56) + (1)))]) (st' := [.inr (.inr (.inl (some (77)))), .inr (.inr (.inl (some (77))))]) (h' := (hwF (hwA (hwA h20 107 (hF h20 77 28).toNat (((4) * k1) + k18)) 108 (hF h20 77 28).toNat ((v53 - v56) + (1))) 77 28 ((hF h20 77 28) + (1)))) rfl ?_
                    refine wq_gi (v := (hF h20 77 29)) (p' := 139) rfl rfl (congrArg Prod.fst (ly_k J21.1.1.1 77 rfl)) rfl (hF_oth (by decide)) ?_
                    refine av_wp_sqF ck_163 2 (pc' := 141) (lv' := [some (.inr (.inr (.inl (some (77))))), some (.inl k1), some (.inl k18), some (.inl ((v53 - v56) + (1)))]) (st' := [.inl ((hF h20 77 29) * ((v53 - v56) + (1))), .inr (.inr (.inl (some (77))))]) (h' := (hwF (hwA (hwA h20 107 (hF h20 77 28).toNat (((4) * k1) + k18)) 108 (hF h20 77 28).toNat ((v53 - v56) + (1))) 77 28 ((hF h20 77 28) + (1)))) rfl ?_
                    exact J67 _ (Or.inr ⟨z1, rfl⟩)
                  · have z1 : (1024) < (hF h20 77 29) * ((v53 - v56) + (1)) := z1
                    refine av_wp_sqF ck_163 2 (pc' := 141) (lv' := [some (.inr (.inr (.inl (some (77))))), some (.inl k1), some (.inl k18), some (.inl ((v53 - v56) + (1)))]) (st' := [.inl (1025), .inr (.inr (.inl (some (77))))]) (h' := (hwF (hwA (hwA h20 107 (hF h20 77 28).toNat (((4) * k1) + k18)) 108 (hF h20 77 28).toNat ((v53 - v56) + (1))) 77 28 ((hF h20 77 28) + (1)))) rfl ?_
                    exact J67 _ (Or.inl ⟨z1, rfl⟩)
                · have c61 : ((v53 - v56) + (1)) < (2) := c61
                  have J74 := AJ_skip J21 u59 (by omega)
                  refine av_wp_sqF ck_163 3 (pc' := 22) (lv' := [some (.inr (.inr (.inl (some (77))))), some (.inl k1), some (.inl (k18 + (1))), some (.inl ((v53 - v56) + (1)))]) (st' := []) (h' := h20) rfl ?_
                  exact I25 _ (by omega) ((k18 + (1))) (some (.inl ((v53 - v56) + (1)))) h20 rfl (by omega) (AJ_eq J74 (by omega)) F22 rfl
        exact L24 _ ((0)) (a3) h4 la3 (by omega) (AJ_eq J5 (by omega)) F6 rfl
  exact L8 _ ((0)) (none) (none) h0 rfl rfl (by omega) (by omega) (AJ_eq J0 (by omega)) F1 rfl

set_option maxRecDepth 100000 in
set_option maxHeartbeats 4000000 in
theorem ct_162 {h : av_H} (I : IM h) (c : Int) (qc : 0 ≤ c ∧ c < hA h 78 0) {Q : Option av_V → av_H → Prop} (hq : ∀ n h', IM h' → hF h' 77 27 = n → (hA h 81 (c).toNat = n ∧ BC (c).toNat (fun a => bmul a * (n).toNat) (hA h) h') → FM h h' → Q none h') : av_wp none cd_162 0 [some (.inr (.inr (.inl (some (77))))), some (.inl c), none, none, none] [] h Q := by
  have F := FM_rf h
  have gc := I.1.2.1.2.1
  refine av_wp_sqF ck_162 2 (pc' := 2) (lv' := [some (.inr (.inr (.inl (some (77))))), some (.inl c), none, none, none]) (st' := [.inr (.inr (.inl (some (77)))), .inr (.inr (.inl (some (77))))]) (h' := h) rfl ?_
  refine wq_gr (p' := 5) (ck_162 _ _ rfl) rfl (congrArg Prod.fst (ly_k I.1.1 77 rfl)) rfl (ly_g I.1.1 77 3 81 rfl) ?_
  refine av_wp_sqF ck_162 1 (pc' := 6) (lv' := [some (.inr (.inr (.inl (some (77))))), some (.inl c), none, none, none]) (st' := [.inl c, .inr (.inr (.inl (some (81)))), .inr (.inr (.inl (some (77))))]) (h' := h) rfl ?_
  obtain ⟨v1, e2⟩ : ∃ v, hA h 81 (Int.toNat (c)) = v := ⟨_, rfl⟩
  have g3 := im_many I.1 (Int.toNat (c))
  rw [e2] at g3
  refine wq_al (p' := 7) (n := 80) (ck_162 _ _ rfl) rfl (ly_k I.1.1 81 rfl) (by omega) (e2) ?_
  refine wq_pi (p' := 10) (ck_162 _ _ rfl) rfl (congrArg Prod.fst (ly_k I.1.1 77 rfl)) rfl ?_
  have I4 := IM_wF (f := 27) (v := v1) I (by omega)
  have F5 := FM_wF (o := 77) (f := 27) (v := v1) F rfl
  have e6 : hF (hwF h 77 27 v1) 77 27 = v1 := hF_self
  generalize hwF h 77 27 v1 = h7 at I4 F5 e6 ⊢
  have B8 : BC (c).toNat (fun a => bmul a * ((0 : Int)).toNat) (hA h) h7 := fun a _ _ i hi => absurd hi (by show ¬ i < bmul a * 0; omega)
  refine av_wp_sqF ck_162 2 (pc' := 12) (lv' := [some (.inr (.inr (.inl (some (77))))), some (.inl c), some (.inl (0)), none, none]) (st' := []) (h' := h7) rfl ?_
  have L18 : ∀ (m17 : Nat) (k9 : Int) (a10 : Option av_V) (a11 : Option av_V) (h12 : av_H), av_lg a10 = false → av_lg a11 = false → k9 ≤ v1 → (0 ≤ k9 ∧ k9 ≤ 12) → IM h12 → hF h12 77 27 = v1 → BC (c).toNat (fun a => bmul a * (Int.toNat (k9))) (hA h) h12 → FM h h12 → (12 - k9).toNat = m17 → av_wp none cd_162 12 [some (.inr (.inr (.inl (some (77))))), some (.inl c), some (.inl k9), a10, a11] [] h12 Q := by
    intro m17
    induction m17 using Nat.strongRecOn with
    | _ m17 I19 =>
      intro k9 a10 a11 h12 g21 g22 g23 g24 Y13 e16 B15 F14 e20
      have la10 := g21
      have la11 := g22
      refine av_wp_sqF ck_162 2 (pc' := 14) (lv' := [some (.inr (.inr (.inl (some (77))))), some (.inl c), some (.inl k9), a10, a11]) (st' := [.inr (.inr (.inl (some (77)))), .inl k9]) (h' := h12) rfl ?_
      refine wq_gi (p' := 17) (ck_162 _ _ rfl) rfl (congrArg Prod.fst (ly_k Y13.1.1 77 rfl)) rfl (e16) ?_
      refine wq_k2 (p' := 20) (ck_162 _ _ rfl) rfl ⟨by omega, by omega⟩ ⟨by omega, by omega⟩ (fun c25 => ?_) (fun c26 => ?_)
      · have c25 : v1 ≤ k9 := c25
        refine av_wp_ret (v := none) (ck_162 _ _ rfl) rfl rfl ?_
        exact hq v1 h12 Y13 e16 ⟨e2, BC_le B15 (fun a _ _ => Nat.mul_le_mul_left _ (by omega))⟩ F14
      · have c26 : k9 < v1 := c26
        have Y27 := IMY_of Y13 e16 (Int.toNat (k9))
        generalize hA h12 96 (Int.toNat (k9)) = x28 at Y27
        generalize hA h12 100 (Int.toNat (k9)) = y29 at Y27
        refine av_wp_sqF ck_162 7 (pc' := 28) (lv' := [some (.inr (.inr (.inl (some (77))))), some (.inl c), some (.inl k9), some (.inl (((12) * c) + k9)), a11]) (st' := [.inr (.inr (.inl (some (77))))]) (h' := h12) rfl ?_
        refine wq_gr (p' := 31) (ck_162 _ _ rfl) rfl (congrArg Prod.fst (ly_k Y27.1.1 77 rfl)) rfl (ly_g Y27.1.1 77 30 96 rfl) ?_
        refine av_wp_sqF ck_162 2 (pc' := 33) (lv' := [some (.inr (.inr (.inl (some (77))))), some (.inl c), some (.inl k9), some (.inl (((12) * c) + k9)), a11]) (st' := [.inr (.inr (.inl (some (77)))), .inl k9, .inr (.inr (.inl (some (96))))]) (h' := h12) rfl ?_
        refine wq_gr (p' := 36) (ck_162 _ _ rfl) rfl (congrArg Prod.fst (ly_k Y27.1.1 77 rfl)) rfl (ly_g Y27.1.1 77 4 82 rfl) ?_
        refine av_wp_sqF ck_162 1 (pc' := 37) (lv' := [some (.inr (.inr (.inl (some (77))))), some (.inl c), some (.inl k9), some (.inl (((12) * c) + k9)), a11]) (st' := [.inl (((12) * c) + k9), .inr (.inr (.inl (some (82)))), .inl k9, .inr (.inr (.inl (some (96))))]) (h' := h12) rfl ?_
        obtain ⟨v32, e33⟩ : ∃ v, hA h12 82 (Int.toNat ((((12) * c) + k9))) = v := ⟨_, rfl⟩
        have g34 : 0 ≤ hA h12 82 (Int.toNat ((((12) * c) + k9))) ∧ hA h12 82 (Int.toNat ((((12) * c) + k9))) ≤ 7 := im_m Y27.1 82 (by decide) (by decide) _
        rw [e33] at g34
        refine wq_al (p' := 38) (n := 960) (ck_162 _ _ rfl) rfl (ly_k Y27.1.1 82 rfl) (by omega) (e33) ?_
        have u35 : hA h 82 (Int.toNat ((((12) * c) + k9))) = v32 := by rw [← F14.2.2.2.2.2.2 82 rfl]; exact e33
        refine wq_as (p' := 39) (n := 12) (ck_162 _ _ rfl) rfl (ly_k Y27.1.1 96 rfl) (by omega) ?_
        have Y37 := IMY_w (a := 96) (j := (Int.toNat (k9))) (v := v32) Y27 (by omega) (show (0 : Int) ≤ v32 ∧ v32 ≤ (7 : Int) by omega) (fun z => by rfl)
        have Y37 : IMY v1 (Int.toNat (k9)) v32 y29 (hwA h12 96 (Int.toNat (k9)) v32) := Y37
        have F38 := FM_wA (a := 96) (j := (Int.toNat (k9))) (v := v32) F14 rfl
        have B39 := BC_w (a := 96) (j := (Int.toNat (k9))) (v := v32) B15 (show (Int.toNat (k9)) = (1 * (Int.toNat (k9))) by omega) (by show hA h 82 (1 * (12 * (c).toNat) + (1 * (Int.toNat (k9)))) = _; rw [show 1 * (12 * (c).toNat) + (1 * (Int.toNat (k9))) = (Int.toNat ((((12) * c) + k9))) by omega, ← F14.2.2.2.2.2.2 82 rfl]; exact e33)
        have B39 : BC (c).toNat (av_u1 (fun a => bmul a * (Int.toNat (k9))) 96 ((1 * (Int.toNat (k9))) + 1)) (hA h) (hwA h12 96 (Int.toNat (k9)) v32) := B39
        generalize hwA h12 96 (Int.toNat (k9)) v32 = h36 at Y37 F38 B39 ⊢
        refine av_wp_sqF ck_162 1 (pc' := 40) (lv' := [some (.inr (.inr (.inl (some (77))))), some (.inl c), some (.inl k9), some (.inl (((12) * c) + k9)), a11]) (st' := [.inr (.inr (.inl (some (77))))]) (h' := h36) rfl ?_
        refine wq_gr (p' := 43) (ck_162 _ _ rfl) rfl (congrArg Prod.fst (ly_k Y37.1.1 77 rfl)) rfl (ly_g Y37.1.1 77 31 97 rfl) ?_
        refine av_wp_sqF ck_162 2 (pc' := 45) (lv' := [some (.inr (.inr (.inl (some (77))))), some (.inl c), some (.inl k9), some (.inl (((12) * c) + k9)), a11]) (st' := [.inr (.inr (.inl (some (77)))), .inl k9, .inr (.inr (.inl (some (97))))]) (h' := h36) rfl ?_
        refine wq_gr (p' := 48) (ck_162 _ _ rfl) rfl (congrArg Prod.fst (ly_k Y37.1.1 77 rfl)) rfl (ly_g Y37.1.1 77 8 86 rfl) ?_
        refine av_wp_sqF ck_162 1 (pc' := 49) (lv' := [some (.inr (.inr (.inl (some (77))))), some (.inl c), some (.inl k9), some (.inl (((12) * c) + k9)), a11]) (st' := [.inl (((12) * c) + k9), .inr (.inr (.inl (some (86)))), .inl k9, .inr (.inr (.inl (some (97))))]) (h' := h36) rfl ?_
        obtain ⟨v40, e41⟩ : ∃ v, hA h36 86 (Int.toNat ((((12) * c) + k9))) = v := ⟨_, rfl⟩
        have g42 : 0 ≤ hA h36 86 (Int.toNat ((((12) * c) + k9))) ∧ hA h36 86 (Int.toNat ((((12) * c) + k9))) ≤ 3 := im_m Y37.1 86 (by decide) (by decide) _
        rw [e41] at g42
        refine wq_al (p' := 50) (n := 960) (ck_162 _ _ rfl) rfl (ly_k Y37.1.1 86 rfl) (by omega) (e41) ?_
        refine wq_as (p' := 51) (n := 12) (ck_162 _ _ rfl) rfl (ly_k Y37.1.1 97 rfl) (by omega) ?_
        have Y44 := IMY_w (a := 97) (j := (Int.toNat (k9))) (v := v40) Y37 (by omega) (show (0 : Int) ≤ v40 ∧ v40 ≤ (3 : Int) by omega) (fun z => by omega)
        have Y44 : IMY v1 (Int.toNat (k9)) v32 y29 (hwA h36 97 (Int.toNat (k9)) v40) := Y44
        have F45 := FM_wA (a := 97) (j := (Int.toNat (k9))) (v := v40) F38 rfl
        have B46 := BC_w (a := 97) (j := (Int.toNat (k9))) (v := v40) B39 (show (Int.toNat (k9)) = (1 * (Int.toNat (k9))) by omega) (by show hA h 86 (1 * (12 * (c).toNat) + (1 * (Int.toNat (k9)))) = _; rw [show 1 * (12 * (c).toNat) + (1 * (Int.toNat (k9))) = (Int.toNat ((((12) * c) + k9))) by omega, ← F38.2.2.2.2.2.2 86 rfl]; exact e41)
        have B46 : BC (c).toNat (av_u1 (av_u1 (fun a => bmul a * (Int.toNat (k9))) 96 ((1 * (Int.toNat (k9))) + 1)) 97 ((1 * (Int.toNat (k9))) + 1)) (hA h) (hwA h36 97 (Int.toNat (k9)) v40) := B46
        generalize hwA h36 97 (Int.toNat (k9)) v40 = h43 at Y44 F45 B46 ⊢
        refine av_wp_sqF ck_162 1 (pc' := 52) (lv' := [some (.inr (.inr (.inl (some (77))))), some (.inl c), some (.inl k9), some (.inl (((12) * c) + k9)), a11]) (st' := [.inr (.inr (.inl (some (77))))]) (h' := h43) rfl ?_
        refine wq_gr (p' := 55) (ck_162 _ _ rfl) rfl (congrArg Prod.fst (ly_k Y44.1.1 77 rfl)) rfl (ly_g Y44.1.1 77 32 98 rfl) ?_
        refine av_wp_sqF ck_162 2 (pc' := 57) (lv' := [some (.inr (.inr (.inl (some (77))))), some (.inl c), some (.inl k9), some (.inl (((12) * c) + k9)), a11]) (st' := [.inr (.inr (.inl (some (77)))), .inl k9, .inr (.inr (.inl (some (98))))]) (h' := h43) rfl ?_
        refine wq_gr (p' := 60) (ck_162 _ _ rfl) rfl (congrArg Prod.fst (ly_k Y44.1.1 77 rfl)) rfl (ly_g Y44.1.1 77 11 89 rfl) ?_
        refine av_wp_sqF ck_162 1 (pc' := 61) (lv' := [some (.inr (.inr (.inl (some (77))))), some (.inl c), some (.inl k9), some (.inl (((12) * c) + k9)), a11]) (st' := [.inl (((12) * c) + k9), .inr (.inr (.inl (some (89)))), .inl k9, .inr (.inr (.inl (some (98))))]) (h' := h43) rfl ?_
        obtain ⟨v47, e48⟩ : ∃ v, hA h43 89 (Int.toNat ((((12) * c) + k9))) = v := ⟨_, rfl⟩
        have g49 : 0 ≤ hA h43 89 (Int.toNat ((((12) * c) + k9))) ∧ hA h43 89 (Int.toNat ((((12) * c) + k9))) ≤ 1 := im_m Y44.1 89 (by decide) (by decide) _
        rw [e48] at g49
        refine wq_al (p' := 62) (n := 960) (ck_162 _ _ rfl) rfl (ly_k Y44.1.1 89 rfl) (by omega) (e48) ?_
        refine wq_as (p' := 63) (n := 12) (ck_162 _ _ rfl) rfl (ly_k Y44.1.1 98 rfl) (by omega) ?_
        have Y51 := IMY_w (a := 98) (j := (Int.toNat (k9))) (v := v47) Y44 (by omega) (show (0 : Int) ≤ v47 ∧ v47 ≤ (2 : Int) by omega) (fun z => by omega)
        have Y51 : IMY v1 (Int.toNat (k9)) v32 y29 (hwA h43 98 (Int.toNat (k9)) v47) := Y51
        have F52 := FM_wA (a := 98) (j := (Int.toNat (k9))) (v := v47) F45 rfl
        have B53 := BC_w (a := 98) (j := (Int.toNat (k9))) (v := v47) B46 (show (Int.toNat (k9)) = (1 * (Int.toNat (k9))) by omega) (by show hA h 89 (1 * (12 * (c).toNat) + (1 * (Int.toNat (k9)))) = _; rw [show 1 * (12 * (c).toNat) + (1 * (Int.toNat (k9))) = (Int.toNat ((((12) * c) + k9))) by omega, ← F45.2.2.2.2.2.2 89 rfl]; exact e48)
        have B53 : BC (c).toNat (av_u1 (av_u1 (av_u1 (fun a => bmul a * (Int.toNat (k9))) 96 ((1 * (Int.toNat (k9))) + 1)) 97 ((1 * (Int.toNat (k9))) + 1)) 98 ((1 * (Int.toNat (k9))) + 1)) (hA h) (hwA h43 98 (Int.toNat (k9)) v47) := B53
        generalize hwA h43 98 (Int.toNat (k9)) v47 = h50 at Y51 F52 B53 ⊢
        refine av_wp_sqF ck_162 1 (pc' := 64) (lv' := [some (.inr (.inr (.inl (some (77))))), some (.inl c), some (.inl k9), some (.inl (((12) * c) + k9)), a11]) (st' := [.inr (.inr (.inl (some (77))))]) (h' := h50) rfl ?_
        refine wq_gr (p' := 67) (ck_162 _ _ rfl) rfl (congrArg Prod.fst (ly_k Y51.1.1 77 rfl)) rfl (ly_g Y51.1.1 77 33 99 rfl) ?_
        refine av_wp_sqF ck_162 2 (pc' := 69) (lv' := [some (.inr (.inr (.inl (some (77))))), some (.inl c), some (.inl k9), some (.inl (((12) * c) + k9)), a11]) (st' := [.inr (.inr (.inl (some (77)))), .inl k9, .inr (.inr (.inl (some (99))))]) (h' := h50) rfl ?_
        refine wq_gr (p' := 72) (ck_162 _ _ rfl) rfl (congrArg Prod.fst (ly_k Y51.1.1 77 rfl)) rfl (ly_g Y51.1.1 77 9 87 rfl) ?_
        refine av_wp_sqF ck_162 1 (pc' := 73) (lv' := [some (.inr (.inr (.inl (some (77))))), some (.inl c), some (.inl k9), some (.inl (((12) * c) + k9)), a11]) (st' := [.inl (((12) * c) + k9), .inr (.inr (.inl (some (87)))), .inl k9, .inr (.inr (.inl (some (99))))]) (h' := h50) rfl ?_
        obtain ⟨v54, e55⟩ : ∃ v, hA h50 87 (Int.toNat ((((12) * c) + k9))) = v := ⟨_, rfl⟩
        have g56 : -1 ≤ hA h50 87 (Int.toNat ((((12) * c) + k9))) ∧ hA h50 87 (Int.toNat ((((12) * c) + k9))) ≤ 1999 := im_m Y51.1 87 (by decide) (by decide) _
        rw [e55] at g56
        refine wq_al (p' := 74) (n := 960) (ck_162 _ _ rfl) rfl (ly_k Y51.1.1 87 rfl) (by omega) (e55) ?_
        refine wq_as (p' := 75) (n := 12) (ck_162 _ _ rfl) rfl (ly_k Y51.1.1 99 rfl) (by omega) ?_
        have Y58 := IMY_w (a := 99) (j := (Int.toNat (k9))) (v := v54) Y51 (by omega) (show (-1 : Int) ≤ v54 ∧ v54 ≤ (1999 : Int) by omega) (fun z => by omega)
        have Y58 : IMY v1 (Int.toNat (k9)) v32 y29 (hwA h50 99 (Int.toNat (k9)) v54) := Y58
        have F59 := FM_wA (a := 99) (j := (Int.toNat (k9))) (v := v54) F52 rfl
        have B60 := BC_w (a := 99) (j := (Int.toNat (k9))) (v := v54) B53 (show (Int.toNat (k9)) = (1 * (Int.toNat (k9))) by omega) (by show hA h 87 (1 * (12 * (c).toNat) + (1 * (Int.toNat (k9)))) = _; rw [show 1 * (12 * (c).toNat) + (1 * (Int.toNat (k9))) = (Int.toNat ((((12) * c) + k9))) by omega, ← F52.2.2.2.2.2.2 87 rfl]; exact e55)
        have B60 : BC (c).toNat (av_u1 (av_u1 (av_u1 (av_u1 (fun a => bmul a * (Int.toNat (k9))) 96 ((1 * (Int.toNat (k9))) + 1)) 97 ((1 * (Int.toNat (k9))) + 1)) 98 ((1 * (Int.toNat (k9))) + 1)) 99 ((1 * (Int.toNat (k9))) + 1)) (hA h) (hwA h50 99 (Int.toNat (k9)) v54) := B60
        generalize hwA h50 99 (Int.toNat (k9)) v54 = h57 at Y58 F59 B60 ⊢
        refine av_wp_sqF ck_162 1 (pc' := 76) (lv' := [some (.inr (.inr (.inl (some (77))))), some (.inl c), some (.inl k9), some (.inl (((12) * c) + k9)), a11]) (st' := [.inr (.inr (.inl (some (77))))]) (h' := h57) rfl ?_
        refine wq_gr (p' := 79) (ck_162 _ _ rfl) rfl (congrArg Prod.fst (ly_k Y58.1.1 77 rfl)) rfl (ly_g Y58.1.1 77 34 100 rfl) ?_
        refine av_wp_sqF ck_162 2 (pc' := 81) (lv' := [some (.inr (.inr (.inl (some (77))))), some (.inl c), some (.inl k9), some (.inl (((12) * c) + k9)), a11]) (st' := [.inr (.inr (.inl (some (77)))), .inl k9, .inr (.inr (.inl (some (100))))]) (h' := h57) rfl ?_
        refine wq_gr (p' := 84) (ck_162 _ _ rfl) rfl (congrArg Prod.fst (ly_k Y58.1.1 77 rfl)) rfl (ly_g Y58.1.1 77 7 85 rfl) ?_
        refine av_wp_sqF ck_162 1 (pc' := 85) (lv' := [some (.inr (.inr (.inl (some (77))))), some (.inl c), some (.inl k9), some (.inl (((12) * c) + k9)), a11]) (st' := [.inl (((12) * c) + k9), .inr (.inr (.inl (some (85)))), .inl k9, .inr (.inr (.inl (some (100))))]) (h' := h57) rfl ?_
        obtain ⟨v61, e62⟩ : ∃ v, hA h57 85 (Int.toNat ((((12) * c) + k9))) = v := ⟨_, rfl⟩
        have g63 : -1 ≤ hA h57 85 (Int.toNat ((((12) * c) + k9))) ∧ hA h57 85 (Int.toNat ((((12) * c) + k9))) ≤ 11 := im_m Y58.1 85 (by decide) (by decide) _
        rw [e62] at g63
        refine wq_al (p' := 86) (n := 960) (ck_162 _ _ rfl) rfl (ly_k Y58.1.1 85 rfl) (by omega) (e62) ?_
        have u64 : hA h 85 (Int.toNat ((((12) * c) + k9))) = v61 := by rw [← F59.2.2.2.2.2.2 85 rfl]; exact e62
        refine wq_as (p' := 87) (n := 12) (ck_162 _ _ rfl) rfl (ly_k Y58.1.1 100 rfl) (by omega) ?_
        have Y66 := IMY_w (a := 100) (j := (Int.toNat (k9))) (v := v61) Y58 (by omega) (show (-1 : Int) ≤ v61 ∧ v61 ≤ (11 : Int) by omega) (fun z => by rfl)
        have Y66 : IMY v1 (Int.toNat (k9)) v32 v61 (hwA h57 100 (Int.toNat (k9)) v61) := Y66
        have F67 := FM_wA (a := 100) (j := (Int.toNat (k9))) (v := v61) F59 rfl
        have B68 := BC_w (a := 100) (j := (Int.toNat (k9))) (v := v61) B60 (show (Int.toNat (k9)) = (1 * (Int.toNat (k9))) by omega) (by show hA h 85 (1 * (12 * (c).toNat) + (1 * (Int.toNat (k9)))) = _; rw [show 1 * (12 * (c).toNat) + (1 * (Int.toNat (k9))) = (Int.toNat ((((12) * c) + k9))) by omega, ← F59.2.2.2.2.2.2 85 rfl]; exact e62)
        have B68 : BC (c).toNat (av_u1 (av_u1 (av_u1 (av_u1 (av_u1 (fun a => bmul a * (Int.toNat (k9))) 96 ((1 * (Int.toNat (k9))) + 1)) 97 ((1 * (Int.toNat (k9))) + 1)) 98 ((1 * (Int.toNat (k9))) + 1)) 99 ((1 * (Int.toNat (k9))) + 1)) 100 ((1 * (Int.toNat (k9))) + 1)) (hA h) (hwA h57 100 (Int.toNat (k9)) v61) := B68
        generalize hwA h57 100 (Int.toNat (k9)) v61 = h65 at Y66 F67 B68 ⊢
        refine av_wp_sqF ck_162 1 (pc' := 88) (lv' := [some (.inr (.inr (.inl (some (77))))), some (.inl c), some (.inl k9), some (.inl (((12) * c) + k9)), a11]) (st' := [.inr (.inr (.inl (some (77))))]) (h' := h65) rfl ?_
        refine wq_gr (p' := 91) (ck_162 _ _ rfl) rfl (congrArg Prod.fst (ly_k Y66.1.1 77 rfl)) rfl (ly_g Y66.1.1 77 35 101 rfl) ?_
        refine av_wp_sqF ck_162 2 (pc' := 93) (lv' := [some (.inr (.inr (.inl (some (77))))), some (.inl c), some (.inl k9), some (.inl (((12) * c) + k9)), a11]) (st' := [.inr (.inr (.inl (some (77)))), .inl k9, .inr (.inr (.inl (some (101))))]) (h' := h65) rfl ?_
        refine wq_gr (p' := 96) (ck_162 _ _ rfl) rfl (congrArg Prod.fst (ly_k Y66.1.1 77 rfl)) rfl (ly_g Y66.1.1 77 5 83 rfl) ?_
        refine av_wp_sqF ck_162 1 (pc' := 97) (lv' := [some (.inr (.inr (.inl (some (77))))), some (.inl c), some (.inl k9), some (.inl (((12) * c) + k9)), a11]) (st' := [.inl (((12) * c) + k9), .inr (.inr (.inl (some (83)))), .inl k9, .inr (.inr (.inl (some (101))))]) (h' := h65) rfl ?_
        obtain ⟨v69, e70⟩ : ∃ v, hA h65 83 (Int.toNat ((((12) * c) + k9))) = v := ⟨_, rfl⟩
        have g71 : 0 ≤ hA h65 83 (Int.toNat ((((12) * c) + k9))) ∧ hA h65 83 (Int.toNat ((((12) * c) + k9))) ≤ 2 := im_m Y66.1 83 (by decide) (by decide) _
        rw [e70] at g71
        refine wq_al (p' := 98) (n := 960) (ck_162 _ _ rfl) rfl (ly_k Y66.1.1 83 rfl) (by omega) (e70) ?_
        refine wq_as (p' := 99) (n := 12) (ck_162 _ _ rfl) rfl (ly_k Y66.1.1 101 rfl) (by omega) ?_
        have Y73 := IMY_w (a := 101) (j := (Int.toNat (k9))) (v := v69) Y66 (by omega) (show (0 : Int) ≤ v69 ∧ v69 ≤ (2 : Int) by omega) (fun z => by omega)
        have Y73 : IMY v1 (Int.toNat (k9)) v32 v61 (hwA h65 101 (Int.toNat (k9)) v69) := Y73
        have F74 := FM_wA (a := 101) (j := (Int.toNat (k9))) (v := v69) F67 rfl
        have B75 := BC_w (a := 101) (j := (Int.toNat (k9))) (v := v69) B68 (show (Int.toNat (k9)) = (1 * (Int.toNat (k9))) by omega) (by show hA h 83 (1 * (12 * (c).toNat) + (1 * (Int.toNat (k9)))) = _; rw [show 1 * (12 * (c).toNat) + (1 * (Int.toNat (k9))) = (Int.toNat ((((12) * c) + k9))) by omega, ← F67.2.2.2.2.2.2 83 rfl]; exact e70)
        have B75 : BC (c).toNat (av_u1 (av_u1 (av_u1 (av_u1 (av_u1 (av_u1 (fun a => bmul a * (Int.toNat (k9))) 96 ((1 * (Int.toNat (k9))) + 1)) 97 ((1 * (Int.toNat (k9))) + 1)) 98 ((1 * (Int.toNat (k9))) + 1)) 99 ((1 * (Int.toNat (k9))) + 1)) 100 ((1 * (Int.toNat (k9))) + 1)) 101 ((1 * (Int.toNat (k9))) + 1)) (hA h) (hwA h65 101 (Int.toNat (k9)) v69) := B75
        generalize hwA h65 101 (Int.toNat (k9)) v69 = h72 at Y73 F74 B75 ⊢
        refine av_wp_sqF ck_162 1 (pc' := 100) (lv' := [some (.inr (.inr (.inl (some (77))))), some (.inl c), some (.inl k9), some (.inl (((12) * c) + k9)), a11]) (st' := [.inr (.inr (.inl (some (77))))]) (h' := h72) rfl ?_
        refine wq_gr (p' := 103) (ck_162 _ _ rfl) rfl (congrArg Prod.fst (ly_k Y73.1.1 77 rfl)) rfl (ly_g Y73.1.1 77 36 102 rfl) ?_
        refine av_wp_sqF ck_162 2 (pc' := 105) (lv' := [some (.inr (.inr (.inl (some (77))))), some (.inl c), some (.inl k9), some (.inl (((12) * c) + k9)), a11]) (st' := [.inr (.inr (.inl (some (77)))), .inl k9, .inr (.inr (.inl (some (102))))]) (h' := h72) rfl ?_
        refine wq_gr (p' := 108) (ck_162 _ _ rfl) rfl (congrArg Prod.fst (ly_k Y73.1.1 77 rfl)) rfl (ly_g Y73.1.1 77 6 84 rfl) ?_
        refine av_wp_sqF ck_162 1 (pc' := 109) (lv' := [some (.inr (.inr (.inl (some (77))))), some (.inl c), some (.inl k9), some (.inl (((12) * c) + k9)), a11]) (st' := [.inl (((12) * c) + k9), .inr (.inr (.inl (some (84)))), .inl k9, .inr (.inr (.inl (some (102))))]) (h' := h72) rfl ?_
        obtain ⟨v76, e77⟩ : ∃ v, hA h72 84 (Int.toNat ((((12) * c) + k9))) = v := ⟨_, rfl⟩
        have g78 : -1 ≤ hA h72 84 (Int.toNat ((((12) * c) + k9))) ∧ hA h72 84 (Int.toNat ((((12) * c) + k9))) ≤ 2 := im_m Y73.1 84 (by decide) (by decide) _
        rw [e77] at g78
        refine wq_al (p' := 110) (n := 960) (ck_162 _ _ rfl) rfl (ly_k Y73.1.1 84 rfl) (by omega) (e77) ?_
        refine wq_as (p' := 111) (n := 12) (ck_162 _ _ rfl) rfl (ly_k Y73.1.1 102 rfl) (by omega) ?_
        have Y80 := IMY_w (a := 102) (j := (Int.toNat (k9))) (v := v76) Y73 (by omega) (show (-1 : Int) ≤ v76 ∧ v76 ≤ (2 : Int) by omega) (fun z => by omega)
        have Y80 : IMY v1 (Int.toNat (k9)) v32 v61 (hwA h72 102 (Int.toNat (k9)) v76) := Y80
        have F81 := FM_wA (a := 102) (j := (Int.toNat (k9))) (v := v76) F74 rfl
        have B82 := BC_w (a := 102) (j := (Int.toNat (k9))) (v := v76) B75 (show (Int.toNat (k9)) = (1 * (Int.toNat (k9))) by omega) (by show hA h 84 (1 * (12 * (c).toNat) + (1 * (Int.toNat (k9)))) = _; rw [show 1 * (12 * (c).toNat) + (1 * (Int.toNat (k9))) = (Int.toNat ((((12) * c) + k9))) by omega, ← F74.2.2.2.2.2.2 84 rfl]; exact e77)
        have B82 : BC (c).toNat (av_u1 (av_u1 (av_u1 (av_u1 (av_u1 (av_u1 (av_u1 (fun a => bmul a * (Int.toNat (k9))) 96 ((1 * (Int.toNat (k9))) + 1)) 97 ((1 * (Int.toNat (k9))) + 1)) 98 ((1 * (Int.toNat (k9))) + 1)) 99 ((1 * (Int.toNat (k9))) + 1)) 100 ((1 * (Int.toNat (k9))) + 1)) 101 ((1 * (Int.toNat (k9))) + 1)) 102 ((1 * (Int.toNat (k9))) + 1)) (hA h) (hwA h72 102 (Int.toNat (k9)) v76) := B82
        generalize hwA h72 102 (Int.toNat (k9)) v76 = h79 at Y80 F81 B82 ⊢
        refine av_wp_sqF ck_162 1 (pc' := 112) (lv' := [some (.inr (.inr (.inl (some (77))))), some (.inl c), some (.inl k9), some (.inl (((12) * c) + k9)), a11]) (st' := [.inr (.inr (.inl (some (77))))]) (h' := h79) rfl ?_
        refine wq_gr (p' := 115) (ck_162 _ _ rfl) rfl (congrArg Prod.fst (ly_k Y80.1.1 77 rfl)) rfl (ly_g Y80.1.1 77 37 103 rfl) ?_
        refine av_wp_sqF ck_162 2 (pc' := 117) (lv' := [some (.inr (.inr (.inl (some (77))))), some (.inl c), some (.inl k9), some (.inl (((12) * c) + k9)), a11]) (st' := [.inr (.inr (.inl (some (77)))), .inl k9, .inr (.inr (.inl (some (103))))]) (h' := h79) rfl ?_
        refine wq_gr (p' := 120) (ck_162 _ _ rfl) rfl (congrArg Prod.fst (ly_k Y80.1.1 77 rfl)) rfl (ly_g Y80.1.1 77 10 88 rfl) ?_
        refine av_wp_sqF ck_162 1 (pc' := 121) (lv' := [some (.inr (.inr (.inl (some (77))))), some (.inl c), some (.inl k9), some (.inl (((12) * c) + k9)), a11]) (st' := [.inl (((12) * c) + k9), .inr (.inr (.inl (some (88)))), .inl k9, .inr (.inr (.inl (some (103))))]) (h' := h79) rfl ?_
        obtain ⟨v83, e84⟩ : ∃ v, hA h79 88 (Int.toNat ((((12) * c) + k9))) = v := ⟨_, rfl⟩
        have g85 : -1 ≤ hA h79 88 (Int.toNat ((((12) * c) + k9))) ∧ hA h79 88 (Int.toNat ((((12) * c) + k9))) ≤ 15 := im_m Y80.1 88 (by decide) (by decide) _
        rw [e84] at g85
        refine wq_al (p' := 122) (n := 960) (ck_162 _ _ rfl) rfl (ly_k Y80.1.1 88 rfl) (by omega) (e84) ?_
        have J88 : ∀ (j86 : Int), (0 ≤ j86 ∧ j86 ≤ 1) →  av_wp none cd_162 144 [some (.inr (.inr (.inl (some (77))))), some (.inl c), some (.inl k9), some (.inl (((12) * c) + k9)), a11] [.inl j86, .inl k9, .inr (.inr (.inl (some (103))))] h79 Q := by
          intro j86 g87
          refine wq_zs (p' := 145) (n := 12) (ck_162 _ _ rfl) rfl (ly_k Y80.1.1 103 rfl) (by omega) (by omega) ?_
          have Y90 := IMY_w (a := 103) (j := (Int.toNat (k9))) (v := j86) Y80 (by omega) (show (0 : Int) ≤ j86 ∧ j86 ≤ (1 : Int) by omega) (fun z => by omega)
          have Y90 : IMY v1 (Int.toNat (k9)) v32 v61 (hwA h79 103 (Int.toNat (k9)) j86) := Y90
          have F91 := FM_wA (a := 103) (j := (Int.toNat (k9))) (v := j86) F81 rfl
          have B92 := BC_o (j := (Int.toNat (k9))) (v := j86) B82 (by show 0 * (Int.toNat (k9)) = 0; omega)
          generalize hwA h79 103 (Int.toNat (k9)) j86 = h89 at Y90 F91 B92 ⊢
          refine av_wp_sqF ck_162 2 (pc' := 148) (lv' := [some (.inr (.inr (.inl (some (77))))), some (.inl c), some (.inl k9), some (.inl (((12) * c) + k9)), some (.inl (0))]) (st' := []) (h' := h89) rfl ?_
          have L99 : ∀ (m98 : Nat) (k93 : Int) (h94 : av_H), (0 ≤ k93 ∧ k93 ≤ 5) → IMY v1 (Int.toNat (k9)) v32 v61 h94 → BC (c).toNat (av_u1 (av_u1 (av_u1 (av_u1 (av_u1 (av_u1 (av_u1 (av_u1 (fun a => bmul a * (Int.toNat (k9))) 96 ((1 * (Int.toNat (k9))) + 1)) 97 ((1 * (Int.toNat (k9))) + 1)) 98 ((1 * (Int.toNat (k9))) + 1)) 99 ((1 * (Int.toNat (k9))) + 1)) 100 ((1 * (Int.toNat (k9))) + 1)) 101 ((1 * (Int.toNat (k9))) + 1)) 102 ((1 * (Int.toNat (k9))) + 1)) 104 (5 * (Int.toNat (k9)) + (Int.toNat (k93)))) (hA h) h94 → FM h h94 → (5 - k93).toNat = m98 → av_wp none cd_162 148 [some (.inr (.inr (.inl (some (77))))), some (.inl c), some (.inl k9), some (.inl (((12) * c) + k9)), some (.inl k93)] [] h94 Q := by
            intro m98
            induction m98 using Nat.strongRecOn with
            | _ m98 I100 =>
              intro k93 h94 g102 Y95 B97 F96 e101
              refine av_wp_sqF ck_162 2 (pc' := 151) (lv' := [some (.inr (.inr (.inl (some (77))))), some (.inl c), some (.inl k9), some (.inl (((12) * c) + k9)), some (.inl k93)]) (st' := [.inl (5), .inl k93]) (h' := h94) rfl ?_
              refine wq_k2 (p' := 154) (ck_162 _ _ rfl) rfl ⟨by omega, by omega⟩ ⟨by omega, by omega⟩ (fun c103 => ?_) (fun c104 => ?_)
              · have c103 : (5) ≤ k93 := c103
                refine av_wp_sqF ck_162 2 (pc' := 185) (lv' := [some (.inr (.inr (.inl (some (77))))), some (.inl c), some (.inl k9), some (.inl (((12) * c) + k9)), some (.inl (0))]) (st' := []) (h' := h94) rfl ?_
                have L111 : ∀ (m110 : Nat) (k105 : Int) (h106 : av_H), (0 ≤ k105 ∧ k105 ≤ 3) → IMY v1 (Int.toNat (k9)) v32 v61 h106 → BC (c).toNat (av_u1 (av_u1 (av_u1 (av_u1 (av_u1 (av_u1 (av_u1 (av_u1 (av_u1 (av_u1 (fun a => bmul a * (Int.toNat (k9))) 96 ((1 * (Int.toNat (k9))) + 1)) 97 ((1 * (Int.toNat (k9))) + 1)) 98 ((1 * (Int.toNat (k9))) + 1)) 99 ((1 * (Int.toNat (k9))) + 1)) 100 ((1 * (Int.toNat (k9))) + 1)) 101 ((1 * (Int.toNat (k9))) + 1)) 102 ((1 * (Int.toNat (k9))) + 1)) 104 (5 * (Int.toNat (k9)) + (Int.toNat (k93)))) 105 (3 * (Int.toNat (k9)) + (Int.toNat (k105)))) 106 (3 * (Int.toNat (k9)) + (Int.toNat (k105)))) (hA h) h106 → FM h h106 → (3 - k105).toNat = m110 → av_wp none cd_162 185 [some (.inr (.inr (.inl (some (77))))), some (.inl c), some (.inl k9), some (.inl (((12) * c) + k9)), some (.inl k105)] [] h106 Q := by
                  intro m110
                  induction m110 using Nat.strongRecOn with
                  | _ m110 I112 =>
                    intro k105 h106 g114 Y107 B109 F108 e113
                    refine av_wp_sqF ck_162 2 (pc' := 188) (lv' := [some (.inr (.inr (.inl (some (77))))), some (.inl c), some (.inl k9), some (.inl (((12) * c) + k9)), some (.inl k105)]) (st' := [.inl (3), .inl k105]) (h' := h106) rfl ?_
                    refine wq_k2 (p' := 191) (ck_162 _ _ rfl) rfl ⟨by omega, by omega⟩ ⟨by omega, by omega⟩ (fun c115 => ?_) (fun c116 => ?_)
                    · have c115 : (3) ≤ k105 := c115
                      have r119 := I.1.2.1.2.2.2.2.2 (c).toNat (Int.toNat (k9)) (by omega) (by omega)
                      rw [show 12 * (c).toNat + (Int.toNat (k9)) = (Int.toNat ((((12) * c) + k9))) by omega, u35, u64] at r119
                      have e118 := Y107.2.1
                      have I117 := IM_of Y107 (fun z => by have := r119 z; omega)
                      have B120 : BC (c).toNat (fun a => bmul a * (k9 + (1)).toNat) (hA h) h106 := BC_le B109 (fun a h1 h2 => by
                        rcases (show a = 96 ∨ a = 97 ∨ a = 98 ∨ a = 99 ∨ a = 100 ∨ a = 101 ∨ a = 102 ∨ a = 103 ∨ a = 104 ∨ a = 105 ∨ a = 106 by omega) with z | z | z | z | z | z | z | z | z | z | z
                        · subst z; show 1 * (k9 + (1)).toNat ≤ 1 * (Int.toNat (k9)) + 1; omega
                        · subst z; show 1 * (k9 + (1)).toNat ≤ 1 * (Int.toNat (k9)) + 1; omega
                        · subst z; show 1 * (k9 + (1)).toNat ≤ 1 * (Int.toNat (k9)) + 1; omega
                        · subst z; show 1 * (k9 + (1)).toNat ≤ 1 * (Int.toNat (k9)) + 1; omega
                        · subst z; show 1 * (k9 + (1)).toNat ≤ 1 * (Int.toNat (k9)) + 1; omega
                        · subst z; show 1 * (k9 + (1)).toNat ≤ 1 * (Int.toNat (k9)) + 1; omega
                        · subst z; show 1 * (k9 + (1)).toNat ≤ 1 * (Int.toNat (k9)) + 1; omega
                        · subst z; show 0 * (k9 + (1)).toNat ≤ 0 * (Int.toNat (k9)); omega
                        · subst z; show 5 * (k9 + (1)).toNat ≤ 5 * (Int.toNat (k9)) + (Int.toNat (k93)); omega
                        · subst z; show 3 * (k9 + (1)).toNat ≤ 3 * (Int.toNat (k9)) + (Int.toNat (k105)); omega
                        · subst z; show 3 * (k9 + (1)).toNat ≤ 3 * (Int.toNat (k9)) + (Int.toNat (k105)); omega)
                      refine av_wp_sqF ck_162 2 (pc' := 12) (lv' := [some (.inr (.inr (.inl (some (77))))), some (.inl c), some (.inl (k9 + (1))), some (.inl (((12) * c) + k9)), some (.inl k105)]) (st' := []) (h' := h106) rfl ?_
                      exact I19 _ (by omega) ((k9 + (1))) (some (.inl (((12) * c) + k9))) (some (.inl k105)) h106 rfl rfl (by omega) (by omega) I117 e118 B120 F108 rfl
                    · have c116 : k105 < (3) := c116
                      refine av_wp_sqF ck_162 1 (pc' := 192) (lv' := [some (.inr (.inr (.inl (some (77))))), some (.inl c), some (.inl k9), some (.inl (((12) * c) + k9)), some (.inl k105)]) (st' := [.inr (.inr (.inl (some (77))))]) (h' := h106) rfl ?_
                      refine wq_gr (p' := 195) (ck_162 _ _ rfl) rfl (congrArg Prod.fst (ly_k Y107.1.1 77 rfl)) rfl (ly_g Y107.1.1 77 39 105 rfl) ?_
                      refine av_wp_sqF ck_162 6 (pc' := 202) (lv' := [some (.inr (.inr (.inl (some (77))))), some (.inl c), some (.inl k9), some (.inl (((12) * c) + k9)), some (.inl k105)]) (st' := [.inr (.inr (.inl (some (77)))), .inl (((3) * k9) + k105), .inr (.inr (.inl (some (105))))]) (h' := h106) rfl ?_
                      refine wq_gr (p' := 205) (ck_162 _ _ rfl) rfl (congrArg Prod.fst (ly_k Y107.1.1 77 rfl)) rfl (ly_g Y107.1.1 77 13 91 rfl) ?_
                      refine av_wp_sqF ck_162 5 (pc' := 211) (lv' := [some (.inr (.inr (.inl (some (77))))), some (.inl c), some (.inl k9), some (.inl (((12) * c) + k9)), some (.inl k105)]) (st' := [.inl (((3) * (((12) * c) + k9)) + k105), .inr (.inr (.inl (some (91)))), .inl (((3) * k9) + k105), .inr (.inr (.inl (some (105))))]) (h' := h106) rfl ?_
                      obtain ⟨v121, e122⟩ : ∃ v, hA h106 91 (Int.toNat ((((3) * (((12) * c) + k9)) + k105))) = v := ⟨_, rfl⟩
                      have g123 : 0 ≤ hA h106 91 (Int.toNat ((((3) * (((12) * c) + k9)) + k105))) ∧ hA h106 91 (Int.toNat ((((3) * (((12) * c) + k9)) + k105))) ≤ 1999 := im_m Y107.1 91 (by decide) (by decide) _
                      rw [e122] at g123
                      refine wq_al (p' := 212) (n := 2880) (ck_162 _ _ rfl) rfl (ly_k Y107.1.1 91 rfl) (by omega) (e122) ?_
                      refine wq_as (p' := 213) (n := 36) (ck_162 _ _ rfl) rfl (ly_k Y107.1.1 105 rfl) (by omega) ?_
                      have Y125 := IMY_w (a := 105) (j := (Int.toNat ((((3) * k9) + k105)))) (v := v121) Y107 (by omega) (show (0 : Int) ≤ v121 ∧ v121 ≤ (1999 : Int) by omega) (fun z => by omega)
                      have Y125 : IMY v1 (Int.toNat (k9)) v32 v61 (hwA h106 105 (Int.toNat ((((3) * k9) + k105))) v121) := Y125
                      have F126 := FM_wA (a := 105) (j := (Int.toNat ((((3) * k9) + k105)))) (v := v121) F108 rfl
                      have B127 := BC_w (a := 105) (j := (Int.toNat ((((3) * k9) + k105)))) (v := v121) B109 (show (Int.toNat ((((3) * k9) + k105))) = (3 * (Int.toNat (k9)) + (Int.toNat (k105))) by omega) (by show hA h 91 (3 * (12 * (c).toNat) + (3 * (Int.toNat (k9)) + (Int.toNat (k105)))) = _; rw [show 3 * (12 * (c).toNat) + (3 * (Int.toNat (k9)) + (Int.toNat (k105))) = (Int.toNat ((((3) * (((12) * c) + k9)) + k105))) by omega, ← F108.2.2.2.2.2.2 91 rfl]; exact e122)
                      have B127 : BC (c).toNat (av_u1 (av_u1 (av_u1 (av_u1 (av_u1 (av_u1 (av_u1 (av_u1 (av_u1 (av_u1 (av_u1 (fun a => bmul a * (Int.toNat (k9))) 96 ((1 * (Int.toNat (k9))) + 1)) 97 ((1 * (Int.toNat (k9))) + 1)) 98 ((1 * (Int.toNat (k9))) + 1)) 99 ((1 * (Int.toNat (k9))) + 1)) 100 ((1 * (Int.toNat (k9))) + 1)) 101 ((1 * (Int.toNat (k9))) + 1)) 102 ((1 * (Int.toNat (k9))) + 1)) 104 (5 * (Int.toNat (k9)) + (Int.toNat (k93)))) 105 (3 * (Int.toNat (k9)) + (Int.toNat (k105)))) 106 (3 * (Int.toNat (k9)) + (Int.toNat (k105)))) 105 ((3 * (Int.toNat (k9)) + (Int.toNat (k105))) + 1)) (hA h) (hwA h106 105 (Int.toNat ((((3) * k9) + k105))) v121) := B127
                      generalize hwA h106 105 (Int.toNat ((((3) * k9) + k105))) v121 = h124 at Y125 F126 B127 ⊢
                      refine av_wp_sqF ck_162 1 (pc' := 214) (lv' := [some (.inr (.inr (.inl (some (77))))), some (.inl c), some (.inl k9), some (.inl (((12) * c) + k9)), some (.inl k105)]) (st' := [.inr (.inr (.inl (some (77))))]) (h' := h124) rfl ?_
                      refine wq_gr (p' := 217) (ck_162 _ _ rfl) rfl (congrArg Prod.fst (ly_k Y125.1.1 77 rfl)) rfl (ly_g Y125.1.1 77 40 106 rfl) ?_
                      refine av_wp_sqF ck_162 6 (pc' := 224) (lv' := [some (.inr (.inr (.inl (some (77))))), some (.inl c), some (.inl k9), some (.inl (((12) * c) + k9)), some (.inl k105)]) (st' := [.inr (.inr (.inl (some (77)))), .inl (((3) * k9) + k105), .inr (.inr (.inl (some (106))))]) (h' := h124) rfl ?_
                      refine wq_gr (p' := 227) (ck_162 _ _ rfl) rfl (congrArg Prod.fst (ly_k Y125.1.1 77 rfl)) rfl (ly_g Y125.1.1 77 14 92 rfl) ?_
                      refine av_wp_sqF ck_162 5 (pc' := 233) (lv' := [some (.inr (.inr (.inl (some (77))))), some (.inl c), some (.inl k9), some (.inl (((12) * c) + k9)), some (.inl k105)]) (st' := [.inl (((3) * (((12) * c) + k9)) + k105), .inr (.inr (.inl (some (92)))), .inl (((3) * k9) + k105), .inr (.inr (.inl (some (106))))]) (h' := h124) rfl ?_
                      obtain ⟨v128, e129⟩ : ∃ v, hA h124 92 (Int.toNat ((((3) * (((12) * c) + k9)) + k105))) = v := ⟨_, rfl⟩
                      have g130 : 0 ≤ hA h124 92 (Int.toNat ((((3) * (((12) * c) + k9)) + k105))) ∧ hA h124 92 (Int.toNat ((((3) * (((12) * c) + k9)) + k105))) ≤ 1999 := im_m Y125.1 92 (by decide) (by decide) _
                      rw [e129] at g130
                      refine wq_al (p' := 234) (n := 2880) (ck_162 _ _ rfl) rfl (ly_k Y125.1.1 92 rfl) (by omega) (e129) ?_
                      refine wq_as (p' := 235) (n := 36) (ck_162 _ _ rfl) rfl (ly_k Y125.1.1 106 rfl) (by omega) ?_
                      have Y132 := IMY_w (a := 106) (j := (Int.toNat ((((3) * k9) + k105)))) (v := v128) Y125 (by omega) (show (0 : Int) ≤ v128 ∧ v128 ≤ (1999 : Int) by omega) (fun z => by omega)
                      have Y132 : IMY v1 (Int.toNat (k9)) v32 v61 (hwA h124 106 (Int.toNat ((((3) * k9) + k105))) v128) := Y132
                      have F133 := FM_wA (a := 106) (j := (Int.toNat ((((3) * k9) + k105)))) (v := v128) F126 rfl
                      have B134 := BC_w (a := 106) (j := (Int.toNat ((((3) * k9) + k105)))) (v := v128) B127 (show (Int.toNat ((((3) * k9) + k105))) = (3 * (Int.toNat (k9)) + (Int.toNat (k105))) by omega) (by show hA h 92 (3 * (12 * (c).toNat) + (3 * (Int.toNat (k9)) + (Int.toNat (k105)))) = _; rw [show 3 * (12 * (c).toNat) + (3 * (Int.toNat (k9)) + (Int.toNat (k105))) = (Int.toNat ((((3) * (((12) * c) + k9)) + k105))) by omega, ← F126.2.2.2.2.2.2 92 rfl]; exact e129)
                      have B134 : BC (c).toNat (av_u1 (av_u1 (av_u1 (av_u1 (av_u1 (av_u1 (av_u1 (av_u1 (av_u1 (av_u1 (av_u1 (av_u1 (fun a => bmul a * (Int.toNat (k9))) 96 ((1 * (Int.toNat (k9))) + 1)) 97 ((1 * (Int.toNat (k9))) + 1)) 98 ((1 * (Int.toNat (k9))) + 1)) 99 ((1 * (Int.toNat (k9))) + 1)) 100 ((1 * (Int.toNat (k9))) + 1)) 101 ((1 * (Int.toNat (k9))) + 1)) 102 ((1 * (Int.toNat (k9))) + 1)) 104 (5 * (Int.toNat (k9)) + (Int.toNat (k93)))) 105 (3 * (Int.toNat (k9)) + (Int.toNat (k105)))) 106 (3 * (Int.toNat (k9)) + (Int.toNat (k105)))) 105 ((3 * (Int.toNat (k9)) + (Int.toNat (k105))) + 1)) 106 ((3 * (Int.toNat (k9)) + (Int.toNat (k105))) + 1)) (hA h) (hwA h124 106 (Int.toNat ((((3) * k9) + k105))) v128) := B134
                      generalize hwA h124 106 (Int.toNat ((((3) * k9) + k105))) v128 = h131 at Y132 F133 B134 ⊢
                      refine av_wp_sqF ck_162 2 (pc' := 185) (lv' := [some (.inr (.inr (.inl (some (77))))), some (.inl c), some (.inl k9), some (.inl (((12) * c) + k9)), some (.inl (k105 + (1)))]) (st' := []) (h' := h131) rfl ?_
                      exact I112 _ (by omega) ((k105 + (1))) h131 (by omega) Y132 (BC_le B134 (fun a _ _ => if z : a = 106 then (by subst z; show 3 * (Int.toNat (k9)) + (Int.toNat ((k105 + (1)))) ≤ (3 * (Int.toNat (k9)) + (Int.toNat (k105))) + 1; omega) else if y : a = 105 then (by subst y; show 3 * (Int.toNat (k9)) + (Int.toNat ((k105 + (1)))) ≤ (3 * (Int.toNat (k9)) + (Int.toNat (k105))) + 1; omega) else (by simp only [av_u1, if_neg z, if_neg y, Nat.le_refl]))) F133 rfl
                exact L111 _ ((0)) h94 (by omega) Y95 (BC_le B97 (fun a _ _ => if z : a = 106 then (by subst z; show 3 * (Int.toNat (k9)) + (Int.toNat ((0))) ≤ 3 * (Int.toNat (k9)); omega) else if y : a = 105 then (by subst y; show 3 * (Int.toNat (k9)) + (Int.toNat ((0))) ≤ 3 * (Int.toNat (k9)); omega) else (by simp only [av_u1, if_neg z, if_neg y, Nat.le_refl]))) F96 rfl
              · have c104 : k93 < (5) := c104
                refine av_wp_sqF ck_162 1 (pc' := 155) (lv' := [some (.inr (.inr (.inl (some (77))))), some (.inl c), some (.inl k9), some (.inl (((12) * c) + k9)), some (.inl k93)]) (st' := [.inr (.inr (.inl (some (77))))]) (h' := h94) rfl ?_
                refine wq_gr (p' := 158) (ck_162 _ _ rfl) rfl (congrArg Prod.fst (ly_k Y95.1.1 77 rfl)) rfl (ly_g Y95.1.1 77 38 104 rfl) ?_
                refine av_wp_sqF ck_162 6 (pc' := 165) (lv' := [some (.inr (.inr (.inl (some (77))))), some (.inl c), some (.inl k9), some (.inl (((12) * c) + k9)), some (.inl k93)]) (st' := [.inr (.inr (.inl (some (77)))), .inl (((5) * k9) + k93), .inr (.inr (.inl (some (104))))]) (h' := h94) rfl ?_
                refine wq_gr (p' := 168) (ck_162 _ _ rfl) rfl (congrArg Prod.fst (ly_k Y95.1.1 77 rfl)) rfl (ly_g Y95.1.1 77 12 90 rfl) ?_
                refine av_wp_sqF ck_162 5 (pc' := 174) (lv' := [some (.inr (.inr (.inl (some (77))))), some (.inl c), some (.inl k9), some (.inl (((12) * c) + k9)), some (.inl k93)]) (st' := [.inl (((5) * (((12) * c) + k9)) + k93), .inr (.inr (.inl (some (90)))), .inl (((5) * k9) + k93), .inr (.inr (.inl (some (104))))]) (h' := h94) rfl ?_
                obtain ⟨v135, e136⟩ : ∃ v, hA h94 90 (Int.toNat ((((5) * (((12) * c) + k9)) + k93))) = v := ⟨_, rfl⟩
                have g137 : -1 ≤ hA h94 90 (Int.toNat ((((5) * (((12) * c) + k9)) + k93))) ∧ hA h94 90 (Int.toNat ((((5) * (((12) * c) + k9)) + k93))) ≤ 999 := im_m Y95.1 90 (by decide) (by decide) _
                rw [e136] at g137
                refine wq_al (p' := 175) (n := 4800) (ck_162 _ _ rfl) rfl (ly_k Y95.1.1 90 rfl) (by omega) (e136) ?_
                refine wq_as (p' := 176) (n := 60) (ck_162 _ _ rfl) rfl (ly_k Y95.1.1 104 rfl) (by omega) ?_
                have Y139 := IMY_w (a := 104) (j := (Int.toNat ((((5) * k9) + k93)))) (v := v135) Y95 (by omega) (show (-1 : Int) ≤ v135 ∧ v135 ≤ (999 : Int) by omega) (fun z => by omega)
                have Y139 : IMY v1 (Int.toNat (k9)) v32 v61 (hwA h94 104 (Int.toNat ((((5) * k9) + k93))) v135) := Y139
                have F140 := FM_wA (a := 104) (j := (Int.toNat ((((5) * k9) + k93)))) (v := v135) F96 rfl
                have B141 := BC_w (a := 104) (j := (Int.toNat ((((5) * k9) + k93)))) (v := v135) B97 (show (Int.toNat ((((5) * k9) + k93))) = (5 * (Int.toNat (k9)) + (Int.toNat (k93))) by omega) (by show hA h 90 (5 * (12 * (c).toNat) + (5 * (Int.toNat (k9)) + (Int.toNat (k93)))) = _; rw [show 5 * (12 * (c).toNat) + (5 * (Int.toNat (k9)) + (Int.toNat (k93))) = (Int.toNat ((((5) * (((12) * c) + k9)) + k93))) by omega, ← F96.2.2.2.2.2.2 90 rfl]; exact e136)
                have B141 : BC (c).toNat (av_u1 (av_u1 (av_u1 (av_u1 (av_u1 (av_u1 (av_u1 (av_u1 (av_u1 (fun a => bmul a * (Int.toNat (k9))) 96 ((1 * (Int.toNat (k9))) + 1)) 97 ((1 * (Int.toNat (k9))) + 1)) 98 ((1 * (Int.toNat (k9))) + 1)) 99 ((1 * (Int.toNat (k9))) + 1)) 100 ((1 * (Int.toNat (k9))) + 1)) 101 ((1 * (Int.toNat (k9))) + 1)) 102 ((1 * (Int.toNat (k9))) + 1)) 104 (5 * (Int.toNat (k9)) + (Int.toNat (k93)))) 104 ((5 * (Int.toNat (k9)) + (Int.toNat (k93))) + 1)) (hA h) (hwA h94 104 (Int.toNat ((((5) * k9) + k93))) v135) := B141
                generalize hwA h94 104 (Int.toNat ((((5) * k9) + k93))) v135 = h138 at Y139 F140 B141 ⊢
                refine av_wp_sqF ck_162 2 (pc' := 148) (lv' := [some (.inr (.inr (.inl (some (77))))), some (.inl c), some (.inl k9), some (.inl (((12) * c) + k9)), some (.inl (k93 + (1)))]) (st' := []) (h' := h138) rfl ?_
                exact I100 _ (by omega) ((k93 + (1))) h138 (by omega) Y139 (BC_le B141 (fun a _ _ => if z : a = 104 then (by subst z; show 5 * (Int.toNat (k9)) + (Int.toNat ((k93 + (1)))) ≤ (5 * (Int.toNat (k9)) + (Int.toNat (k93))) + 1; omega) else (by simp only [av_u1, if_neg z, Nat.le_refl]))) F140 rfl
          exact L99 _ ((0)) h89 (by omega) Y90 (BC_le B92 (fun a _ _ => if z : a = 104 then (by subst z; show 5 * (Int.toNat (k9)) + (Int.toNat ((0))) ≤ 5 * (Int.toNat (k9)); omega) else (by simp only [av_u1, if_neg z, Nat.le_refl]))) F91 rfl
        refine wq_k1 (p' := 125) (ck_162 _ _ rfl) rfl ⟨by omega, by omega⟩ (fun c142 => ?_) (fun c143 => ?_)
        · have c142 : v83 < (0) := c142
          refine av_wp_sqF ck_162 1 (pc' := 144) (lv' := [some (.inr (.inr (.inl (some (77))))), some (.inl c), some (.inl k9), some (.inl (((12) * c) + k9)), a11]) (st' := [.inl (0), .inl k9, .inr (.inr (.inl (some (103))))]) (h' := h79) rfl ?_
          exact J88 ((0)) (by omega)
        · have c143 : (0) ≤ v83 := c143
          refine av_wp_sqF ck_162 1 (pc' := 126) (lv' := [some (.inr (.inr (.inl (some (77))))), some (.inl c), some (.inl k9), some (.inl (((12) * c) + k9)), a11]) (st' := [.inr (.inr (.inl (some (77)))), .inl k9, .inr (.inr (.inl (some (103))))]) (h' := h79) rfl ?_
          refine wq_gr (p' := 129) (ck_162 _ _ rfl) rfl (congrArg Prod.fst (ly_k Y80.1.1 77 rfl)) rfl (ly_g Y80.1.1 77 54 116 rfl) ?_
          refine av_wp_sqF ck_162 1 (pc' := 130) (lv' := [some (.inr (.inr (.inl (some (77))))), some (.inl c), some (.inl k9), some (.inl (((12) * c) + k9)), a11]) (st' := [.inr (.inr (.inl (some (77)))), .inr (.inr (.inl (some (116)))), .inl k9, .inr (.inr (.inl (some (103))))]) (h' := h79) rfl ?_
          refine wq_gr (p' := 133) (ck_162 _ _ rfl) rfl (congrArg Prod.fst (ly_k Y80.1.1 77 rfl)) rfl (ly_g Y80.1.1 77 10 88 rfl) ?_
          refine av_wp_sqF ck_162 1 (pc' := 134) (lv' := [some (.inr (.inr (.inl (some (77))))), some (.inl c), some (.inl k9), some (.inl (((12) * c) + k9)), a11]) (st' := [.inl (((12) * c) + k9), .inr (.inr (.inl (some (88)))), .inr (.inr (.inl (some (116)))), .inl k9, .inr (.inr (.inl (some (103))))]) (h' := h79) rfl ?_
          obtain ⟨v144, e145⟩ : ∃ v, hA h79 88 (Int.toNat ((((12) * c) + k9))) = v := ⟨_, rfl⟩
          have g146 : -1 ≤ hA h79 88 (Int.toNat ((((12) * c) + k9))) ∧ hA h79 88 (Int.toNat ((((12) * c) + k9))) ≤ 15 := im_m Y80.1 88 (by decide) (by decide) _
          rw [e145] at g146
          refine wq_al (p' := 135) (n := 960) (ck_162 _ _ rfl) rfl (ly_k Y80.1.1 88 rfl) (by omega) (e145) ?_
          obtain ⟨v147, e148⟩ : ∃ v, hA h79 116 (Int.toNat (v144)) = v := ⟨_, rfl⟩
          refine wq_bl (p' := 136) (n := 16) (ck_162 _ _ rfl) rfl ((Or.inr (ly_k Y80.1.1 116 rfl))) (by omega) (e148) ?_
          refine wq_c1 (p' := 139) (ck_162 _ _ rfl) rfl ?_ ?_
          · refine av_wp_sqF ck_162 1 (pc' := 144) (lv' := [some (.inr (.inr (.inl (some (77))))), some (.inl c), some (.inl k9), some (.inl (((12) * c) + k9)), a11]) (st' := [.inl (0), .inl k9, .inr (.inr (.inl (some (103))))]) (h' := h79) rfl ?_
            exact J88 ((0)) (by omega)
          · refine av_wp_sqF ck_162 2 (pc' := 144) (lv' := [some (.inr (.inr (.inl (some (77))))), some (.inl c), some (.inl k9), some (.inl (((12) * c) + k9)), a11]) (st' := [.inl (1), .inl k9, .inr (.inr (.inl (some (103))))]) (h' := h79) rfl ?_
            exact J88 ((1)) (by omega)
  exact L18 _ ((0)) (none) (none) h7 rfl rfl (by omega) (by omega) I4 e6 B8 F5 rfl

