set_option maxRecDepth 100000 in
set_option maxHeartbeats 4000000 in
theorem cx_198 {g h : av_H} {n a m : Int} (I : IMF n a m h) (F : FM g h) {U : Nat → Nat → Int} {S : Nat → Nat} {ro : Nat → Nat → Int} (RX : RXX g U S ro) (x : Int) (qx : -2147483648 ≤ x ∧ x ≤ 2147483647) (l : Int) (ql : -2147483648 ≤ l ∧ l ≤ 2147483647) (y : Int) (qy : -2147483648 ≤ y ∧ y ≤ 2147483647) (w : Int) (qw : -2147483648 ≤ w ∧ w ≤ 2147483647) {Q : Option av_V → av_H → Prop} (hq : ∀ (v : Int) n' a' m' h', RSP (okx U S (hA g 78 0) (hA g 79 0) x l y ∧ 0 ≤ w) (-2) (bev (U (Int.toNat x)) (ro (Int.toNat l)) (arr (U (Int.toNat x)) (ro (Int.toNat l)) (bxx U S (ro (Int.toNat l)) (Int.toNat x)) y) (S (Int.toNat x)) (bgx U S ro x l y) w) v → IMF n' a' m' h' → FM g h' → Q (some (.inl v)) h') : av_wp none cd_198 0 [some (.inr (.inr (.inl (some (77))))), some (.inl x), some (.inl l), some (.inl y), some (.inl w), none, none, none] [] h Q := by
  have gn := im_n I.1.1
  rw [I.2.1] at gn
  have ga := im_a I.1.1
  rw [I.2.2.1] at ga
  have gm := im_cm I.1.1
  rw [I.2.2.2] at gm
  have G0 := I.1.1.2.1
  have G16 : 0 ≤ hA g 78 0 ∧ hA g 78 0 ≤ 16 := by rw [← F.2.2.2.2.2.2 78 rfl]; exact G0.2.1
  have G8 : 0 ≤ hA g 79 0 ∧ hA g 79 0 ≤ 8 := by rw [← F.2.2.2.2.2.2 79 rfl]; exact G0.2.2.1
  have G6 : 0 ≤ hA g 80 0 ∧ hA g 80 0 ≤ 6 := by rw [← F.2.2.2.2.2.2 80 rfl]; exact G0.2.2.2.1
  refine av_wp_sqF ck_198 1 (pc' := 2) (lv' := [some (.inr (.inr (.inl (some (77))))), some (.inl x), some (.inl l), some (.inl y), some (.inl w), none, none, none]) (st' := [.inl w]) (h' := h) rfl ?_
  refine wq_k1 (p' := 5) (ck_198 _ _ rfl) rfl ⟨by omega, by omega⟩ (fun c1 => ?_) (fun c2 => ?_)
  · have c1 : w < (0) := c1
    refine av_wp_sqF ck_198 1 (pc' := 17) (lv' := [some (.inr (.inr (.inl (some (77))))), some (.inl x), some (.inl l), some (.inl y), some (.inl w), none, none, none]) (st' := [.inl (-2)]) (h' := h) rfl ?_
    refine av_wp_ret (v := some (.inl (-2))) (ck_198 _ _ rfl) rfl rfl ?_
    exact hq _ _ _ _ h (Or.inr ⟨by unfold okx; omega, rfl⟩) I F
  · have c2 : (0) ≤ w := c2
    refine av_wp_sqF ck_198 4 (pc' := 9) (lv' := [some (.inr (.inr (.inl (some (77))))), some (.inl x), some (.inl l), some (.inl y), some (.inl w), none, none, none]) (st' := [.inl y, .inl l, .inl x, .inr (.inr (.inl (some (77))))]) (h' := h) rfl ?_
    refine wq_cv (p' := 12) (av_qc (.invokevirtual 446) 186 3 0 8) 4 cd_186 [.inl y, .inl l, .inl x] (77) 8 [some (.inr (.inr (.inl (some (77))))), some (.inl x), some (.inl l), some (.inl y)] (ck_198 _ _ rfl) rfl rfl pp_186 rfl rfl rfl (congrArg Prod.fst (ly_k I.1.1.1 77 rfl)) rfl rfl rfl rfl ?_
    refine cx_186 I F RX (x) (by omega) (l) (by omega) (y) (by omega) (fun n3 a4 m5 h6 z7 I8 F9 => ?_) (fun n10 a11 m12 h13 z14 z15 z16 e17 e18 A19 O20 B21 L22 I23 F24 => ?_)
    · have g25 := im_n I8.1.1
      rw [I8.2.1] at g25
      have g26 := im_a I8.1.1
      rw [I8.2.2.1] at g26
      have g27 := im_cm I8.1.1
      rw [I8.2.2.2] at g27
      show av_wp _ cd_198 12 [some (.inr (.inr (.inl (some (77))))), some (.inl x), some (.inl l), some (.inl y), some (.inl w), none, none, none] [.inl (0)] h6 _
      refine av_wp_sqF ck_198 2 (pc' := 17) (lv' := [some (.inr (.inr (.inl (some (77))))), some (.inl x), some (.inl l), some (.inl y), some (.inl w), none, none, none]) (st' := [.inl (-2)]) (h' := h6) rfl ?_
      refine av_wp_ret (v := some (.inl (-2))) (ck_198 _ _ rfl) rfl rfl ?_
      exact hq _ _ _ _ h6 (Or.inr ⟨by unfold okx; omega, rfl⟩) I8 F9
    · have g28 := im_n I23.1.1
      rw [I23.2.1] at g28
      have g29 := im_a I23.1.1
      rw [I23.2.2.1] at g29
      have g30 := im_cm I23.1.1
      rw [I23.2.2.2] at g30
      have g31 := (bgn_m (bar := bxx U S (ro (Int.toNat l)) (Int.toNat x)) (RX.2.1 (Int.toNat x) (Int.toNat l) (by omega) (by omega)) z16.1 (by have := cbv_d (U (Int.toNat x)) (S (Int.toNat x)); omega)).2.2
      have g31 : -1 ≤ (bgx U S ro x l y).2.2 ∧ (bgx U S ro x l y).2.2 ≤ 9999 := g31
      have B21 : BRR (bgx U S ro x l y) h13 := B21
      show av_wp _ cd_198 12 [some (.inr (.inr (.inl (some (77))))), some (.inl x), some (.inl l), some (.inl y), some (.inl w), none, none, none] [.inl (1)] h13 _
      refine av_wp_sqF ck_198 2 (pc' := 19) (lv' := [some (.inr (.inr (.inl (some (77))))), some (.inl x), some (.inl l), some (.inl y), some (.inl w), none, none, none]) (st' := [.inr (.inr (.inl (some (77))))]) (h' := h13) rfl ?_
      obtain ⟨v32, e33⟩ : ∃ v, hF h13 77 50 = v := ⟨_, rfl⟩
      have g34 := im_has I23.1.1
      rw [e33] at g34
      refine wq_gb (p' := 22) (ck_198 _ _ rfl) rfl (congrArg Prod.fst (ly_k I23.1.1.1 77 rfl)) rfl (e33) ?_
      refine wq_k1 (p' := 25) (ck_198 _ _ rfl) rfl ⟨by omega, by omega⟩ (fun c35 => ?_) (fun c36 => ?_)
      · have c35 : v32 ≠ (0) := c35
        refine av_wp_sqF ck_198 1 (pc' := 28) (lv' := [some (.inr (.inr (.inl (some (77))))), some (.inl x), some (.inl l), some (.inl y), some (.inl w), none, none, none]) (st' := [.inr (.inr (.inl (some (77))))]) (h' := h13) rfl ?_
        refine wq_gr (p' := 31) (ck_198 _ _ rfl) rfl (congrArg Prod.fst (ly_k I23.1.1.1 77 rfl)) rfl (ly_g I23.1.1.1 77 26 95 rfl) ?_
        refine av_wp_sqF ck_198 1 (pc' := 33) (lv' := [some (.inr (.inr (.inl (some (77))))), some (.inl x), some (.inl l), some (.inl y), some (.inl w), none, none, none]) (st' := [.inl (12), .inr (.inr (.inl (some (95))))]) (h' := h13) rfl ?_
        obtain ⟨v37, e38⟩ : ∃ v, hA h13 95 (Int.toNat ((12))) = v := ⟨_, rfl⟩
        have y40 : (ro (Int.toNat l)) 12 = v37 := (L22.2 12 (by omega)).symm.trans e38
        have g41 := rl_12 (RX.2.1 (Int.toNat x) (Int.toNat l) (by omega) (by omega)).2.1
        rw [y40] at g41
        refine wq_al (p' := 34) (n := 13) (ck_198 _ _ rfl) rfl (ly_k I23.1.1.1 95 rfl) (by omega) (e38) ?_
        refine wq_k1 (p' := 37) (ck_198 _ _ rfl) rfl ⟨by omega, by omega⟩ (fun c42 => ?_) (fun c43 => ?_)
        · have c42 : v37 ≠ (0) := c42
          refine av_wp_sqF ck_198 4 (pc' := 50) (lv' := [some (.inr (.inr (.inl (some (77))))), some (.inl x), some (.inl l), some (.inl y), some (.inl w), some (.inl (-1)), some (.inl (0)), none]) (st' := []) (h' := h13) rfl ?_
          have L48 : ∀ (m47 : Nat) (k44 : Int) (k45 : Int) (a46 : Option av_V), av_lg a46 = false → (k44 = -1 ∧ rpv (U (Int.toNat x)) (ro (Int.toNat l)) (arr (U (Int.toNat x)) (ro (Int.toNat l)) (bxx U S (ro (Int.toNat l)) (Int.toNat x)) y) (bgx U S ro x l y).2.1 (Int.toNat k45) = 9999) ∨ ((0 ≤ k44 ∧ k44 ≤ 5000) ∧ rpv (U (Int.toNat x)) (ro (Int.toNat l)) (arr (U (Int.toNat x)) (ro (Int.toNat l)) (bxx U S (ro (Int.toNat l)) (Int.toNat x)) y) (bgx U S ro x l y).2.1 (Int.toNat k45) = k44) → k45 ≤ (S (Int.toNat x) : Int) → (-1 ≤ k44 ∧ k44 ≤ 9999) → (0 ≤ k45 ∧ k45 ≤ 12) → ((S (Int.toNat x) : Int) - k45).toNat = m47 → av_wp none cd_198 50 [some (.inr (.inr (.inl (some (77))))), some (.inl x), some (.inl l), some (.inl y), some (.inl w), some (.inl k44), some (.inl k45), a46] [] h13 Q := by
            intro m47
            induction m47 using Nat.strongRecOn with
            | _ m47 I49 =>
              intro k44 k45 a46 g51 g52 g53 g54 g55 e50
              have la46 := g51
              refine av_wp_sqF ck_198 2 (pc' := 53) (lv' := [some (.inr (.inr (.inl (some (77))))), some (.inl x), some (.inl l), some (.inl y), some (.inl w), some (.inl k44), some (.inl k45), a46]) (st' := [.inr (.inr (.inl (some (77)))), .inl k45]) (h' := h13) rfl ?_
              refine wq_gi (p' := 56) (ck_198 _ _ rfl) rfl (congrArg Prod.fst (ly_k I23.1.1.1 77 rfl)) rfl (I23.2.1) ?_
              refine wq_k2 (p' := 59) (ck_198 _ _ rfl) rfl ⟨by omega, by omega⟩ ⟨by omega, by omega⟩ (fun c56 => ?_) (fun c57 => ?_)
              · have c56 : n10 ≤ k45 := c56
                refine av_wp_sqF ck_198 1 (pc' := 145) (lv' := [some (.inr (.inr (.inl (some (77))))), some (.inl x), some (.inl l), some (.inl y), some (.inl w), some (.inl k44), some (.inl k45), a46]) (st' := [.inl k44]) (h' := h13) rfl ?_
                refine wq_k1 (p' := 148) (ck_198 _ _ rfl) rfl ⟨by omega, by omega⟩ (fun c58 => ?_) (fun c59 => ?_)
                · have c58 : k44 < (0) := c58
                  refine av_wp_sqF ck_198 1 (pc' := 165) (lv' := [some (.inr (.inr (.inl (some (77))))), some (.inl x), some (.inl l), some (.inl y), some (.inl w), some (.inl k44), some (.inl k45), a46]) (st' := [.inl k44]) (h' := h13) rfl ?_
                  refine wq_k1 (p' := 168) (ck_198 _ _ rfl) rfl ⟨by omega, by omega⟩ (fun c60 => ?_) (fun c61 => ?_)
                  · have c60 : k44 < (0) := c60
                    refine av_wp_sqF ck_198 1 (pc' := 188) (lv' := [some (.inr (.inr (.inl (some (77))))), some (.inl x), some (.inl l), some (.inl y), some (.inl w), some (.inl k44), some (.inl k45), a46]) (st' := [.inr (.inr (.inl (some (77))))]) (h' := h13) rfl ?_
                    refine wq_gr (p' := 191) (ck_198 _ _ rfl) rfl (congrArg Prod.fst (ly_k I23.1.1.1 77 rfl)) rfl (ly_g I23.1.1.1 77 35 101 rfl) ?_
                    refine av_wp_sqF ck_198 1 (pc' := 192) (lv' := [some (.inr (.inr (.inl (some (77))))), some (.inl x), some (.inl l), some (.inl y), some (.inl w), some (.inl k44), some (.inl k45), a46]) (st' := [.inr (.inr (.inl (some (77)))), .inr (.inr (.inl (some (101))))]) (h' := h13) rfl ?_
                    obtain ⟨v62, e63⟩ : ∃ v, hF h13 77 52 = v := ⟨_, rfl⟩
                    have g64 := im_of I23.1.1
                    rw [e63] at g64
                    have y65 : (bgx U S ro x l y).2.1 = v62 := (BRR_ye B21 e33 (by omega)).2.2.1.symm.trans e63
                    have q67 := (BRR_ye B21 e33 (by omega)).1
                    have b66 : ((bgx U S ro x l y).2.2 = 9999 ∧ (bgx U S ro x l y).1 = -1 ∧ (bgx U S ro x l y).2.1 = -1) ∨ ((bgx U S ro x l y).2.2 < 9999 ∧ (0 ≤ (bgx U S ro x l y).2.1 ∧ (bgx U S ro x l y).2.1 < (S (Int.toNat x) : Int) ∧ ofv (U (Int.toNat x)) (ro (Int.toNat l)) (Int.toNat (bgx U S ro x l y).2.1) ≠ 0) ∧ ((bgx U S ro x l y).1 = -1 ∨ (0 ≤ (bgx U S ro x l y).1 ∧ (bgx U S ro x l y).1 < (S (Int.toNat x) : Int) ∧ ysv (U (Int.toNat x)) (ro (Int.toNat l)) (Int.toNat (bgx U S ro x l y).1) ≠ 0))) := bgn_f
                    have b66a := (b66.elim (fun z => absurd z.1 q67) (fun z => z.2.1))
                    have b66b : 0 ≤ v62 ∧ v62 < (S (Int.toNat x) : Int) := by omega
                    clear b66
                    refine wq_gi (p' := 195) (ck_198 _ _ rfl) rfl (congrArg Prod.fst (ly_k I23.1.1.1 77 rfl)) rfl (e63) ?_
                    obtain ⟨v68, e69⟩ : ∃ v, hA h13 101 (Int.toNat (v62)) = v := ⟨_, rfl⟩
                    have g70 : 0 ≤ hA h13 101 (Int.toNat (v62)) ∧ hA h13 101 (Int.toNat (v62)) ≤ 2 := im_w I23.1.1 101 (by decide) (by decide) _
                    rw [e69] at g70
                    have y71 : (U (Int.toNat x)) (21 * (Int.toNat (v62)) + 1) = v68 := (L22.1 (Int.toNat (v62)) (by omega)).1.2.2.2.2.1.symm.trans e69
                    refine wq_al (p' := 196) (n := 12) (ck_198 _ _ rfl) rfl (ly_k I23.1.1.1 101 rfl) (by omega) (e69) ?_
                    refine av_wp_ret (v := some (.inl v68)) (ck_198 _ _ rfl) rfl rfl ?_
                    have q72 := (BRR_ye B21 e33 (by omega)).1
                    have q720 : (bgx U S ro x l y).2.2 = 9999 ∨ (0 ≤ (bgx U S ro x l y).2.2 ∧ (bgx U S ro x l y).2.2 < 9999) := bgn_0 (HBd_arr (RX.2.1 (Int.toNat x) (Int.toNat l) (by omega) (by omega)) (by omega) (by have := cbv_d (U (Int.toNat x)) (S (Int.toNat x)); omega))
                    have r73 : ((ro (Int.toNat l)) 12 = 0 ∧ rpx (U (Int.toNat x)) (ro (Int.toNat l)) (arr (U (Int.toNat x)) (ro (Int.toNat l)) (bxx U S (ro (Int.toNat l)) (Int.toNat x)) y) (S (Int.toNat x)) (bgx U S ro x l y) = (bgx U S ro x l y).2.2) ∨ ((ro (Int.toNat l)) 12 ≠ 0 ∧ rpx (U (Int.toNat x)) (ro (Int.toNat l)) (arr (U (Int.toNat x)) (ro (Int.toNat l)) (bxx U S (ro (Int.toNat l)) (Int.toNat x)) y) (S (Int.toNat x)) (bgx U S ro x l y) = rpv (U (Int.toNat x)) (ro (Int.toNat l)) (arr (U (Int.toNat x)) (ro (Int.toNat l)) (bxx U S (ro (Int.toNat l)) (Int.toNat x)) y) (bgx U S ro x l y).2.1 (S (Int.toNat x))) := by
                      unfold rpx
                      by_cases c : (ro (Int.toNat l)) 12 = 0
                      · exact Or.inl ⟨c, if_pos c⟩
                      · exact Or.inr ⟨c, if_neg c⟩
                    have r73k : (ro (Int.toNat l)) 12 ≠ 0 → Int.toNat k45 = S (Int.toNat x) := fun _ => by omega
                    have r73v : (ro (Int.toNat l)) 12 ≠ 0 → rpv (U (Int.toNat x)) (ro (Int.toNat l)) (arr (U (Int.toNat x)) (ro (Int.toNat l)) (bxx U S (ro (Int.toNat l)) (Int.toNat x)) y) (bgx U S ro x l y).2.1 (S (Int.toNat x)) = rpv (U (Int.toNat x)) (ro (Int.toNat l)) (arr (U (Int.toNat x)) (ro (Int.toNat l)) (bxx U S (ro (Int.toNat l)) (Int.toNat x)) y) (bgx U S ro x l y).2.1 (Int.toNat k45) := fun c => by rw [r73k c]
                    exact hq _ _ _ _ h13 (Or.inl ⟨by unfold okx; omega, by unfold bev; rw [if_neg q72, if_neg (by omega), y65]; exact y71.symm⟩) I23 F24
                  · have c61 : (0) ≤ k44 := c61
                    exfalso; omega
                · have c59 : (0) ≤ k44 := c59
                  refine av_wp_sqF ck_198 2 (pc' := 151) (lv' := [some (.inr (.inr (.inl (some (77))))), some (.inl x), some (.inl l), some (.inl y), some (.inl w), some (.inl k44), some (.inl k45), a46]) (st' := [.inr (.inr (.inl (some (77)))), .inl k44]) (h' := h13) rfl ?_
                  obtain ⟨v74, e75⟩ : ∃ v, hF h13 77 53 = v := ⟨_, rfl⟩
                  have y76 : (bgx U S ro x l y).2.2 = v74 := (BRR_ye B21 e33 (by omega)).2.2.2.symm.trans e75
                  have g77 := g31
                  rw [y76] at g77
                  refine wq_gi (p' := 154) (ck_198 _ _ rfl) rfl (congrArg Prod.fst (ly_k I23.1.1.1 77 rfl)) rfl (e75) ?_
                  refine wq_k2 (p' := 157) (ck_198 _ _ rfl) rfl ⟨by omega, by omega⟩ ⟨by omega, by omega⟩ (fun c78 => ?_) (fun c79 => ?_)
                  · have c78 : v74 ≤ k44 := c78
                    refine av_wp_sqF ck_198 1 (pc' := 165) (lv' := [some (.inr (.inr (.inl (some (77))))), some (.inl x), some (.inl l), some (.inl y), some (.inl w), some (.inl k44), some (.inl k45), a46]) (st' := [.inl k44]) (h' := h13) rfl ?_
                    refine wq_k1 (p' := 168) (ck_198 _ _ rfl) rfl ⟨by omega, by omega⟩ (fun c80 => ?_) (fun c81 => ?_)
                    · have c80 : k44 < (0) := c80
                      exfalso; omega
                    · have c81 : (0) ≤ k44 := c81
                      refine av_wp_sqF ck_198 2 (pc' := 172) (lv' := [some (.inr (.inr (.inl (some (77))))), some (.inl x), some (.inl l), some (.inl y), some (.inl w), some (.inl k44), some (.inl k45), a46]) (st' := [.inl k44, .inl w]) (h' := h13) rfl ?_
                      refine wq_k2 (p' := 175) (ck_198 _ _ rfl) rfl ⟨by omega, by omega⟩ ⟨by omega, by omega⟩ (fun c82 => ?_) (fun c83 => ?_)
                      · have c82 : w < k44 := c82
                        refine av_wp_sqF ck_198 1 (pc' := 188) (lv' := [some (.inr (.inr (.inl (some (77))))), some (.inl x), some (.inl l), some (.inl y), some (.inl w), some (.inl k44), some (.inl k45), a46]) (st' := [.inr (.inr (.inl (some (77))))]) (h' := h13) rfl ?_
                        refine wq_gr (p' := 191) (ck_198 _ _ rfl) rfl (congrArg Prod.fst (ly_k I23.1.1.1 77 rfl)) rfl (ly_g I23.1.1.1 77 35 101 rfl) ?_
                        refine av_wp_sqF ck_198 1 (pc' := 192) (lv' := [some (.inr (.inr (.inl (some (77))))), some (.inl x), some (.inl l), some (.inl y), some (.inl w), some (.inl k44), some (.inl k45), a46]) (st' := [.inr (.inr (.inl (some (77)))), .inr (.inr (.inl (some (101))))]) (h' := h13) rfl ?_
                        obtain ⟨v84, e85⟩ : ∃ v, hF h13 77 52 = v := ⟨_, rfl⟩
                        have g86 := im_of I23.1.1
                        rw [e85] at g86
                        have y87 : (bgx U S ro x l y).2.1 = v84 := (BRR_ye B21 e33 (by omega)).2.2.1.symm.trans e85
                        have q89 := (BRR_ye B21 e33 (by omega)).1
                        have b88 : ((bgx U S ro x l y).2.2 = 9999 ∧ (bgx U S ro x l y).1 = -1 ∧ (bgx U S ro x l y).2.1 = -1) ∨ ((bgx U S ro x l y).2.2 < 9999 ∧ (0 ≤ (bgx U S ro x l y).2.1 ∧ (bgx U S ro x l y).2.1 < (S (Int.toNat x) : Int) ∧ ofv (U (Int.toNat x)) (ro (Int.toNat l)) (Int.toNat (bgx U S ro x l y).2.1) ≠ 0) ∧ ((bgx U S ro x l y).1 = -1 ∨ (0 ≤ (bgx U S ro x l y).1 ∧ (bgx U S ro x l y).1 < (S (Int.toNat x) : Int) ∧ ysv (U (Int.toNat x)) (ro (Int.toNat l)) (Int.toNat (bgx U S ro x l y).1) ≠ 0))) := bgn_f
                        have b88a := (b88.elim (fun z => absurd z.1 q89) (fun z => z.2.1))
                        have b88b : 0 ≤ v84 ∧ v84 < (S (Int.toNat x) : Int) := by omega
                        clear b88
                        refine wq_gi (p' := 195) (ck_198 _ _ rfl) rfl (congrArg Prod.fst (ly_k I23.1.1.1 77 rfl)) rfl (e85) ?_
                        obtain ⟨v90, e91⟩ : ∃ v, hA h13 101 (Int.toNat (v84)) = v := ⟨_, rfl⟩
                        have g92 : 0 ≤ hA h13 101 (Int.toNat (v84)) ∧ hA h13 101 (Int.toNat (v84)) ≤ 2 := im_w I23.1.1 101 (by decide) (by decide) _
                        rw [e91] at g92
                        have y93 : (U (Int.toNat x)) (21 * (Int.toNat (v84)) + 1) = v90 := (L22.1 (Int.toNat (v84)) (by omega)).1.2.2.2.2.1.symm.trans e91
                        refine wq_al (p' := 196) (n := 12) (ck_198 _ _ rfl) rfl (ly_k I23.1.1.1 101 rfl) (by omega) (e91) ?_
                        refine av_wp_ret (v := some (.inl v90)) (ck_198 _ _ rfl) rfl rfl ?_
                        have q94 := (BRR_ye B21 e33 (by omega)).1
                        have q940 : (bgx U S ro x l y).2.2 = 9999 ∨ (0 ≤ (bgx U S ro x l y).2.2 ∧ (bgx U S ro x l y).2.2 < 9999) := bgn_0 (HBd_arr (RX.2.1 (Int.toNat x) (Int.toNat l) (by omega) (by omega)) (by omega) (by have := cbv_d (U (Int.toNat x)) (S (Int.toNat x)); omega))
                        have r95 : ((ro (Int.toNat l)) 12 = 0 ∧ rpx (U (Int.toNat x)) (ro (Int.toNat l)) (arr (U (Int.toNat x)) (ro (Int.toNat l)) (bxx U S (ro (Int.toNat l)) (Int.toNat x)) y) (S (Int.toNat x)) (bgx U S ro x l y) = (bgx U S ro x l y).2.2) ∨ ((ro (Int.toNat l)) 12 ≠ 0 ∧ rpx (U (Int.toNat x)) (ro (Int.toNat l)) (arr (U (Int.toNat x)) (ro (Int.toNat l)) (bxx U S (ro (Int.toNat l)) (Int.toNat x)) y) (S (Int.toNat x)) (bgx U S ro x l y) = rpv (U (Int.toNat x)) (ro (Int.toNat l)) (arr (U (Int.toNat x)) (ro (Int.toNat l)) (bxx U S (ro (Int.toNat l)) (Int.toNat x)) y) (bgx U S ro x l y).2.1 (S (Int.toNat x))) := by
                          unfold rpx
                          by_cases c : (ro (Int.toNat l)) 12 = 0
                          · exact Or.inl ⟨c, if_pos c⟩
                          · exact Or.inr ⟨c, if_neg c⟩
                        have r95k : (ro (Int.toNat l)) 12 ≠ 0 → Int.toNat k45 = S (Int.toNat x) := fun _ => by omega
                        have r95v : (ro (Int.toNat l)) 12 ≠ 0 → rpv (U (Int.toNat x)) (ro (Int.toNat l)) (arr (U (Int.toNat x)) (ro (Int.toNat l)) (bxx U S (ro (Int.toNat l)) (Int.toNat x)) y) (bgx U S ro x l y).2.1 (S (Int.toNat x)) = rpv (U (Int.toNat x)) (ro (Int.toNat l)) (arr (U (Int.toNat x)) (ro (Int.toNat l)) (bxx U S (ro (Int.toNat l)) (Int.toNat x)) y) (bgx U S ro x l y).2.1 (Int.toNat k45) := fun c => by rw [r95k c]
                        exact hq _ _ _ _ h13 (Or.inl ⟨by unfold okx; omega, by unfold bev; rw [if_neg q94, if_neg (by omega), y87]; exact y93.symm⟩) I23 F24
                      · have c83 : k44 ≤ w := c83
                        refine av_wp_sqF ck_198 1 (pc' := 176) (lv' := [some (.inr (.inr (.inl (some (77))))), some (.inl x), some (.inl l), some (.inl y), some (.inl w), some (.inl k44), some (.inl k45), a46]) (st' := [.inr (.inr (.inl (some (77))))]) (h' := h13) rfl ?_
                        refine wq_gr (p' := 179) (ck_198 _ _ rfl) rfl (congrArg Prod.fst (ly_k I23.1.1.1 77 rfl)) rfl (ly_g I23.1.1.1 77 36 102 rfl) ?_
                        refine av_wp_sqF ck_198 1 (pc' := 180) (lv' := [some (.inr (.inr (.inl (some (77))))), some (.inl x), some (.inl l), some (.inl y), some (.inl w), some (.inl k44), some (.inl k45), a46]) (st' := [.inr (.inr (.inl (some (77)))), .inr (.inr (.inl (some (102))))]) (h' := h13) rfl ?_
                        obtain ⟨v96, e97⟩ : ∃ v, hF h13 77 52 = v := ⟨_, rfl⟩
                        have g98 := im_of I23.1.1
                        rw [e97] at g98
                        have y99 : (bgx U S ro x l y).2.1 = v96 := (BRR_ye B21 e33 (by omega)).2.2.1.symm.trans e97
                        have q101 := (BRR_ye B21 e33 (by omega)).1
                        have b100 : ((bgx U S ro x l y).2.2 = 9999 ∧ (bgx U S ro x l y).1 = -1 ∧ (bgx U S ro x l y).2.1 = -1) ∨ ((bgx U S ro x l y).2.2 < 9999 ∧ (0 ≤ (bgx U S ro x l y).2.1 ∧ (bgx U S ro x l y).2.1 < (S (Int.toNat x) : Int) ∧ ofv (U (Int.toNat x)) (ro (Int.toNat l)) (Int.toNat (bgx U S ro x l y).2.1) ≠ 0) ∧ ((bgx U S ro x l y).1 = -1 ∨ (0 ≤ (bgx U S ro x l y).1 ∧ (bgx U S ro x l y).1 < (S (Int.toNat x) : Int) ∧ ysv (U (Int.toNat x)) (ro (Int.toNat l)) (Int.toNat (bgx U S ro x l y).1) ≠ 0))) := bgn_f
                        have b100a := (b100.elim (fun z => absurd z.1 q101) (fun z => z.2.1))
                        have b100b : 0 ≤ v96 ∧ v96 < (S (Int.toNat x) : Int) := by omega
                        clear b100
                        refine wq_gi (p' := 183) (ck_198 _ _ rfl) rfl (congrArg Prod.fst (ly_k I23.1.1.1 77 rfl)) rfl (e97) ?_
                        obtain ⟨v102, e103⟩ : ∃ v, hA h13 102 (Int.toNat (v96)) = v := ⟨_, rfl⟩
                        have g104 : -1 ≤ hA h13 102 (Int.toNat (v96)) ∧ hA h13 102 (Int.toNat (v96)) ≤ 2 := im_w I23.1.1 102 (by decide) (by decide) _
                        rw [e103] at g104
                        have y105 : (U (Int.toNat x)) (21 * (Int.toNat (v96)) + 2) = v102 := (L22.1 (Int.toNat (v96)) (by omega)).1.2.2.2.2.2.1.symm.trans e103
                        refine wq_al (p' := 184) (n := 12) (ck_198 _ _ rfl) rfl (ly_k I23.1.1.1 102 rfl) (by omega) (e103) ?_
                        refine av_wp_sqF ck_198 1 (pc' := 196) (lv' := [some (.inr (.inr (.inl (some (77))))), some (.inl x), some (.inl l), some (.inl y), some (.inl w), some (.inl k44), some (.inl k45), a46]) (st' := [.inl v102]) (h' := h13) rfl ?_
                        refine av_wp_ret (v := some (.inl v102)) (ck_198 _ _ rfl) rfl rfl ?_
                        have q106 := (BRR_ye B21 e33 (by omega)).1
                        have q1060 : (bgx U S ro x l y).2.2 = 9999 ∨ (0 ≤ (bgx U S ro x l y).2.2 ∧ (bgx U S ro x l y).2.2 < 9999) := bgn_0 (HBd_arr (RX.2.1 (Int.toNat x) (Int.toNat l) (by omega) (by omega)) (by omega) (by have := cbv_d (U (Int.toNat x)) (S (Int.toNat x)); omega))
                        have r107 : ((ro (Int.toNat l)) 12 = 0 ∧ rpx (U (Int.toNat x)) (ro (Int.toNat l)) (arr (U (Int.toNat x)) (ro (Int.toNat l)) (bxx U S (ro (Int.toNat l)) (Int.toNat x)) y) (S (Int.toNat x)) (bgx U S ro x l y) = (bgx U S ro x l y).2.2) ∨ ((ro (Int.toNat l)) 12 ≠ 0 ∧ rpx (U (Int.toNat x)) (ro (Int.toNat l)) (arr (U (Int.toNat x)) (ro (Int.toNat l)) (bxx U S (ro (Int.toNat l)) (Int.toNat x)) y) (S (Int.toNat x)) (bgx U S ro x l y) = rpv (U (Int.toNat x)) (ro (Int.toNat l)) (arr (U (Int.toNat x)) (ro (Int.toNat l)) (bxx U S (ro (Int.toNat l)) (Int.toNat x)) y) (bgx U S ro x l y).2.1 (S (Int.toNat x))) := by
                          unfold rpx
                          by_cases c : (ro (Int.toNat l)) 12 = 0
                          · exact Or.inl ⟨c, if_pos c⟩
                          · exact Or.inr ⟨c, if_neg c⟩
                        have r107k : (ro (Int.toNat l)) 12 ≠ 0 → Int.toNat k45 = S (Int.toNat x) := fun _ => by omega
                        have r107v : (ro (Int.toNat l)) 12 ≠ 0 → rpv (U (Int.toNat x)) (ro (Int.toNat l)) (arr (U (Int.toNat x)) (ro (Int.toNat l)) (bxx U S (ro (Int.toNat l)) (Int.toNat x)) y) (bgx U S ro x l y).2.1 (S (Int.toNat x)) = rpv (U (Int.toNat x)) (ro (Int.toNat l)) (arr (U (Int.toNat x)) (ro (Int.toNat l)) (bxx U S (ro (Int.toNat l)) (Int.toNat x)) y) (bgx U S ro x l y).2.1 (Int.toNat k45) := fun c => by rw [r107k c]
                        exact hq _ _ _ _ h13 (Or.inl ⟨by unfold okx; omega, by unfold bev; rw [if_neg q106, if_pos (by omega), y99]; exact y105.symm⟩) I23 F24
                  · have c79 : k44 < v74 := c79
                    refine av_wp_sqF ck_198 1 (pc' := 158) (lv' := [some (.inr (.inr (.inl (some (77))))), some (.inl x), some (.inl l), some (.inl y), some (.inl w), some (.inl k44), some (.inl k45), a46]) (st' := [.inr (.inr (.inl (some (77))))]) (h' := h13) rfl ?_
                    obtain ⟨v108, e109⟩ : ∃ v, hF h13 77 53 = v := ⟨_, rfl⟩
                    have y110 : (bgx U S ro x l y).2.2 = v108 := (BRR_ye B21 e33 (by omega)).2.2.2.symm.trans e109
                    have g111 := g31
                    rw [y110] at g111
                    refine wq_gi (p' := 161) (ck_198 _ _ rfl) rfl (congrArg Prod.fst (ly_k I23.1.1.1 77 rfl)) rfl (e109) ?_
                    refine av_wp_sqF ck_198 2 (pc' := 165) (lv' := [some (.inr (.inr (.inl (some (77))))), some (.inl x), some (.inl l), some (.inl y), some (.inl w), some (.inl v108), some (.inl k45), a46]) (st' := [.inl v108]) (h' := h13) rfl ?_
                    refine wq_k1 (p' := 168) (ck_198 _ _ rfl) rfl ⟨by omega, by omega⟩ (fun c112 => ?_) (fun c113 => ?_)
                    · have c112 : v108 < (0) := c112
                      refine av_wp_sqF ck_198 1 (pc' := 188) (lv' := [some (.inr (.inr (.inl (some (77))))), some (.inl x), some (.inl l), some (.inl y), some (.inl w), some (.inl v108), some (.inl k45), a46]) (st' := [.inr (.inr (.inl (some (77))))]) (h' := h13) rfl ?_
                      refine wq_gr (p' := 191) (ck_198 _ _ rfl) rfl (congrArg Prod.fst (ly_k I23.1.1.1 77 rfl)) rfl (ly_g I23.1.1.1 77 35 101 rfl) ?_
                      refine av_wp_sqF ck_198 1 (pc' := 192) (lv' := [some (.inr (.inr (.inl (some (77))))), some (.inl x), some (.inl l), some (.inl y), some (.inl w), some (.inl v108), some (.inl k45), a46]) (st' := [.inr (.inr (.inl (some (77)))), .inr (.inr (.inl (some (101))))]) (h' := h13) rfl ?_
                      obtain ⟨v114, e115⟩ : ∃ v, hF h13 77 52 = v := ⟨_, rfl⟩
                      have g116 := im_of I23.1.1
                      rw [e115] at g116
                      have y117 : (bgx U S ro x l y).2.1 = v114 := (BRR_ye B21 e33 (by omega)).2.2.1.symm.trans e115
                      have q119 := (BRR_ye B21 e33 (by omega)).1
                      have b118 : ((bgx U S ro x l y).2.2 = 9999 ∧ (bgx U S ro x l y).1 = -1 ∧ (bgx U S ro x l y).2.1 = -1) ∨ ((bgx U S ro x l y).2.2 < 9999 ∧ (0 ≤ (bgx U S ro x l y).2.1 ∧ (bgx U S ro x l y).2.1 < (S (Int.toNat x) : Int) ∧ ofv (U (Int.toNat x)) (ro (Int.toNat l)) (Int.toNat (bgx U S ro x l y).2.1) ≠ 0) ∧ ((bgx U S ro x l y).1 = -1 ∨ (0 ≤ (bgx U S ro x l y).1 ∧ (bgx U S ro x l y).1 < (S (Int.toNat x) : Int) ∧ ysv (U (Int.toNat x)) (ro (Int.toNat l)) (Int.toNat (bgx U S ro x l y).1) ≠ 0))) := bgn_f
                      have b118a := (b118.elim (fun z => absurd z.1 q119) (fun z => z.2.1))
                      have b118b : 0 ≤ v114 ∧ v114 < (S (Int.toNat x) : Int) := by omega
                      clear b118
                      refine wq_gi (p' := 195) (ck_198 _ _ rfl) rfl (congrArg Prod.fst (ly_k I23.1.1.1 77 rfl)) rfl (e115) ?_
                      obtain ⟨v120, e121⟩ : ∃ v, hA h13 101 (Int.toNat (v114)) = v := ⟨_, rfl⟩
                      have g122 : 0 ≤ hA h13 101 (Int.toNat (v114)) ∧ hA h13 101 (Int.toNat (v114)) ≤ 2 := im_w I23.1.1 101 (by decide) (by decide) _
                      rw [e121] at g122
                      have y123 : (U (Int.toNat x)) (21 * (Int.toNat (v114)) + 1) = v120 := (L22.1 (Int.toNat (v114)) (by omega)).1.2.2.2.2.1.symm.trans e121
                      refine wq_al (p' := 196) (n := 12) (ck_198 _ _ rfl) rfl (ly_k I23.1.1.1 101 rfl) (by omega) (e121) ?_
                      refine av_wp_ret (v := some (.inl v120)) (ck_198 _ _ rfl) rfl rfl ?_
                      have q124 := (BRR_ye B21 e33 (by omega)).1
                      have q1240 : (bgx U S ro x l y).2.2 = 9999 ∨ (0 ≤ (bgx U S ro x l y).2.2 ∧ (bgx U S ro x l y).2.2 < 9999) := bgn_0 (HBd_arr (RX.2.1 (Int.toNat x) (Int.toNat l) (by omega) (by omega)) (by omega) (by have := cbv_d (U (Int.toNat x)) (S (Int.toNat x)); omega))
                      have r125 : ((ro (Int.toNat l)) 12 = 0 ∧ rpx (U (Int.toNat x)) (ro (Int.toNat l)) (arr (U (Int.toNat x)) (ro (Int.toNat l)) (bxx U S (ro (Int.toNat l)) (Int.toNat x)) y) (S (Int.toNat x)) (bgx U S ro x l y) = (bgx U S ro x l y).2.2) ∨ ((ro (Int.toNat l)) 12 ≠ 0 ∧ rpx (U (Int.toNat x)) (ro (Int.toNat l)) (arr (U (Int.toNat x)) (ro (Int.toNat l)) (bxx U S (ro (Int.toNat l)) (Int.toNat x)) y) (S (Int.toNat x)) (bgx U S ro x l y) = rpv (U (Int.toNat x)) (ro (Int.toNat l)) (arr (U (Int.toNat x)) (ro (Int.toNat l)) (bxx U S (ro (Int.toNat l)) (Int.toNat x)) y) (bgx U S ro x l y).2.1 (S (Int.toNat x))) := by
                        unfold rpx
                        by_cases c : (ro (Int.toNat l)) 12 = 0
                        · exact Or.inl ⟨c, if_pos c⟩
                        · exact Or.inr ⟨c, if_neg c⟩
                      have r125k : (ro (Int.toNat l)) 12 ≠ 0 → Int.toNat k45 = S (Int.toNat x) := fun _ => by omega
                      have r125v : (ro (Int.toNat l)) 12 ≠ 0 → rpv (U (Int.toNat x)) (ro (Int.toNat l)) (arr (U (Int.toNat x)) (ro (Int.toNat l)) (bxx U S (ro (Int.toNat l)) (Int.toNat x)) y) (bgx U S ro x l y).2.1 (S (Int.toNat x)) = rpv (U (Int.toNat x)) (ro (Int.toNat l)) (arr (U (Int.toNat x)) (ro (Int.toNat l)) (bxx U S (ro (Int.toNat l)) (Int.toNat x)) y) (bgx U S ro x l y).2.1 (Int.toNat k45) := fun c => by rw [r125k c]
                      exact hq _ _ _ _ h13 (Or.inl ⟨by unfold okx; omega, by unfold bev; rw [if_neg q124, if_neg (by omega), y117]; exact y123.symm⟩) I23 F24
                    · have c113 : (0) ≤ v108 := c113
                      refine av_wp_sqF ck_198 2 (pc' := 172) (lv' := [some (.inr (.inr (.inl (some (77))))), some (.inl x), some (.inl l), some (.inl y), some (.inl w), some (.inl v108), some (.inl k45), a46]) (st' := [.inl v108, .inl w]) (h' := h13) rfl ?_
                      refine wq_k2 (p' := 175) (ck_198 _ _ rfl) rfl ⟨by omega, by omega⟩ ⟨by omega, by omega⟩ (fun c126 => ?_) (fun c127 => ?_)
                      · have c126 : w < v108 := c126
                        refine av_wp_sqF ck_198 1 (pc' := 188) (lv' := [some (.inr (.inr (.inl (some (77))))), some (.inl x), some (.inl l), some (.inl y), some (.inl w), some (.inl v108), some (.inl k45), a46]) (st' := [.inr (.inr (.inl (some (77))))]) (h' := h13) rfl ?_
                        refine wq_gr (p' := 191) (ck_198 _ _ rfl) rfl (congrArg Prod.fst (ly_k I23.1.1.1 77 rfl)) rfl (ly_g I23.1.1.1 77 35 101 rfl) ?_
                        refine av_wp_sqF ck_198 1 (pc' := 192) (lv' := [some (.inr (.inr (.inl (some (77))))), some (.inl x), some (.inl l), some (.inl y), some (.inl w), some (.inl v108), some (.inl k45), a46]) (st' := [.inr (.inr (.inl (some (77)))), .inr (.inr (.inl (some (101))))]) (h' := h13) rfl ?_
                        obtain ⟨v128, e129⟩ : ∃ v, hF h13 77 52 = v := ⟨_, rfl⟩
                        have g130 := im_of I23.1.1
                        rw [e129] at g130
                        have y131 : (bgx U S ro x l y).2.1 = v128 := (BRR_ye B21 e33 (by omega)).2.2.1.symm.trans e129
                        have q133 := (BRR_ye B21 e33 (by omega)).1
                        have b132 : ((bgx U S ro x l y).2.2 = 9999 ∧ (bgx U S ro x l y).1 = -1 ∧ (bgx U S ro x l y).2.1 = -1) ∨ ((bgx U S ro x l y).2.2 < 9999 ∧ (0 ≤ (bgx U S ro x l y).2.1 ∧ (bgx U S ro x l y).2.1 < (S (Int.toNat x) : Int) ∧ ofv (U (Int.toNat x)) (ro (Int.toNat l)) (Int.toNat (bgx U S ro x l y).2.1) ≠ 0) ∧ ((bgx U S ro x l y).1 = -1 ∨ (0 ≤ (bgx U S ro x l y).1 ∧ (bgx U S ro x l y).1 < (S (Int.toNat x) : Int) ∧ ysv (U (Int.toNat x)) (ro (Int.toNat l)) (Int.toNat (bgx U S ro x l y).1) ≠ 0))) := bgn_f
                        have b132a := (b132.elim (fun z => absurd z.1 q133) (fun z => z.2.1))
                        have b132b : 0 ≤ v128 ∧ v128 < (S (Int.toNat x) : Int) := by omega
                        clear b132
                        refine wq_gi (p' := 195) (ck_198 _ _ rfl) rfl (congrArg Prod.fst (ly_k I23.1.1.1 77 rfl)) rfl (e129) ?_
                        obtain ⟨v134, e135⟩ : ∃ v, hA h13 101 (Int.toNat (v128)) = v := ⟨_, rfl⟩
                        have g136 : 0 ≤ hA h13 101 (Int.toNat (v128)) ∧ hA h13 101 (Int.toNat (v128)) ≤ 2 := im_w I23.1.1 101 (by decide) (by decide) _
                        rw [e135] at g136
                        have y137 : (U (Int.toNat x)) (21 * (Int.toNat (v128)) + 1) = v134 := (L22.1 (Int.toNat (v128)) (by omega)).1.2.2.2.2.1.symm.trans e135
                        refine wq_al (p' := 196) (n := 12) (ck_198 _ _ rfl) rfl (ly_k I23.1.1.1 101 rfl) (by omega) (e135) ?_
                        refine av_wp_ret (v := some (.inl v134)) (ck_198 _ _ rfl) rfl rfl ?_
                        have q138 := (BRR_ye B21 e33 (by omega)).1
                        have q1380 : (bgx U S ro x l y).2.2 = 9999 ∨ (0 ≤ (bgx U S ro x l y).2.2 ∧ (bgx U S ro x l y).2.2 < 9999) := bgn_0 (HBd_arr (RX.2.1 (Int.toNat x) (Int.toNat l) (by omega) (by omega)) (by omega) (by have := cbv_d (U (Int.toNat x)) (S (Int.toNat x)); omega))
                        have r139 : ((ro (Int.toNat l)) 12 = 0 ∧ rpx (U (Int.toNat x)) (ro (Int.toNat l)) (arr (U (Int.toNat x)) (ro (Int.toNat l)) (bxx U S (ro (Int.toNat l)) (Int.toNat x)) y) (S (Int.toNat x)) (bgx U S ro x l y) = (bgx U S ro x l y).2.2) ∨ ((ro (Int.toNat l)) 12 ≠ 0 ∧ rpx (U (Int.toNat x)) (ro (Int.toNat l)) (arr (U (Int.toNat x)) (ro (Int.toNat l)) (bxx U S (ro (Int.toNat l)) (Int.toNat x)) y) (S (Int.toNat x)) (bgx U S ro x l y) = rpv (U (Int.toNat x)) (ro (Int.toNat l)) (arr (U (Int.toNat x)) (ro (Int.toNat l)) (bxx U S (ro (Int.toNat l)) (Int.toNat x)) y) (bgx U S ro x l y).2.1 (S (Int.toNat x))) := by
                          unfold rpx
                          by_cases c : (ro (Int.toNat l)) 12 = 0
                          · exact Or.inl ⟨c, if_pos c⟩
                          · exact Or.inr ⟨c, if_neg c⟩
                        have r139k : (ro (Int.toNat l)) 12 ≠ 0 → Int.toNat k45 = S (Int.toNat x) := fun _ => by omega
                        have r139v : (ro (Int.toNat l)) 12 ≠ 0 → rpv (U (Int.toNat x)) (ro (Int.toNat l)) (arr (U (Int.toNat x)) (ro (Int.toNat l)) (bxx U S (ro (Int.toNat l)) (Int.toNat x)) y) (bgx U S ro x l y).2.1 (S (Int.toNat x)) = rpv (U (Int.toNat x)) (ro (Int.toNat l)) (arr (U (Int.toNat x)) (ro (Int.toNat l)) (bxx U S (ro (Int.toNat l)) (Int.toNat x)) y) (bgx U S ro x l y).2.1 (Int.toNat k45) := fun c => by rw [r139k c]
                        exact hq _ _ _ _ h13 (Or.inl ⟨by unfold okx; omega, by unfold bev; rw [if_neg q138, if_neg (by omega), y131]; exact y137.symm⟩) I23 F24
                      · have c127 : v108 ≤ w := c127
                        refine av_wp_sqF ck_198 1 (pc' := 176) (lv' := [some (.inr (.inr (.inl (some (77))))), some (.inl x), some (.inl l), some (.inl y), some (.inl w), some (.inl v108), some (.inl k45), a46]) (st' := [.inr (.inr (.inl (some (77))))]) (h' := h13) rfl ?_
                        refine wq_gr (p' := 179) (ck_198 _ _ rfl) rfl (congrArg Prod.fst (ly_k I23.1.1.1 77 rfl)) rfl (ly_g I23.1.1.1 77 36 102 rfl) ?_
                        refine av_wp_sqF ck_198 1 (pc' := 180) (lv' := [some (.inr (.inr (.inl (some (77))))), some (.inl x), some (.inl l), some (.inl y), some (.inl w), some (.inl v108), some (.inl k45), a46]) (st' := [.inr (.inr (.inl (some (77)))), .inr (.inr (.inl (some (102))))]) (h' := h13) rfl ?_
                        obtain ⟨v140, e141⟩ : ∃ v, hF h13 77 52 = v := ⟨_, rfl⟩
                        have g142 := im_of I23.1.1
                        rw [e141] at g142
                        have y143 : (bgx U S ro x l y).2.1 = v140 := (BRR_ye B21 e33 (by omega)).2.2.1.symm.trans e141
                        have q145 := (BRR_ye B21 e33 (by omega)).1
                        have b144 : ((bgx U S ro x l y).2.2 = 9999 ∧ (bgx U S ro x l y).1 = -1 ∧ (bgx U S ro x l y).2.1 = -1) ∨ ((bgx U S ro x l y).2.2 < 9999 ∧ (0 ≤ (bgx U S ro x l y).2.1 ∧ (bgx U S ro x l y).2.1 < (S (Int.toNat x) : Int) ∧ ofv (U (Int.toNat x)) (ro (Int.toNat l)) (Int.toNat (bgx U S ro x l y).2.1) ≠ 0) ∧ ((bgx U S ro x l y).1 = -1 ∨ (0 ≤ (bgx U S ro x l y).1 ∧ (bgx U S ro x l y).1 < (S (Int.toNat x) : Int) ∧ ysv (U (Int.toNat x)) (ro (Int.toNat l)) (Int.toNat (bgx U S ro x l y).1) ≠ 0))) := bgn_f
                        have b144a := (b144.elim (fun z => absurd z.1 q145) (fun z => z.2.1))
                        have b144b : 0 ≤ v140 ∧ v140 < (S (Int.toNat x) : Int) := by omega
                        clear b144
                        refine wq_gi (p' := 183) (ck_198 _ _ rfl) rfl (congrArg Prod.fst (ly_k I23.1.1.1 77 rfl)) rfl (e141) ?_
                        obtain ⟨v146, e147⟩ : ∃ v, hA h13 102 (Int.toNat (v140)) = v := ⟨_, rfl⟩
                        have g148 : -1 ≤ hA h13 102 (Int.toNat (v140)) ∧ hA h13 102 (Int.toNat (v140)) ≤ 2 := im_w I23.1.1 102 (by decide) (by decide) _
                        rw [e147] at g148
                        have y149 : (U (Int.toNat x)) (21 * (Int.toNat (v140)) + 2) = v146 := (L22.1 (Int.toNat (v140)) (by omega)).1.2.2.2.2.2.1.symm.trans e147
                        refine wq_al (p' := 184) (n := 12) (ck_198 _ _ rfl) rfl (ly_k I23.1.1.1 102 rfl) (by omega) (e147) ?_
                        refine av_wp_sqF ck_198 1 (pc' := 196) (lv' := [some (.inr (.inr (.inl (some (77))))), some (.inl x), some (.inl l), some (.inl y), some (.inl w), some (.inl v108), some (.inl k45), a46]) (st' := [.inl v146]) (h' := h13) rfl ?_
                        refine av_wp_ret (v := some (.inl v146)) (ck_198 _ _ rfl) rfl rfl ?_
                        have q150 := (BRR_ye B21 e33 (by omega)).1
                        have q1500 : (bgx U S ro x l y).2.2 = 9999 ∨ (0 ≤ (bgx U S ro x l y).2.2 ∧ (bgx U S ro x l y).2.2 < 9999) := bgn_0 (HBd_arr (RX.2.1 (Int.toNat x) (Int.toNat l) (by omega) (by omega)) (by omega) (by have := cbv_d (U (Int.toNat x)) (S (Int.toNat x)); omega))
                        have r151 : ((ro (Int.toNat l)) 12 = 0 ∧ rpx (U (Int.toNat x)) (ro (Int.toNat l)) (arr (U (Int.toNat x)) (ro (Int.toNat l)) (bxx U S (ro (Int.toNat l)) (Int.toNat x)) y) (S (Int.toNat x)) (bgx U S ro x l y) = (bgx U S ro x l y).2.2) ∨ ((ro (Int.toNat l)) 12 ≠ 0 ∧ rpx (U (Int.toNat x)) (ro (Int.toNat l)) (arr (U (Int.toNat x)) (ro (Int.toNat l)) (bxx U S (ro (Int.toNat l)) (Int.toNat x)) y) (S (Int.toNat x)) (bgx U S ro x l y) = rpv (U (Int.toNat x)) (ro (Int.toNat l)) (arr (U (Int.toNat x)) (ro (Int.toNat l)) (bxx U S (ro (Int.toNat l)) (Int.toNat x)) y) (bgx U S ro x l y).2.1 (S (Int.toNat x))) := by
                          unfold rpx
                          by_cases c : (ro (Int.toNat l)) 12 = 0
                          · exact Or.inl ⟨c, if_pos c⟩
                          · exact Or.inr ⟨c, if_neg c⟩
                        have r151k : (ro (Int.toNat l)) 12 ≠ 0 → Int.toNat k45 = S (Int.toNat x) := fun _ => by omega
                        have r151v : (ro (Int.toNat l)) 12 ≠ 0 → rpv (U (Int.toNat x)) (ro (Int.toNat l)) (arr (U (Int.toNat x)) (ro (Int.toNat l)) (bxx U S (ro (Int.toNat l)) (Int.toNat x)) y) (bgx U S ro x l y).2.1 (S (Int.toNat x)) = rpv (U (Int.toNat x)) (ro (Int.toNat l)) (arr (U (Int.toNat x)) (ro (Int.toNat l)) (bxx U S (ro (Int.toNat l)) (Int.toNat x)) y) (bgx U S ro x l y).2.1 (Int.toNat k45) := fun c => by rw [r151k c]
                        exact hq _ _ _ _ h13 (Or.inl ⟨by unfold okx; omega, by unfold bev; rw [if_neg q150, if_pos (by omega), y143]; exact y149.symm⟩) I23 F24
              · have c57 : k45 < n10 := c57
                refine av_wp_sqF ck_198 1 (pc' := 60) (lv' := [some (.inr (.inr (.inl (some (77))))), some (.inl x), some (.inl l), some (.inl y), some (.inl w), some (.inl k44), some (.inl k45), a46]) (st' := [.inr (.inr (.inl (some (77))))]) (h' := h13) rfl ?_
                refine wq_gr (p' := 63) (ck_198 _ _ rfl) rfl (congrArg Prod.fst (ly_k I23.1.1.1 77 rfl)) rfl (ly_g I23.1.1.1 77 26 95 rfl) ?_
                refine av_wp_sqF ck_198 1 (pc' := 65) (lv' := [some (.inr (.inr (.inl (some (77))))), some (.inl x), some (.inl l), some (.inl y), some (.inl w), some (.inl k44), some (.inl k45), a46]) (st' := [.inl (12), .inr (.inr (.inl (some (95))))]) (h' := h13) rfl ?_
                obtain ⟨v152, e153⟩ : ∃ v, hA h13 95 (Int.toNat ((12))) = v := ⟨_, rfl⟩
                have y155 : (ro (Int.toNat l)) 12 = v152 := (L22.2 12 (by omega)).symm.trans e153
                have g156 := rl_12 (RX.2.1 (Int.toNat x) (Int.toNat l) (by omega) (by omega)).2.1
                rw [y155] at g156
                refine wq_al (p' := 66) (n := 13) (ck_198 _ _ rfl) rfl (ly_k I23.1.1.1 95 rfl) (by omega) (e153) ?_
                refine wq_k1 (p' := 69) (ck_198 _ _ rfl) rfl ⟨by omega, by omega⟩ (fun c157 => ?_) (fun c158 => ?_)
                · have c157 : v152 ≤ (0) := c157
                  exfalso; omega
                · have c158 : (0) < v152 := c158
                  refine av_wp_sqF ck_198 1 (pc' := 70) (lv' := [some (.inr (.inr (.inl (some (77))))), some (.inl x), some (.inl l), some (.inl y), some (.inl w), some (.inl k44), some (.inl k45), a46]) (st' := [.inr (.inr (.inl (some (77))))]) (h' := h13) rfl ?_
                  refine wq_gr (p' := 73) (ck_198 _ _ rfl) rfl (congrArg Prod.fst (ly_k I23.1.1.1 77 rfl)) rfl (ly_g I23.1.1.1 77 30 96 rfl) ?_
                  refine av_wp_sqF ck_198 1 (pc' := 75) (lv' := [some (.inr (.inr (.inl (some (77))))), some (.inl x), some (.inl l), some (.inl y), some (.inl w), some (.inl k44), some (.inl k45), a46]) (st' := [.inl k45, .inr (.inr (.inl (some (96))))]) (h' := h13) rfl ?_
                  obtain ⟨v159, e160⟩ : ∃ v, hA h13 96 (Int.toNat (k45)) = v := ⟨_, rfl⟩
                  have g161 : 0 ≤ hA h13 96 (Int.toNat (k45)) ∧ hA h13 96 (Int.toNat (k45)) ≤ 7 := im_w I23.1.1 96 (by decide) (by decide) _
                  rw [e160] at g161
                  have y162 : (U (Int.toNat x)) (21 * (Int.toNat (k45)) + 0) = v159 := (L22.1 (Int.toNat (k45)) (by omega)).1.1.symm.trans e160
                  refine wq_al (p' := 76) (n := 12) (ck_198 _ _ rfl) rfl (ly_k I23.1.1.1 96 rfl) (by omega) (e160) ?_
                  refine av_wp_sqF ck_198 1 (pc' := 78) (lv' := [some (.inr (.inr (.inl (some (77))))), some (.inl x), some (.inl l), some (.inl y), some (.inl w), some (.inl k44), some (.inl k45), a46]) (st' := [.inl (7), .inl v159]) (h' := h13) rfl ?_
                  refine wq_k2 (p' := 81) (ck_198 _ _ rfl) rfl ⟨by omega, by omega⟩ ⟨by omega, by omega⟩ (fun c163 => ?_) (fun c164 => ?_)
                  · have c163 : v159 ≠ (7) := c163
                    refine av_wp_sqF ck_198 6 (pc' := 50) (lv' := [some (.inr (.inr (.inl (some (77))))), some (.inl x), some (.inl l), some (.inl y), some (.inl w), some (.inl k44), some (.inl (k45 + (1))), some (.inl (-1))]) (st' := []) (h' := h13) rfl ?_
                    exact I49 _ (by omega) (k44) ((k45 + (1))) (some (.inl (-1))) rfl (by rw [show Int.toNat (k45 + (1)) = Int.toNat k45 + 1 by omega, rpv_n y162 (by omega)]; omega) (by omega) (by omega) (by omega) rfl
                  · have c164 : v159 = (7) := c164
                    refine av_wp_sqF ck_198 1 (pc' := 82) (lv' := [some (.inr (.inr (.inl (some (77))))), some (.inl x), some (.inl l), some (.inl y), some (.inl w), some (.inl k44), some (.inl k45), a46]) (st' := [.inr (.inr (.inl (some (77))))]) (h' := h13) rfl ?_
                    refine wq_gr (p' := 85) (ck_198 _ _ rfl) rfl (congrArg Prod.fst (ly_k I23.1.1.1 77 rfl)) rfl (ly_g I23.1.1.1 77 34 100 rfl) ?_
                    refine av_wp_sqF ck_198 1 (pc' := 87) (lv' := [some (.inr (.inr (.inl (some (77))))), some (.inl x), some (.inl l), some (.inl y), some (.inl w), some (.inl k44), some (.inl k45), a46]) (st' := [.inl k45, .inr (.inr (.inl (some (100))))]) (h' := h13) rfl ?_
                    obtain ⟨v165, e166⟩ : ∃ v, hA h13 100 (Int.toNat (k45)) = v := ⟨_, rfl⟩
                    have g167 : -1 ≤ hA h13 100 (Int.toNat (k45)) ∧ hA h13 100 (Int.toNat (k45)) ≤ 11 := im_w I23.1.1 100 (by decide) (by decide) _
                    rw [e166] at g167
                    have w168 := im_wr I23.1 (Int.toNat (k45)) (by omega)
                    rw [e166] at w168
                    have y169 : (U (Int.toNat x)) (21 * (Int.toNat (k45)) + 3) = v165 := (L22.1 (Int.toNat (k45)) (by omega)).1.2.2.2.1.symm.trans e166
                    refine wq_al (p' := 88) (n := 12) (ck_198 _ _ rfl) rfl (ly_k I23.1.1.1 100 rfl) (by omega) (e166) ?_
                    refine av_wp_sqF ck_198 1 (pc' := 89) (lv' := [some (.inr (.inr (.inl (some (77))))), some (.inl x), some (.inl l), some (.inl y), some (.inl w), some (.inl k44), some (.inl k45), a46]) (st' := [.inr (.inr (.inl (some (77)))), .inl v165]) (h' := h13) rfl ?_
                    obtain ⟨v170, e171⟩ : ∃ v, hF h13 77 52 = v := ⟨_, rfl⟩
                    have g172 := im_of I23.1.1
                    rw [e171] at g172
                    have y173 : (bgx U S ro x l y).2.1 = v170 := (BRR_ye B21 e33 (by omega)).2.2.1.symm.trans e171
                    have q175 := (BRR_ye B21 e33 (by omega)).1
                    have b174 : ((bgx U S ro x l y).2.2 = 9999 ∧ (bgx U S ro x l y).1 = -1 ∧ (bgx U S ro x l y).2.1 = -1) ∨ ((bgx U S ro x l y).2.2 < 9999 ∧ (0 ≤ (bgx U S ro x l y).2.1 ∧ (bgx U S ro x l y).2.1 < (S (Int.toNat x) : Int) ∧ ofv (U (Int.toNat x)) (ro (Int.toNat l)) (Int.toNat (bgx U S ro x l y).2.1) ≠ 0) ∧ ((bgx U S ro x l y).1 = -1 ∨ (0 ≤ (bgx U S ro x l y).1 ∧ (bgx U S ro x l y).1 < (S (Int.toNat x) : Int) ∧ ysv (U (Int.toNat x)) (ro (Int.toNat l)) (Int.toNat (bgx U S ro x l y).1) ≠ 0))) := bgn_f
                    have b174a := (b174.elim (fun z => absurd z.1 q175) (fun z => z.2.1))
                    have b174b : 0 ≤ v170 ∧ v170 < (S (Int.toNat x) : Int) := by omega
                    clear b174
                    refine wq_gi (p' := 92) (ck_198 _ _ rfl) rfl (congrArg Prod.fst (ly_k I23.1.1.1 77 rfl)) rfl (e171) ?_
                    refine wq_k2 (p' := 95) (ck_198 _ _ rfl) rfl ⟨by omega, by omega⟩ ⟨by omega, by omega⟩ (fun c176 => ?_) (fun c177 => ?_)
                    · have c176 : v165 ≠ v170 := c176
                      refine av_wp_sqF ck_198 6 (pc' := 50) (lv' := [some (.inr (.inr (.inl (some (77))))), some (.inl x), some (.inl l), some (.inl y), some (.inl w), some (.inl k44), some (.inl (k45 + (1))), some (.inl (-1))]) (st' := []) (h' := h13) rfl ?_
                      exact I49 _ (by omega) (k44) ((k45 + (1))) (some (.inl (-1))) rfl (by rw [show Int.toNat (k45 + (1)) = Int.toNat k45 + 1 by omega, rpv_m y169 (by rw [y173]; omega)]; omega) (by omega) (by omega) (by omega) rfl
                    · have c177 : v165 = v170 := c177
                      refine av_wp_sqF ck_198 3 (pc' := 99) (lv' := [some (.inr (.inr (.inl (some (77))))), some (.inl x), some (.inl l), some (.inl y), some (.inl w), some (.inl k44), some (.inl k45), a46]) (st' := [.inr (.inr (.inl (some (77)))), .inl k45, .inr (.inr (.inl (some (77))))]) (h' := h13) rfl ?_
                      refine wq_gr (p' := 102) (ck_198 _ _ rfl) rfl (congrArg Prod.fst (ly_k I23.1.1.1 77 rfl)) rfl (ly_g I23.1.1.1 77 26 95 rfl) ?_
                      refine av_wp_sqF ck_198 1 (pc' := 104) (lv' := [some (.inr (.inr (.inl (some (77))))), some (.inl x), some (.inl l), some (.inl y), some (.inl w), some (.inl k44), some (.inl k45), a46]) (st' := [.inl (12), .inr (.inr (.inl (some (95)))), .inl k45, .inr (.inr (.inl (some (77))))]) (h' := h13) rfl ?_
                      obtain ⟨v178, e179⟩ : ∃ v, hA h13 95 (Int.toNat ((12))) = v := ⟨_, rfl⟩
                      have y181 : (ro (Int.toNat l)) 12 = v178 := (L22.2 12 (by omega)).symm.trans e179
                      have g182 := rl_12 (RX.2.1 (Int.toNat x) (Int.toNat l) (by omega) (by omega)).2.1
                      rw [y181] at g182
                      refine wq_al (p' := 105) (n := 13) (ck_198 _ _ rfl) rfl (ly_k I23.1.1.1 95 rfl) (by omega) (e179) ?_
                      refine av_wp_sqF ck_198 2 (pc' := 107) (lv' := [some (.inr (.inr (.inl (some (77))))), some (.inl x), some (.inl l), some (.inl y), some (.inl w), some (.inl k44), some (.inl k45), a46]) (st' := [.inl (v178 - (1)), .inl k45, .inr (.inr (.inl (some (77))))]) (h' := h13) rfl ?_
                      refine wq_cv (p' := 110) (av_qc (.invokevirtual 363) 166 2 0 8) 3 cd_166 [.inl (v178 - (1)), .inl k45] (77) 8 [some (.inr (.inr (.inl (some (77))))), some (.inl k45), some (.inl (v178 - (1)))] (ck_198 _ _ rfl) rfl rfl pp_166 rfl rfl rfl (congrArg Prod.fst (ly_k I23.1.1.1 77 rfl)) rfl rfl rfl rfl ?_
                      refine cx_166 I23 F24 (k45) (by omega) ((v178 - (1))) (by omega) (fun v183 p184 => ?_)
                      have y185 : v183 = hw (arr (U (Int.toNat x)) (ro (Int.toNat l)) (bxx U S (ro (Int.toNat l)) (Int.toNat x)) y) (Int.toNat (k45)) (v178 - (1)) := LR_w L22 (by omega) (by omega) (by omega) p184
                      have g186 := hw_r (show HBd (S (Int.toNat x)) (arr (U (Int.toNat x)) (ro (Int.toNat l)) (bxx U S (ro (Int.toNat l)) (Int.toNat x)) y) from (HBd_arr (RX.2.1 (Int.toNat x) (Int.toNat l) (by omega) (by omega)) (by omega) (by have := cbv_d (U (Int.toNat x)) (S (Int.toNat x)); omega))) (k := (Int.toNat (k45))) (by omega) (v178 - (1))
                      rw [← y185] at g186
                      show av_wp _ cd_198 110 [some (.inr (.inr (.inl (some (77))))), some (.inl x), some (.inl l), some (.inl y), some (.inl w), some (.inl k44), some (.inl k45), a46] [.inl v183] h13 _
                      refine av_wp_sqF ck_198 3 (pc' := 118) (lv' := [some (.inr (.inr (.inl (some (77))))), some (.inl x), some (.inl l), some (.inl y), some (.inl w), some (.inl k44), some (.inl k45), some (.inl v183)]) (st' := [.inl v183]) (h' := h13) rfl ?_
                      refine wq_k1 (p' := 121) (ck_198 _ _ rfl) rfl ⟨by omega, by omega⟩ (fun c187 => ?_) (fun c188 => ?_)
                      · have c187 : v183 < (0) := c187
                        refine av_wp_sqF ck_198 2 (pc' := 50) (lv' := [some (.inr (.inr (.inl (some (77))))), some (.inl x), some (.inl l), some (.inl y), some (.inl w), some (.inl k44), some (.inl (k45 + (1))), some (.inl v183)]) (st' := []) (h' := h13) rfl ?_
                        exact I49 _ (by omega) (k44) ((k45 + (1))) (some (.inl v183)) rfl (by by_cases c : v183 = -1; (· rw [show Int.toNat (k45 + (1)) = Int.toNat k45 + 1 by omega, rpv_h (show hw (arr (U (Int.toNat x)) (ro (Int.toNat l)) (bxx U S (ro (Int.toNat l)) (Int.toNat x)) y) (Int.toNat k45) ((ro (Int.toNat l)) 12 - 1) = v183 by rw [y181]; exact y185.symm) c]; omega); rw [show Int.toNat (k45 + (1)) = Int.toNat k45 + 1 by omega, rpv_y y162 (by omega) y169 (by rw [y173]; omega) (show hw (arr (U (Int.toNat x)) (ro (Int.toNat l)) (bxx U S (ro (Int.toNat l)) (Int.toNat x)) y) (Int.toNat k45) ((ro (Int.toNat l)) 12 - 1) = v183 by rw [y181]; exact y185.symm) c]; unfold mn2; split <;> omega) (by omega) (by omega) (by omega) rfl
                      · have c188 : (0) ≤ v183 := c188
                        refine av_wp_sqF ck_198 1 (pc' := 123) (lv' := [some (.inr (.inr (.inl (some (77))))), some (.inl x), some (.inl l), some (.inl y), some (.inl w), some (.inl k44), some (.inl k45), some (.inl v183)]) (st' := [.inl k44]) (h' := h13) rfl ?_
                        refine wq_k1 (p' := 126) (ck_198 _ _ rfl) rfl ⟨by omega, by omega⟩ (fun c189 => ?_) (fun c190 => ?_)
                        · have c189 : k44 < (0) := c189
                          refine av_wp_sqF ck_198 4 (pc' := 50) (lv' := [some (.inr (.inr (.inl (some (77))))), some (.inl x), some (.inl l), some (.inl y), some (.inl w), some (.inl v183), some (.inl (k45 + (1))), some (.inl v183)]) (st' := []) (h' := h13) rfl ?_
                          exact I49 _ (by omega) (v183) ((k45 + (1))) (some (.inl v183)) rfl (by by_cases c : v183 = -1; (· rw [show Int.toNat (k45 + (1)) = Int.toNat k45 + 1 by omega, rpv_h (show hw (arr (U (Int.toNat x)) (ro (Int.toNat l)) (bxx U S (ro (Int.toNat l)) (Int.toNat x)) y) (Int.toNat k45) ((ro (Int.toNat l)) 12 - 1) = v183 by rw [y181]; exact y185.symm) c]; omega); rw [show Int.toNat (k45 + (1)) = Int.toNat k45 + 1 by omega, rpv_y y162 (by omega) y169 (by rw [y173]; omega) (show hw (arr (U (Int.toNat x)) (ro (Int.toNat l)) (bxx U S (ro (Int.toNat l)) (Int.toNat x)) y) (Int.toNat k45) ((ro (Int.toNat l)) 12 - 1) = v183 by rw [y181]; exact y185.symm) c]; unfold mn2; split <;> omega) (by omega) (by omega) (by omega) rfl
                        · have c190 : (0) ≤ k44 := c190
                          refine av_wp_sqF ck_198 2 (pc' := 130) (lv' := [some (.inr (.inr (.inl (some (77))))), some (.inl x), some (.inl l), some (.inl y), some (.inl w), some (.inl k44), some (.inl k45), some (.inl v183)]) (st' := [.inl k44, .inl v183]) (h' := h13) rfl ?_
                          refine wq_k2 (p' := 133) (ck_198 _ _ rfl) rfl ⟨by omega, by omega⟩ ⟨by omega, by omega⟩ (fun c191 => ?_) (fun c192 => ?_)
                          · have c191 : k44 ≤ v183 := c191
                            refine av_wp_sqF ck_198 2 (pc' := 50) (lv' := [some (.inr (.inr (.inl (some (77))))), some (.inl x), some (.inl l), some (.inl y), some (.inl w), some (.inl k44), some (.inl (k45 + (1))), some (.inl v183)]) (st' := []) (h' := h13) rfl ?_
                            exact I49 _ (by omega) (k44) ((k45 + (1))) (some (.inl v183)) rfl (by by_cases c : v183 = -1; (· rw [show Int.toNat (k45 + (1)) = Int.toNat k45 + 1 by omega, rpv_h (show hw (arr (U (Int.toNat x)) (ro (Int.toNat l)) (bxx U S (ro (Int.toNat l)) (Int.toNat x)) y) (Int.toNat k45) ((ro (Int.toNat l)) 12 - 1) = v183 by rw [y181]; exact y185.symm) c]; omega); rw [show Int.toNat (k45 + (1)) = Int.toNat k45 + 1 by omega, rpv_y y162 (by omega) y169 (by rw [y173]; omega) (show hw (arr (U (Int.toNat x)) (ro (Int.toNat l)) (bxx U S (ro (Int.toNat l)) (Int.toNat x)) y) (Int.toNat k45) ((ro (Int.toNat l)) 12 - 1) = v183 by rw [y181]; exact y185.symm) c]; unfold mn2; split <;> omega) (by omega) (by omega) (by omega) rfl
                          · have c192 : v183 < k44 := c192
                            refine av_wp_sqF ck_198 4 (pc' := 50) (lv' := [some (.inr (.inr (.inl (some (77))))), some (.inl x), some (.inl l), some (.inl y), some (.inl w), some (.inl v183), some (.inl (k45 + (1))), some (.inl v183)]) (st' := []) (h' := h13) rfl ?_
                            exact I49 _ (by omega) (v183) ((k45 + (1))) (some (.inl v183)) rfl (by by_cases c : v183 = -1; (· rw [show Int.toNat (k45 + (1)) = Int.toNat k45 + 1 by omega, rpv_h (show hw (arr (U (Int.toNat x)) (ro (Int.toNat l)) (bxx U S (ro (Int.toNat l)) (Int.toNat x)) y) (Int.toNat k45) ((ro (Int.toNat l)) 12 - 1) = v183 by rw [y181]; exact y185.symm) c]; omega); rw [show Int.toNat (k45 + (1)) = Int.toNat k45 + 1 by omega, rpv_y y162 (by omega) y169 (by rw [y173]; omega) (show hw (arr (U (Int.toNat x)) (ro (Int.toNat l)) (bxx U S (ro (Int.toNat l)) (Int.toNat x)) y) (Int.toNat k45) ((ro (Int.toNat l)) 12 - 1) = v183 by rw [y181]; exact y185.symm) c]; unfold mn2; split <;> omega) (by omega) (by omega) (by omega) rfl
          exact L48 _ ((-1)) ((0)) (none) rfl (Or.inl ⟨rfl, rfl⟩) (by omega) (by omega) (by omega) rfl
        · have c43 : v37 = (0) := c43
          refine av_wp_sqF ck_198 1 (pc' := 38) (lv' := [some (.inr (.inr (.inl (some (77))))), some (.inl x), some (.inl l), some (.inl y), some (.inl w), none, none, none]) (st' := [.inr (.inr (.inl (some (77))))]) (h' := h13) rfl ?_
          obtain ⟨v193, e194⟩ : ∃ v, hF h13 77 53 = v := ⟨_, rfl⟩
          have y195 : (bgx U S ro x l y).2.2 = v193 := (BRR_ye B21 e33 (by omega)).2.2.2.symm.trans e194
          have g196 := g31
          rw [y195] at g196
          refine wq_gi (p' := 41) (ck_198 _ _ rfl) rfl (congrArg Prod.fst (ly_k I23.1.1.1 77 rfl)) rfl (e194) ?_
          refine av_wp_sqF ck_198 4 (pc' := 50) (lv' := [some (.inr (.inr (.inl (some (77))))), some (.inl x), some (.inl l), some (.inl y), some (.inl w), some (.inl v193), some (.inl (0)), none]) (st' := []) (h' := h13) rfl ?_
          have L201 : ∀ (m200 : Nat) (k197 : Int) (k198 : Int) (a199 : Option av_V), av_lg a199 = false → k197 = v193 → k198 ≤ (S (Int.toNat x) : Int) → (-1 ≤ k197 ∧ k197 ≤ 9999) → (0 ≤ k198 ∧ k198 ≤ 12) → ((S (Int.toNat x) : Int) - k198).toNat = m200 → av_wp none cd_198 50 [some (.inr (.inr (.inl (some (77))))), some (.inl x), some (.inl l), some (.inl y), some (.inl w), some (.inl k197), some (.inl k198), a199] [] h13 Q := by
            intro m200
            induction m200 using Nat.strongRecOn with
            | _ m200 I202 =>
              intro k197 k198 a199 g204 g205 g206 g207 g208 e203
              have la199 := g204
              refine av_wp_sqF ck_198 2 (pc' := 53) (lv' := [some (.inr (.inr (.inl (some (77))))), some (.inl x), some (.inl l), some (.inl y), some (.inl w), some (.inl k197), some (.inl k198), a199]) (st' := [.inr (.inr (.inl (some (77)))), .inl k198]) (h' := h13) rfl ?_
              refine wq_gi (p' := 56) (ck_198 _ _ rfl) rfl (congrArg Prod.fst (ly_k I23.1.1.1 77 rfl)) rfl (I23.2.1) ?_
              refine wq_k2 (p' := 59) (ck_198 _ _ rfl) rfl ⟨by omega, by omega⟩ ⟨by omega, by omega⟩ (fun c209 => ?_) (fun c210 => ?_)
              · have c209 : n10 ≤ k198 := c209
                refine av_wp_sqF ck_198 1 (pc' := 145) (lv' := [some (.inr (.inr (.inl (some (77))))), some (.inl x), some (.inl l), some (.inl y), some (.inl w), some (.inl k197), some (.inl k198), a199]) (st' := [.inl k197]) (h' := h13) rfl ?_
                refine wq_k1 (p' := 148) (ck_198 _ _ rfl) rfl ⟨by omega, by omega⟩ (fun c211 => ?_) (fun c212 => ?_)
                · have c211 : k197 < (0) := c211
                  refine av_wp_sqF ck_198 1 (pc' := 165) (lv' := [some (.inr (.inr (.inl (some (77))))), some (.inl x), some (.inl l), some (.inl y), some (.inl w), some (.inl k197), some (.inl k198), a199]) (st' := [.inl k197]) (h' := h13) rfl ?_
                  refine wq_k1 (p' := 168) (ck_198 _ _ rfl) rfl ⟨by omega, by omega⟩ (fun c213 => ?_) (fun c214 => ?_)
                  · have c213 : k197 < (0) := c213
                    refine av_wp_sqF ck_198 1 (pc' := 188) (lv' := [some (.inr (.inr (.inl (some (77))))), some (.inl x), some (.inl l), some (.inl y), some (.inl w), some (.inl k197), some (.inl k198), a199]) (st' := [.inr (.inr (.inl (some (77))))]) (h' := h13) rfl ?_
                    refine wq_gr (p' := 191) (ck_198 _ _ rfl) rfl (congrArg Prod.fst (ly_k I23.1.1.1 77 rfl)) rfl (ly_g I23.1.1.1 77 35 101 rfl) ?_
                    refine av_wp_sqF ck_198 1 (pc' := 192) (lv' := [some (.inr (.inr (.inl (some (77))))), some (.inl x), some (.inl l), some (.inl y), some (.inl w), some (.inl k197), some (.inl k198), a199]) (st' := [.inr (.inr (.inl (some (77)))), .inr (.inr (.inl (some (101))))]) (h' := h13) rfl ?_
                    obtain ⟨v215, e216⟩ : ∃ v, hF h13 77 52 = v := ⟨_, rfl⟩
                    have g217 := im_of I23.1.1
                    rw [e216] at g217
                    have y218 : (bgx U S ro x l y).2.1 = v215 := (BRR_ye B21 e33 (by omega)).2.2.1.symm.trans e216
                    have q220 := (BRR_ye B21 e33 (by omega)).1
                    have b219 : ((bgx U S ro x l y).2.2 = 9999 ∧ (bgx U S ro x l y).1 = -1 ∧ (bgx U S ro x l y).2.1 = -1) ∨ ((bgx U S ro x l y).2.2 < 9999 ∧ (0 ≤ (bgx U S ro x l y).2.1 ∧ (bgx U S ro x l y).2.1 < (S (Int.toNat x) : Int) ∧ ofv (U (Int.toNat x)) (ro (Int.toNat l)) (Int.toNat (bgx U S ro x l y).2.1) ≠ 0) ∧ ((bgx U S ro x l y).1 = -1 ∨ (0 ≤ (bgx U S ro x l y).1 ∧ (bgx U S ro x l y).1 < (S (Int.toNat x) : Int) ∧ ysv (U (Int.toNat x)) (ro (Int.toNat l)) (Int.toNat (bgx U S ro x l y).1) ≠ 0))) := bgn_f
                    have b219a := (b219.elim (fun z => absurd z.1 q220) (fun z => z.2.1))
                    have b219b : 0 ≤ v215 ∧ v215 < (S (Int.toNat x) : Int) := by omega
                    clear b219
                    refine wq_gi (p' := 195) (ck_198 _ _ rfl) rfl (congrArg Prod.fst (ly_k I23.1.1.1 77 rfl)) rfl (e216) ?_
                    obtain ⟨v221, e222⟩ : ∃ v, hA h13 101 (Int.toNat (v215)) = v := ⟨_, rfl⟩
                    have g223 : 0 ≤ hA h13 101 (Int.toNat (v215)) ∧ hA h13 101 (Int.toNat (v215)) ≤ 2 := im_w I23.1.1 101 (by decide) (by decide) _
                    rw [e222] at g223
                    have y224 : (U (Int.toNat x)) (21 * (Int.toNat (v215)) + 1) = v221 := (L22.1 (Int.toNat (v215)) (by omega)).1.2.2.2.2.1.symm.trans e222
                    refine wq_al (p' := 196) (n := 12) (ck_198 _ _ rfl) rfl (ly_k I23.1.1.1 101 rfl) (by omega) (e222) ?_
                    refine av_wp_ret (v := some (.inl v221)) (ck_198 _ _ rfl) rfl rfl ?_
                    have q225 := (BRR_ye B21 e33 (by omega)).1
                    have q2250 : (bgx U S ro x l y).2.2 = 9999 ∨ (0 ≤ (bgx U S ro x l y).2.2 ∧ (bgx U S ro x l y).2.2 < 9999) := bgn_0 (HBd_arr (RX.2.1 (Int.toNat x) (Int.toNat l) (by omega) (by omega)) (by omega) (by have := cbv_d (U (Int.toNat x)) (S (Int.toNat x)); omega))
                    have r226 : ((ro (Int.toNat l)) 12 = 0 ∧ rpx (U (Int.toNat x)) (ro (Int.toNat l)) (arr (U (Int.toNat x)) (ro (Int.toNat l)) (bxx U S (ro (Int.toNat l)) (Int.toNat x)) y) (S (Int.toNat x)) (bgx U S ro x l y) = (bgx U S ro x l y).2.2) ∨ ((ro (Int.toNat l)) 12 ≠ 0 ∧ rpx (U (Int.toNat x)) (ro (Int.toNat l)) (arr (U (Int.toNat x)) (ro (Int.toNat l)) (bxx U S (ro (Int.toNat l)) (Int.toNat x)) y) (S (Int.toNat x)) (bgx U S ro x l y) = rpv (U (Int.toNat x)) (ro (Int.toNat l)) (arr (U (Int.toNat x)) (ro (Int.toNat l)) (bxx U S (ro (Int.toNat l)) (Int.toNat x)) y) (bgx U S ro x l y).2.1 (S (Int.toNat x))) := by
                      unfold rpx
                      by_cases c : (ro (Int.toNat l)) 12 = 0
                      · exact Or.inl ⟨c, if_pos c⟩
                      · exact Or.inr ⟨c, if_neg c⟩
                    have r226k : (ro (Int.toNat l)) 12 ≠ 0 → Int.toNat k198 = S (Int.toNat x) := fun _ => by omega
                    have r226v : (ro (Int.toNat l)) 12 ≠ 0 → rpv (U (Int.toNat x)) (ro (Int.toNat l)) (arr (U (Int.toNat x)) (ro (Int.toNat l)) (bxx U S (ro (Int.toNat l)) (Int.toNat x)) y) (bgx U S ro x l y).2.1 (S (Int.toNat x)) = rpv (U (Int.toNat x)) (ro (Int.toNat l)) (arr (U (Int.toNat x)) (ro (Int.toNat l)) (bxx U S (ro (Int.toNat l)) (Int.toNat x)) y) (bgx U S ro x l y).2.1 (Int.toNat k198) := fun c => by rw [r226k c]
                    exact hq _ _ _ _ h13 (Or.inl ⟨by unfold okx; omega, by unfold bev; rw [if_neg q225, if_neg (by omega), y218]; exact y224.symm⟩) I23 F24
                  · have c214 : (0) ≤ k197 := c214
                    exfalso; omega
                · have c212 : (0) ≤ k197 := c212
                  refine av_wp_sqF ck_198 2 (pc' := 151) (lv' := [some (.inr (.inr (.inl (some (77))))), some (.inl x), some (.inl l), some (.inl y), some (.inl w), some (.inl k197), some (.inl k198), a199]) (st' := [.inr (.inr (.inl (some (77)))), .inl k197]) (h' := h13) rfl ?_
                  obtain ⟨v227, e228⟩ : ∃ v, hF h13 77 53 = v := ⟨_, rfl⟩
                  have y229 : (bgx U S ro x l y).2.2 = v227 := (BRR_ye B21 e33 (by omega)).2.2.2.symm.trans e228
                  have g230 := g31
                  rw [y229] at g230
                  refine wq_gi (p' := 154) (ck_198 _ _ rfl) rfl (congrArg Prod.fst (ly_k I23.1.1.1 77 rfl)) rfl (e228) ?_
                  refine wq_k2 (p' := 157) (ck_198 _ _ rfl) rfl ⟨by omega, by omega⟩ ⟨by omega, by omega⟩ (fun c231 => ?_) (fun c232 => ?_)
                  · have c231 : v227 ≤ k197 := c231
                    refine av_wp_sqF ck_198 1 (pc' := 165) (lv' := [some (.inr (.inr (.inl (some (77))))), some (.inl x), some (.inl l), some (.inl y), some (.inl w), some (.inl k197), some (.inl k198), a199]) (st' := [.inl k197]) (h' := h13) rfl ?_
                    refine wq_k1 (p' := 168) (ck_198 _ _ rfl) rfl ⟨by omega, by omega⟩ (fun c233 => ?_) (fun c234 => ?_)
                    · have c233 : k197 < (0) := c233
                      exfalso; omega
                    · have c234 : (0) ≤ k197 := c234
                      refine av_wp_sqF ck_198 2 (pc' := 172) (lv' := [some (.inr (.inr (.inl (some (77))))), some (.inl x), some (.inl l), some (.inl y), some (.inl w), some (.inl k197), some (.inl k198), a199]) (st' := [.inl k197, .inl w]) (h' := h13) rfl ?_
                      refine wq_k2 (p' := 175) (ck_198 _ _ rfl) rfl ⟨by omega, by omega⟩ ⟨by omega, by omega⟩ (fun c235 => ?_) (fun c236 => ?_)
                      · have c235 : w < k197 := c235
                        refine av_wp_sqF ck_198 1 (pc' := 188) (lv' := [some (.inr (.inr (.inl (some (77))))), some (.inl x), some (.inl l), some (.inl y), some (.inl w), some (.inl k197), some (.inl k198), a199]) (st' := [.inr (.inr (.inl (some (77))))]) (h' := h13) rfl ?_
                        refine wq_gr (p' := 191) (ck_198 _ _ rfl) rfl (congrArg Prod.fst (ly_k I23.1.1.1 77 rfl)) rfl (ly_g I23.1.1.1 77 35 101 rfl) ?_
                        refine av_wp_sqF ck_198 1 (pc' := 192) (lv' := [some (.inr (.inr (.inl (some (77))))), some (.inl x), some (.inl l), some (.inl y), some (.inl w), some (.inl k197), some (.inl k198), a199]) (st' := [.inr (.inr (.inl (some (77)))), .inr (.inr (.inl (some (101))))]) (h' := h13) rfl ?_
                        obtain ⟨v237, e238⟩ : ∃ v, hF h13 77 52 = v := ⟨_, rfl⟩
                        have g239 := im_of I23.1.1
                        rw [e238] at g239
                        have y240 : (bgx U S ro x l y).2.1 = v237 := (BRR_ye B21 e33 (by omega)).2.2.1.symm.trans e238
                        have q242 := (BRR_ye B21 e33 (by omega)).1
                        have b241 : ((bgx U S ro x l y).2.2 = 9999 ∧ (bgx U S ro x l y).1 = -1 ∧ (bgx U S ro x l y).2.1 = -1) ∨ ((bgx U S ro x l y).2.2 < 9999 ∧ (0 ≤ (bgx U S ro x l y).2.1 ∧ (bgx U S ro x l y).2.1 < (S (Int.toNat x) : Int) ∧ ofv (U (Int.toNat x)) (ro (Int.toNat l)) (Int.toNat (bgx U S ro x l y).2.1) ≠ 0) ∧ ((bgx U S ro x l y).1 = -1 ∨ (0 ≤ (bgx U S ro x l y).1 ∧ (bgx U S ro x l y).1 < (S (Int.toNat x) : Int) ∧ ysv (U (Int.toNat x)) (ro (Int.toNat l)) (Int.toNat (bgx U S ro x l y).1) ≠ 0))) := bgn_f
                        have b241a := (b241.elim (fun z => absurd z.1 q242) (fun z => z.2.1))
                        have b241b : 0 ≤ v237 ∧ v237 < (S (Int.toNat x) : Int) := by omega
                        clear b241
                        refine wq_gi (p' := 195) (ck_198 _ _ rfl) rfl (congrArg Prod.fst (ly_k I23.1.1.1 77 rfl)) rfl (e238) ?_
                        obtain ⟨v243, e244⟩ : ∃ v, hA h13 101 (Int.toNat (v237)) = v := ⟨_, rfl⟩
                        have g245 : 0 ≤ hA h13 101 (Int.toNat (v237)) ∧ hA h13 101 (Int.toNat (v237)) ≤ 2 := im_w I23.1.1 101 (by decide) (by decide) _
                        rw [e244] at g245
                        have y246 : (U (Int.toNat x)) (21 * (Int.toNat (v237)) + 1) = v243 := (L22.1 (Int.toNat (v237)) (by omega)).1.2.2.2.2.1.symm.trans e244
                        refine wq_al (p' := 196) (n := 12) (ck_198 _ _ rfl) rfl (ly_k I23.1.1.1 101 rfl) (by omega) (e244) ?_
                        refine av_wp_ret (v := some (.inl v243)) (ck_198 _ _ rfl) rfl rfl ?_
                        have q247 := (BRR_ye B21 e33 (by omega)).1
                        have q2470 : (bgx U S ro x l y).2.2 = 9999 ∨ (0 ≤ (bgx U S ro x l y).2.2 ∧ (bgx U S ro x l y).2.2 < 9999) := bgn_0 (HBd_arr (RX.2.1 (Int.toNat x) (Int.toNat l) (by omega) (by omega)) (by omega) (by have := cbv_d (U (Int.toNat x)) (S (Int.toNat x)); omega))
                        have r248 : ((ro (Int.toNat l)) 12 = 0 ∧ rpx (U (Int.toNat x)) (ro (Int.toNat l)) (arr (U (Int.toNat x)) (ro (Int.toNat l)) (bxx U S (ro (Int.toNat l)) (Int.toNat x)) y) (S (Int.toNat x)) (bgx U S ro x l y) = (bgx U S ro x l y).2.2) ∨ ((ro (Int.toNat l)) 12 ≠ 0 ∧ rpx (U (Int.toNat x)) (ro (Int.toNat l)) (arr (U (Int.toNat x)) (ro (Int.toNat l)) (bxx U S (ro (Int.toNat l)) (Int.toNat x)) y) (S (Int.toNat x)) (bgx U S ro x l y) = rpv (U (Int.toNat x)) (ro (Int.toNat l)) (arr (U (Int.toNat x)) (ro (Int.toNat l)) (bxx U S (ro (Int.toNat l)) (Int.toNat x)) y) (bgx U S ro x l y).2.1 (S (Int.toNat x))) := by
                          unfold rpx
                          by_cases c : (ro (Int.toNat l)) 12 = 0
                          · exact Or.inl ⟨c, if_pos c⟩
                          · exact Or.inr ⟨c, if_neg c⟩
                        have r248k : (ro (Int.toNat l)) 12 ≠ 0 → Int.toNat k198 = S (Int.toNat x) := fun _ => by omega
                        have r248v : (ro (Int.toNat l)) 12 ≠ 0 → rpv (U (Int.toNat x)) (ro (Int.toNat l)) (arr (U (Int.toNat x)) (ro (Int.toNat l)) (bxx U S (ro (Int.toNat l)) (Int.toNat x)) y) (bgx U S ro x l y).2.1 (S (Int.toNat x)) = rpv (U (Int.toNat x)) (ro (Int.toNat l)) (arr (U (Int.toNat x)) (ro (Int.toNat l)) (bxx U S (ro (Int.toNat l)) (Int.toNat x)) y) (bgx U S ro x l y).2.1 (Int.toNat k198) := fun c => by rw [r248k c]
                        exact hq _ _ _ _ h13 (Or.inl ⟨by unfold okx; omega, by unfold bev; rw [if_neg q247, if_neg (by omega), y240]; exact y246.symm⟩) I23 F24
                      · have c236 : k197 ≤ w := c236
                        refine av_wp_sqF ck_198 1 (pc' := 176) (lv' := [some (.inr (.inr (.inl (some (77))))), some (.inl x), some (.inl l), some (.inl y), some (.inl w), some (.inl k197), some (.inl k198), a199]) (st' := [.inr (.inr (.inl (some (77))))]) (h' := h13) rfl ?_
                        refine wq_gr (p' := 179) (ck_198 _ _ rfl) rfl (congrArg Prod.fst (ly_k I23.1.1.1 77 rfl)) rfl (ly_g I23.1.1.1 77 36 102 rfl) ?_
                        refine av_wp_sqF ck_198 1 (pc' := 180) (lv' := [some (.inr (.inr (.inl (some (77))))), some (.inl x), some (.inl l), some (.inl y), some (.inl w), some (.inl k197), some (.inl k198), a199]) (st' := [.inr (.inr (.inl (some (77)))), .inr (.inr (.inl (some (102))))]) (h' := h13) rfl ?_
                        obtain ⟨v249, e250⟩ : ∃ v, hF h13 77 52 = v := ⟨_, rfl⟩
                        have g251 := im_of I23.1.1
                        rw [e250] at g251
                        have y252 : (bgx U S ro x l y).2.1 = v249 := (BRR_ye B21 e33 (by omega)).2.2.1.symm.trans e250
                        have q254 := (BRR_ye B21 e33 (by omega)).1
                        have b253 : ((bgx U S ro x l y).2.2 = 9999 ∧ (bgx U S ro x l y).1 = -1 ∧ (bgx U S ro x l y).2.1 = -1) ∨ ((bgx U S ro x l y).2.2 < 9999 ∧ (0 ≤ (bgx U S ro x l y).2.1 ∧ (bgx U S ro x l y).2.1 < (S (Int.toNat x) : Int) ∧ ofv (U (Int.toNat x)) (ro (Int.toNat l)) (Int.toNat (bgx U S ro x l y).2.1) ≠ 0) ∧ ((bgx U S ro x l y).1 = -1 ∨ (0 ≤ (bgx U S ro x l y).1 ∧ (bgx U S ro x l y).1 < (S (Int.toNat x) : Int) ∧ ysv (U (Int.toNat x)) (ro (Int.toNat l)) (Int.toNat (bgx U S ro x l y).1) ≠ 0))) := bgn_f
                        have b253a := (b253.elim (fun z => absurd z.1 q254) (fun z => z.2.1))
                        have b253b : 0 ≤ v249 ∧ v249 < (S (Int.toNat x) : Int) := by omega
                        clear b253
                        refine wq_gi (p' := 183) (ck_198 _ _ rfl) rfl (congrArg Prod.fst (ly_k I23.1.1.1 77 rfl)) rfl (e250) ?_
                        obtain ⟨v255, e256⟩ : ∃ v, hA h13 102 (Int.toNat (v249)) = v := ⟨_, rfl⟩
                        have g257 : -1 ≤ hA h13 102 (Int.toNat (v249)) ∧ hA h13 102 (Int.toNat (v249)) ≤ 2 := im_w I23.1.1 102 (by decide) (by decide) _
                        rw [e256] at g257
                        have y258 : (U (Int.toNat x)) (21 * (Int.toNat (v249)) + 2) = v255 := (L22.1 (Int.toNat (v249)) (by omega)).1.2.2.2.2.2.1.symm.trans e256
                        refine wq_al (p' := 184) (n := 12) (ck_198 _ _ rfl) rfl (ly_k I23.1.1.1 102 rfl) (by omega) (e256) ?_
                        refine av_wp_sqF ck_198 1 (pc' := 196) (lv' := [some (.inr (.inr (.inl (some (77))))), some (.inl x), some (.inl l), some (.inl y), some (.inl w), some (.inl k197), some (.inl k198), a199]) (st' := [.inl v255]) (h' := h13) rfl ?_
                        refine av_wp_ret (v := some (.inl v255)) (ck_198 _ _ rfl) rfl rfl ?_
                        have q259 := (BRR_ye B21 e33 (by omega)).1
                        have q2590 : (bgx U S ro x l y).2.2 = 9999 ∨ (0 ≤ (bgx U S ro x l y).2.2 ∧ (bgx U S ro x l y).2.2 < 9999) := bgn_0 (HBd_arr (RX.2.1 (Int.toNat x) (Int.toNat l) (by omega) (by omega)) (by omega) (by have := cbv_d (U (Int.toNat x)) (S (Int.toNat x)); omega))
                        have r260 : ((ro (Int.toNat l)) 12 = 0 ∧ rpx (U (Int.toNat x)) (ro (Int.toNat l)) (arr (U (Int.toNat x)) (ro (Int.toNat l)) (bxx U S (ro (Int.toNat l)) (Int.toNat x)) y) (S (Int.toNat x)) (bgx U S ro x l y) = (bgx U S ro x l y).2.2) ∨ ((ro (Int.toNat l)) 12 ≠ 0 ∧ rpx (U (Int.toNat x)) (ro (Int.toNat l)) (arr (U (Int.toNat x)) (ro (Int.toNat l)) (bxx U S (ro (Int.toNat l)) (Int.toNat x)) y) (S (Int.toNat x)) (bgx U S ro x l y) = rpv (U (Int.toNat x)) (ro (Int.toNat l)) (arr (U (Int.toNat x)) (ro (Int.toNat l)) (bxx U S (ro (Int.toNat l)) (Int.toNat x)) y) (bgx U S ro x l y).2.1 (S (Int.toNat x))) := by
                          unfold rpx
                          by_cases c : (ro (Int.toNat l)) 12 = 0
                          · exact Or.inl ⟨c, if_pos c⟩
                          · exact Or.inr ⟨c, if_neg c⟩
                        have r260k : (ro (Int.toNat l)) 12 ≠ 0 → Int.toNat k198 = S (Int.toNat x) := fun _ => by omega
                        have r260v : (ro (Int.toNat l)) 12 ≠ 0 → rpv (U (Int.toNat x)) (ro (Int.toNat l)) (arr (U (Int.toNat x)) (ro (Int.toNat l)) (bxx U S (ro (Int.toNat l)) (Int.toNat x)) y) (bgx U S ro x l y).2.1 (S (Int.toNat x)) = rpv (U (Int.toNat x)) (ro (Int.toNat l)) (arr (U (Int.toNat x)) (ro (Int.toNat l)) (bxx U S (ro (Int.toNat l)) (Int.toNat x)) y) (bgx U S ro x l y).2.1 (Int.toNat k198) := fun c => by rw [r260k c]
                        exact hq _ _ _ _ h13 (Or.inl ⟨by unfold okx; omega, by unfold bev; rw [if_neg q259, if_pos (by omega), y252]; exact y258.symm⟩) I23 F24
                  · have c232 : k197 < v227 := c232
                    refine av_wp_sqF ck_198 1 (pc' := 158) (lv' := [some (.inr (.inr (.inl (some (77))))), some (.inl x), some (.inl l), some (.inl y), some (.inl w), some (.inl k197), some (.inl k198), a199]) (st' := [.inr (.inr (.inl (some (77))))]) (h' := h13) rfl ?_
                    obtain ⟨v261, e262⟩ : ∃ v, hF h13 77 53 = v := ⟨_, rfl⟩
                    have y263 : (bgx U S ro x l y).2.2 = v261 := (BRR_ye B21 e33 (by omega)).2.2.2.symm.trans e262
                    have g264 := g31
                    rw [y263] at g264
                    refine wq_gi (p' := 161) (ck_198 _ _ rfl) rfl (congrArg Prod.fst (ly_k I23.1.1.1 77 rfl)) rfl (e262) ?_
                    refine av_wp_sqF ck_198 2 (pc' := 165) (lv' := [some (.inr (.inr (.inl (some (77))))), some (.inl x), some (.inl l), some (.inl y), some (.inl w), some (.inl v261), some (.inl k198), a199]) (st' := [.inl v261]) (h' := h13) rfl ?_
                    refine wq_k1 (p' := 168) (ck_198 _ _ rfl) rfl ⟨by omega, by omega⟩ (fun c265 => ?_) (fun c266 => ?_)
                    · have c265 : v261 < (0) := c265
                      refine av_wp_sqF ck_198 1 (pc' := 188) (lv' := [some (.inr (.inr (.inl (some (77))))), some (.inl x), some (.inl l), some (.inl y), some (.inl w), some (.inl v261), some (.inl k198), a199]) (st' := [.inr (.inr (.inl (some (77))))]) (h' := h13) rfl ?_
                      refine wq_gr (p' := 191) (ck_198 _ _ rfl) rfl (congrArg Prod.fst (ly_k I23.1.1.1 77 rfl)) rfl (ly_g I23.1.1.1 77 35 101 rfl) ?_
                      refine av_wp_sqF ck_198 1 (pc' := 192) (lv' := [some (.inr (.inr (.inl (some (77))))), some (.inl x), some (.inl l), some (.inl y), some (.inl w), some (.inl v261), some (.inl k198), a199]) (st' := [.inr (.inr (.inl (some (77)))), .inr (.inr (.inl (some (101))))]) (h' := h13) rfl ?_
                      obtain ⟨v267, e268⟩ : ∃ v, hF h13 77 52 = v := ⟨_, rfl⟩
                      have g269 := im_of I23.1.1
                      rw [e268] at g269
                      have y270 : (bgx U S ro x l y).2.1 = v267 := (BRR_ye B21 e33 (by omega)).2.2.1.symm.trans e268
                      have q272 := (BRR_ye B21 e33 (by omega)).1
                      have b271 : ((bgx U S ro x l y).2.2 = 9999 ∧ (bgx U S ro x l y).1 = -1 ∧ (bgx U S ro x l y).2.1 = -1) ∨ ((bgx U S ro x l y).2.2 < 9999 ∧ (0 ≤ (bgx U S ro x l y).2.1 ∧ (bgx U S ro x l y).2.1 < (S (Int.toNat x) : Int) ∧ ofv (U (Int.toNat x)) (ro (Int.toNat l)) (Int.toNat (bgx U S ro x l y).2.1) ≠ 0) ∧ ((bgx U S ro x l y).1 = -1 ∨ (0 ≤ (bgx U S ro x l y).1 ∧ (bgx U S ro x l y).1 < (S (Int.toNat x) : Int) ∧ ysv (U (Int.toNat x)) (ro (Int.toNat l)) (Int.toNat (bgx U S ro x l y).1) ≠ 0))) := bgn_f
                      have b271a := (b271.elim (fun z => absurd z.1 q272) (fun z => z.2.1))
                      have b271b : 0 ≤ v267 ∧ v267 < (S (Int.toNat x) : Int) := by omega
                      clear b271
                      refine wq_gi (p' := 195) (ck_198 _ _ rfl) rfl (congrArg Prod.fst (ly_k I23.1.1.1 77 rfl)) rfl (e268) ?_
                      obtain ⟨v273, e274⟩ : ∃ v, hA h13 101 (Int.toNat (v267)) = v := ⟨_, rfl⟩
                      have g275 : 0 ≤ hA h13 101 (Int.toNat (v267)) ∧ hA h13 101 (Int.toNat (v267)) ≤ 2 := im_w I23.1.1 101 (by decide) (by decide) _
                      rw [e274] at g275
                      have y276 : (U (Int.toNat x)) (21 * (Int.toNat (v267)) + 1) = v273 := (L22.1 (Int.toNat (v267)) (by omega)).1.2.2.2.2.1.symm.trans e274
                      refine wq_al (p' := 196) (n := 12) (ck_198 _ _ rfl) rfl (ly_k I23.1.1.1 101 rfl) (by omega) (e274) ?_
                      refine av_wp_ret (v := some (.inl v273)) (ck_198 _ _ rfl) rfl rfl ?_
                      have q277 := (BRR_ye B21 e33 (by omega)).1
                      have q2770 : (bgx U S ro x l y).2.2 = 9999 ∨ (0 ≤ (bgx U S ro x l y).2.2 ∧ (bgx U S ro x l y).2.2 < 9999) := bgn_0 (HBd_arr (RX.2.1 (Int.toNat x) (Int.toNat l) (by omega) (by omega)) (by omega) (by have := cbv_d (U (Int.toNat x)) (S (Int.toNat x)); omega))
                      have r278 : ((ro (Int.toNat l)) 12 = 0 ∧ rpx (U (Int.toNat x)) (ro (Int.toNat l)) (arr (U (Int.toNat x)) (ro (Int.toNat l)) (bxx U S (ro (Int.toNat l)) (Int.toNat x)) y) (S (Int.toNat x)) (bgx U S ro x l y) = (bgx U S ro x l y).2.2) ∨ ((ro (Int.toNat l)) 12 ≠ 0 ∧ rpx (U (Int.toNat x)) (ro (Int.toNat l)) (arr (U (Int.toNat x)) (ro (Int.toNat l)) (bxx U S (ro (Int.toNat l)) (Int.toNat x)) y) (S (Int.toNat x)) (bgx U S ro x l y) = rpv (U (Int.toNat x)) (ro (Int.toNat l)) (arr (U (Int.toNat x)) (ro (Int.toNat l)) (bxx U S (ro (Int.toNat l)) (Int.toNat x)) y) (bgx U S ro x l y).2.1 (S (Int.toNat x))) := by
                        unfold rpx
                        by_cases c : (ro (Int.toNat l)) 12 = 0
                        · exact Or.inl ⟨c, if_pos c⟩
                        · exact Or.inr ⟨c, if_neg c⟩
                      have r278k : (ro (Int.toNat l)) 12 ≠ 0 → Int.toNat k198 = S (Int.toNat x) := fun _ => by omega
                      have r278v : (ro (Int.toNat l)) 12 ≠ 0 → rpv (U (Int.toNat x)) (ro (Int.toNat l)) (arr (U (Int.toNat x)) (ro (Int.toNat l)) (bxx U S (ro (Int.toNat l)) (Int.toNat x)) y) (bgx U S ro x l y).2.1 (S (Int.toNat x)) = rpv (U (Int.toNat x)) (ro (Int.toNat l)) (arr (U (Int.toNat x)) (ro (Int.toNat l)) (bxx U S (ro (Int.toNat l)) (Int.toNat x)) y) (bgx U S ro x l y).2.1 (Int.toNat k198) := fun c => by rw [r278k c]
                      exact hq _ _ _ _ h13 (Or.inl ⟨by unfold okx; omega, by unfold bev; rw [if_neg q277, if_neg (by omega), y270]; exact y276.symm⟩) I23 F24
                    · have c266 : (0) ≤ v261 := c266
                      refine av_wp_sqF ck_198 2 (pc' := 172) (lv' := [some (.inr (.inr (.inl (some (77))))), some (.inl x), some (.inl l), some (.inl y), some (.inl w), some (.inl v261), some (.inl k198), a199]) (st' := [.inl v261, .inl w]) (h' := h13) rfl ?_
                      refine wq_k2 (p' := 175) (ck_198 _ _ rfl) rfl ⟨by omega, by omega⟩ ⟨by omega, by omega⟩ (fun c279 => ?_) (fun c280 => ?_)
                      · have c279 : w < v261 := c279
                        refine av_wp_sqF ck_198 1 (pc' := 188) (lv' := [some (.inr (.inr (.inl (some (77))))), some (.inl x), some (.inl l), some (.inl y), some (.inl w), some (.inl v261), some (.inl k198), a199]) (st' := [.inr (.inr (.inl (some (77))))]) (h' := h13) rfl ?_
                        refine wq_gr (p' := 191) (ck_198 _ _ rfl) rfl (congrArg Prod.fst (ly_k I23.1.1.1 77 rfl)) rfl (ly_g I23.1.1.1 77 35 101 rfl) ?_
                        refine av_wp_sqF ck_198 1 (pc' := 192) (lv' := [some (.inr (.inr (.inl (some (77))))), some (.inl x), some (.inl l), some (.inl y), some (.inl w), some (.inl v261), some (.inl k198), a199]) (st' := [.inr (.inr (.inl (some (77)))), .inr (.inr (.inl (some (101))))]) (h' := h13) rfl ?_
                        obtain ⟨v281, e282⟩ : ∃ v, hF h13 77 52 = v := ⟨_, rfl⟩
                        have g283 := im_of I23.1.1
                        rw [e282] at g283
                        have y284 : (bgx U S ro x l y).2.1 = v281 := (BRR_ye B21 e33 (by omega)).2.2.1.symm.trans e282
                        have q286 := (BRR_ye B21 e33 (by omega)).1
                        have b285 : ((bgx U S ro x l y).2.2 = 9999 ∧ (bgx U S ro x l y).1 = -1 ∧ (bgx U S ro x l y).2.1 = -1) ∨ ((bgx U S ro x l y).2.2 < 9999 ∧ (0 ≤ (bgx U S ro x l y).2.1 ∧ (bgx U S ro x l y).2.1 < (S (Int.toNat x) : Int) ∧ ofv (U (Int.toNat x)) (ro (Int.toNat l)) (Int.toNat (bgx U S ro x l y).2.1) ≠ 0) ∧ ((bgx U S ro x l y).1 = -1 ∨ (0 ≤ (bgx U S ro x l y).1 ∧ (bgx U S ro x l y).1 < (S (Int.toNat x) : Int) ∧ ysv (U (Int.toNat x)) (ro (Int.toNat l)) (Int.toNat (bgx U S ro x l y).1) ≠ 0))) := bgn_f
                        have b285a := (b285.elim (fun z => absurd z.1 q286) (fun z => z.2.1))
                        have b285b : 0 ≤ v281 ∧ v281 < (S (Int.toNat x) : Int) := by omega
                        clear b285
                        refine wq_gi (p' := 195) (ck_198 _ _ rfl) rfl (congrArg Prod.fst (ly_k I23.1.1.1 77 rfl)) rfl (e282) ?_
                        obtain ⟨v287, e288⟩ : ∃ v, hA h13 101 (Int.toNat (v281)) = v := ⟨_, rfl⟩
                        have g289 : 0 ≤ hA h13 101 (Int.toNat (v281)) ∧ hA h13 101 (Int.toNat (v281)) ≤ 2 := im_w I23.1.1 101 (by decide) (by decide) _
                        rw [e288] at g289
                        have y290 : (U (Int.toNat x)) (21 * (Int.toNat (v281)) + 1) = v287 := (L22.1 (Int.toNat (v281)) (by omega)).1.2.2.2.2.1.symm.trans e288
                        refine wq_al (p' := 196) (n := 12) (ck_198 _ _ rfl) rfl (ly_k I23.1.1.1 101 rfl) (by omega) (e288) ?_
                        refine av_wp_ret (v := some (.inl v287)) (ck_198 _ _ rfl) rfl rfl ?_
                        have q291 := (BRR_ye B21 e33 (by omega)).1
                        have q2910 : (bgx U S ro x l y).2.2 = 9999 ∨ (0 ≤ (bgx U S ro x l y).2.2 ∧ (bgx U S ro x l y).2.2 < 9999) := bgn_0 (HBd_arr (RX.2.1 (Int.toNat x) (Int.toNat l) (by omega) (by omega)) (by omega) (by have := cbv_d (U (Int.toNat x)) (S (Int.toNat x)); omega))
                        have r292 : ((ro (Int.toNat l)) 12 = 0 ∧ rpx (U (Int.toNat x)) (ro (Int.toNat l)) (arr (U (Int.toNat x)) (ro (Int.toNat l)) (bxx U S (ro (Int.toNat l)) (Int.toNat x)) y) (S (Int.toNat x)) (bgx U S ro x l y) = (bgx U S ro x l y).2.2) ∨ ((ro (Int.toNat l)) 12 ≠ 0 ∧ rpx (U (Int.toNat x)) (ro (Int.toNat l)) (arr (U (Int.toNat x)) (ro (Int.toNat l)) (bxx U S (ro (Int.toNat l)) (Int.toNat x)) y) (S (Int.toNat x)) (bgx U S ro x l y) = rpv (U (Int.toNat x)) (ro (Int.toNat l)) (arr (U (Int.toNat x)) (ro (Int.toNat l)) (bxx U S (ro (Int.toNat l)) (Int.toNat x)) y) (bgx U S ro x l y).2.1 (S (Int.toNat x))) := by
                          unfold rpx
                          by_cases c : (ro (Int.toNat l)) 12 = 0
                          · exact Or.inl ⟨c, if_pos c⟩
                          · exact Or.inr ⟨c, if_neg c⟩
                        have r292k : (ro (Int.toNat l)) 12 ≠ 0 → Int.toNat k198 = S (Int.toNat x) := fun _ => by omega
                        have r292v : (ro (Int.toNat l)) 12 ≠ 0 → rpv (U (Int.toNat x)) (ro (Int.toNat l)) (arr (U (Int.toNat x)) (ro (Int.toNat l)) (bxx U S (ro (Int.toNat l)) (Int.toNat x)) y) (bgx U S ro x l y).2.1 (S (Int.toNat x)) = rpv (U (Int.toNat x)) (ro (Int.toNat l)) (arr (U (Int.toNat x)) (ro (Int.toNat l)) (bxx U S (ro (Int.toNat l)) (Int.toNat x)) y) (bgx U S ro x l y).2.1 (Int.toNat k198) := fun c => by rw [r292k c]
                        exact hq _ _ _ _ h13 (Or.inl ⟨by unfold okx; omega, by unfold bev; rw [if_neg q291, if_neg (by omega), y284]; exact y290.symm⟩) I23 F24
                      · have c280 : v261 ≤ w := c280
                        refine av_wp_sqF ck_198 1 (pc' := 176) (lv' := [some (.inr (.inr (.inl (some (77))))), some (.inl x), some (.inl l), some (.inl y), some (.inl w), some (.inl v261), some (.inl k198), a199]) (st' := [.inr (.inr (.inl (some (77))))]) (h' := h13) rfl ?_
                        refine wq_gr (p' := 179) (ck_198 _ _ rfl) rfl (congrArg Prod.fst (ly_k I23.1.1.1 77 rfl)) rfl (ly_g I23.1.1.1 77 36 102 rfl) ?_
                        refine av_wp_sqF ck_198 1 (pc' := 180) (lv' := [some (.inr (.inr (.inl (some (77))))), some (.inl x), some (.inl l), some (.inl y), some (.inl w), some (.inl v261), some (.inl k198), a199]) (st' := [.inr (.inr (.inl (some (77)))), .inr (.inr (.inl (some (102))))]) (h' := h13) rfl ?_
                        obtain ⟨v293, e294⟩ : ∃ v, hF h13 77 52 = v := ⟨_, rfl⟩
                        have g295 := im_of I23.1.1
                        rw [e294] at g295
                        have y296 : (bgx U S ro x l y).2.1 = v293 := (BRR_ye B21 e33 (by omega)).2.2.1.symm.trans e294
                        have q298 := (BRR_ye B21 e33 (by omega)).1
                        have b297 : ((bgx U S ro x l y).2.2 = 9999 ∧ (bgx U S ro x l y).1 = -1 ∧ (bgx U S ro x l y).2.1 = -1) ∨ ((bgx U S ro x l y).2.2 < 9999 ∧ (0 ≤ (bgx U S ro x l y).2.1 ∧ (bgx U S ro x l y).2.1 < (S (Int.toNat x) : Int) ∧ ofv (U (Int.toNat x)) (ro (Int.toNat l)) (Int.toNat (bgx U S ro x l y).2.1) ≠ 0) ∧ ((bgx U S ro x l y).1 = -1 ∨ (0 ≤ (bgx U S ro x l y).1 ∧ (bgx U S ro x l y).1 < (S (Int.toNat x) : Int) ∧ ysv (U (Int.toNat x)) (ro (Int.toNat l)) (Int.toNat (bgx U S ro x l y).1) ≠ 0))) := bgn_f
                        have b297a := (b297.elim (fun z => absurd z.1 q298) (fun z => z.2.1))
                        have b297b : 0 ≤ v293 ∧ v293 < (S (Int.toNat x) : Int) := by omega
                        clear b297
                        refine wq_gi (p' := 183) (ck_198 _ _ rfl) rfl (congrArg Prod.fst (ly_k I23.1.1.1 77 rfl)) rfl (e294) ?_
                        obtain ⟨v299, e300⟩ : ∃ v, hA h13 102 (Int.toNat (v293)) = v := ⟨_, rfl⟩
                        have g301 : -1 ≤ hA h13 102 (Int.toNat (v293)) ∧ hA h13 102 (Int.toNat (v293)) ≤ 2 := im_w I23.1.1 102 (by decide) (by decide) _
                        rw [e300] at g301
                        have y302 : (U (Int.toNat x)) (21 * (Int.toNat (v293)) + 2) = v299 := (L22.1 (Int.toNat (v293)) (by omega)).1.2.2.2.2.2.1.symm.trans e300
                        refine wq_al (p' := 184) (n := 12) (ck_198 _ _ rfl) rfl (ly_k I23.1.1.1 102 rfl) (by omega) (e300) ?_
                        refine av_wp_sqF ck_198 1 (pc' := 196) (lv' := [some (.inr (.inr (.inl (some (77))))), some (.inl x), some (.inl l), some (.inl y), some (.inl w), some (.inl v261), some (.inl k198), a199]) (st' := [.inl v299]) (h' := h13) rfl ?_
                        refine av_wp_ret (v := some (.inl v299)) (ck_198 _ _ rfl) rfl rfl ?_
                        have q303 := (BRR_ye B21 e33 (by omega)).1
                        have q3030 : (bgx U S ro x l y).2.2 = 9999 ∨ (0 ≤ (bgx U S ro x l y).2.2 ∧ (bgx U S ro x l y).2.2 < 9999) := bgn_0 (HBd_arr (RX.2.1 (Int.toNat x) (Int.toNat l) (by omega) (by omega)) (by omega) (by have := cbv_d (U (Int.toNat x)) (S (Int.toNat x)); omega))
                        have r304 : ((ro (Int.toNat l)) 12 = 0 ∧ rpx (U (Int.toNat x)) (ro (Int.toNat l)) (arr (U (Int.toNat x)) (ro (Int.toNat l)) (bxx U S (ro (Int.toNat l)) (Int.toNat x)) y) (S (Int.toNat x)) (bgx U S ro x l y) = (bgx U S ro x l y).2.2) ∨ ((ro (Int.toNat l)) 12 ≠ 0 ∧ rpx (U (Int.toNat x)) (ro (Int.toNat l)) (arr (U (Int.toNat x)) (ro (Int.toNat l)) (bxx U S (ro (Int.toNat l)) (Int.toNat x)) y) (S (Int.toNat x)) (bgx U S ro x l y) = rpv (U (Int.toNat x)) (ro (Int.toNat l)) (arr (U (Int.toNat x)) (ro (Int.toNat l)) (bxx U S (ro (Int.toNat l)) (Int.toNat x)) y) (bgx U S ro x l y).2.1 (S (Int.toNat x))) := by
                          unfold rpx
                          by_cases c : (ro (Int.toNat l)) 12 = 0
                          · exact Or.inl ⟨c, if_pos c⟩
                          · exact Or.inr ⟨c, if_neg c⟩
                        have r304k : (ro (Int.toNat l)) 12 ≠ 0 → Int.toNat k198 = S (Int.toNat x) := fun _ => by omega
                        have r304v : (ro (Int.toNat l)) 12 ≠ 0 → rpv (U (Int.toNat x)) (ro (Int.toNat l)) (arr (U (Int.toNat x)) (ro (Int.toNat l)) (bxx U S (ro (Int.toNat l)) (Int.toNat x)) y) (bgx U S ro x l y).2.1 (S (Int.toNat x)) = rpv (U (Int.toNat x)) (ro (Int.toNat l)) (arr (U (Int.toNat x)) (ro (Int.toNat l)) (bxx U S (ro (Int.toNat l)) (Int.toNat x)) y) (bgx U S ro x l y).2.1 (Int.toNat k198) := fun c => by rw [r304k c]
                        exact hq _ _ _ _ h13 (Or.inl ⟨by unfold okx; omega, by unfold bev; rw [if_neg q303, if_pos (by omega), y296]; exact y302.symm⟩) I23 F24
              · have c210 : k198 < n10 := c210
                refine av_wp_sqF ck_198 1 (pc' := 60) (lv' := [some (.inr (.inr (.inl (some (77))))), some (.inl x), some (.inl l), some (.inl y), some (.inl w), some (.inl k197), some (.inl k198), a199]) (st' := [.inr (.inr (.inl (some (77))))]) (h' := h13) rfl ?_
                refine wq_gr (p' := 63) (ck_198 _ _ rfl) rfl (congrArg Prod.fst (ly_k I23.1.1.1 77 rfl)) rfl (ly_g I23.1.1.1 77 26 95 rfl) ?_
                refine av_wp_sqF ck_198 1 (pc' := 65) (lv' := [some (.inr (.inr (.inl (some (77))))), some (.inl x), some (.inl l), some (.inl y), some (.inl w), some (.inl k197), some (.inl k198), a199]) (st' := [.inl (12), .inr (.inr (.inl (some (95))))]) (h' := h13) rfl ?_
                obtain ⟨v305, e306⟩ : ∃ v, hA h13 95 (Int.toNat ((12))) = v := ⟨_, rfl⟩
                have y308 : (ro (Int.toNat l)) 12 = v305 := (L22.2 12 (by omega)).symm.trans e306
                have g309 := rl_12 (RX.2.1 (Int.toNat x) (Int.toNat l) (by omega) (by omega)).2.1
                rw [y308] at g309
                refine wq_al (p' := 66) (n := 13) (ck_198 _ _ rfl) rfl (ly_k I23.1.1.1 95 rfl) (by omega) (e306) ?_
                refine wq_k1 (p' := 69) (ck_198 _ _ rfl) rfl ⟨by omega, by omega⟩ (fun c310 => ?_) (fun c311 => ?_)
                · have c310 : v305 ≤ (0) := c310
                  refine av_wp_sqF ck_198 1 (pc' := 145) (lv' := [some (.inr (.inr (.inl (some (77))))), some (.inl x), some (.inl l), some (.inl y), some (.inl w), some (.inl k197), some (.inl k198), a199]) (st' := [.inl k197]) (h' := h13) rfl ?_
                  refine wq_k1 (p' := 148) (ck_198 _ _ rfl) rfl ⟨by omega, by omega⟩ (fun c312 => ?_) (fun c313 => ?_)
                  · have c312 : k197 < (0) := c312
                    refine av_wp_sqF ck_198 1 (pc' := 165) (lv' := [some (.inr (.inr (.inl (some (77))))), some (.inl x), some (.inl l), some (.inl y), some (.inl w), some (.inl k197), some (.inl k198), a199]) (st' := [.inl k197]) (h' := h13) rfl ?_
                    refine wq_k1 (p' := 168) (ck_198 _ _ rfl) rfl ⟨by omega, by omega⟩ (fun c314 => ?_) (fun c315 => ?_)
                    · have c314 : k197 < (0) := c314
                      refine av_wp_sqF ck_198 1 (pc' := 188) (lv' := [some (.inr (.inr (.inl (some (77))))), some (.inl x), some (.inl l), some (.inl y), some (.inl w), some (.inl k197), some (.inl k198), a199]) (st' := [.inr (.inr (.inl (some (77))))]) (h' := h13) rfl ?_
                      refine wq_gr (p' := 191) (ck_198 _ _ rfl) rfl (congrArg Prod.fst (ly_k I23.1.1.1 77 rfl)) rfl (ly_g I23.1.1.1 77 35 101 rfl) ?_
                      refine av_wp_sqF ck_198 1 (pc' := 192) (lv' := [some (.inr (.inr (.inl (some (77))))), some (.inl x), some (.inl l), some (.inl y), some (.inl w), some (.inl k197), some (.inl k198), a199]) (st' := [.inr (.inr (.inl (some (77)))), .inr (.inr (.inl (some (101))))]) (h' := h13) rfl ?_
                      obtain ⟨v316, e317⟩ : ∃ v, hF h13 77 52 = v := ⟨_, rfl⟩
                      have g318 := im_of I23.1.1
                      rw [e317] at g318
                      have y319 : (bgx U S ro x l y).2.1 = v316 := (BRR_ye B21 e33 (by omega)).2.2.1.symm.trans e317
                      have q321 := (BRR_ye B21 e33 (by omega)).1
                      have b320 : ((bgx U S ro x l y).2.2 = 9999 ∧ (bgx U S ro x l y).1 = -1 ∧ (bgx U S ro x l y).2.1 = -1) ∨ ((bgx U S ro x l y).2.2 < 9999 ∧ (0 ≤ (bgx U S ro x l y).2.1 ∧ (bgx U S ro x l y).2.1 < (S (Int.toNat x) : Int) ∧ ofv (U (Int.toNat x)) (ro (Int.toNat l)) (Int.toNat (bgx U S ro x l y).2.1) ≠ 0) ∧ ((bgx U S ro x l y).1 = -1 ∨ (0 ≤ (bgx U S ro x l y).1 ∧ (bgx U S ro x l y).1 < (S (Int.toNat x) : Int) ∧ ysv (U (Int.toNat x)) (ro (Int.toNat l)) (Int.toNat (bgx U S ro x l y).1) ≠ 0))) := bgn_f
                      have b320a := (b320.elim (fun z => absurd z.1 q321) (fun z => z.2.1))
                      have b320b : 0 ≤ v316 ∧ v316 < (S (Int.toNat x) : Int) := by omega
                      clear b320
                      refine wq_gi (p' := 195) (ck_198 _ _ rfl) rfl (congrArg Prod.fst (ly_k I23.1.1.1 77 rfl)) rfl (e317) ?_
                      obtain ⟨v322, e323⟩ : ∃ v, hA h13 101 (Int.toNat (v316)) = v := ⟨_, rfl⟩
                      have g324 : 0 ≤ hA h13 101 (Int.toNat (v316)) ∧ hA h13 101 (Int.toNat (v316)) ≤ 2 := im_w I23.1.1 101 (by decide) (by decide) _
                      rw [e323] at g324
                      have y325 : (U (Int.toNat x)) (21 * (Int.toNat (v316)) + 1) = v322 := (L22.1 (Int.toNat (v316)) (by omega)).1.2.2.2.2.1.symm.trans e323
                      refine wq_al (p' := 196) (n := 12) (ck_198 _ _ rfl) rfl (ly_k I23.1.1.1 101 rfl) (by omega) (e323) ?_
                      refine av_wp_ret (v := some (.inl v322)) (ck_198 _ _ rfl) rfl rfl ?_
                      have q326 := (BRR_ye B21 e33 (by omega)).1
                      have q3260 : (bgx U S ro x l y).2.2 = 9999 ∨ (0 ≤ (bgx U S ro x l y).2.2 ∧ (bgx U S ro x l y).2.2 < 9999) := bgn_0 (HBd_arr (RX.2.1 (Int.toNat x) (Int.toNat l) (by omega) (by omega)) (by omega) (by have := cbv_d (U (Int.toNat x)) (S (Int.toNat x)); omega))
                      have r327 : ((ro (Int.toNat l)) 12 = 0 ∧ rpx (U (Int.toNat x)) (ro (Int.toNat l)) (arr (U (Int.toNat x)) (ro (Int.toNat l)) (bxx U S (ro (Int.toNat l)) (Int.toNat x)) y) (S (Int.toNat x)) (bgx U S ro x l y) = (bgx U S ro x l y).2.2) ∨ ((ro (Int.toNat l)) 12 ≠ 0 ∧ rpx (U (Int.toNat x)) (ro (Int.toNat l)) (arr (U (Int.toNat x)) (ro (Int.toNat l)) (bxx U S (ro (Int.toNat l)) (Int.toNat x)) y) (S (Int.toNat x)) (bgx U S ro x l y) = rpv (U (Int.toNat x)) (ro (Int.toNat l)) (arr (U (Int.toNat x)) (ro (Int.toNat l)) (bxx U S (ro (Int.toNat l)) (Int.toNat x)) y) (bgx U S ro x l y).2.1 (S (Int.toNat x))) := by
                        unfold rpx
                        by_cases c : (ro (Int.toNat l)) 12 = 0
                        · exact Or.inl ⟨c, if_pos c⟩
                        · exact Or.inr ⟨c, if_neg c⟩
                      have r327k : (ro (Int.toNat l)) 12 ≠ 0 → Int.toNat k198 = S (Int.toNat x) := fun _ => by omega
                      have r327v : (ro (Int.toNat l)) 12 ≠ 0 → rpv (U (Int.toNat x)) (ro (Int.toNat l)) (arr (U (Int.toNat x)) (ro (Int.toNat l)) (bxx U S (ro (Int.toNat l)) (Int.toNat x)) y) (bgx U S ro x l y).2.1 (S (Int.toNat x)) = rpv (U (Int.toNat x)) (ro (Int.toNat l)) (arr (U (Int.toNat x)) (ro (Int.toNat l)) (bxx U S (ro (Int.toNat l)) (Int.toNat x)) y) (bgx U S ro x l y).2.1 (Int.toNat k198) := fun c => by rw [r327k c]
                      exact hq _ _ _ _ h13 (Or.inl ⟨by unfold okx; omega, by unfold bev; rw [if_neg q326, if_neg (by omega), y319]; exact y325.symm⟩) I23 F24
                    · have c315 : (0) ≤ k197 := c315
                      exfalso; omega
                  · have c313 : (0) ≤ k197 := c313
                    refine av_wp_sqF ck_198 2 (pc' := 151) (lv' := [some (.inr (.inr (.inl (some (77))))), some (.inl x), some (.inl l), some (.inl y), some (.inl w), some (.inl k197), some (.inl k198), a199]) (st' := [.inr (.inr (.inl (some (77)))), .inl k197]) (h' := h13) rfl ?_
                    obtain ⟨v328, e329⟩ : ∃ v, hF h13 77 53 = v := ⟨_, rfl⟩
                    have y330 : (bgx U S ro x l y).2.2 = v328 := (BRR_ye B21 e33 (by omega)).2.2.2.symm.trans e329
                    have g331 := g31
                    rw [y330] at g331
                    refine wq_gi (p' := 154) (ck_198 _ _ rfl) rfl (congrArg Prod.fst (ly_k I23.1.1.1 77 rfl)) rfl (e329) ?_
                    refine wq_k2 (p' := 157) (ck_198 _ _ rfl) rfl ⟨by omega, by omega⟩ ⟨by omega, by omega⟩ (fun c332 => ?_) (fun c333 => ?_)
                    · have c332 : v328 ≤ k197 := c332
                      refine av_wp_sqF ck_198 1 (pc' := 165) (lv' := [some (.inr (.inr (.inl (some (77))))), some (.inl x), some (.inl l), some (.inl y), some (.inl w), some (.inl k197), some (.inl k198), a199]) (st' := [.inl k197]) (h' := h13) rfl ?_
                      refine wq_k1 (p' := 168) (ck_198 _ _ rfl) rfl ⟨by omega, by omega⟩ (fun c334 => ?_) (fun c335 => ?_)
                      · have c334 : k197 < (0) := c334
                        exfalso; omega
                      · have c335 : (0) ≤ k197 := c335
                        refine av_wp_sqF ck_198 2 (pc' := 172) (lv' := [some (.inr (.inr (.inl (some (77))))), some (.inl x), some (.inl l), some (.inl y), some (.inl w), some (.inl k197), some (.inl k198), a199]) (st' := [.inl k197, .inl w]) (h' := h13) rfl ?_
                        refine wq_k2 (p' := 175) (ck_198 _ _ rfl) rfl ⟨by omega, by omega⟩ ⟨by omega, by omega⟩ (fun c336 => ?_) (fun c337 => ?_)
                        · have c336 : w < k197 := c336
                          refine av_wp_sqF ck_198 1 (pc' := 188) (lv' := [some (.inr (.inr (.inl (some (77))))), some (.inl x), some (.inl l), some (.inl y), some (.inl w), some (.inl k197), some (.inl k198), a199]) (st' := [.inr (.inr (.inl (some (77))))]) (h' := h13) rfl ?_
                          refine wq_gr (p' := 191) (ck_198 _ _ rfl) rfl (congrArg Prod.fst (ly_k I23.1.1.1 77 rfl)) rfl (ly_g I23.1.1.1 77 35 101 rfl) ?_
                          refine av_wp_sqF ck_198 1 (pc' := 192) (lv' := [some (.inr (.inr (.inl (some (77))))), some (.inl x), some (.inl l), some (.inl y), some (.inl w), some (.inl k197), some (.inl k198), a199]) (st' := [.inr (.inr (.inl (some (77)))), .inr (.inr (.inl (some (101))))]) (h' := h13) rfl ?_
                          obtain ⟨v338, e339⟩ : ∃ v, hF h13 77 52 = v := ⟨_, rfl⟩
                          have g340 := im_of I23.1.1
                          rw [e339] at g340
                          have y341 : (bgx U S ro x l y).2.1 = v338 := (BRR_ye B21 e33 (by omega)).2.2.1.symm.trans e339
                          have q343 := (BRR_ye B21 e33 (by omega)).1
                          have b342 : ((bgx U S ro x l y).2.2 = 9999 ∧ (bgx U S ro x l y).1 = -1 ∧ (bgx U S ro x l y).2.1 = -1) ∨ ((bgx U S ro x l y).2.2 < 9999 ∧ (0 ≤ (bgx U S ro x l y).2.1 ∧ (bgx U S ro x l y).2.1 < (S (Int.toNat x) : Int) ∧ ofv (U (Int.toNat x)) (ro (Int.toNat l)) (Int.toNat (bgx U S ro x l y).2.1) ≠ 0) ∧ ((bgx U S ro x l y).1 = -1 ∨ (0 ≤ (bgx U S ro x l y).1 ∧ (bgx U S ro x l y).1 < (S (Int.toNat x) : Int) ∧ ysv (U (Int.toNat x)) (ro (Int.toNat l)) (Int.toNat (bgx U S ro x l y).1) ≠ 0))) := bgn_f
                          have b342a := (b342.elim (fun z => absurd z.1 q343) (fun z => z.2.1))
                          have b342b : 0 ≤ v338 ∧ v338 < (S (Int.toNat x) : Int) := by omega
                          clear b342
                          refine wq_gi (p' := 195) (ck_198 _ _ rfl) rfl (congrArg Prod.fst (ly_k I23.1.1.1 77 rfl)) rfl (e339) ?_
                          obtain ⟨v344, e345⟩ : ∃ v, hA h13 101 (Int.toNat (v338)) = v := ⟨_, rfl⟩
                          have g346 : 0 ≤ hA h13 101 (Int.toNat (v338)) ∧ hA h13 101 (Int.toNat (v338)) ≤ 2 := im_w I23.1.1 101 (by decide) (by decide) _
                          rw [e345] at g346
                          have y347 : (U (Int.toNat x)) (21 * (Int.toNat (v338)) + 1) = v344 := (L22.1 (Int.toNat (v338)) (by omega)).1.2.2.2.2.1.symm.trans e345
                          refine wq_al (p' := 196) (n := 12) (ck_198 _ _ rfl) rfl (ly_k I23.1.1.1 101 rfl) (by omega) (e345) ?_
                          refine av_wp_ret (v := some (.inl v344)) (ck_198 _ _ rfl) rfl rfl ?_
                          have q348 := (BRR_ye B21 e33 (by omega)).1
                          have q3480 : (bgx U S ro x l y).2.2 = 9999 ∨ (0 ≤ (bgx U S ro x l y).2.2 ∧ (bgx U S ro x l y).2.2 < 9999) := bgn_0 (HBd_arr (RX.2.1 (Int.toNat x) (Int.toNat l) (by omega) (by omega)) (by omega) (by have := cbv_d (U (Int.toNat x)) (S (Int.toNat x)); omega))
                          have r349 : ((ro (Int.toNat l)) 12 = 0 ∧ rpx (U (Int.toNat x)) (ro (Int.toNat l)) (arr (U (Int.toNat x)) (ro (Int.toNat l)) (bxx U S (ro (Int.toNat l)) (Int.toNat x)) y) (S (Int.toNat x)) (bgx U S ro x l y) = (bgx U S ro x l y).2.2) ∨ ((ro (Int.toNat l)) 12 ≠ 0 ∧ rpx (U (Int.toNat x)) (ro (Int.toNat l)) (arr (U (Int.toNat x)) (ro (Int.toNat l)) (bxx U S (ro (Int.toNat l)) (Int.toNat x)) y) (S (Int.toNat x)) (bgx U S ro x l y) = rpv (U (Int.toNat x)) (ro (Int.toNat l)) (arr (U (Int.toNat x)) (ro (Int.toNat l)) (bxx U S (ro (Int.toNat l)) (Int.toNat x)) y) (bgx U S ro x l y).2.1 (S (Int.toNat x))) := by
                            unfold rpx
                            by_cases c : (ro (Int.toNat l)) 12 = 0
                            · exact Or.inl ⟨c, if_pos c⟩
                            · exact Or.inr ⟨c, if_neg c⟩
                          have r349k : (ro (Int.toNat l)) 12 ≠ 0 → Int.toNat k198 = S (Int.toNat x) := fun _ => by omega
                          have r349v : (ro (Int.toNat l)) 12 ≠ 0 → rpv (U (Int.toNat x)) (ro (Int.toNat l)) (arr (U (Int.toNat x)) (ro (Int.toNat l)) (bxx U S (ro (Int.toNat l)) (Int.toNat x)) y) (bgx U S ro x l y).2.1 (S (Int.toNat x)) = rpv (U (Int.toNat x)) (ro (Int.toNat l)) (arr (U (Int.toNat x)) (ro (Int.toNat l)) (bxx U S (ro (Int.toNat l)) (Int.toNat x)) y) (bgx U S ro x l y).2.1 (Int.toNat k198) := fun c => by rw [r349k c]
                          exact hq _ _ _ _ h13 (Or.inl ⟨by unfold okx; omega, by unfold bev; rw [if_neg q348, if_neg (by omega), y341]; exact y347.symm⟩) I23 F24
                        · have c337 : k197 ≤ w := c337
                          refine av_wp_sqF ck_198 1 (pc' := 176) (lv' := [some (.inr (.inr (.inl (some (77))))), some (.inl x), some (.inl l), some (.inl y), some (.inl w), some (.inl k197), some (.inl k198), a199]) (st' := [.inr (.inr (.inl (some (77))))]) (h' := h13) rfl ?_
                          refine wq_gr (p' := 179) (ck_198 _ _ rfl) rfl (congrArg Prod.fst (ly_k I23.1.1.1 77 rfl)) rfl (ly_g I23.1.1.1 77 36 102 rfl) ?_
                          refine av_wp_sqF ck_198 1 (pc' := 180) (lv' := [some (.inr (.inr (.inl (some (77))))), some (.inl x), some (.inl l), some (.inl y), some (.inl w), some (.inl k197), some (.inl k198), a199]) (st' := [.inr (.inr (.inl (some (77)))), .inr (.inr (.inl (some (102))))]) (h' := h13) rfl ?_
                          obtain ⟨v350, e351⟩ : ∃ v, hF h13 77 52 = v := ⟨_, rfl⟩
                          have g352 := im_of I23.1.1
                          rw [e351] at g352
                          have y353 : (bgx U S ro x l y).2.1 = v350 := (BRR_ye B21 e33 (by omega)).2.2.1.symm.trans e351
                          have q355 := (BRR_ye B21 e33 (by omega)).1
                          have b354 : ((bgx U S ro x l y).2.2 = 9999 ∧ (bgx U S ro x l y).1 = -1 ∧ (bgx U S ro x l y).2.1 = -1) ∨ ((bgx U S ro x l y).2.2 < 9999 ∧ (0 ≤ (bgx U S ro x l y).2.1 ∧ (bgx U S ro x l y).2.1 < (S (Int.toNat x) : Int) ∧ ofv (U (Int.toNat x)) (ro (Int.toNat l)) (Int.toNat (bgx U S ro x l y).2.1) ≠ 0) ∧ ((bgx U S ro x l y).1 = -1 ∨ (0 ≤ (bgx U S ro x l y).1 ∧ (bgx U S ro x l y).1 < (S (Int.toNat x) : Int) ∧ ysv (U (Int.toNat x)) (ro (Int.toNat l)) (Int.toNat (bgx U S ro x l y).1) ≠ 0))) := bgn_f
                          have b354a := (b354.elim (fun z => absurd z.1 q355) (fun z => z.2.1))
                          have b354b : 0 ≤ v350 ∧ v350 < (S (Int.toNat x) : Int) := by omega
                          clear b354
                          refine wq_gi (p' := 183) (ck_198 _ _ rfl) rfl (congrArg Prod.fst (ly_k I23.1.1.1 77 rfl)) rfl (e351) ?_
                          obtain ⟨v356, e357⟩ : ∃ v, hA h13 102 (Int.toNat (v350)) = v := ⟨_, rfl⟩
                          have g358 : -1 ≤ hA h13 102 (Int.toNat (v350)) ∧ hA h13 102 (Int.toNat (v350)) ≤ 2 := im_w I23.1.1 102 (by decide) (by decide) _
                          rw [e357] at g358
                          have y359 : (U (Int.toNat x)) (21 * (Int.toNat (v350)) + 2) = v356 := (L22.1 (Int.toNat (v350)) (by omega)).1.2.2.2.2.2.1.symm.trans e357
                          refine wq_al (p' := 184) (n := 12) (ck_198 _ _ rfl) rfl (ly_k I23.1.1.1 102 rfl) (by omega) (e357) ?_
                          refine av_wp_sqF ck_198 1 (pc' := 196) (lv' := [some (.inr (.inr (.inl (some (77))))), some (.inl x), some (.inl l), some (.inl y), some (.inl w), some (.inl k197), some (.inl k198), a199]) (st' := [.inl v356]) (h' := h13) rfl ?_
                          refine av_wp_ret (v := some (.inl v356)) (ck_198 _ _ rfl) rfl rfl ?_
                          have q360 := (BRR_ye B21 e33 (by omega)).1
                          have q3600 : (bgx U S ro x l y).2.2 = 9999 ∨ (0 ≤ (bgx U S ro x l y).2.2 ∧ (bgx U S ro x l y).2.2 < 9999) := bgn_0 (HBd_arr (RX.2.1 (Int.toNat x) (Int.toNat l) (by omega) (by omega)) (by omega) (by have := cbv_d (U (Int.toNat x)) (S (Int.toNat x)); omega))
                          have r361 : ((ro (Int.toNat l)) 12 = 0 ∧ rpx (U (Int.toNat x)) (ro (Int.toNat l)) (arr (U (Int.toNat x)) (ro (Int.toNat l)) (bxx U S (ro (Int.toNat l)) (Int.toNat x)) y) (S (Int.toNat x)) (bgx U S ro x l y) = (bgx U S ro x l y).2.2) ∨ ((ro (Int.toNat l)) 12 ≠ 0 ∧ rpx (U (Int.toNat x)) (ro (Int.toNat l)) (arr (U (Int.toNat x)) (ro (Int.toNat l)) (bxx U S (ro (Int.toNat l)) (Int.toNat x)) y) (S (Int.toNat x)) (bgx U S ro x l y) = rpv (U (Int.toNat x)) (ro (Int.toNat l)) (arr (U (Int.toNat x)) (ro (Int.toNat l)) (bxx U S (ro (Int.toNat l)) (Int.toNat x)) y) (bgx U S ro x l y).2.1 (S (Int.toNat x))) := by
                            unfold rpx
                            by_cases c : (ro (Int.toNat l)) 12 = 0
                            · exact Or.inl ⟨c, if_pos c⟩
                            · exact Or.inr ⟨c, if_neg c⟩
                          have r361k : (ro (Int.toNat l)) 12 ≠ 0 → Int.toNat k198 = S (Int.toNat x) := fun _ => by omega
                          have r361v : (ro (Int.toNat l)) 12 ≠ 0 → rpv (U (Int.toNat x)) (ro (Int.toNat l)) (arr (U (Int.toNat x)) (ro (Int.toNat l)) (bxx U S (ro (Int.toNat l)) (Int.toNat x)) y) (bgx U S ro x l y).2.1 (S (Int.toNat x)) = rpv (U (Int.toNat x)) (ro (Int.toNat l)) (arr (U (Int.toNat x)) (ro (Int.toNat l)) (bxx U S (ro (Int.toNat l)) (Int.toNat x)) y) (bgx U S ro x l y).2.1 (Int.toNat k198) := fun c => by rw [r361k c]
                          exact hq _ _ _ _ h13 (Or.inl ⟨by unfold okx; omega, by unfold bev; rw [if_neg q360, if_pos (by omega), y353]; exact y359.symm⟩) I23 F24
                    · have c333 : k197 < v328 := c333
                      refine av_wp_sqF ck_198 1 (pc' := 158) (lv' := [some (.inr (.inr (.inl (some (77))))), some (.inl x), some (.inl l), some (.inl y), some (.inl w), some (.inl k197), some (.inl k198), a199]) (st' := [.inr (.inr (.inl (some (77))))]) (h' := h13) rfl ?_
                      obtain ⟨v362, e363⟩ : ∃ v, hF h13 77 53 = v := ⟨_, rfl⟩
                      have y364 : (bgx U S ro x l y).2.2 = v362 := (BRR_ye B21 e33 (by omega)).2.2.2.symm.trans e363
                      have g365 := g31
                      rw [y364] at g365
                      refine wq_gi (p' := 161) (ck_198 _ _ rfl) rfl (congrArg Prod.fst (ly_k I23.1.1.1 77 rfl)) rfl (e363) ?_
                      refine av_wp_sqF ck_198 2 (pc' := 165) (lv' := [some (.inr (.inr (.inl (some (77))))), some (.inl x), some (.inl l), some (.inl y), some (.inl w), some (.inl v362), some (.inl k198), a199]) (st' := [.inl v362]) (h' := h13) rfl ?_
                      refine wq_k1 (p' := 168) (ck_198 _ _ rfl) rfl ⟨by omega, by omega⟩ (fun c366 => ?_) (fun c367 => ?_)
                      · have c366 : v362 < (0) := c366
                        refine av_wp_sqF ck_198 1 (pc' := 188) (lv' := [some (.inr (.inr (.inl (some (77))))), some (.inl x), some (.inl l), some (.inl y), some (.inl w), some (.inl v362), some (.inl k198), a199]) (st' := [.inr (.inr (.inl (some (77))))]) (h' := h13) rfl ?_
                        refine wq_gr (p' := 191) (ck_198 _ _ rfl) rfl (congrArg Prod.fst (ly_k I23.1.1.1 77 rfl)) rfl (ly_g I23.1.1.1 77 35 101 rfl) ?_
                        refine av_wp_sqF ck_198 1 (pc' := 192) (lv' := [some (.inr (.inr (.inl (some (77))))), some (.inl x), some (.inl l), some (.inl y), some (.inl w), some (.inl v362), some (.inl k198), a199]) (st' := [.inr (.inr (.inl (some (77)))), .inr (.inr (.inl (some (101))))]) (h' := h13) rfl ?_
                        obtain ⟨v368, e369⟩ : ∃ v, hF h13 77 52 = v := ⟨_, rfl⟩
                        have g370 := im_of I23.1.1
                        rw [e369] at g370
                        have y371 : (bgx U S ro x l y).2.1 = v368 := (BRR_ye B21 e33 (by omega)).2.2.1.symm.trans e369
                        have q373 := (BRR_ye B21 e33 (by omega)).1
                        have b372 : ((bgx U S ro x l y).2.2 = 9999 ∧ (bgx U S ro x l y).1 = -1 ∧ (bgx U S ro x l y).2.1 = -1) ∨ ((bgx U S ro x l y).2.2 < 9999 ∧ (0 ≤ (bgx U S ro x l y).2.1 ∧ (bgx U S ro x l y).2.1 < (S (Int.toNat x) : Int) ∧ ofv (U (Int.toNat x)) (ro (Int.toNat l)) (Int.toNat (bgx U S ro x l y).2.1) ≠ 0) ∧ ((bgx U S ro x l y).1 = -1 ∨ (0 ≤ (bgx U S ro x l y).1 ∧ (bgx U S ro x l y).1 < (S (Int.toNat x) : Int) ∧ ysv (U (Int.toNat x)) (ro (Int.toNat l)) (Int.toNat (bgx U S ro x l y).1) ≠ 0))) := bgn_f
                        have b372a := (b372.elim (fun z => absurd z.1 q373) (fun z => z.2.1))
                        have b372b : 0 ≤ v368 ∧ v368 < (S (Int.toNat x) : Int) := by omega
                        clear b372
                        refine wq_gi (p' := 195) (ck_198 _ _ rfl) rfl (congrArg Prod.fst (ly_k I23.1.1.1 77 rfl)) rfl (e369) ?_
                        obtain ⟨v374, e375⟩ : ∃ v, hA h13 101 (Int.toNat (v368)) = v := ⟨_, rfl⟩
                        have g376 : 0 ≤ hA h13 101 (Int.toNat (v368)) ∧ hA h13 101 (Int.toNat (v368)) ≤ 2 := im_w I23.1.1 101 (by decide) (by decide) _
                        rw [e375] at g376
                        have y377 : (U (Int.toNat x)) (21 * (Int.toNat (v368)) + 1) = v374 := (L22.1 (Int.toNat (v368)) (by omega)).1.2.2.2.2.1.symm.trans e375
                        refine wq_al (p' := 196) (n := 12) (ck_198 _ _ rfl) rfl (ly_k I23.1.1.1 101 rfl) (by omega) (e375) ?_
                        refine av_wp_ret (v := some (.inl v374)) (ck_198 _ _ rfl) rfl rfl ?_
                        have q378 := (BRR_ye B21 e33 (by omega)).1
                        have q3780 : (bgx U S ro x l y).2.2 = 9999 ∨ (0 ≤ (bgx U S ro x l y).2.2 ∧ (bgx U S ro x l y).2.2 < 9999) := bgn_0 (HBd_arr (RX.2.1 (Int.toNat x) (Int.toNat l) (by omega) (by omega)) (by omega) (by have := cbv_d (U (Int.toNat x)) (S (Int.toNat x)); omega))
                        have r379 : ((ro (Int.toNat l)) 12 = 0 ∧ rpx (U (Int.toNat x)) (ro (Int.toNat l)) (arr (U (Int.toNat x)) (ro (Int.toNat l)) (bxx U S (ro (Int.toNat l)) (Int.toNat x)) y) (S (Int.toNat x)) (bgx U S ro x l y) = (bgx U S ro x l y).2.2) ∨ ((ro (Int.toNat l)) 12 ≠ 0 ∧ rpx (U (Int.toNat x)) (ro (Int.toNat l)) (arr (U (Int.toNat x)) (ro (Int.toNat l)) (bxx U S (ro (Int.toNat l)) (Int.toNat x)) y) (S (Int.toNat x)) (bgx U S ro x l y) = rpv (U (Int.toNat x)) (ro (Int.toNat l)) (arr (U (Int.toNat x)) (ro (Int.toNat l)) (bxx U S (ro (Int.toNat l)) (Int.toNat x)) y) (bgx U S ro x l y).2.1 (S (Int.toNat x))) := by
                          unfold rpx
                          by_cases c : (ro (Int.toNat l)) 12 = 0
                          · exact Or.inl ⟨c, if_pos c⟩
                          · exact Or.inr ⟨c, if_neg c⟩
                        have r379k : (ro (Int.toNat l)) 12 ≠ 0 → Int.toNat k198 = S (Int.toNat x) := fun _ => by omega
                        have r379v : (ro (Int.toNat l)) 12 ≠ 0 → rpv (U (Int.toNat x)) (ro (Int.toNat l)) (arr (U (Int.toNat x)) (ro (Int.toNat l)) (bxx U S (ro (Int.toNat l)) (Int.toNat x)) y) (bgx U S ro x l y).2.1 (S (Int.toNat x)) = rpv (U (Int.toNat x)) (ro (Int.toNat l)) (arr (U (Int.toNat x)) (ro (Int.toNat l)) (bxx U S (ro (Int.toNat l)) (Int.toNat x)) y) (bgx U S ro x l y).2.1 (Int.toNat k198) := fun c => by rw [r379k c]
                        exact hq _ _ _ _ h13 (Or.inl ⟨by unfold okx; omega, by unfold bev; rw [if_neg q378, if_neg (by omega), y371]; exact y377.symm⟩) I23 F24
                      · have c367 : (0) ≤ v362 := c367
                        refine av_wp_sqF ck_198 2 (pc' := 172) (lv' := [some (.inr (.inr (.inl (some (77))))), some (.inl x), some (.inl l), some (.inl y), some (.inl w), some (.inl v362), some (.inl k198), a199]) (st' := [.inl v362, .inl w]) (h' := h13) rfl ?_
                        refine wq_k2 (p' := 175) (ck_198 _ _ rfl) rfl ⟨by omega, by omega⟩ ⟨by omega, by omega⟩ (fun c380 => ?_) (fun c381 => ?_)
                        · have c380 : w < v362 := c380
                          refine av_wp_sqF ck_198 1 (pc' := 188) (lv' := [some (.inr (.inr (.inl (some (77))))), some (.inl x), some (.inl l), some (.inl y), some (.inl w), some (.inl v362), some (.inl k198), a199]) (st' := [.inr (.inr (.inl (some (77))))]) (h' := h13) rfl ?_
                          refine wq_gr (p' := 191) (ck_198 _ _ rfl) rfl (congrArg Prod.fst (ly_k I23.1.1.1 77 rfl)) rfl (ly_g I23.1.1.1 77 35 101 rfl) ?_
                          refine av_wp_sqF ck_198 1 (pc' := 192) (lv' := [some (.inr (.inr (.inl (some (77))))), some (.inl x), some (.inl l), some (.inl y), some (.inl w), some (.inl v362), some (.inl k198), a199]) (st' := [.inr (.inr (.inl (some (77)))), .inr (.inr (.inl (some (101))))]) (h' := h13) rfl ?_
                          obtain ⟨v382, e383⟩ : ∃ v, hF h13 77 52 = v := ⟨_, rfl⟩
                          have g384 := im_of I23.1.1
                          rw [e383] at g384
                          have y385 : (bgx U S ro x l y).2.1 = v382 := (BRR_ye B21 e33 (by omega)).2.2.1.symm.trans e383
                          have q387 := (BRR_ye B21 e33 (by omega)).1
                          have b386 : ((bgx U S ro x l y).2.2 = 9999 ∧ (bgx U S ro x l y).1 = -1 ∧ (bgx U S ro x l y).2.1 = -1) ∨ ((bgx U S ro x l y).2.2 < 9999 ∧ (0 ≤ (bgx U S ro x l y).2.1 ∧ (bgx U S ro x l y).2.1 < (S (Int.toNat x) : Int) ∧ ofv (U (Int.toNat x)) (ro (Int.toNat l)) (Int.toNat (bgx U S ro x l y).2.1) ≠ 0) ∧ ((bgx U S ro x l y).1 = -1 ∨ (0 ≤ (bgx U S ro x l y).1 ∧ (bgx U S ro x l y).1 < (S (Int.toNat x) : Int) ∧ ysv (U (Int.toNat x)) (ro (Int.toNat l)) (Int.toNat (bgx U S ro x l y).1) ≠ 0))) := bgn_f
                          have b386a := (b386.elim (fun z => absurd z.1 q387) (fun z => z.2.1))
                          have b386b : 0 ≤ v382 ∧ v382 < (S (Int.toNat x) : Int) := by omega
                          clear b386
                          refine wq_gi (p' := 195) (ck_198 _ _ rfl) rfl (congrArg Prod.fst (ly_k I23.1.1.1 77 rfl)) rfl (e383) ?_
                          obtain ⟨v388, e389⟩ : ∃ v, hA h13 101 (Int.toNat (v382)) = v := ⟨_, rfl⟩
                          have g390 : 0 ≤ hA h13 101 (Int.toNat (v382)) ∧ hA h13 101 (Int.toNat (v382)) ≤ 2 := im_w I23.1.1 101 (by decide) (by decide) _
                          rw [e389] at g390
                          have y391 : (U (Int.toNat x)) (21 * (Int.toNat (v382)) + 1) = v388 := (L22.1 (Int.toNat (v382)) (by omega)).1.2.2.2.2.1.symm.trans e389
                          refine wq_al (p' := 196) (n := 12) (ck_198 _ _ rfl) rfl (ly_k I23.1.1.1 101 rfl) (by omega) (e389) ?_
                          refine av_wp_ret (v := some (.inl v388)) (ck_198 _ _ rfl) rfl rfl ?_
                          have q392 := (BRR_ye B21 e33 (by omega)).1
                          have q3920 : (bgx U S ro x l y).2.2 = 9999 ∨ (0 ≤ (bgx U S ro x l y).2.2 ∧ (bgx U S ro x l y).2.2 < 9999) := bgn_0 (HBd_arr (RX.2.1 (Int.toNat x) (Int.toNat l) (by omega) (by omega)) (by omega) (by have := cbv_d (U (Int.toNat x)) (S (Int.toNat x)); omega))
                          have r393 : ((ro (Int.toNat l)) 12 = 0 ∧ rpx (U (Int.toNat x)) (ro (Int.toNat l)) (arr (U (Int.toNat x)) (ro (Int.toNat l)) (bxx U S (ro (Int.toNat l)) (Int.toNat x)) y) (S (Int.toNat x)) (bgx U S ro x l y) = (bgx U S ro x l y).2.2) ∨ ((ro (Int.toNat l)) 12 ≠ 0 ∧ rpx (U (Int.toNat x)) (ro (Int.toNat l)) (arr (U (Int.toNat x)) (ro (Int.toNat l)) (bxx U S (ro (Int.toNat l)) (Int.toNat x)) y) (S (Int.toNat x)) (bgx U S ro x l y) = rpv (U (Int.toNat x)) (ro (Int.toNat l)) (arr (U (Int.toNat x)) (ro (Int.toNat l)) (bxx U S (ro (Int.toNat l)) (Int.toNat x)) y) (bgx U S ro x l y).2.1 (S (Int.toNat x))) := by
                            unfold rpx
                            by_cases c : (ro (Int.toNat l)) 12 = 0
                            · exact Or.inl ⟨c, if_pos c⟩
                            · exact Or.inr ⟨c, if_neg c⟩
                          have r393k : (ro (Int.toNat l)) 12 ≠ 0 → Int.toNat k198 = S (Int.toNat x) := fun _ => by omega
                          have r393v : (ro (Int.toNat l)) 12 ≠ 0 → rpv (U (Int.toNat x)) (ro (Int.toNat l)) (arr (U (Int.toNat x)) (ro (Int.toNat l)) (bxx U S (ro (Int.toNat l)) (Int.toNat x)) y) (bgx U S ro x l y).2.1 (S (Int.toNat x)) = rpv (U (Int.toNat x)) (ro (Int.toNat l)) (arr (U (Int.toNat x)) (ro (Int.toNat l)) (bxx U S (ro (Int.toNat l)) (Int.toNat x)) y) (bgx U S ro x l y).2.1 (Int.toNat k198) := fun c => by rw [r393k c]
                          exact hq _ _ _ _ h13 (Or.inl ⟨by unfold okx; omega, by unfold bev; rw [if_neg q392, if_neg (by omega), y385]; exact y391.symm⟩) I23 F24
                        · have c381 : v362 ≤ w := c381
                          refine av_wp_sqF ck_198 1 (pc' := 176) (lv' := [some (.inr (.inr (.inl (some (77))))), some (.inl x), some (.inl l), some (.inl y), some (.inl w), some (.inl v362), some (.inl k198), a199]) (st' := [.inr (.inr (.inl (some (77))))]) (h' := h13) rfl ?_
                          refine wq_gr (p' := 179) (ck_198 _ _ rfl) rfl (congrArg Prod.fst (ly_k I23.1.1.1 77 rfl)) rfl (ly_g I23.1.1.1 77 36 102 rfl) ?_
                          refine av_wp_sqF ck_198 1 (pc' := 180) (lv' := [some (.inr (.inr (.inl (some (77))))), some (.inl x), some (.inl l), some (.inl y), some (.inl w), some (.inl v362), some (.inl k198), a199]) (st' := [.inr (.inr (.inl (some (77)))), .inr (.inr (.inl (some (102))))]) (h' := h13) rfl ?_
                          obtain ⟨v394, e395⟩ : ∃ v, hF h13 77 52 = v := ⟨_, rfl⟩
                          have g396 := im_of I23.1.1
                          rw [e395] at g396
                          have y397 : (bgx U S ro x l y).2.1 = v394 := (BRR_ye B21 e33 (by omega)).2.2.1.symm.trans e395
                          have q399 := (BRR_ye B21 e33 (by omega)).1
                          have b398 : ((bgx U S ro x l y).2.2 = 9999 ∧ (bgx U S ro x l y).1 = -1 ∧ (bgx U S ro x l y).2.1 = -1) ∨ ((bgx U S ro x l y).2.2 < 9999 ∧ (0 ≤ (bgx U S ro x l y).2.1 ∧ (bgx U S ro x l y).2.1 < (S (Int.toNat x) : Int) ∧ ofv (U (Int.toNat x)) (ro (Int.toNat l)) (Int.toNat (bgx U S ro x l y).2.1) ≠ 0) ∧ ((bgx U S ro x l y).1 = -1 ∨ (0 ≤ (bgx U S ro x l y).1 ∧ (bgx U S ro x l y).1 < (S (Int.toNat x) : Int) ∧ ysv (U (Int.toNat x)) (ro (Int.toNat l)) (Int.toNat (bgx U S ro x l y).1) ≠ 0))) := bgn_f
                          have b398a := (b398.elim (fun z => absurd z.1 q399) (fun z => z.2.1))
                          have b398b : 0 ≤ v394 ∧ v394 < (S (Int.toNat x) : Int) := by omega
                          clear b398
                          refine wq_gi (p' := 183) (ck_198 _ _ rfl) rfl (congrArg Prod.fst (ly_k I23.1.1.1 77 rfl)) rfl (e395) ?_
                          obtain ⟨v400, e401⟩ : ∃ v, hA h13 102 (Int.toNat (v394)) = v := ⟨_, rfl⟩
                          have g402 : -1 ≤ hA h13 102 (Int.toNat (v394)) ∧ hA h13 102 (Int.toNat (v394)) ≤ 2 := im_w I23.1.1 102 (by decide) (by decide) _
                          rw [e401] at g402
                          have y403 : (U (Int.toNat x)) (21 * (Int.toNat (v394)) + 2) = v400 := (L22.1 (Int.toNat (v394)) (by omega)).1.2.2.2.2.2.1.symm.trans e401
                          refine wq_al (p' := 184) (n := 12) (ck_198 _ _ rfl) rfl (ly_k I23.1.1.1 102 rfl) (by omega) (e401) ?_
                          refine av_wp_sqF ck_198 1 (pc' := 196) (lv' := [some (.inr (.inr (.inl (some (77))))), some (.inl x), some (.inl l), some (.inl y), some (.inl w), some (.inl v362), some (.inl k198), a199]) (st' := [.inl v400]) (h' := h13) rfl ?_
                          refine av_wp_ret (v := some (.inl v400)) (ck_198 _ _ rfl) rfl rfl ?_
                          have q404 := (BRR_ye B21 e33 (by omega)).1
                          have q4040 : (bgx U S ro x l y).2.2 = 9999 ∨ (0 ≤ (bgx U S ro x l y).2.2 ∧ (bgx U S ro x l y).2.2 < 9999) := bgn_0 (HBd_arr (RX.2.1 (Int.toNat x) (Int.toNat l) (by omega) (by omega)) (by omega) (by have := cbv_d (U (Int.toNat x)) (S (Int.toNat x)); omega))
                          have r405 : ((ro (Int.toNat l)) 12 = 0 ∧ rpx (U (Int.toNat x)) (ro (Int.toNat l)) (arr (U (Int.toNat x)) (ro (Int.toNat l)) (bxx U S (ro (Int.toNat l)) (Int.toNat x)) y) (S (Int.toNat x)) (bgx U S ro x l y) = (bgx U S ro x l y).2.2) ∨ ((ro (Int.toNat l)) 12 ≠ 0 ∧ rpx (U (Int.toNat x)) (ro (Int.toNat l)) (arr (U (Int.toNat x)) (ro (Int.toNat l)) (bxx U S (ro (Int.toNat l)) (Int.toNat x)) y) (S (Int.toNat x)) (bgx U S ro x l y) = rpv (U (Int.toNat x)) (ro (Int.toNat l)) (arr (U (Int.toNat x)) (ro (Int.toNat l)) (bxx U S (ro (Int.toNat l)) (Int.toNat x)) y) (bgx U S ro x l y).2.1 (S (Int.toNat x))) := by
                            unfold rpx
                            by_cases c : (ro (Int.toNat l)) 12 = 0
                            · exact Or.inl ⟨c, if_pos c⟩
                            · exact Or.inr ⟨c, if_neg c⟩
                          have r405k : (ro (Int.toNat l)) 12 ≠ 0 → Int.toNat k198 = S (Int.toNat x) := fun _ => by omega
                          have r405v : (ro (Int.toNat l)) 12 ≠ 0 → rpv (U (Int.toNat x)) (ro (Int.toNat l)) (arr (U (Int.toNat x)) (ro (Int.toNat l)) (bxx U S (ro (Int.toNat l)) (Int.toNat x)) y) (bgx U S ro x l y).2.1 (S (Int.toNat x)) = rpv (U (Int.toNat x)) (ro (Int.toNat l)) (arr (U (Int.toNat x)) (ro (Int.toNat l)) (bxx U S (ro (Int.toNat l)) (Int.toNat x)) y) (bgx U S ro x l y).2.1 (Int.toNat k198) := fun c => by rw [r405k c]
                          exact hq _ _ _ _ h13 (Or.inl ⟨by unfold okx; omega, by unfold bev; rw [if_neg q404, if_pos (by omega), y397]; exact y403.symm⟩) I23 F24
                · have c311 : (0) < v305 := c311
                  exfalso; omega
          exact L201 _ (v193) ((0)) (none) rfl (by omega) (by omega) (by omega) (by omega) rfl
      · have c36 : v32 = (0) := c36
        refine av_wp_sqF ck_198 1 (pc' := 26) (lv' := [some (.inr (.inr (.inl (some (77))))), some (.inl x), some (.inl l), some (.inl y), some (.inl w), none, none, none]) (st' := [.inl (-1)]) (h' := h13) rfl ?_
        refine av_wp_ret (v := some (.inl (-1))) (ck_198 _ _ rfl) rfl rfl ?_
        have q406 := BRR_no B21 e33 (by omega)
        exact hq _ _ _ _ h13 (Or.inl ⟨by unfold okx; omega, by unfold bev; rw [if_pos q406]⟩) I23 F24


