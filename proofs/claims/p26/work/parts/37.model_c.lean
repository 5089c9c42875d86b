set_option maxRecDepth 100000 in
set_option maxHeartbeats 4000000 in
theorem ct_165 {g h : av_H} {n a m : Int} (I : IMF n a m h) (F : FM g h) (x : Int) {Q : Option av_V → av_H → Prop} (hq : ∀ h', IMF n a m h' → FM g h' → Q none h') : av_wp none cd_165 0 [some (.inr (.inr (.inl (some (77))))), some (.inl x), none, none, none] [] h Q := by
  have gn := im_n I.1.1
  rw [I.2.1] at gn
  have ga := im_a I.1.1
  rw [I.2.2.1] at ga
  have gm := im_cm I.1.1
  rw [I.2.2.2] at gm
  refine av_wp_sqF ck_165 2 (pc' := 2) (lv' := [some (.inr (.inr (.inl (some (77))))), some (.inl x), some (.inl (0)), none, none]) (st' := []) (h' := h) rfl ?_
  have L6 : ∀ (m5 : Nat) (k1 : Int) (h2 : av_H), (0 ≤ k1 ∧ k1 ≤ 48) → IMF n a m h2 → FM g h2 → ((48 : Int) - k1).toNat = m5 → av_wp none cd_165 2 [some (.inr (.inr (.inl (some (77))))), some (.inl x), some (.inl k1), none, none] [] h2 Q := by
    intro m5
    induction m5 using Nat.strongRecOn with
    | _ m5 I7 =>
      intro k1 h2 g9 I3 F4 e8
      refine av_wp_sqF ck_165 2 (pc' := 5) (lv' := [some (.inr (.inr (.inl (some (77))))), some (.inl x), some (.inl k1), none, none]) (st' := [.inl (48), .inl k1]) (h' := h2) rfl ?_
      refine wq_k2 (p' := 8) (ck_165 _ _ rfl) rfl ⟨by omega, by omega⟩ ⟨by omega, by omega⟩ (fun c10 => ?_) (fun c11 => ?_)
      · have c10 : (48) ≤ k1 := c10
        refine av_wp_sqF ck_165 4 (pc' := 25) (lv' := [some (.inr (.inr (.inl (some (77))))), some (.inl x), some (.inl x), some (.inl (0)), none]) (st' := []) (h' := h2) rfl ?_
        have L18 : ∀ (m17 : Nat) (k12 : Int) (k13 : Int) (h14 : av_H), (0 ≤ k13 ∧ k13 ≤ 48) → IMF n a m h14 → FM g h14 → (48 - k13).toNat = m17 → av_wp none cd_165 25 [some (.inr (.inr (.inl (some (77))))), some (.inl x), some (.inl k12), some (.inl k13), none] [] h14 Q := by
          intro m17
          induction m17 using Nat.strongRecOn with
          | _ m17 I19 =>
            intro k12 k13 h14 g21 I15 F16 e20
            refine av_wp_sqF ck_165 2 (pc' := 27) (lv' := [some (.inr (.inr (.inl (some (77))))), some (.inl x), some (.inl k12), some (.inl k13), none]) (st' := [.inr (.inr (.inl (some (77)))), .inl k13]) (h' := h14) rfl ?_
            refine wq_gi (p' := 30) (ck_165 _ _ rfl) rfl (congrArg Prod.fst (ly_k I15.1.1.1 77 rfl)) rfl (I15.2.2.1) ?_
            refine wq_k2 (p' := 33) (ck_165 _ _ rfl) rfl ⟨by omega, by omega⟩ ⟨by omega, by omega⟩ (fun c22 => ?_) (fun c23 => ?_)
            · have c22 : a ≤ k13 := c22
              refine av_wp_sqF ck_165 2 (pc' := 69) (lv' := [some (.inr (.inr (.inl (some (77))))), some (.inl x), some (.inl k12), some (.inl (0)), none]) (st' := []) (h' := h14) rfl ?_
              have L30 : ∀ (m29 : Nat) (k24 : Int) (a25 : Option av_V) (h26 : av_H), av_lg a25 = false → (0 ≤ k24 ∧ k24 ≤ 12) → IMF n a m h26 → FM g h26 → (12 - k24).toNat = m29 → av_wp none cd_165 69 [some (.inr (.inr (.inl (some (77))))), some (.inl x), some (.inl k12), some (.inl k24), a25] [] h26 Q := by
                intro m29
                induction m29 using Nat.strongRecOn with
                | _ m29 I31 =>
                  intro k24 a25 h26 g33 g34 I27 F28 e32
                  have la25 := g33
                  refine av_wp_sqF ck_165 2 (pc' := 71) (lv' := [some (.inr (.inr (.inl (some (77))))), some (.inl x), some (.inl k12), some (.inl k24), a25]) (st' := [.inr (.inr (.inl (some (77)))), .inl k24]) (h' := h26) rfl ?_
                  refine wq_gi (p' := 74) (ck_165 _ _ rfl) rfl (congrArg Prod.fst (ly_k I27.1.1.1 77 rfl)) rfl (I27.2.1) ?_
                  refine wq_k2 (p' := 77) (ck_165 _ _ rfl) rfl ⟨by omega, by omega⟩ ⟨by omega, by omega⟩ (fun c35 => ?_) (fun c36 => ?_)
                  · have c35 : n ≤ k24 := c35
                    refine av_wp_ret (v := none) (ck_165 _ _ rfl) rfl rfl ?_
                    exact hq h26 I27 F28
                  · have c36 : k24 < n := c36
                    refine av_wp_sqF ck_165 1 (pc' := 78) (lv' := [some (.inr (.inr (.inl (some (77))))), some (.inl x), some (.inl k12), some (.inl k24), a25]) (st' := [.inr (.inr (.inl (some (77))))]) (h' := h26) rfl ?_
                    refine wq_gr (p' := 81) (ck_165 _ _ rfl) rfl (congrArg Prod.fst (ly_k I27.1.1.1 77 rfl)) rfl (ly_g I27.1.1.1 77 32 98 rfl) ?_
                    refine av_wp_sqF ck_165 1 (pc' := 82) (lv' := [some (.inr (.inr (.inl (some (77))))), some (.inl x), some (.inl k12), some (.inl k24), a25]) (st' := [.inl k24, .inr (.inr (.inl (some (98))))]) (h' := h26) rfl ?_
                    obtain ⟨v37, e38⟩ : ∃ v, hA h26 98 (Int.toNat (k24)) = v := ⟨_, rfl⟩
                    have g39 : 0 ≤ hA h26 98 (Int.toNat (k24)) ∧ hA h26 98 (Int.toNat (k24)) ≤ 2 := im_w I27.1.1 98 (by decide) (by decide) _
                    rw [e38] at g39
                    refine wq_al (p' := 83) (n := 12) (ck_165 _ _ rfl) rfl (ly_k I27.1.1.1 98 rfl) (by omega) (e38) ?_
                    refine av_wp_sqF ck_165 1 (pc' := 84) (lv' := [some (.inr (.inr (.inl (some (77))))), some (.inl x), some (.inl k12), some (.inl k24), a25]) (st' := [.inl (2), .inl v37]) (h' := h26) rfl ?_
                    have J42 : ∀ (j40 : Int), (0 ≤ j40 ∧ j40 ≤ 1) →  av_wp none cd_165 106 [some (.inr (.inr (.inl (some (77))))), some (.inl x), some (.inl k12), some (.inl k24), a25] [.inl j40] h26 Q := by
                      intro j40 g41
                      refine av_wp_sqF ck_165 2 (pc' := 109) (lv' := [some (.inr (.inr (.inl (some (77))))), some (.inl x), some (.inl k12), some (.inl k24), some (.inl j40)]) (st' := [.inr (.inr (.inl (some (77))))]) (h' := h26) rfl ?_
                      refine wq_gr (p' := 112) (ck_165 _ _ rfl) rfl (congrArg Prod.fst (ly_k I27.1.1.1 77 rfl)) rfl (ly_g I27.1.1.1 77 43 109 rfl) ?_
                      refine av_wp_sqF ck_165 2 (pc' := 114) (lv' := [some (.inr (.inr (.inl (some (77))))), some (.inl x), some (.inl k12), some (.inl k24), some (.inl j40)]) (st' := [.inr (.inr (.inl (some (77)))), .inl k24, .inr (.inr (.inl (some (109))))]) (h' := h26) rfl ?_
                      refine wq_gr (p' := 117) (ck_165 _ _ rfl) rfl (congrArg Prod.fst (ly_k I27.1.1.1 77 rfl)) rfl (ly_g I27.1.1.1 77 39 105 rfl) ?_
                      refine av_wp_sqF ck_165 3 (pc' := 120) (lv' := [some (.inr (.inr (.inl (some (77))))), some (.inl x), some (.inl k12), some (.inl k24), some (.inl j40)]) (st' := [.inl ((3) * k24), .inr (.inr (.inl (some (105)))), .inl k24, .inr (.inr (.inl (some (109))))]) (h' := h26) rfl ?_
                      obtain ⟨v43, e44⟩ : ∃ v, hA h26 105 (Int.toNat (((3) * k24))) = v := ⟨_, rfl⟩
                      have g45 : 0 ≤ hA h26 105 (Int.toNat (((3) * k24))) ∧ hA h26 105 (Int.toNat (((3) * k24))) ≤ 1999 := im_w I27.1.1 105 (by decide) (by decide) _
                      rw [e44] at g45
                      refine wq_al (p' := 121) (n := 36) (ck_165 _ _ rfl) rfl (ly_k I27.1.1.1 105 rfl) (by omega) (e44) ?_
                      refine av_wp_sqF ck_165 1 (pc' := 122) (lv' := [some (.inr (.inr (.inl (some (77))))), some (.inl x), some (.inl k12), some (.inl k24), some (.inl j40)]) (st' := [.inr (.inr (.inl (some (77)))), .inl v43, .inl k24, .inr (.inr (.inl (some (109))))]) (h' := h26) rfl ?_
                      refine wq_gr (p' := 125) (ck_165 _ _ rfl) rfl (congrArg Prod.fst (ly_k I27.1.1.1 77 rfl)) rfl (ly_g I27.1.1.1 77 46 112 rfl) ?_
                      refine av_wp_sqF ck_165 3 (pc' := 128) (lv' := [some (.inr (.inr (.inl (some (77))))), some (.inl x), some (.inl k12), some (.inl k24), some (.inl j40)]) (st' := [.inl ((4) * k24), .inr (.inr (.inl (some (112)))), .inl v43, .inl k24, .inr (.inr (.inl (some (109))))]) (h' := h26) rfl ?_
                      obtain ⟨v46, e47⟩ : ∃ v, hA h26 112 (Int.toNat (((4) * k24))) = v := ⟨_, rfl⟩
                      refine wq_al (p' := 129) (n := 48) (ck_165 _ _ rfl) rfl (ly_k I27.1.1.1 112 rfl) (by omega) (e47) ?_
                      refine av_wp_sqF ck_165 1 (pc' := 130) (lv' := [some (.inr (.inr (.inl (some (77))))), some (.inl x), some (.inl k12), some (.inl k24), some (.inl j40)]) (st' := [.inl (v43 + v46), .inl k24, .inr (.inr (.inl (some (109))))]) (h' := h26) rfl ?_
                      refine im_as (p' := 131) (l := 12) rfl rfl I27 F28 (ly_k I27.1.1.1 109 rfl) (by omega) (by omega) (fun h49 I50 F51 => ?_)
                      refine av_wp_sqF ck_165 1 (pc' := 132) (lv' := [some (.inr (.inr (.inl (some (77))))), some (.inl x), some (.inl k12), some (.inl k24), some (.inl j40)]) (st' := [.inr (.inr (.inl (some (77))))]) (h' := h49) rfl ?_
                      refine wq_gr (p' := 135) (ck_165 _ _ rfl) rfl (congrArg Prod.fst (ly_k I50.1.1.1 77 rfl)) rfl (ly_g I50.1.1.1 77 44 110 rfl) ?_
                      refine av_wp_sqF ck_165 2 (pc' := 138) (lv' := [some (.inr (.inr (.inl (some (77))))), some (.inl x), some (.inl k12), some (.inl k24), some (.inl j40)]) (st' := [.inl j40, .inl k24, .inr (.inr (.inl (some (110))))]) (h' := h49) rfl ?_
                      have J53 : ∀ (j52 : Int),  av_wp none cd_165 173 [some (.inr (.inr (.inl (some (77))))), some (.inl x), some (.inl k12), some (.inl k24), some (.inl j40)] [.inl j52, .inl k24, .inr (.inr (.inl (some (110))))] h49 Q := by
                        intro j52
                        refine im_as (p' := 174) (l := 12) rfl rfl I50 F51 (ly_k I50.1.1.1 110 rfl) (by omega) (by omega) (fun h54 I55 F56 => ?_)
                        refine av_wp_sqF ck_165 1 (pc' := 175) (lv' := [some (.inr (.inr (.inl (some (77))))), some (.inl x), some (.inl k12), some (.inl k24), some (.inl j40)]) (st' := [.inr (.inr (.inl (some (77))))]) (h' := h54) rfl ?_
                        refine wq_gr (p' := 178) (ck_165 _ _ rfl) rfl (congrArg Prod.fst (ly_k I55.1.1.1 77 rfl)) rfl (ly_g I55.1.1.1 77 45 111 rfl) ?_
                        refine av_wp_sqF ck_165 2 (pc' := 181) (lv' := [some (.inr (.inr (.inl (some (77))))), some (.inl x), some (.inl k12), some (.inl k24), some (.inl j40)]) (st' := [.inl j40, .inl k24, .inr (.inr (.inl (some (111))))]) (h' := h54) rfl ?_
                        have J58 : ∀ (j57 : Int),  av_wp none cd_165 216 [some (.inr (.inr (.inl (some (77))))), some (.inl x), some (.inl k12), some (.inl k24), some (.inl j40)] [.inl j57, .inl k24, .inr (.inr (.inl (some (111))))] h54 Q := by
                          intro j57
                          refine im_as (p' := 217) (l := 12) rfl rfl I55 F56 (ly_k I55.1.1.1 111 rfl) (by omega) (by omega) (fun h59 I60 F61 => ?_)
                          refine av_wp_sqF ck_165 2 (pc' := 69) (lv' := [some (.inr (.inr (.inl (some (77))))), some (.inl x), some (.inl k12), some (.inl (k24 + (1))), some (.inl j40)]) (st' := []) (h' := h59) rfl ?_
                          exact I31 _ (by omega) ((k24 + (1))) (some (.inl j40)) h59 rfl (by omega) I60 F61 rfl
                        refine wq_k1 (p' := 184) (ck_165 _ _ rfl) rfl ⟨by omega, by omega⟩ (fun c62 => ?_) (fun c63 => ?_)
                        · have c62 : j40 = (0) := c62
                          refine av_wp_sqF ck_165 1 (pc' := 189) (lv' := [some (.inr (.inr (.inl (some (77))))), some (.inl x), some (.inl k12), some (.inl k24), some (.inl j40)]) (st' := [.inr (.inr (.inl (some (77)))), .inl k24, .inr (.inr (.inl (some (111))))]) (h' := h54) rfl ?_
                          refine wq_gr (p' := 192) (ck_165 _ _ rfl) rfl (congrArg Prod.fst (ly_k I55.1.1.1 77 rfl)) rfl (ly_g I55.1.1.1 77 44 110 rfl) ?_
                          refine av_wp_sqF ck_165 1 (pc' := 193) (lv' := [some (.inr (.inr (.inl (some (77))))), some (.inl x), some (.inl k12), some (.inl k24), some (.inl j40)]) (st' := [.inl k24, .inr (.inr (.inl (some (110)))), .inl k24, .inr (.inr (.inl (some (111))))]) (h' := h54) rfl ?_
                          obtain ⟨v64, e65⟩ : ∃ v, hA h54 110 (Int.toNat (k24)) = v := ⟨_, rfl⟩
                          refine wq_al (p' := 194) (n := 12) (ck_165 _ _ rfl) rfl (ly_k I55.1.1.1 110 rfl) (by omega) (e65) ?_
                          refine av_wp_sqF ck_165 1 (pc' := 195) (lv' := [some (.inr (.inr (.inl (some (77))))), some (.inl x), some (.inl k12), some (.inl k24), some (.inl j40)]) (st' := [.inr (.inr (.inl (some (77)))), .inl v64, .inl k24, .inr (.inr (.inl (some (111))))]) (h' := h54) rfl ?_
                          refine wq_gr (p' := 198) (ck_165 _ _ rfl) rfl (congrArg Prod.fst (ly_k I55.1.1.1 77 rfl)) rfl (ly_g I55.1.1.1 77 39 105 rfl) ?_
                          refine av_wp_sqF ck_165 5 (pc' := 203) (lv' := [some (.inr (.inr (.inl (some (77))))), some (.inl x), some (.inl k12), some (.inl k24), some (.inl j40)]) (st' := [.inl (((3) * k24) + (2)), .inr (.inr (.inl (some (105)))), .inl v64, .inl k24, .inr (.inr (.inl (some (111))))]) (h' := h54) rfl ?_
                          obtain ⟨v67, e68⟩ : ∃ v, hA h54 105 (Int.toNat ((((3) * k24) + (2)))) = v := ⟨_, rfl⟩
                          have g69 : 0 ≤ hA h54 105 (Int.toNat ((((3) * k24) + (2)))) ∧ hA h54 105 (Int.toNat ((((3) * k24) + (2)))) ≤ 1999 := im_w I55.1.1 105 (by decide) (by decide) _
                          rw [e68] at g69
                          refine wq_al (p' := 204) (n := 36) (ck_165 _ _ rfl) rfl (ly_k I55.1.1.1 105 rfl) (by omega) (e68) ?_
                          refine av_wp_sqF ck_165 2 (pc' := 206) (lv' := [some (.inr (.inr (.inl (some (77))))), some (.inl x), some (.inl k12), some (.inl k24), some (.inl j40)]) (st' := [.inr (.inr (.inl (some (77)))), .inl (v64 + v67), .inl k24, .inr (.inr (.inl (some (111))))]) (h' := h54) rfl ?_
                          refine wq_gr (p' := 209) (ck_165 _ _ rfl) rfl (congrArg Prod.fst (ly_k I55.1.1.1 77 rfl)) rfl (ly_g I55.1.1.1 77 46 112 rfl) ?_
                          refine av_wp_sqF ck_165 5 (pc' := 214) (lv' := [some (.inr (.inr (.inl (some (77))))), some (.inl x), some (.inl k12), some (.inl k24), some (.inl j40)]) (st' := [.inl (((4) * k24) + (2)), .inr (.inr (.inl (some (112)))), .inl (v64 + v67), .inl k24, .inr (.inr (.inl (some (111))))]) (h' := h54) rfl ?_
                          obtain ⟨v70, e71⟩ : ∃ v, hA h54 112 (Int.toNat ((((4) * k24) + (2)))) = v := ⟨_, rfl⟩
                          refine wq_al (p' := 215) (n := 48) (ck_165 _ _ rfl) rfl (ly_k I55.1.1.1 112 rfl) (by omega) (e71) ?_
                          refine av_wp_sqF ck_165 1 (pc' := 216) (lv' := [some (.inr (.inr (.inl (some (77))))), some (.inl x), some (.inl k12), some (.inl k24), some (.inl j40)]) (st' := [.inl ((v64 + v67) + v70), .inl k24, .inr (.inr (.inl (some (111))))]) (h' := h54) rfl ?_
                          exact J58 (((v64 + v67) + v70))
                        · have c63 : j40 ≠ (0) := c63
                          refine av_wp_sqF ck_165 2 (pc' := 216) (lv' := [some (.inr (.inr (.inl (some (77))))), some (.inl x), some (.inl k12), some (.inl k24), some (.inl j40)]) (st' := [.inl (-1), .inl k24, .inr (.inr (.inl (some (111))))]) (h' := h54) rfl ?_
                          exact J58 ((-1))
                      refine wq_k1 (p' := 141) (ck_165 _ _ rfl) rfl ⟨by omega, by omega⟩ (fun c73 => ?_) (fun c74 => ?_)
                      · have c73 : j40 = (0) := c73
                        refine av_wp_sqF ck_165 1 (pc' := 146) (lv' := [some (.inr (.inr (.inl (some (77))))), some (.inl x), some (.inl k12), some (.inl k24), some (.inl j40)]) (st' := [.inr (.inr (.inl (some (77)))), .inl k24, .inr (.inr (.inl (some (110))))]) (h' := h49) rfl ?_
                        refine wq_gr (p' := 149) (ck_165 _ _ rfl) rfl (congrArg Prod.fst (ly_k I50.1.1.1 77 rfl)) rfl (ly_g I50.1.1.1 77 43 109 rfl) ?_
                        refine av_wp_sqF ck_165 1 (pc' := 150) (lv' := [some (.inr (.inr (.inl (some (77))))), some (.inl x), some (.inl k12), some (.inl k24), some (.inl j40)]) (st' := [.inl k24, .inr (.inr (.inl (some (109)))), .inl k24, .inr (.inr (.inl (some (110))))]) (h' := h49) rfl ?_
                        obtain ⟨v75, e76⟩ : ∃ v, hA h49 109 (Int.toNat (k24)) = v := ⟨_, rfl⟩
                        refine wq_al (p' := 151) (n := 12) (ck_165 _ _ rfl) rfl (ly_k I50.1.1.1 109 rfl) (by omega) (e76) ?_
                        refine av_wp_sqF ck_165 1 (pc' := 152) (lv' := [some (.inr (.inr (.inl (some (77))))), some (.inl x), some (.inl k12), some (.inl k24), some (.inl j40)]) (st' := [.inr (.inr (.inl (some (77)))), .inl v75, .inl k24, .inr (.inr (.inl (some (110))))]) (h' := h49) rfl ?_
                        refine wq_gr (p' := 155) (ck_165 _ _ rfl) rfl (congrArg Prod.fst (ly_k I50.1.1.1 77 rfl)) rfl (ly_g I50.1.1.1 77 39 105 rfl) ?_
                        refine av_wp_sqF ck_165 5 (pc' := 160) (lv' := [some (.inr (.inr (.inl (some (77))))), some (.inl x), some (.inl k12), some (.inl k24), some (.inl j40)]) (st' := [.inl (((3) * k24) + (1)), .inr (.inr (.inl (some (105)))), .inl v75, .inl k24, .inr (.inr (.inl (some (110))))]) (h' := h49) rfl ?_
                        obtain ⟨v78, e79⟩ : ∃ v, hA h49 105 (Int.toNat ((((3) * k24) + (1)))) = v := ⟨_, rfl⟩
                        have g80 : 0 ≤ hA h49 105 (Int.toNat ((((3) * k24) + (1)))) ∧ hA h49 105 (Int.toNat ((((3) * k24) + (1)))) ≤ 1999 := im_w I50.1.1 105 (by decide) (by decide) _
                        rw [e79] at g80
                        refine wq_al (p' := 161) (n := 36) (ck_165 _ _ rfl) rfl (ly_k I50.1.1.1 105 rfl) (by omega) (e79) ?_
                        refine av_wp_sqF ck_165 2 (pc' := 163) (lv' := [some (.inr (.inr (.inl (some (77))))), some (.inl x), some (.inl k12), some (.inl k24), some (.inl j40)]) (st' := [.inr (.inr (.inl (some (77)))), .inl (v75 + v78), .inl k24, .inr (.inr (.inl (some (110))))]) (h' := h49) rfl ?_
                        refine wq_gr (p' := 166) (ck_165 _ _ rfl) rfl (congrArg Prod.fst (ly_k I50.1.1.1 77 rfl)) rfl (ly_g I50.1.1.1 77 46 112 rfl) ?_
                        refine av_wp_sqF ck_165 5 (pc' := 171) (lv' := [some (.inr (.inr (.inl (some (77))))), some (.inl x), some (.inl k12), some (.inl k24), some (.inl j40)]) (st' := [.inl (((4) * k24) + (1)), .inr (.inr (.inl (some (112)))), .inl (v75 + v78), .inl k24, .inr (.inr (.inl (some (110))))]) (h' := h49) rfl ?_
                        obtain ⟨v81, e82⟩ : ∃ v, hA h49 112 (Int.toNat ((((4) * k24) + (1)))) = v := ⟨_, rfl⟩
                        refine wq_al (p' := 172) (n := 48) (ck_165 _ _ rfl) rfl (ly_k I50.1.1.1 112 rfl) (by omega) (e82) ?_
                        refine av_wp_sqF ck_165 1 (pc' := 173) (lv' := [some (.inr (.inr (.inl (some (77))))), some (.inl x), some (.inl k12), some (.inl k24), some (.inl j40)]) (st' := [.inl ((v75 + v78) + v81), .inl k24, .inr (.inr (.inl (some (110))))]) (h' := h49) rfl ?_
                        exact J53 (((v75 + v78) + v81))
                      · have c74 : j40 ≠ (0) := c74
                        refine av_wp_sqF ck_165 2 (pc' := 173) (lv' := [some (.inr (.inr (.inl (some (77))))), some (.inl x), some (.inl k12), some (.inl k24), some (.inl j40)]) (st' := [.inl (-1), .inl k24, .inr (.inr (.inl (some (110))))]) (h' := h49) rfl ?_
                        exact J53 ((-1))
                    refine wq_k2 (p' := 87) (ck_165 _ _ rfl) rfl ⟨by omega, by omega⟩ ⟨by omega, by omega⟩ (fun c84 => ?_) (fun c85 => ?_)
                    · have c84 : v37 = (2) := c84
                      refine av_wp_sqF ck_165 2 (pc' := 106) (lv' := [some (.inr (.inr (.inl (some (77))))), some (.inl x), some (.inl k12), some (.inl k24), a25]) (st' := [.inl (1)]) (h' := h26) rfl ?_
                      exact J42 ((1)) (by omega)
                    · have c85 : v37 ≠ (2) := c85
                      refine av_wp_sqF ck_165 1 (pc' := 88) (lv' := [some (.inr (.inr (.inl (some (77))))), some (.inl x), some (.inl k12), some (.inl k24), a25]) (st' := [.inr (.inr (.inl (some (77))))]) (h' := h26) rfl ?_
                      refine wq_gr (p' := 91) (ck_165 _ _ rfl) rfl (congrArg Prod.fst (ly_k I27.1.1.1 77 rfl)) rfl (ly_g I27.1.1.1 77 46 112 rfl) ?_
                      refine av_wp_sqF ck_165 5 (pc' := 96) (lv' := [some (.inr (.inr (.inl (some (77))))), some (.inl x), some (.inl k12), some (.inl k24), a25]) (st' := [.inl (((4) * k24) + (3)), .inr (.inr (.inl (some (112))))]) (h' := h26) rfl ?_
                      obtain ⟨v86, e87⟩ : ∃ v, hA h26 112 (Int.toNat ((((4) * k24) + (3)))) = v := ⟨_, rfl⟩
                      refine wq_al (p' := 97) (n := 48) (ck_165 _ _ rfl) rfl (ly_k I27.1.1.1 112 rfl) (by omega) (e87) ?_
                      refine av_wp_sqF ck_165 1 (pc' := 98) (lv' := [some (.inr (.inr (.inl (some (77))))), some (.inl x), some (.inl k12), some (.inl k24), a25]) (st' := [.inl (1), .inl v86]) (h' := h26) rfl ?_
                      refine wq_c2 (p' := 101) (ck_165 _ _ rfl) rfl ?_ ?_
                      · refine av_wp_sqF ck_165 1 (pc' := 106) (lv' := [some (.inr (.inr (.inl (some (77))))), some (.inl x), some (.inl k12), some (.inl k24), a25]) (st' := [.inl (0)]) (h' := h26) rfl ?_
                        exact J42 ((0)) (by omega)
                      · refine av_wp_sqF ck_165 2 (pc' := 106) (lv' := [some (.inr (.inr (.inl (some (77))))), some (.inl x), some (.inl k12), some (.inl k24), a25]) (st' := [.inl (1)]) (h' := h26) rfl ?_
                        exact J42 ((1)) (by omega)
              exact L30 _ ((0)) (none) h14 rfl (by omega) I15 F16 rfl
            · have c23 : k13 < a := c23
              refine av_wp_sqF ck_165 1 (pc' := 34) (lv' := [some (.inr (.inr (.inl (some (77))))), some (.inl x), some (.inl k12), some (.inl k13), none]) (st' := [.inr (.inr (.inl (some (77))))]) (h' := h14) rfl ?_
              refine wq_gr (p' := 37) (ck_165 _ _ rfl) rfl (congrArg Prod.fst (ly_k I15.1.1.1 77 rfl)) rfl (ly_g I15.1.1.1 77 46 112 rfl) ?_
              refine av_wp_sqF ck_165 1 (pc' := 38) (lv' := [some (.inr (.inr (.inl (some (77))))), some (.inl x), some (.inl k12), some (.inl k13), none]) (st' := [.inr (.inr (.inl (some (77)))), .inr (.inr (.inl (some (112))))]) (h' := h14) rfl ?_
              refine wq_gr (p' := 41) (ck_165 _ _ rfl) rfl (congrArg Prod.fst (ly_k I15.1.1.1 77 rfl)) rfl (ly_g I15.1.1.1 77 41 107 rfl) ?_
              refine av_wp_sqF ck_165 1 (pc' := 42) (lv' := [some (.inr (.inr (.inl (some (77))))), some (.inl x), some (.inl k12), some (.inl k13), none]) (st' := [.inl k13, .inr (.inr (.inl (some (107)))), .inr (.inr (.inl (some (112))))]) (h' := h14) rfl ?_
              obtain ⟨v89, e90⟩ : ∃ v, hA h14 107 (Int.toNat (k13)) = v := ⟨_, rfl⟩
              have g91 : 0 ≤ hA h14 107 (Int.toNat (k13)) ∧ hA h14 107 (Int.toNat (k13)) ≤ 47 := im_w I15.1.1 107 (by decide) (by decide) _
              rw [e90] at g91
              refine wq_al (p' := 43) (n := 48) (ck_165 _ _ rfl) rfl (ly_k I15.1.1.1 107 rfl) (by omega) (e90) ?_
              refine av_wp_sqF ck_165 2 (pc' := 45) (lv' := [some (.inr (.inr (.inl (some (77))))), some (.inl x), some (.inl k12), some (.inl k13), none]) (st' := [.inr (.inr (.inl (some (77)))), .inl k12, .inl v89, .inr (.inr (.inl (some (112))))]) (h' := h14) rfl ?_
              refine wq_gr (p' := 48) (ck_165 _ _ rfl) rfl (congrArg Prod.fst (ly_k I15.1.1.1 77 rfl)) rfl (ly_g I15.1.1.1 77 42 108 rfl) ?_
              refine av_wp_sqF ck_165 1 (pc' := 49) (lv' := [some (.inr (.inr (.inl (some (77))))), some (.inl x), some (.inl k12), some (.inl k13), none]) (st' := [.inl k13, .inr (.inr (.inl (some (108)))), .inl k12, .inl v89, .inr (.inr (.inl (some (112))))]) (h' := h14) rfl ?_
              obtain ⟨v92, e93⟩ : ∃ v, hA h14 108 (Int.toNat (k13)) = v := ⟨_, rfl⟩
              have g94 := im_rx I15.1.1 (Int.toNat (k13)) (by have := I15.2.2.1; omega)
              rw [e93] at g94
              refine wq_al (p' := 50) (n := 48) (ck_165 _ _ rfl) rfl (ly_k I15.1.1.1 108 rfl) (by omega) (e93) ?_
              refine wq_rm (p' := 51) (ck_165 _ _ rfl) rfl ⟨by omega, by omega⟩ (by omega) (fun v95 e96 => ?_)
              refine im_as (p' := 52) (l := 48) rfl rfl I15 F16 (ly_k I15.1.1.1 112 rfl) (by omega) (by omega) (fun h97 I98 F99 => ?_)
              refine av_wp_sqF ck_165 2 (pc' := 54) (lv' := [some (.inr (.inr (.inl (some (77))))), some (.inl x), some (.inl k12), some (.inl k13), none]) (st' := [.inr (.inr (.inl (some (77)))), .inl k12]) (h' := h97) rfl ?_
              refine wq_gr (p' := 57) (ck_165 _ _ rfl) rfl (congrArg Prod.fst (ly_k I98.1.1.1 77 rfl)) rfl (ly_g I98.1.1.1 77 42 108 rfl) ?_
              refine av_wp_sqF ck_165 1 (pc' := 58) (lv' := [some (.inr (.inr (.inl (some (77))))), some (.inl x), some (.inl k12), some (.inl k13), none]) (st' := [.inl k13, .inr (.inr (.inl (some (108)))), .inl k12]) (h' := h97) rfl ?_
              obtain ⟨v100, e101⟩ : ∃ v, hA h97 108 (Int.toNat (k13)) = v := ⟨_, rfl⟩
              have g102 := im_rx I98.1.1 (Int.toNat (k13)) (by have := I98.2.2.1; omega)
              rw [e101] at g102
              refine wq_al (p' := 59) (n := 48) (ck_165 _ _ rfl) rfl (ly_k I98.1.1.1 108 rfl) (by omega) (e101) ?_
              refine wq_dv (p' := 60) (ck_165 _ _ rfl) rfl ⟨by omega, by omega⟩ (by omega) (fun v103 e104 => ?_)
              refine av_wp_sqF ck_165 3 (pc' := 25) (lv' := [some (.inr (.inr (.inl (some (77))))), some (.inl x), some (.inl v103), some (.inl (k13 + (1))), none]) (st' := []) (h' := h97) rfl ?_
              exact I19 _ (by omega) (v103) ((k13 + (1))) h97 (by omega) I98 F99 rfl
        exact L18 _ (x) ((0)) h2 (by omega) I3 F4 rfl
      · have c11 : k1 < (48) := c11
        refine av_wp_sqF ck_165 1 (pc' := 9) (lv' := [some (.inr (.inr (.inl (some (77))))), some (.inl x), some (.inl k1), none, none]) (st' := [.inr (.inr (.inl (some (77))))]) (h' := h2) rfl ?_
        refine wq_gr (p' := 12) (ck_165 _ _ rfl) rfl (congrArg Prod.fst (ly_k I3.1.1.1 77 rfl)) rfl (ly_g I3.1.1.1 77 46 112 rfl) ?_
        refine av_wp_sqF ck_165 2 (pc' := 14) (lv' := [some (.inr (.inr (.inl (some (77))))), some (.inl x), some (.inl k1), none, none]) (st' := [.inl (0), .inl k1, .inr (.inr (.inl (some (112))))]) (h' := h2) rfl ?_
        refine im_as (p' := 15) (l := 48) rfl rfl I3 F4 (ly_k I3.1.1.1 112 rfl) (by omega) (by omega) (fun h105 I106 F107 => ?_)
        refine av_wp_sqF ck_165 2 (pc' := 2) (lv' := [some (.inr (.inr (.inl (some (77))))), some (.inl x), some (.inl (k1 + (1))), none, none]) (st' := []) (h' := h105) rfl ?_
        exact I7 _ (by omega) ((k1 + (1))) h105 (by omega) I106 F107 rfl
  exact L6 _ ((0)) h (by omega) I F rfl

set_option maxRecDepth 100000 in
set_option maxHeartbeats 4000000 in
theorem ct_181 {g h : av_H} {n a m : Int} (I : IMF n a m h) (F : FM g h) (x : Int) {Q : Option av_V → av_H → Prop} (hq : ∀ h', IMF n a m h' → FM g h' → Q none h') : av_wp none cd_181 0 [some (.inr (.inr (.inl (some (77))))), some (.inl x)] [] h Q := by
  have gn := im_n I.1.1
  rw [I.2.1] at gn
  have ga := im_a I.1.1
  rw [I.2.2.1] at ga
  have gm := im_cm I.1.1
  rw [I.2.2.2] at gm
  refine av_wp_sqF ck_181 2 (pc' := 2) (lv' := [some (.inr (.inr (.inl (some (77))))), some (.inl x)]) (st' := [.inl x, .inr (.inr (.inl (some (77))))]) (h' := h) rfl ?_
  refine wq_cv (p' := 5) (av_qc (.invokevirtual 412) 165 1 0 8) 5 cd_165 [.inl x] (77) 8 [some (.inr (.inr (.inl (some (77))))), some (.inl x), none, none, none] (ck_181 _ _ rfl) rfl rfl pp_165 rfl rfl rfl (congrArg Prod.fst (ly_k I.1.1.1 77 rfl)) rfl rfl rfl rfl ?_
  refine ct_165 I F (x) (fun h3 I4 F5 => ?_)
  show av_wp _ cd_181 5 [some (.inr (.inr (.inl (some (77))))), some (.inl x)] [] h3 _
  refine av_wp_sqF ck_181 1 (pc' := 6) (lv' := [some (.inr (.inr (.inl (some (77))))), some (.inl x)]) (st' := [.inr (.inr (.inl (some (77))))]) (h' := h3) rfl ?_
  refine wq_cv (p' := 9) (av_qc (.invokevirtual 415) 174 0 0 8) 3 cd_174 [] (77) 8 [some (.inr (.inr (.inl (some (77))))), none, none] (ck_181 _ _ rfl) rfl rfl pp_174 rfl rfl rfl (congrArg Prod.fst (ly_k I4.1.1.1 77 rfl)) rfl rfl rfl rfl ?_
  refine ct_174 I4 F5  (fun h8 I9 F10 => ?_)
  show av_wp _ cd_181 9 [some (.inr (.inr (.inl (some (77))))), some (.inl x)] [] h8 _
  refine av_wp_sqF ck_181 1 (pc' := 10) (lv' := [some (.inr (.inr (.inl (some (77))))), some (.inl x)]) (st' := [.inr (.inr (.inl (some (77))))]) (h' := h8) rfl ?_
  refine wq_cv (p' := 13) (av_qc (.invokevirtual 418) 180 0 0 8) 4 cd_180 [] (77) 8 [some (.inr (.inr (.inl (some (77))))), none, none, none] (ck_181 _ _ rfl) rfl rfl pp_180 rfl rfl rfl (congrArg Prod.fst (ly_k I9.1.1.1 77 rfl)) rfl rfl rfl rfl ?_
  refine ct_180 I9 F10  (fun h13 I14 F15 => ?_)
  show av_wp _ cd_181 13 [some (.inr (.inr (.inl (some (77))))), some (.inl x)] [] h13 _
  refine av_wp_ret (v := none) (ck_181 _ _ rfl) rfl rfl ?_
  exact hq h13 I14 F15

set_option maxRecDepth 100000 in
set_option maxHeartbeats 4000000 in
theorem ct_182 {g h : av_H} {n a m : Int} (I : IMF n a m h) (F : FM g h) (k : Int) (qk : 0 ≤ k ∧ k ≤ 11) (w : Int) (qw : 0 ≤ w ∧ w ≤ 4) {Q : Option av_V → av_H → Prop} (hq : ∀ v : Int, Q (some (.inl v)) h) : av_wp none cd_182 0 [some (.inr (.inr (.inl (some (77))))), some (.inl k), some (.inl w), none] [] h Q := by
  have gn := im_n I.1.1
  rw [I.2.1] at gn
  have ga := im_a I.1.1
  rw [I.2.2.1] at ga
  have gm := im_cm I.1.1
  rw [I.2.2.2] at gm
  refine av_wp_sqF ck_182 2 (pc' := 2) (lv' := [some (.inr (.inr (.inl (some (77))))), some (.inl k), some (.inl w), some (.inl k)]) (st' := []) (h' := h) rfl ?_
  have L3 : ∀ (m2 : Nat) (k1 : Int), (0 ≤ k1 ∧ k1 ≤ 11) → (Int.toNat (k1)) = m2 → av_wp none cd_182 2 [some (.inr (.inr (.inl (some (77))))), some (.inl k), some (.inl w), some (.inl k1)] [] h Q := by
    intro m2
    induction m2 using Nat.strongRecOn with
    | _ m2 I4 =>
      intro k1 g6 e5
      refine av_wp_sqF ck_182 1 (pc' := 3) (lv' := [some (.inr (.inr (.inl (some (77))))), some (.inl k), some (.inl w), some (.inl k1)]) (st' := [.inr (.inr (.inl (some (77))))]) (h' := h) rfl ?_
      refine wq_gr (p' := 6) (ck_182 _ _ rfl) rfl (congrArg Prod.fst (ly_k I.1.1.1 77 rfl)) rfl (ly_g I.1.1.1 77 38 104 rfl) ?_
      refine av_wp_sqF ck_182 5 (pc' := 11) (lv' := [some (.inr (.inr (.inl (some (77))))), some (.inl k), some (.inl w), some (.inl k1)]) (st' := [.inl (((5) * k1) + w), .inr (.inr (.inl (some (104))))]) (h' := h) rfl ?_
      obtain ⟨v7, e8⟩ : ∃ v, hA h 104 (Int.toNat ((((5) * k1) + w))) = v := ⟨_, rfl⟩
      have g9 : -1 ≤ hA h 104 (Int.toNat ((((5) * k1) + w))) ∧ hA h 104 (Int.toNat ((((5) * k1) + w))) ≤ 999 := im_w I.1.1 104 (by decide) (by decide) _
      rw [e8] at g9
      refine wq_al (p' := 12) (n := 60) (ck_182 _ _ rfl) rfl (ly_k I.1.1.1 104 rfl) (by omega) (e8) ?_
      refine wq_k1 (p' := 15) (ck_182 _ _ rfl) rfl ⟨by omega, by omega⟩ (fun c10 => ?_) (fun c11 => ?_)
      · have c10 : (0) ≤ v7 := c10
        refine av_wp_sqF ck_182 1 (pc' := 36) (lv' := [some (.inr (.inr (.inl (some (77))))), some (.inl k), some (.inl w), some (.inl k1)]) (st' := [.inr (.inr (.inl (some (77))))]) (h' := h) rfl ?_
        refine wq_gr (p' := 39) (ck_182 _ _ rfl) rfl (congrArg Prod.fst (ly_k I.1.1.1 77 rfl)) rfl (ly_g I.1.1.1 77 38 104 rfl) ?_
        refine av_wp_sqF ck_182 5 (pc' := 44) (lv' := [some (.inr (.inr (.inl (some (77))))), some (.inl k), some (.inl w), some (.inl k1)]) (st' := [.inl (((5) * k1) + w), .inr (.inr (.inl (some (104))))]) (h' := h) rfl ?_
        obtain ⟨v12, e13⟩ : ∃ v, hA h 104 (Int.toNat ((((5) * k1) + w))) = v := ⟨_, rfl⟩
        have g14 : -1 ≤ hA h 104 (Int.toNat ((((5) * k1) + w))) ∧ hA h 104 (Int.toNat ((((5) * k1) + w))) ≤ 999 := im_w I.1.1 104 (by decide) (by decide) _
        rw [e13] at g14
        refine wq_al (p' := 45) (n := 60) (ck_182 _ _ rfl) rfl (ly_k I.1.1.1 104 rfl) (by omega) (e13) ?_
        refine av_wp_ret (v := some (.inl v12)) (ck_182 _ _ rfl) rfl rfl ?_
        exact hq _
      · have c11 : v7 < (0) := c11
        refine av_wp_sqF ck_182 1 (pc' := 16) (lv' := [some (.inr (.inr (.inl (some (77))))), some (.inl k), some (.inl w), some (.inl k1)]) (st' := [.inr (.inr (.inl (some (77))))]) (h' := h) rfl ?_
        refine wq_gr (p' := 19) (ck_182 _ _ rfl) rfl (congrArg Prod.fst (ly_k I.1.1.1 77 rfl)) rfl (ly_g I.1.1.1 77 30 96 rfl) ?_
        refine av_wp_sqF ck_182 1 (pc' := 20) (lv' := [some (.inr (.inr (.inl (some (77))))), some (.inl k), some (.inl w), some (.inl k1)]) (st' := [.inl k1, .inr (.inr (.inl (some (96))))]) (h' := h) rfl ?_
        obtain ⟨v15, e16⟩ : ∃ v, hA h 96 (Int.toNat (k1)) = v := ⟨_, rfl⟩
        have g17 : 0 ≤ hA h 96 (Int.toNat (k1)) ∧ hA h 96 (Int.toNat (k1)) ≤ 7 := im_w I.1.1 96 (by decide) (by decide) _
        rw [e16] at g17
        refine wq_al (p' := 21) (n := 12) (ck_182 _ _ rfl) rfl (ly_k I.1.1.1 96 rfl) (by omega) (e16) ?_
        refine av_wp_sqF ck_182 1 (pc' := 22) (lv' := [some (.inr (.inr (.inl (some (77))))), some (.inl k), some (.inl w), some (.inl k1)]) (st' := [.inl (3), .inl v15]) (h' := h) rfl ?_
        refine wq_k2 (p' := 25) (ck_182 _ _ rfl) rfl ⟨by omega, by omega⟩ ⟨by omega, by omega⟩ (fun c18 => ?_) (fun c19 => ?_)
        · have c18 : v15 ≠ (3) := c18
          refine av_wp_sqF ck_182 1 (pc' := 36) (lv' := [some (.inr (.inr (.inl (some (77))))), some (.inl k), some (.inl w), some (.inl k1)]) (st' := [.inr (.inr (.inl (some (77))))]) (h' := h) rfl ?_
          refine wq_gr (p' := 39) (ck_182 _ _ rfl) rfl (congrArg Prod.fst (ly_k I.1.1.1 77 rfl)) rfl (ly_g I.1.1.1 77 38 104 rfl) ?_
          refine av_wp_sqF ck_182 5 (pc' := 44) (lv' := [some (.inr (.inr (.inl (some (77))))), some (.inl k), some (.inl w), some (.inl k1)]) (st' := [.inl (((5) * k1) + w), .inr (.inr (.inl (some (104))))]) (h' := h) rfl ?_
          obtain ⟨v20, e21⟩ : ∃ v, hA h 104 (Int.toNat ((((5) * k1) + w))) = v := ⟨_, rfl⟩
          have g22 : -1 ≤ hA h 104 (Int.toNat ((((5) * k1) + w))) ∧ hA h 104 (Int.toNat ((((5) * k1) + w))) ≤ 999 := im_w I.1.1 104 (by decide) (by decide) _
          rw [e21] at g22
          refine wq_al (p' := 45) (n := 60) (ck_182 _ _ rfl) rfl (ly_k I.1.1.1 104 rfl) (by omega) (e21) ?_
          refine av_wp_ret (v := some (.inl v20)) (ck_182 _ _ rfl) rfl rfl ?_
          exact hq _
        · have c19 : v15 = (3) := c19
          refine av_wp_sqF ck_182 1 (pc' := 26) (lv' := [some (.inr (.inr (.inl (some (77))))), some (.inl k), some (.inl w), some (.inl k1)]) (st' := [.inr (.inr (.inl (some (77))))]) (h' := h) rfl ?_
          refine wq_gr (p' := 29) (ck_182 _ _ rfl) rfl (congrArg Prod.fst (ly_k I.1.1.1 77 rfl)) rfl (ly_g I.1.1.1 77 34 100 rfl) ?_
          refine av_wp_sqF ck_182 1 (pc' := 30) (lv' := [some (.inr (.inr (.inl (some (77))))), some (.inl k), some (.inl w), some (.inl k1)]) (st' := [.inl k1, .inr (.inr (.inl (some (100))))]) (h' := h) rfl ?_
          obtain ⟨v23, e24⟩ : ∃ v, hA h 100 (Int.toNat (k1)) = v := ⟨_, rfl⟩
          have g25 : -1 ≤ hA h 100 (Int.toNat (k1)) ∧ hA h 100 (Int.toNat (k1)) ≤ 11 := im_w I.1.1 100 (by decide) (by decide) _
          rw [e24] at g25
          have w26 := im_wr I.1 (Int.toNat (k1)) (by omega)
          rw [e24] at w26
          refine wq_al (p' := 31) (n := 12) (ck_182 _ _ rfl) rfl (ly_k I.1.1.1 100 rfl) (by omega) (e24) ?_
          refine av_wp_sqF ck_182 2 (pc' := 2) (lv' := [some (.inr (.inr (.inl (some (77))))), some (.inl k), some (.inl w), some (.inl v23)]) (st' := []) (h' := h) rfl ?_
          exact I4 _ (by omega) (v23) (by omega) rfl
  exact L3 _ (k) (by omega) rfl

set_option maxRecDepth 100000 in
set_option maxHeartbeats 4000000 in
theorem ct_183 {g h : av_H} {n a m : Int} (I : IMF n a m h) (F : FM g h) (w : Int) (qw : 0 ≤ w ∧ w ≤ 4) {Q : Option av_V → av_H → Prop} (hq : ∀ v : Int, Q (some (.inl v)) h) : av_wp none cd_183 0 [some (.inr (.inr (.inl (some (77))))), some (.inl w), none] [] h Q := by
  have gn := im_n I.1.1
  rw [I.2.1] at gn
  have ga := im_a I.1.1
  rw [I.2.2.1] at ga
  have gm := im_cm I.1.1
  rw [I.2.2.2] at gm
  refine av_wp_sqF ck_183 2 (pc' := 2) (lv' := [some (.inr (.inr (.inl (some (77))))), some (.inl w), none]) (st' := [.inr (.inr (.inl (some (77)))), .inr (.inr (.inl (some (77))))]) (h' := h) rfl ?_
  obtain ⟨v1, e2⟩ : ∃ v, hF h 77 52 = v := ⟨_, rfl⟩
  have g3 := im_of I.1.1
  rw [e2] at g3
  refine wq_gi (p' := 5) (ck_183 _ _ rfl) rfl (congrArg Prod.fst (ly_k I.1.1.1 77 rfl)) rfl (e2) ?_
  refine av_wp_sqF ck_183 1 (pc' := 6) (lv' := [some (.inr (.inr (.inl (some (77))))), some (.inl w), none]) (st' := [.inl w, .inl v1, .inr (.inr (.inl (some (77))))]) (h' := h) rfl ?_
  refine wq_cv (p' := 9) (av_qc (.invokevirtual 421) 182 2 0 8) 4 cd_182 [.inl w, .inl v1] (77) 8 [some (.inr (.inr (.inl (some (77))))), some (.inl v1), some (.inl w), none] (ck_183 _ _ rfl) rfl rfl pp_182 rfl rfl rfl (congrArg Prod.fst (ly_k I.1.1.1 77 rfl)) rfl rfl rfl rfl ?_
  refine ct_182 I F (v1) (by omega) (w) (by omega) (fun v4 => ?_)
  show av_wp _ cd_183 9 [some (.inr (.inr (.inl (some (77))))), some (.inl w), none] [.inl v4] h _
  refine av_wp_sqF ck_183 2 (pc' := 11) (lv' := [some (.inr (.inr (.inl (some (77))))), some (.inl w), some (.inl v4)]) (st' := [.inr (.inr (.inl (some (77))))]) (h' := h) rfl ?_
  obtain ⟨v6, e7⟩ : ∃ v, hF h 77 51 = v := ⟨_, rfl⟩
  have g8 := im_by I.1.1
  rw [e7] at g8
  refine wq_gi (p' := 14) (ck_183 _ _ rfl) rfl (congrArg Prod.fst (ly_k I.1.1.1 77 rfl)) rfl (e7) ?_
  refine wq_k1 (p' := 17) (ck_183 _ _ rfl) rfl ⟨by omega, by omega⟩ (fun c9 => ?_) (fun c10 => ?_)
  · have c9 : v6 < (0) := c9
    refine av_wp_sqF ck_183 1 (pc' := 55) (lv' := [some (.inr (.inr (.inl (some (77))))), some (.inl w), some (.inl v4)]) (st' := [.inl v4]) (h' := h) rfl ?_
    refine av_wp_ret (v := some (.inl v4)) (ck_183 _ _ rfl) rfl rfl ?_
    exact hq _
  · have c10 : (0) ≤ v6 := c10
    refine av_wp_sqF ck_183 2 (pc' := 19) (lv' := [some (.inr (.inr (.inl (some (77))))), some (.inl w), some (.inl v4)]) (st' := [.inr (.inr (.inl (some (77)))), .inr (.inr (.inl (some (77))))]) (h' := h) rfl ?_
    obtain ⟨v11, e12⟩ : ∃ v, hF h 77 51 = v := ⟨_, rfl⟩
    have g13 := im_by I.1.1
    rw [e12] at g13
    refine wq_gi (p' := 22) (ck_183 _ _ rfl) rfl (congrArg Prod.fst (ly_k I.1.1.1 77 rfl)) rfl (e12) ?_
    refine wq_cv (p' := 25) (av_qc (.invokevirtual 360) 167 1 0 8) 3 cd_167 [.inl v11] (77) 8 [some (.inr (.inr (.inl (some (77))))), some (.inl v11), none] (ck_183 _ _ rfl) rfl rfl pp_167 rfl rfl rfl (congrArg Prod.fst (ly_k I.1.1.1 77 rfl)) rfl rfl rfl rfl ?_
    refine ct_167 I F (v11) (by omega) (fun v14 p15 => ?_)
    show av_wp _ cd_183 25 [some (.inr (.inr (.inl (some (77))))), some (.inl w), some (.inl v4)] [.inl v14] h _
    refine wq_k1 (p' := 28) (ck_183 _ _ rfl) rfl ⟨by omega, by omega⟩ (fun c16 => ?_) (fun c17 => ?_)
    · have c16 : v14 = (0) := c16
      refine av_wp_sqF ck_183 1 (pc' := 55) (lv' := [some (.inr (.inr (.inl (some (77))))), some (.inl w), some (.inl v4)]) (st' := [.inl v4]) (h' := h) rfl ?_
      refine av_wp_ret (v := some (.inl v4)) (ck_183 _ _ rfl) rfl rfl ?_
      exact hq _
    · have c17 : v14 ≠ (0) := c17
      refine av_wp_sqF ck_183 1 (pc' := 29) (lv' := [some (.inr (.inr (.inl (some (77))))), some (.inl w), some (.inl v4)]) (st' := [.inr (.inr (.inl (some (77))))]) (h' := h) rfl ?_
      refine wq_gr (p' := 32) (ck_183 _ _ rfl) rfl (congrArg Prod.fst (ly_k I.1.1.1 77 rfl)) rfl (ly_g I.1.1.1 77 38 104 rfl) ?_
      refine av_wp_sqF ck_183 2 (pc' := 34) (lv' := [some (.inr (.inr (.inl (some (77))))), some (.inl w), some (.inl v4)]) (st' := [.inr (.inr (.inl (some (77)))), .inl (5), .inr (.inr (.inl (some (104))))]) (h' := h) rfl ?_
      obtain ⟨v18, e19⟩ : ∃ v, hF h 77 51 = v := ⟨_, rfl⟩
      have g20 := im_by I.1.1
      rw [e19] at g20
      refine wq_gi (p' := 37) (ck_183 _ _ rfl) rfl (congrArg Prod.fst (ly_k I.1.1.1 77 rfl)) rfl (e19) ?_
      refine av_wp_sqF ck_183 3 (pc' := 40) (lv' := [some (.inr (.inr (.inl (some (77))))), some (.inl w), some (.inl v4)]) (st' := [.inl (((5) * v18) + w), .inr (.inr (.inl (some (104))))]) (h' := h) rfl ?_
      obtain ⟨v21, e22⟩ : ∃ v, hA h 104 (Int.toNat ((((5) * v18) + w))) = v := ⟨_, rfl⟩
      have g23 : -1 ≤ hA h 104 (Int.toNat ((((5) * v18) + w))) ∧ hA h 104 (Int.toNat ((((5) * v18) + w))) ≤ 999 := im_w I.1.1 104 (by decide) (by decide) _
      rw [e22] at g23
      refine wq_al (p' := 41) (n := 60) (ck_183 _ _ rfl) rfl (ly_k I.1.1.1 104 rfl) (by omega) (e22) ?_
      refine wq_k1 (p' := 44) (ck_183 _ _ rfl) rfl ⟨by omega, by omega⟩ (fun c24 => ?_) (fun c25 => ?_)
      · have c24 : v21 < (0) := c24
        refine av_wp_sqF ck_183 1 (pc' := 55) (lv' := [some (.inr (.inr (.inl (some (77))))), some (.inl w), some (.inl v4)]) (st' := [.inl v4]) (h' := h) rfl ?_
        refine av_wp_ret (v := some (.inl v4)) (ck_183 _ _ rfl) rfl rfl ?_
        exact hq _
      · have c25 : (0) ≤ v21 := c25
        refine av_wp_sqF ck_183 1 (pc' := 45) (lv' := [some (.inr (.inr (.inl (some (77))))), some (.inl w), some (.inl v4)]) (st' := [.inr (.inr (.inl (some (77))))]) (h' := h) rfl ?_
        refine wq_gr (p' := 48) (ck_183 _ _ rfl) rfl (congrArg Prod.fst (ly_k I.1.1.1 77 rfl)) rfl (ly_g I.1.1.1 77 26 95 rfl) ?_
        refine av_wp_sqF ck_183 1 (pc' := 50) (lv' := [some (.inr (.inr (.inl (some (77))))), some (.inl w), some (.inl v4)]) (st' := [.inl (10), .inr (.inr (.inl (some (95))))]) (h' := h) rfl ?_
        obtain ⟨v26, e27⟩ : ∃ v, hA h 95 (Int.toNat ((10))) = v := ⟨_, rfl⟩
        refine wq_al (p' := 51) (n := 13) (ck_183 _ _ rfl) rfl (ly_k I.1.1.1 95 rfl) (by omega) (e27) ?_
        refine wq_c1 (p' := 54) (ck_183 _ _ rfl) rfl ?_ ?_
        · refine av_wp_sqF ck_183 1 (pc' := 57) (lv' := [some (.inr (.inr (.inl (some (77))))), some (.inl w), some (.inl v4)]) (st' := [.inr (.inr (.inl (some (77))))]) (h' := h) rfl ?_
          refine wq_gr (p' := 60) (ck_183 _ _ rfl) rfl (congrArg Prod.fst (ly_k I.1.1.1 77 rfl)) rfl (ly_g I.1.1.1 77 26 95 rfl) ?_
          refine av_wp_sqF ck_183 1 (pc' := 62) (lv' := [some (.inr (.inr (.inl (some (77))))), some (.inl w), some (.inl v4)]) (st' := [.inl (10), .inr (.inr (.inl (some (95))))]) (h' := h) rfl ?_
          obtain ⟨v29, e30⟩ : ∃ v, hA h 95 (Int.toNat ((10))) = v := ⟨_, rfl⟩
          refine wq_al (p' := 63) (n := 13) (ck_183 _ _ rfl) rfl (ly_k I.1.1.1 95 rfl) (by omega) (e30) ?_
          refine av_wp_sqF ck_183 1 (pc' := 64) (lv' := [some (.inr (.inr (.inl (some (77))))), some (.inl w), some (.inl v4)]) (st' := [.inl (1), .inl v29]) (h' := h) rfl ?_
          refine wq_c2 (p' := 67) (ck_183 _ _ rfl) rfl ?_ ?_
          · refine av_wp_sqF ck_183 1 (pc' := 84) (lv' := [some (.inr (.inr (.inl (some (77))))), some (.inl w), some (.inl v4)]) (st' := [.inl (-1)]) (h' := h) rfl ?_
            refine av_wp_ret (v := some (.inl (-1))) (ck_183 _ _ rfl) rfl rfl ?_
            exact hq _
          · refine av_wp_sqF ck_183 1 (pc' := 68) (lv' := [some (.inr (.inr (.inl (some (77))))), some (.inl w), some (.inl v4)]) (st' := [.inr (.inr (.inl (some (77))))]) (h' := h) rfl ?_
            refine wq_gr (p' := 71) (ck_183 _ _ rfl) rfl (congrArg Prod.fst (ly_k I.1.1.1 77 rfl)) rfl (ly_g I.1.1.1 77 38 104 rfl) ?_
            refine av_wp_sqF ck_183 2 (pc' := 73) (lv' := [some (.inr (.inr (.inl (some (77))))), some (.inl w), some (.inl v4)]) (st' := [.inr (.inr (.inl (some (77)))), .inl (5), .inr (.inr (.inl (some (104))))]) (h' := h) rfl ?_
            obtain ⟨v32, e33⟩ : ∃ v, hF h 77 51 = v := ⟨_, rfl⟩
            have g34 := im_by I.1.1
            rw [e33] at g34
            refine wq_gi (p' := 76) (ck_183 _ _ rfl) rfl (congrArg Prod.fst (ly_k I.1.1.1 77 rfl)) rfl (e33) ?_
            refine av_wp_sqF ck_183 3 (pc' := 79) (lv' := [some (.inr (.inr (.inl (some (77))))), some (.inl w), some (.inl v4)]) (st' := [.inl (((5) * v32) + w), .inr (.inr (.inl (some (104))))]) (h' := h) rfl ?_
            obtain ⟨v35, e36⟩ : ∃ v, hA h 104 (Int.toNat ((((5) * v32) + w))) = v := ⟨_, rfl⟩
            have g37 : -1 ≤ hA h 104 (Int.toNat ((((5) * v32) + w))) ∧ hA h 104 (Int.toNat ((((5) * v32) + w))) ≤ 999 := im_w I.1.1 104 (by decide) (by decide) _
            rw [e36] at g37
            refine wq_al (p' := 80) (n := 60) (ck_183 _ _ rfl) rfl (ly_k I.1.1.1 104 rfl) (by omega) (e36) ?_
            refine av_wp_sqF ck_183 1 (pc' := 84) (lv' := [some (.inr (.inr (.inl (some (77))))), some (.inl w), some (.inl v4)]) (st' := [.inl v35]) (h' := h) rfl ?_
            refine av_wp_ret (v := some (.inl v35)) (ck_183 _ _ rfl) rfl rfl ?_
            exact hq _
        · refine av_wp_sqF ck_183 1 (pc' := 55) (lv' := [some (.inr (.inr (.inl (some (77))))), some (.inl w), some (.inl v4)]) (st' := [.inl v4]) (h' := h) rfl ?_
          refine av_wp_ret (v := some (.inl v4)) (ck_183 _ _ rfl) rfl rfl ?_
          exact hq _

set_option maxRecDepth 100000 in
set_option maxHeartbeats 4000000 in
theorem ct_159 {g h : av_H} {n a m : Int} (I : IMF n a m h) (F : FM g h) (l : Int) (ql : 0 ≤ l ∧ l ≤ 7) (x : Int) {Q : Option av_V → av_H → Prop} (hq : ∀ h', IMF n a m h' → FM g h' → Q none h') : av_wp none cd_159 0 [some (.inr (.inr (.inl (some (77))))), some (.inl l), some (.inl x), none, none] [] h Q := by
  have gn := im_n I.1.1
  rw [I.2.1] at gn
  have ga := im_a I.1.1
  rw [I.2.2.1] at ga
  have gm := im_cm I.1.1
  rw [I.2.2.2] at gm
  refine av_wp_sqF ck_159 2 (pc' := 2) (lv' := [some (.inr (.inr (.inl (some (77))))), some (.inl l), some (.inl x), some (.inl (0)), none]) (st' := []) (h' := h) rfl ?_
  have L6 : ∀ (m5 : Nat) (k1 : Int) (h2 : av_H), (0 ≤ k1 ∧ k1 ≤ 13) → IMF n a m h2 → FM g h2 → (13 - k1).toNat = m5 → av_wp none cd_159 2 [some (.inr (.inr (.inl (some (77))))), some (.inl l), some (.inl x), some (.inl k1), none] [] h2 Q := by
    intro m5
    induction m5 using Nat.strongRecOn with
    | _ m5 I7 =>
      intro k1 h2 g9 I3 F4 e8
      refine av_wp_sqF ck_159 2 (pc' := 5) (lv' := [some (.inr (.inr (.inl (some (77))))), some (.inl l), some (.inl x), some (.inl k1), none]) (st' := [.inl (13), .inl k1]) (h' := h2) rfl ?_
      refine wq_k2 (p' := 8) (ck_159 _ _ rfl) rfl ⟨by omega, by omega⟩ ⟨by omega, by omega⟩ (fun c10 => ?_) (fun c11 => ?_)
      · have c10 : (13) ≤ k1 := c10
        refine av_wp_sqF ck_159 2 (pc' := 48) (lv' := [some (.inr (.inr (.inl (some (77))))), some (.inl l), some (.inl x), some (.inl (0)), none]) (st' := []) (h' := h2) rfl ?_
        have L17 : ∀ (m16 : Nat) (k12 : Int) (h13 : av_H), (0 ≤ k12 ∧ k12 ≤ 13) → IMF n a m h13 → FM g h13 → (13 - k12).toNat = m16 → av_wp none cd_159 48 [some (.inr (.inr (.inl (some (77))))), some (.inl l), some (.inl x), some (.inl k12), none] [] h13 Q := by
          intro m16
          induction m16 using Nat.strongRecOn with
          | _ m16 I18 =>
            intro k12 h13 g20 I14 F15 e19
            refine av_wp_sqF ck_159 2 (pc' := 51) (lv' := [some (.inr (.inr (.inl (some (77))))), some (.inl l), some (.inl x), some (.inl k12), none]) (st' := [.inl (13), .inl k12]) (h' := h13) rfl ?_
            refine wq_k2 (p' := 54) (ck_159 _ _ rfl) rfl ⟨by omega, by omega⟩ ⟨by omega, by omega⟩ (fun c21 => ?_) (fun c22 => ?_)
            · have c21 : (13) ≤ k12 := c21
              refine av_wp_sqF ck_159 2 (pc' := 95) (lv' := [some (.inr (.inr (.inl (some (77))))), some (.inl l), some (.inl x), some (.inl (0)), none]) (st' := []) (h' := h13) rfl ?_
              have L29 : ∀ (m28 : Nat) (k23 : Int) (a24 : Option av_V) (h25 : av_H), av_lg a24 = false → (0 ≤ k23 ∧ k23 ≤ 6) → IMF n a m h25 → FM g h25 → (6 - k23).toNat = m28 → av_wp none cd_159 95 [some (.inr (.inr (.inl (some (77))))), some (.inl l), some (.inl x), some (.inl k23), a24] [] h25 Q := by
                intro m28
                induction m28 using Nat.strongRecOn with
                | _ m28 I30 =>
                  intro k23 a24 h25 g32 g33 I26 F27 e31
                  have la24 := g32
                  refine av_wp_sqF ck_159 2 (pc' := 97) (lv' := [some (.inr (.inr (.inl (some (77))))), some (.inl l), some (.inl x), some (.inl k23), a24]) (st' := [.inr (.inr (.inl (some (77)))), .inl k23]) (h' := h25) rfl ?_
                  refine wq_gr (p' := 100) (ck_159 _ _ rfl) rfl (congrArg Prod.fst (ly_k I26.1.1.1 77 rfl)) rfl (ly_g I26.1.1.1 77 2 80 rfl) ?_
                  refine av_wp_sqF ck_159 1 (pc' := 101) (lv' := [some (.inr (.inr (.inl (some (77))))), some (.inl l), some (.inl x), some (.inl k23), a24]) (st' := [.inl (0), .inr (.inr (.inl (some (80)))), .inl k23]) (h' := h25) rfl ?_
                  obtain ⟨v34, e35⟩ : ∃ v, hA h25 80 (Int.toNat ((0))) = v := ⟨_, rfl⟩
                  have g36 : 0 ≤ hA h25 80 0 ∧ hA h25 80 0 ≤ 6 := I26.1.1.2.1.2.2.2.1
                  have e35 : hA h25 80 0 = v34 := e35
                  rw [e35] at g36
                  refine wq_al (p' := 102) (n := 5) (ck_159 _ _ rfl) rfl (ly_k I26.1.1.1 80 rfl) (by omega) (e35) ?_
                  refine wq_k2 (p' := 105) (ck_159 _ _ rfl) rfl ⟨by omega, by omega⟩ ⟨by omega, by omega⟩ (fun c37 => ?_) (fun c38 => ?_)
                  · have c37 : v34 ≤ k23 := c37
                    refine av_wp_ret (v := none) (ck_159 _ _ rfl) rfl rfl ?_
                    exact hq h25 I26 F27
                  · have c38 : k23 < v34 := c38
                    refine av_wp_sqF ck_159 2 (pc' := 108) (lv' := [some (.inr (.inr (.inl (some (77))))), some (.inl l), some (.inl x), some (.inl k23), some (.inl (0))]) (st' := []) (h' := h25) rfl ?_
                    have L44 : ∀ (m43 : Nat) (k39 : Int) (h40 : av_H), (0 ≤ k39 ∧ k39 ≤ 13) → IMF n a m h40 → FM g h40 → (13 - k39).toNat = m43 → av_wp none cd_159 108 [some (.inr (.inr (.inl (some (77))))), some (.inl l), some (.inl x), some (.inl k23), some (.inl k39)] [] h40 Q := by
                      intro m43
                      induction m43 using Nat.strongRecOn with
                      | _ m43 I45 =>
                        intro k39 h40 g47 I41 F42 e46
                        refine av_wp_sqF ck_159 2 (pc' := 112) (lv' := [some (.inr (.inr (.inl (some (77))))), some (.inl l), some (.inl x), some (.inl k23), some (.inl k39)]) (st' := [.inl (13), .inl k39]) (h' := h40) rfl ?_
                        refine wq_k2 (p' := 115) (ck_159 _ _ rfl) rfl ⟨by omega, by omega⟩ ⟨by omega, by omega⟩ (fun c48 => ?_) (fun c49 => ?_)
                        · have c48 : (13) ≤ k39 := c48
                          refine av_wp_sqF ck_159 2 (pc' := 95) (lv' := [some (.inr (.inr (.inl (some (77))))), some (.inl l), some (.inl x), some (.inl (k23 + (1))), some (.inl k39)]) (st' := []) (h' := h40) rfl ?_
                          exact I30 _ (by omega) ((k23 + (1))) (some (.inl k39)) h40 rfl (by omega) I41 F42 rfl
                        · have c49 : k39 < (13) := c49
                          refine av_wp_sqF ck_159 6 (pc' := 121) (lv' := [some (.inr (.inr (.inl (some (77))))), some (.inl l), some (.inl x), some (.inl k23), some (.inl k39)]) (st' := [.inl (1), .inl (av_and (av_shr x k23) (1))]) (h' := h40) rfl ?_
                          have J53 : ∀  (h50 : av_H), IMF n a m h50 → FM g h50 →  av_wp none cd_159 166 [some (.inr (.inr (.inl (some (77))))), some (.inl l), some (.inl x), some (.inl k23), some (.inl k39)] [] h50 Q := by
                            intro h50 I51 F52
                            refine av_wp_sqF ck_159 2 (pc' := 108) (lv' := [some (.inr (.inr (.inl (some (77))))), some (.inl l), some (.inl x), some (.inl k23), some (.inl (k39 + (1)))]) (st' := []) (h' := h50) rfl ?_
                            exact I45 _ (by omega) ((k39 + (1))) h50 (by omega) I51 F52 rfl
                          refine wq_c2 (p' := 124) (ck_159 _ _ rfl) rfl ?_ ?_
                          · exact J53 h40 I41 F42
                          · refine av_wp_sqF ck_159 1 (pc' := 125) (lv' := [some (.inr (.inr (.inl (some (77))))), some (.inl l), some (.inl x), some (.inl k23), some (.inl k39)]) (st' := [.inr (.inr (.inl (some (77))))]) (h' := h40) rfl ?_
                            refine wq_gr (p' := 128) (ck_159 _ _ rfl) rfl (congrArg Prod.fst (ly_k I41.1.1.1 77 rfl)) rfl (ly_g I41.1.1.1 77 15 93 rfl) ?_
                            refine av_wp_sqF ck_159 7 (pc' := 138) (lv' := [some (.inr (.inr (.inl (some (77))))), some (.inl l), some (.inl x), some (.inl k23), some (.inl k39)]) (st' := [.inl (((112) + ((14) * k23)) + k39), .inr (.inr (.inl (some (93))))]) (h' := h40) rfl ?_
                            obtain ⟨v54, e55⟩ : ∃ v, hA h40 93 (Int.toNat ((((112) + ((14) * k23)) + k39))) = v := ⟨_, rfl⟩
                            refine wq_al (p' := 139) (n := 980) (ck_159 _ _ rfl) rfl (ly_k I41.1.1.1 93 rfl) (by omega) (e55) ?_
                            refine av_wp_sqF ck_159 1 (pc' := 141) (lv' := [some (.inr (.inr (.inl (some (77))))), some (.inl l), some (.inl x), some (.inl k23), some (.inl k39)]) (st' := [.inl (-2), .inl v54]) (h' := h40) rfl ?_
                            refine wq_c2 (p' := 144) (ck_159 _ _ rfl) rfl ?_ ?_
                            · exact J53 h40 I41 F42
                            · refine av_wp_sqF ck_159 1 (pc' := 145) (lv' := [some (.inr (.inr (.inl (some (77))))), some (.inl l), some (.inl x), some (.inl k23), some (.inl k39)]) (st' := [.inr (.inr (.inl (some (77))))]) (h' := h40) rfl ?_
                              refine wq_gr (p' := 148) (ck_159 _ _ rfl) rfl (congrArg Prod.fst (ly_k I41.1.1.1 77 rfl)) rfl (ly_g I41.1.1.1 77 26 95 rfl) ?_
                              refine av_wp_sqF ck_159 2 (pc' := 151) (lv' := [some (.inr (.inr (.inl (some (77))))), some (.inl l), some (.inl x), some (.inl k23), some (.inl k39)]) (st' := [.inr (.inr (.inl (some (77)))), .inl k39, .inr (.inr (.inl (some (95))))]) (h' := h40) rfl ?_
                              refine wq_gr (p' := 154) (ck_159 _ _ rfl) rfl (congrArg Prod.fst (ly_k I41.1.1.1 77 rfl)) rfl (ly_g I41.1.1.1 77 15 93 rfl) ?_
                              refine av_wp_sqF ck_159 7 (pc' := 164) (lv' := [some (.inr (.inr (.inl (some (77))))), some (.inl l), some (.inl x), some (.inl k23), some (.inl k39)]) (st' := [.inl (((112) + ((14) * k23)) + k39), .inr (.inr (.inl (some (93)))), .inl k39, .inr (.inr (.inl (some (95))))]) (h' := h40) rfl ?_
                              obtain ⟨v57, e58⟩ : ∃ v, hA h40 93 (Int.toNat ((((112) + ((14) * k23)) + k39))) = v := ⟨_, rfl⟩
                              refine wq_al (p' := 165) (n := 980) (ck_159 _ _ rfl) rfl (ly_k I41.1.1.1 93 rfl) (by omega) (e58) ?_
                              refine im_as (p' := 166) (l := 13) rfl rfl I41 F42 (ly_k I41.1.1.1 95 rfl) (by omega) (by omega) (fun h60 I61 F62 => ?_)
                              exact J53 h60 I61 F62
                    exact L44 _ ((0)) h25 (by omega) I26 F27 rfl
              exact L29 _ ((0)) (none) h13 rfl (by omega) I14 F15 rfl
            · have c22 : k12 < (13) := c22
              refine av_wp_sqF ck_159 1 (pc' := 55) (lv' := [some (.inr (.inr (.inl (some (77))))), some (.inl l), some (.inl x), some (.inl k12), none]) (st' := [.inr (.inr (.inl (some (77))))]) (h' := h13) rfl ?_
              refine wq_gr (p' := 58) (ck_159 _ _ rfl) rfl (congrArg Prod.fst (ly_k I14.1.1.1 77 rfl)) rfl (ly_g I14.1.1.1 77 15 93 rfl) ?_
              refine av_wp_sqF ck_159 5 (pc' := 64) (lv' := [some (.inr (.inr (.inl (some (77))))), some (.inl l), some (.inl x), some (.inl k12), none]) (st' := [.inl (((14) * l) + k12), .inr (.inr (.inl (some (93))))]) (h' := h13) rfl ?_
              obtain ⟨v63, e64⟩ : ∃ v, hA h13 93 (Int.toNat ((((14) * l) + k12))) = v := ⟨_, rfl⟩
              refine wq_al (p' := 65) (n := 980) (ck_159 _ _ rfl) rfl (ly_k I14.1.1.1 93 rfl) (by omega) (e64) ?_
              refine av_wp_sqF ck_159 1 (pc' := 67) (lv' := [some (.inr (.inr (.inl (some (77))))), some (.inl l), some (.inl x), some (.inl k12), none]) (st' := [.inl (-2), .inl v63]) (h' := h13) rfl ?_
              have J69 : ∀  (h66 : av_H), IMF n a m h66 → FM g h66 →  av_wp none cd_159 87 [some (.inr (.inr (.inl (some (77))))), some (.inl l), some (.inl x), some (.inl k12), none] [] h66 Q := by
                intro h66 I67 F68
                refine av_wp_sqF ck_159 2 (pc' := 48) (lv' := [some (.inr (.inr (.inl (some (77))))), some (.inl l), some (.inl x), some (.inl (k12 + (1))), none]) (st' := []) (h' := h66) rfl ?_
                exact I18 _ (by omega) ((k12 + (1))) h66 (by omega) I67 F68 rfl
              refine wq_c2 (p' := 70) (ck_159 _ _ rfl) rfl ?_ ?_
              · exact J69 h13 I14 F15
              · refine av_wp_sqF ck_159 1 (pc' := 71) (lv' := [some (.inr (.inr (.inl (some (77))))), some (.inl l), some (.inl x), some (.inl k12), none]) (st' := [.inr (.inr (.inl (some (77))))]) (h' := h13) rfl ?_
                refine wq_gr (p' := 74) (ck_159 _ _ rfl) rfl (congrArg Prod.fst (ly_k I14.1.1.1 77 rfl)) rfl (ly_g I14.1.1.1 77 26 95 rfl) ?_
                refine av_wp_sqF ck_159 2 (pc' := 76) (lv' := [some (.inr (.inr (.inl (some (77))))), some (.inl l), some (.inl x), some (.inl k12), none]) (st' := [.inr (.inr (.inl (some (77)))), .inl k12, .inr (.inr (.inl (some (95))))]) (h' := h13) rfl ?_
                refine wq_gr (p' := 79) (ck_159 _ _ rfl) rfl (congrArg Prod.fst (ly_k I14.1.1.1 77 rfl)) rfl (ly_g I14.1.1.1 77 15 93 rfl) ?_
                refine av_wp_sqF ck_159 5 (pc' := 85) (lv' := [some (.inr (.inr (.inl (some (77))))), some (.inl l), some (.inl x), some (.inl k12), none]) (st' := [.inl (((14) * l) + k12), .inr (.inr (.inl (some (93)))), .inl k12, .inr (.inr (.inl (some (95))))]) (h' := h13) rfl ?_
                obtain ⟨v70, e71⟩ : ∃ v, hA h13 93 (Int.toNat ((((14) * l) + k12))) = v := ⟨_, rfl⟩
                refine wq_al (p' := 86) (n := 980) (ck_159 _ _ rfl) rfl (ly_k I14.1.1.1 93 rfl) (by omega) (e71) ?_
                refine im_as (p' := 87) (l := 13) rfl rfl I14 F15 (ly_k I14.1.1.1 95 rfl) (by omega) (by omega) (fun h73 I74 F75 => ?_)
                exact J69 h73 I74 F75
        exact L17 _ ((0)) h2 (by omega) I3 F4 rfl
      · have c11 : k1 < (13) := c11
        refine av_wp_sqF ck_159 1 (pc' := 9) (lv' := [some (.inr (.inr (.inl (some (77))))), some (.inl l), some (.inl x), some (.inl k1), none]) (st' := [.inr (.inr (.inl (some (77))))]) (h' := h2) rfl ?_
        refine wq_gr (p' := 12) (ck_159 _ _ rfl) rfl (congrArg Prod.fst (ly_k I3.1.1.1 77 rfl)) rfl (ly_g I3.1.1.1 77 26 95 rfl) ?_
        refine av_wp_sqF ck_159 3 (pc' := 16) (lv' := [some (.inr (.inr (.inl (some (77))))), some (.inl l), some (.inl x), some (.inl k1), none]) (st' := [.inl (6), .inl k1, .inl k1, .inr (.inr (.inl (some (95))))]) (h' := h2) rfl ?_
        have J78 : ∀ (j76 : Int), (-1 ≤ j76 ∧ j76 ≤ 1) →  av_wp none cd_159 39 [some (.inr (.inr (.inl (some (77))))), some (.inl l), some (.inl x), some (.inl k1), none] [.inl j76, .inl k1, .inr (.inr (.inl (some (95))))] h2 Q := by
          intro j76 g77
          refine im_as (p' := 40) (l := 13) rfl rfl I3 F4 (ly_k I3.1.1.1 95 rfl) (by omega) (by omega) (fun h79 I80 F81 => ?_)
          refine av_wp_sqF ck_159 2 (pc' := 2) (lv' := [some (.inr (.inr (.inl (some (77))))), some (.inl l), some (.inl x), some (.inl (k1 + (1))), none]) (st' := []) (h' := h79) rfl ?_
          exact I7 _ (by omega) ((k1 + (1))) h79 (by omega) I80 F81 rfl
        refine wq_k2 (p' := 19) (ck_159 _ _ rfl) rfl ⟨by omega, by omega⟩ ⟨by omega, by omega⟩ (fun c82 => ?_) (fun c83 => ?_)
        · have c82 : (6) ≤ k1 := c82
          refine av_wp_sqF ck_159 3 (pc' := 28) (lv' := [some (.inr (.inr (.inl (some (77))))), some (.inl l), some (.inl x), some (.inl k1), none]) (st' := [.inl (8), .inl (7), .inl k1, .inl k1, .inr (.inr (.inl (some (95))))]) (h' := h2) rfl ?_
          refine wq_cs (p' := 31) (av_qc (.invokestatic 176) 127 3 2 8) 3 cd_127 [.inl k1, .inl (7), .inl (8)] [.inl (8), .inl (7), .inl k1, .inl k1, .inr (.inr (.inl (some (95))))] [some (.inl k1), some (.inl (7)), some (.inl (8))] (ck_159 _ _ rfl) rfl rfl pp_127 (fun _ => rfl) rfl rfl ?_
          refine ct_127 (g := h) (k1) (by omega) ((7)) (by omega) ((8)) (by omega) (fun v84 p85 => ?_)
          show av_wp _ cd_159 31 [some (.inr (.inr (.inl (some (77))))), some (.inl l), some (.inl x), some (.inl k1), none] [.inl v84, .inl k1, .inr (.inr (.inl (some (95))))] h2 _
          refine wq_k1 (p' := 34) (ck_159 _ _ rfl) rfl ⟨by omega, by omega⟩ (fun c86 => ?_) (fun c87 => ?_)
          · have c86 : v84 = (0) := c86
            refine av_wp_sqF ck_159 1 (pc' := 39) (lv' := [some (.inr (.inr (.inl (some (77))))), some (.inl l), some (.inl x), some (.inl k1), none]) (st' := [.inl (0), .inl k1, .inr (.inr (.inl (some (95))))]) (h' := h2) rfl ?_
            exact J78 ((0)) (by omega)
          · have c87 : v84 ≠ (0) := c87
            refine av_wp_sqF ck_159 2 (pc' := 39) (lv' := [some (.inr (.inr (.inl (some (77))))), some (.inl l), some (.inl x), some (.inl k1), none]) (st' := [.inl (-1), .inl k1, .inr (.inr (.inl (some (95))))]) (h' := h2) rfl ?_
            exact J78 ((-1)) (by omega)
        · have c83 : k1 < (6) := c83
          refine av_wp_sqF ck_159 2 (pc' := 39) (lv' := [some (.inr (.inr (.inl (some (77))))), some (.inl l), some (.inl x), some (.inl k1), none]) (st' := [.inl (1), .inl k1, .inr (.inr (.inl (some (95))))]) (h' := h2) rfl ?_
          exact J78 ((1)) (by omega)
  exact L6 _ ((0)) h (by omega) I F rfl

