/-! THE REFERENCE'S TOKENS, exactly -/
set_option maxRecDepth 100000 in
set_option maxHeartbeats 4000000 in
theorem ct_129 {g h : av_H} {b : Nat → Int} {lim : Nat} {x17 x18 x19 x20 x21 x22 x23 x24 x25 : Int} {A : Nat → Nat → Int} (N : NS b lim x17 x18 x19 x20 x21 x22 x23 x24 x25 A h) (F : FD g h) (q19 : x19 = (lim : Int)) (q20 : 0 ≤ x20 ∧ x20 ≤ (lim : Int)) {Q : Option av_V → av_H → Prop} (hq : ∀ v : Int, ((x20 < (lim : Int) ∧ ((0 ≤ b (Int.toNat x20) ∧ v = b (Int.toNat x20)) ∨ (b (Int.toNat x20) < 0 ∧ v = b (Int.toNat x20) + 256))) ∨ ((lim : Int) ≤ x20 ∧ v = -1)) → Q (some (.inl v)) h) : av_wp none cd_129 0 [some (.inr (.inr (.inl (some (77)))))] [] h Q := by
  have gl := ns_lim N
  refine av_wp_seq 1 (pc' := 1) (lv' := [some (.inr (.inr (.inl (some (77)))))]) (st' := [.inr (.inr (.inl (some (77))))]) (h' := h) rfl ?_
  refine wq_gi (p' := 4) rfl rfl (congrArg Prod.fst (ly_k N.1 77 rfl)) rfl (ns_20 N) ?_
  refine av_wp_seq 1 (pc' := 5) (lv' := [some (.inr (.inr (.inl (some (77)))))]) (st' := [.inr (.inr (.inl (some (77)))), .inl x20]) (h' := h) rfl ?_
  refine wq_gi (p' := 8) rfl rfl (congrArg Prod.fst (ly_k N.1 77 rfl)) rfl (ns_19 N) ?_
  refine wq_k2 (p' := 11) rfl rfl ⟨by omega, by omega⟩ ⟨by omega, by omega⟩ (fun c1 => ?_) (fun c2 => ?_)
  · have c1 : x19 ≤ x20 := c1
    refine av_wp_seq 1 (pc' := 28) (lv' := [some (.inr (.inr (.inl (some (77)))))]) (st' := [.inl (-1)]) (h' := h) rfl ?_
    refine av_wp_ret (v := some (.inl (-1))) rfl rfl rfl ?_
    exact hq _ (by omega)
  · have c2 : x20 < x19 := c2
    refine av_wp_seq 1 (pc' := 12) (lv' := [some (.inr (.inr (.inl (some (77)))))]) (st' := [.inr (.inr (.inl (some (77))))]) (h' := h) rfl ?_
    refine wq_gr (p' := 15) rfl rfl (congrArg Prod.fst (ly_k N.1 77 rfl)) rfl (ly_g N.1 77 16 94 rfl) ?_
    refine av_wp_seq 1 (pc' := 16) (lv' := [some (.inr (.inr (.inl (some (77)))))]) (st' := [.inr (.inr (.inl (some (77)))), .inr (.inr (.inl (some (94))))]) (h' := h) rfl ?_
    refine wq_gi (p' := 19) rfl rfl (congrArg Prod.fst (ly_k N.1 77 rfl)) rfl (ns_20 N) ?_
    obtain ⟨v3, e4⟩ : ∃ v, hA h 94 (Int.toNat (x20)) = v := ⟨_, rfl⟩
    have e5 : b (Int.toNat (x20)) = v3 := (congrFun (ns_b N).symm _).trans e4
    have g6 := ns_bv N (Int.toNat (x20))
    rw [e5] at g6
    have g7 := and255 g6
    refine wq_bl (p' := 20) (n := 900) rfl rfl ((Or.inl (ly_k N.1 94 rfl))) (by omega) (e4) ?_
    refine av_wp_seq 3 (pc' := 28) (lv' := [some (.inr (.inr (.inl (some (77)))))]) (st' := [.inl (av_and v3 (255))]) (h' := h) rfl ?_
    refine av_wp_ret (v := some (.inl (av_and v3 (255)))) rfl rfl rfl ?_
    exact hq _ (by omega)

set_option maxRecDepth 100000 in
set_option maxHeartbeats 4000000 in
theorem ct_130 {g h : av_H} {b : Nat → Int} {lim : Nat} {t : TT} {x17 x18 x21 x22 x23 x24 x25 : Int} {A : Nat → Nat → Int} (N : NS b lim x17 x18 (lim : Int) (t.2.1 : Int) x21 x22 x23 x24 x25 A h) (F : FD g h) (w : WF lim t) {Q : Option av_V → av_H → Prop} (hq : ∀ h', NS b lim x17 x18 (lim : Int) (((adv b lim t).2.1 : Nat) : Int) (((adv b lim t).1 : Nat) : Int) (tokv (adv b lim t)) (valv b (adv b lim t)) (txtv b (adv b lim t)) x25 A h' → FD g h' → Q none h') : av_wp none cd_130 0 [some (.inr (.inr (.inl (some (77))))), none] [] h Q := by
  have gl := ns_lim N
  have gw := w.2.1
  have L5 : ∀ (m4 : Nat) (y20_0 : Int) (h1 : av_H), edn b lim 4 (Int.toNat (y20_0)) = edn b lim 4 t.2.1 → 0 ≤ y20_0 ∧ y20_0 ≤ (lim : Int) → (0 ≤ y20_0 ∧ y20_0 ≤ 900) → NS b lim (x17) (x18) ((lim : Int)) (y20_0) (x21) (x22) (x23) (x24) (x25) A h1 → FD g h1 → (901 - y20_0).toNat = m4 → av_wp none cd_130 0 [some (.inr (.inr (.inl (some (77))))), none] [] h1 Q := by
    intro m4
    induction m4 using Nat.strongRecOn with
    | _ m4 I6 =>
      intro y20_0 h1 g8 g9 g10 N2 F3 e7
      refine av_wp_seq 1 (pc' := 1) (lv' := [some (.inr (.inr (.inl (some (77))))), none]) (st' := [.inr (.inr (.inl (some (77))))]) (h' := h1) rfl ?_
      refine wq_cv (p' := 4) (av_qc (.invokevirtual 157) 129 0 0 8) 1 cd_129 [] (77) 8 [some (.inr (.inr (.inl (some (77)))))] rfl rfl rfl pp_129 rfl rfl rfl (congrArg Prod.fst (ly_k N2.1 77 rfl)) rfl rfl rfl rfl ?_
      refine ct_129 N2 F3 (by omega) (by omega) (fun v11 p12 => ?_)
      have g13 := ns_bv N2 (Int.toNat (y20_0))
      show av_wp _ cd_130 4 [some (.inr (.inr (.inl (some (77))))), none] [.inl v11] h1 _
      refine av_wp_seq 1 (pc' := 6) (lv' := [some (.inr (.inr (.inl (some (77))))), none]) (st' := [.inl (32), .inl v11]) (h' := h1) rfl ?_
      refine wq_k2 (p' := 9) rfl rfl ⟨by omega, by omega⟩ ⟨by omega, by omega⟩ (fun c14 => ?_) (fun c15 => ?_)
      · have c14 : v11 = (32) := c14
        refine av_wp_seq 2 (pc' := 20) (lv' := [some (.inr (.inr (.inl (some (77))))), none]) (st' := [.inr (.inr (.inl (some (77)))), .inr (.inr (.inl (some (77))))]) (h' := h1) rfl ?_
        refine wq_gi (p' := 23) rfl rfl (congrArg Prod.fst (ly_k N2.1 77 rfl)) rfl (ns_20 N2) ?_
        refine av_wp_seq 2 (pc' := 25) (lv' := [some (.inr (.inr (.inl (some (77))))), none]) (st' := [.inl (y20_0 + (1)), .inr (.inr (.inl (some (77))))]) (h' := h1) rfl ?_
        refine ns_p20 (p' := 28) rfl rfl N2 F3 (fun h16 N17 F18 => ?_)
        refine av_wp_seq 1 (pc' := 0) (lv' := [some (.inr (.inr (.inl (some (77))))), none]) (st' := []) (h' := h16) rfl ?_
        exact I6 _ (by omega) ((y20_0 + (1))) h16 ((show edn b lim 4 (Int.toNat ((y20_0 + (1)))) = edn b lim 4 (Int.toNat (y20_0)) from ((edn_go (a := Int.toNat (y20_0)) (by omega) (so_4.mpr (by omega))).trans (congrArg _ (by omega))).symm).trans g8) (by omega) (by omega) N17 F18 rfl
      · have c15 : v11 ≠ (32) := c15
        refine av_wp_seq 1 (pc' := 10) (lv' := [some (.inr (.inr (.inl (some (77))))), none]) (st' := [.inr (.inr (.inl (some (77))))]) (h' := h1) rfl ?_
        refine wq_cv (p' := 13) (av_qc (.invokevirtual 157) 129 0 0 8) 1 cd_129 [] (77) 8 [some (.inr (.inr (.inl (some (77)))))] rfl rfl rfl pp_129 rfl rfl rfl (congrArg Prod.fst (ly_k N2.1 77 rfl)) rfl rfl rfl rfl ?_
        refine ct_129 N2 F3 (by omega) (by omega) (fun v19 p20 => ?_)
        have g21 := ns_bv N2 (Int.toNat (y20_0))
        show av_wp _ cd_130 13 [some (.inr (.inr (.inl (some (77))))), none] [.inl v19] h1 _
        refine av_wp_seq 1 (pc' := 15) (lv' := [some (.inr (.inr (.inl (some (77))))), none]) (st' := [.inl (10), .inl v19]) (h' := h1) rfl ?_
        refine wq_k2 (p' := 18) rfl rfl ⟨by omega, by omega⟩ ⟨by omega, by omega⟩ (fun c22 => ?_) (fun c23 => ?_)
        · have c22 : v19 ≠ (10) := c22
          have z24 : edn b lim 4 t.2.1 = (Int.toNat (y20_0)) := by rw [← g8]; exact edn_end (fun z => by have z1 := z.1; have z2 := so_4.mp z.2; omega)
          refine av_wp_seq 2 (pc' := 33) (lv' := [some (.inr (.inr (.inl (some (77))))), none]) (st' := [.inr (.inr (.inl (some (77)))), .inr (.inr (.inl (some (77))))]) (h' := h1) rfl ?_
          refine wq_gi (p' := 36) rfl rfl (congrArg Prod.fst (ly_k N2.1 77 rfl)) rfl (ns_20 N2) ?_
          refine ns_p21 (p' := 39) rfl rfl N2 F3 (fun h25 N26 F27 => ?_)
          refine av_wp_seq 1 (pc' := 40) (lv' := [some (.inr (.inr (.inl (some (77))))), none]) (st' := [.inr (.inr (.inl (some (77))))]) (h' := h25) rfl ?_
          refine wq_cv (p' := 43) (av_qc (.invokevirtual 157) 129 0 0 8) 1 cd_129 [] (77) 8 [some (.inr (.inr (.inl (some (77)))))] rfl rfl rfl pp_129 rfl rfl rfl (congrArg Prod.fst (ly_k N26.1 77 rfl)) rfl rfl rfl rfl ?_
          refine ct_129 N26 F27 (by omega) (by omega) (fun v28 p29 => ?_)
          have g30 := ns_bv N26 (Int.toNat (y20_0))
          show av_wp _ cd_130 43 [some (.inr (.inr (.inl (some (77))))), none] [.inl v28] h25 _
          refine av_wp_seq 3 (pc' := 48) (lv' := [some (.inr (.inr (.inl (some (77))))), some (.inl v28)]) (st' := [.inr (.inl (-1)), .inr (.inr (.inl (some (77))))]) (h' := h25) rfl ?_
          refine ns_p24 (p' := 51) rfl rfl N26 F27 (fun h31 N32 F33 => ?_)
          refine av_wp_seq 2 (pc' := 53) (lv' := [some (.inr (.inr (.inl (some (77))))), some (.inl v28)]) (st' := [.inl (0), .inr (.inr (.inl (some (77))))]) (h' := h31) rfl ?_
          refine ns_p23 (p' := 56) rfl rfl N32 F33 (fun h34 N35 F36 => ?_)
          refine av_wp_seq 1 (pc' := 57) (lv' := [some (.inr (.inr (.inl (some (77))))), some (.inl v28)]) (st' := [.inl v28]) (h' := h34) rfl ?_
          refine wq_k1 (p' := 60) rfl rfl ⟨by omega, by omega⟩ (fun c37 => ?_) (fun c38 => ?_)
          · have c37 : (0) ≤ v28 := c37
            refine av_wp_seq 3 (pc' := 73) (lv' := [some (.inr (.inr (.inl (some (77))))), some (.inl v28)]) (st' := [.inl (122), .inl (97), .inl v28]) (h' := h34) rfl ?_
            refine wq_cs (p' := 76) (av_qc (.invokestatic 176) 127 3 2 8) 3 cd_127 [.inl v28, .inl (97), .inl (122)] [.inl (122), .inl (97), .inl v28] [some (.inl v28), some (.inl (97)), some (.inl (122))] rfl rfl rfl pp_127 (fun _ => rfl) rfl rfl ?_
            refine ct_127 (g := h) (v28) (by omega) ((97)) (by omega) ((122)) (by omega) (fun v39 p40 => ?_)
            show av_wp _ cd_130 76 [some (.inr (.inr (.inl (some (77))))), some (.inl v28)] [.inl v39] h34 _
            refine wq_k1 (p' := 79) rfl rfl ⟨by omega, by omega⟩ (fun c41 => ?_) (fun c42 => ?_)
            · have c41 : v39 = (0) := c41
              refine av_wp_seq 3 (pc' := 162) (lv' := [some (.inr (.inr (.inl (some (77))))), some (.inl v28)]) (st' := [.inl (57), .inl (48), .inl v28]) (h' := h34) rfl ?_
              refine wq_cs (p' := 165) (av_qc (.invokestatic 176) 127 3 2 8) 3 cd_127 [.inl v28, .inl (48), .inl (57)] [.inl (57), .inl (48), .inl v28] [some (.inl v28), some (.inl (48)), some (.inl (57))] rfl rfl rfl pp_127 (fun _ => rfl) rfl rfl ?_
              refine ct_127 (g := h) (v28) (by omega) ((48)) (by omega) ((57)) (by omega) (fun v43 p44 => ?_)
              show av_wp _ cd_130 165 [some (.inr (.inr (.inl (some (77))))), some (.inl v28)] [.inl v43] h34 _
              refine wq_k1 (p' := 168) rfl rfl ⟨by omega, by omega⟩ (fun c45 => ?_) (fun c46 => ?_)
              · have c45 : v43 = (0) := c45
                refine av_wp_seq 3 (pc' := 252) (lv' := [some (.inr (.inr (.inl (some (77))))), some (.inl v28)]) (st' := [.inl (59), .inl v28, .inr (.inr (.inl (some (77))))]) (h' := h34) rfl ?_
                refine wq_k2 (p' := 255) rfl rfl ⟨by omega, by omega⟩ ⟨by omega, by omega⟩ (fun c47 => ?_) (fun c48 => ?_)
                · have c47 : v28 ≠ (59) := c47
                  refine av_wp_seq 1 (pc' := 261) (lv' := [some (.inr (.inr (.inl (some (77))))), some (.inl v28)]) (st' := [.inl (3), .inr (.inr (.inl (some (77))))]) (h' := h34) rfl ?_
                  refine ns_p22 (p' := 264) rfl rfl N35 F36 (fun h49 N50 F51 => ?_)
                  refine av_wp_seq 2 (pc' := 266) (lv' := [some (.inr (.inr (.inl (some (77))))), some (.inl v28)]) (st' := [.inr (.inr (.inl (some (77)))), .inr (.inr (.inl (some (77))))]) (h' := h49) rfl ?_
                  refine wq_gi (p' := 269) rfl rfl (congrArg Prod.fst (ly_k N50.1 77 rfl)) rfl (ns_20 N50) ?_
                  refine av_wp_seq 2 (pc' := 271) (lv' := [some (.inr (.inr (.inl (some (77))))), some (.inl v28)]) (st' := [.inl (y20_0 + (1)), .inr (.inr (.inl (some (77))))]) (h' := h49) rfl ?_
                  refine ns_p20 (p' := 274) rfl rfl N50 F51 (fun h52 N53 F54 => ?_)
                  refine av_wp_ret (v := none) rfl rfl rfl ?_
                  have z56 : so (b (Int.toNat (y20_0))) ≠ 1 := fun z => by have z2 := so_1.mp z; omega
                  have z57 : so (b (Int.toNat (y20_0))) ≠ 2 := fun z => by have z2 := so_2.mp z; omega
                  have z55 : adv b lim t = (Int.toNat (y20_0), Int.toNat (y20_0) + 1, (so (b (Int.toNat (y20_0)))), t.2.2.2) := by simp only [adv, z24, if_pos (show Int.toNat (y20_0) < lim by omega), if_neg (show ¬ (so (b (Int.toNat (y20_0))) = 1 ∨ so (b (Int.toNat (y20_0))) = 2) by omega)]
                  refine hq h52 ?_ F54
                  rw [z55]
                  have k20 : ((Int.toNat (y20_0) + 1 : Nat) : Int) = (y20_0 + (1)) := by omega
                  have k21 : ((Int.toNat (y20_0) : Nat) : Int) = y20_0 := by omega
                  have z59 := so_r (b (Int.toNat (y20_0)))
                  have k22 : tokv (Int.toNat (y20_0), Int.toNat (y20_0) + 1, (so (b (Int.toNat (y20_0)))), t.2.2.2) = (3) := (show tokv (Int.toNat (y20_0), Int.toNat (y20_0) + 1, (so (b (Int.toNat (y20_0)))), t.2.2.2) = (3) by unfold tokv; dsimp only; rw [if_neg (by omega), if_neg z56, if_neg z57]; rw [if_neg (fun z => by have z2 := so_3.mp z; omega)])
                  have k23 : valv b (Int.toNat (y20_0), Int.toNat (y20_0) + 1, (so (b (Int.toNat (y20_0)))), t.2.2.2) = (0) := (if_neg z57)
                  have k24 : txtv b (Int.toNat (y20_0), Int.toNat (y20_0) + 1, (so (b (Int.toNat (y20_0)))), t.2.2.2) = (-1) := (if_neg z56)
                  show NS b lim x17 x18 (lim : Int) (((Int.toNat (y20_0) + 1 : Nat)) : Int) ((Int.toNat (y20_0) : Nat) : Int) (tokv (Int.toNat (y20_0), Int.toNat (y20_0) + 1, (so (b (Int.toNat (y20_0)))), t.2.2.2)) (valv b (Int.toNat (y20_0), Int.toNat (y20_0) + 1, (so (b (Int.toNat (y20_0)))), t.2.2.2)) (txtv b (Int.toNat (y20_0), Int.toNat (y20_0) + 1, (so (b (Int.toNat (y20_0)))), t.2.2.2)) x25 A h52
                  rw [k20, k21, k22, k23, k24]
                  exact N53
                · have c48 : v28 = (59) := c48
                  refine av_wp_seq 2 (pc' := 261) (lv' := [some (.inr (.inr (.inl (some (77))))), some (.inl v28)]) (st' := [.inl (59), .inr (.inr (.inl (some (77))))]) (h' := h34) rfl ?_
                  refine ns_p22 (p' := 264) rfl rfl N35 F36 (fun h60 N61 F62 => ?_)
                  refine av_wp_seq 2 (pc' := 266) (lv' := [some (.inr (.inr (.inl (some (77))))), some (.inl v28)]) (st' := [.inr (.inr (.inl (some (77)))), .inr (.inr (.inl (some (77))))]) (h' := h60) rfl ?_
                  refine wq_gi (p' := 269) rfl rfl (congrArg Prod.fst (ly_k N61.1 77 rfl)) rfl (ns_20 N61) ?_
                  refine av_wp_seq 2 (pc' := 271) (lv' := [some (.inr (.inr (.inl (some (77))))), some (.inl v28)]) (st' := [.inl (y20_0 + (1)), .inr (.inr (.inl (some (77))))]) (h' := h60) rfl ?_
                  refine ns_p20 (p' := 274) rfl rfl N61 F62 (fun h63 N64 F65 => ?_)
                  refine av_wp_ret (v := none) rfl rfl rfl ?_
                  have z67 : so (b (Int.toNat (y20_0))) ≠ 1 := fun z => by have z2 := so_1.mp z; omega
                  have z68 : so (b (Int.toNat (y20_0))) ≠ 2 := fun z => by have z2 := so_2.mp z; omega
                  have z66 : adv b lim t = (Int.toNat (y20_0), Int.toNat (y20_0) + 1, (so (b (Int.toNat (y20_0)))), t.2.2.2) := by simp only [adv, z24, if_pos (show Int.toNat (y20_0) < lim by omega), if_neg (show ¬ (so (b (Int.toNat (y20_0))) = 1 ∨ so (b (Int.toNat (y20_0))) = 2) by omega)]
                  refine hq h63 ?_ F65
                  rw [z66]
                  have k20 : ((Int.toNat (y20_0) + 1 : Nat) : Int) = (y20_0 + (1)) := by omega
                  have k21 : ((Int.toNat (y20_0) : Nat) : Int) = y20_0 := by omega
                  have z70 := so_r (b (Int.toNat (y20_0)))
                  have k22 : tokv (Int.toNat (y20_0), Int.toNat (y20_0) + 1, (so (b (Int.toNat (y20_0)))), t.2.2.2) = (59) := (show tokv (Int.toNat (y20_0), Int.toNat (y20_0) + 1, (so (b (Int.toNat (y20_0)))), t.2.2.2) = (59) by unfold tokv; dsimp only; rw [if_neg (by omega), if_neg z67, if_neg z68]; rw [if_pos (so_3.mpr (by omega))])
                  have k23 : valv b (Int.toNat (y20_0), Int.toNat (y20_0) + 1, (so (b (Int.toNat (y20_0)))), t.2.2.2) = (0) := (if_neg z68)
                  have k24 : txtv b (Int.toNat (y20_0), Int.toNat (y20_0) + 1, (so (b (Int.toNat (y20_0)))), t.2.2.2) = (-1) := (if_neg z67)
                  show NS b lim x17 x18 (lim : Int) (((Int.toNat (y20_0) + 1 : Nat)) : Int) ((Int.toNat (y20_0) : Nat) : Int) (tokv (Int.toNat (y20_0), Int.toNat (y20_0) + 1, (so (b (Int.toNat (y20_0)))), t.2.2.2)) (valv b (Int.toNat (y20_0), Int.toNat (y20_0) + 1, (so (b (Int.toNat (y20_0)))), t.2.2.2)) (txtv b (Int.toNat (y20_0), Int.toNat (y20_0) + 1, (so (b (Int.toNat (y20_0)))), t.2.2.2)) x25 A h63
                  rw [k20, k21, k22, k23, k24]
                  exact N64
              · have c46 : v43 ≠ (0) := c46
                have L75 : ∀ (m74 : Nat) (y20_168 : Int) (y23_168 : Int) (h71 : av_H), edn b lim 2 (Int.toNat (y20_168)) = edn b lim 2 (Int.toNat (y20_0)) → y23_168 = dgc b (Int.toNat (y20_0)) (Int.toNat (y20_168 - y20_0)) → y20_0 ≤ y20_168 ∧ y20_168 ≤ (lim : Int) → 0 ≤ y23_168 ∧ y23_168 ≤ 10000000 → (0 ≤ y20_168 ∧ y20_168 ≤ 900) → NS b lim (x17) (x18) ((lim : Int)) (y20_168) (y20_0) (x22) (y23_168) ((-1)) (x25) A h71 → FD g h71 → (901 - y20_168).toNat = m74 → av_wp none cd_130 168 [some (.inr (.inr (.inl (some (77))))), some (.inl v28)] [] h71 Q := by
                  intro m74
                  induction m74 using Nat.strongRecOn with
                  | _ m74 I76 =>
                    intro y20_168 y23_168 h71 g78 g79 g80 g81 g82 N72 F73 e77
                    refine av_wp_seq 1 (pc' := 169) (lv' := [some (.inr (.inr (.inl (some (77))))), some (.inl v28)]) (st' := [.inr (.inr (.inl (some (77))))]) (h' := h71) rfl ?_
                    refine wq_cv (p' := 172) (av_qc (.invokevirtual 157) 129 0 0 8) 1 cd_129 [] (77) 8 [some (.inr (.inr (.inl (some (77)))))] rfl rfl rfl pp_129 rfl rfl rfl (congrArg Prod.fst (ly_k N72.1 77 rfl)) rfl rfl rfl rfl ?_
                    refine ct_129 N72 F73 (by omega) (by omega) (fun v83 p84 => ?_)
                    have g85 := ns_bv N72 (Int.toNat (y20_168))
                    show av_wp _ cd_130 172 [some (.inr (.inr (.inl (some (77))))), some (.inl v28)] [.inl v83] h71 _
                    refine av_wp_seq 2 (pc' := 176) (lv' := [some (.inr (.inr (.inl (some (77))))), some (.inl v28)]) (st' := [.inl (57), .inl (48), .inl v83]) (h' := h71) rfl ?_
                    refine wq_cs (p' := 179) (av_qc (.invokestatic 176) 127 3 2 8) 3 cd_127 [.inl v83, .inl (48), .inl (57)] [.inl (57), .inl (48), .inl v83] [some (.inl v83), some (.inl (48)), some (.inl (57))] rfl rfl rfl pp_127 (fun _ => rfl) rfl rfl ?_
                    refine ct_127 (g := h) (v83) (by omega) ((48)) (by omega) ((57)) (by omega) (fun v86 p87 => ?_)
                    show av_wp _ cd_130 179 [some (.inr (.inr (.inl (some (77))))), some (.inl v28)] [.inl v86] h71 _
                    refine wq_k1 (p' := 182) rfl rfl ⟨by omega, by omega⟩ (fun c88 => ?_) (fun c89 => ?_)
                    · have c88 : v86 = (0) := c88
                      refine av_wp_seq 2 (pc' := 225) (lv' := [some (.inr (.inr (.inl (some (77))))), some (.inl v28)]) (st' := [.inr (.inr (.inl (some (77)))), .inr (.inr (.inl (some (77))))]) (h' := h71) rfl ?_
                      refine wq_gi (p' := 228) rfl rfl (congrArg Prod.fst (ly_k N72.1 77 rfl)) rfl (ns_20 N72) ?_
                      refine av_wp_seq 1 (pc' := 229) (lv' := [some (.inr (.inr (.inl (some (77))))), some (.inl v28)]) (st' := [.inr (.inr (.inl (some (77)))), .inl y20_168, .inr (.inr (.inl (some (77))))]) (h' := h71) rfl ?_
                      refine wq_gi (p' := 232) rfl rfl (congrArg Prod.fst (ly_k N72.1 77 rfl)) rfl (ns_21 N72) ?_
                      refine av_wp_seq 2 (pc' := 234) (lv' := [some (.inr (.inr (.inl (some (77))))), some (.inl v28)]) (st' := [.inl (4), .inl (y20_168 - y20_0), .inr (.inr (.inl (some (77))))]) (h' := h71) rfl ?_
                      refine wq_k2 (p' := 237) rfl rfl ⟨by omega, by omega⟩ ⟨by omega, by omega⟩ (fun c90 => ?_) (fun c91 => ?_)
                      · have c90 : (4) < (y20_168 - y20_0) := c90
                        refine av_wp_seq 1 (pc' := 242) (lv' := [some (.inr (.inr (.inl (some (77))))), some (.inl v28)]) (st' := [.inl (3), .inr (.inr (.inl (some (77))))]) (h' := h71) rfl ?_
                        refine ns_p22 (p' := 245) rfl rfl N72 F73 (fun h92 N93 F94 => ?_)
                        refine av_wp_seq 1 (pc' := 274) (lv' := [some (.inr (.inr (.inl (some (77))))), some (.inl v28)]) (st' := []) (h' := h92) rfl ?_
                        refine av_wp_ret (v := none) rfl rfl rfl ?_
                        have z96 : so (b (Int.toNat (y20_0))) = 2 := so_2.mpr (by omega)
                        have z97 : edn b lim 2 (Int.toNat (y20_0) + 1) = Int.toNat (y20_168) := by rw [← edn_go (by omega) z96, ← g78]; exact edn_end (fun z => by have z1 := z.1; have z2 := so_2.mp z.2; omega)
                        have z95 : adv b lim t = (Int.toNat (y20_0), Int.toNat (y20_168), (2 : Int), t.2.2.2) := by simp only [adv, z24, if_pos (show Int.toNat (y20_0) < lim by omega), z96, or_true, true_or, if_true, z97]
                        refine hq h92 ?_ F94
                        rw [z95]
                        have k20 : ((Int.toNat (y20_168) : Nat) : Int) = y20_168 := by omega
                        have k21 : ((Int.toNat (y20_0) : Nat) : Int) = y20_0 := by omega
                        have k22 : tokv (Int.toNat (y20_0), Int.toNat (y20_168), (2 : Int), t.2.2.2) = (3) := (show (if ((Int.toNat (y20_168) : Nat) : Int) - ((Int.toNat (y20_0) : Nat) : Int) ≤ 4 then (2 : Int) else 3) = (3) by split <;> omega)
                        have k23 : valv b (Int.toNat (y20_0), Int.toNat (y20_168), (2 : Int), t.2.2.2) = y23_168 := (show dgc b (Int.toNat (y20_0)) (Int.toNat (y20_168) - Int.toNat (y20_0)) = y23_168 by rw [g79]; congr 1; omega)
                        have k24 : txtv b (Int.toNat (y20_0), Int.toNat (y20_168), (2 : Int), t.2.2.2) = (-1) := rfl
                        show NS b lim x17 x18 (lim : Int) (((Int.toNat (y20_168) : Nat)) : Int) ((Int.toNat (y20_0) : Nat) : Int) (tokv (Int.toNat (y20_0), Int.toNat (y20_168), (2 : Int), t.2.2.2)) (valv b (Int.toNat (y20_0), Int.toNat (y20_168), (2 : Int), t.2.2.2)) (txtv b (Int.toNat (y20_0), Int.toNat (y20_168), (2 : Int), t.2.2.2)) x25 A h92
                        rw [k20, k21, k22, k23, k24]
                        exact N93
                      · have c91 : (y20_168 - y20_0) ≤ (4) := c91
                        refine av_wp_seq 2 (pc' := 242) (lv' := [some (.inr (.inr (.inl (some (77))))), some (.inl v28)]) (st' := [.inl (2), .inr (.inr (.inl (some (77))))]) (h' := h71) rfl ?_
                        refine ns_p22 (p' := 245) rfl rfl N72 F73 (fun h98 N99 F100 => ?_)
                        refine av_wp_seq 1 (pc' := 274) (lv' := [some (.inr (.inr (.inl (some (77))))), some (.inl v28)]) (st' := []) (h' := h98) rfl ?_
                        refine av_wp_ret (v := none) rfl rfl rfl ?_
                        have z102 : so (b (Int.toNat (y20_0))) = 2 := so_2.mpr (by omega)
                        have z103 : edn b lim 2 (Int.toNat (y20_0) + 1) = Int.toNat (y20_168) := by rw [← edn_go (by omega) z102, ← g78]; exact edn_end (fun z => by have z1 := z.1; have z2 := so_2.mp z.2; omega)
                        have z101 : adv b lim t = (Int.toNat (y20_0), Int.toNat (y20_168), (2 : Int), t.2.2.2) := by simp only [adv, z24, if_pos (show Int.toNat (y20_0) < lim by omega), z102, or_true, true_or, if_true, z103]
                        refine hq h98 ?_ F100
                        rw [z101]
                        have k20 : ((Int.toNat (y20_168) : Nat) : Int) = y20_168 := by omega
                        have k21 : ((Int.toNat (y20_0) : Nat) : Int) = y20_0 := by omega
                        have k22 : tokv (Int.toNat (y20_0), Int.toNat (y20_168), (2 : Int), t.2.2.2) = (2) := (show (if ((Int.toNat (y20_168) : Nat) : Int) - ((Int.toNat (y20_0) : Nat) : Int) ≤ 4 then (2 : Int) else 3) = (2) by split <;> omega)
                        have k23 : valv b (Int.toNat (y20_0), Int.toNat (y20_168), (2 : Int), t.2.2.2) = y23_168 := (show dgc b (Int.toNat (y20_0)) (Int.toNat (y20_168) - Int.toNat (y20_0)) = y23_168 by rw [g79]; congr 1; omega)
                        have k24 : txtv b (Int.toNat (y20_0), Int.toNat (y20_168), (2 : Int), t.2.2.2) = (-1) := rfl
                        show NS b lim x17 x18 (lim : Int) (((Int.toNat (y20_168) : Nat)) : Int) ((Int.toNat (y20_0) : Nat) : Int) (tokv (Int.toNat (y20_0), Int.toNat (y20_168), (2 : Int), t.2.2.2)) (valv b (Int.toNat (y20_0), Int.toNat (y20_168), (2 : Int), t.2.2.2)) (txtv b (Int.toNat (y20_0), Int.toNat (y20_168), (2 : Int), t.2.2.2)) x25 A h98
                        rw [k20, k21, k22, k23, k24]
                        exact N99
                    · have c89 : v86 ≠ (0) := c89
                      refine av_wp_seq 1 (pc' := 183) (lv' := [some (.inr (.inr (.inl (some (77))))), some (.inl v28)]) (st' := [.inr (.inr (.inl (some (77))))]) (h' := h71) rfl ?_
                      refine wq_gi (p' := 186) rfl rfl (congrArg Prod.fst (ly_k N72.1 77 rfl)) rfl (ns_23 N72) ?_
                      refine av_wp_seq 1 (pc' := 188) (lv' := [some (.inr (.inr (.inl (some (77))))), some (.inl v28)]) (st' := [.inl (1000000), .inl y23_168]) (h' := h71) rfl ?_
                      refine wq_k2 (p' := 191) rfl rfl ⟨by omega, by omega⟩ ⟨by omega, by omega⟩ (fun c104 => ?_) (fun c105 => ?_)
                      · have c104 : (1000000) ≤ y23_168 := c104
                        refine av_wp_seq 2 (pc' := 212) (lv' := [some (.inr (.inr (.inl (some (77))))), some (.inl v28)]) (st' := [.inr (.inr (.inl (some (77)))), .inr (.inr (.inl (some (77))))]) (h' := h71) rfl ?_
                        refine wq_gi (p' := 215) rfl rfl (congrArg Prod.fst (ly_k N72.1 77 rfl)) rfl (ns_20 N72) ?_
                        refine av_wp_seq 2 (pc' := 217) (lv' := [some (.inr (.inr (.inl (some (77))))), some (.inl v28)]) (st' := [.inl (y20_168 + (1)), .inr (.inr (.inl (some (77))))]) (h' := h71) rfl ?_
                        refine ns_p20 (p' := 220) rfl rfl N72 F73 (fun h106 N107 F108 => ?_)
                        refine av_wp_seq 1 (pc' := 168) (lv' := [some (.inr (.inr (.inl (some (77))))), some (.inl v28)]) (st' := []) (h' := h106) rfl ?_
                        exact I76 _ (by omega) ((y20_168 + (1))) (y23_168) h106 ((show edn b lim 2 (Int.toNat ((y20_168 + (1)))) = edn b lim 2 (Int.toNat (y20_168)) from ((edn_go (a := Int.toNat (y20_168)) (by omega) (so_2.mpr (by omega))).trans (congrArg _ (by omega))).symm).trans g78) (by rw [show (Int.toNat ((y20_168 + (1)) - y20_0)) = (Int.toNat (y20_168 - y20_0)) + 1 by omega]; show _ = (if dgc b (Int.toNat (y20_0)) (Int.toNat (y20_168 - y20_0)) < 1000000 then 10 * dgc b (Int.toNat (y20_0)) (Int.toNat (y20_168 - y20_0)) + b (Int.toNat (y20_0) + (Int.toNat (y20_168 - y20_0))) - 48 else dgc b (Int.toNat (y20_0)) (Int.toNat (y20_168 - y20_0))); rw [← g79, if_neg (by omega)]) (by omega) (by omega) (by omega) N107 F108 rfl
                      · have c105 : y23_168 < (1000000) := c105
                        refine av_wp_seq 3 (pc' := 195) (lv' := [some (.inr (.inr (.inl (some (77))))), some (.inl v28)]) (st' := [.inr (.inr (.inl (some (77)))), .inl (10), .inr (.inr (.inl (some (77))))]) (h' := h71) rfl ?_
                        refine wq_gi (p' := 198) rfl rfl (congrArg Prod.fst (ly_k N72.1 77 rfl)) rfl (ns_23 N72) ?_
                        refine av_wp_seq 2 (pc' := 200) (lv' := [some (.inr (.inr (.inl (some (77))))), some (.inl v28)]) (st' := [.inr (.inr (.inl (some (77)))), .inl ((10) * y23_168), .inr (.inr (.inl (some (77))))]) (h' := h71) rfl ?_
                        refine wq_cv (p' := 203) (av_qc (.invokevirtual 157) 129 0 0 8) 1 cd_129 [] (77) 8 [some (.inr (.inr (.inl (some (77)))))] rfl rfl rfl pp_129 rfl rfl rfl (congrArg Prod.fst (ly_k N72.1 77 rfl)) rfl rfl rfl rfl ?_
                        refine ct_129 N72 F73 (by omega) (by omega) (fun v109 p110 => ?_)
                        have g111 := ns_bv N72 (Int.toNat (y20_168))
                        show av_wp _ cd_130 203 [some (.inr (.inr (.inl (some (77))))), some (.inl v28)] [.inl v109, .inl ((10) * y23_168), .inr (.inr (.inl (some (77))))] h71 _
                        refine av_wp_seq 3 (pc' := 207) (lv' := [some (.inr (.inr (.inl (some (77))))), some (.inl v28)]) (st' := [.inl ((((10) * y23_168) + v109) - (48)), .inr (.inr (.inl (some (77))))]) (h' := h71) rfl ?_
                        refine ns_p23 (p' := 210) rfl rfl N72 F73 (fun h112 N113 F114 => ?_)
                        refine av_wp_seq 2 (pc' := 212) (lv' := [some (.inr (.inr (.inl (some (77))))), some (.inl v28)]) (st' := [.inr (.inr (.inl (some (77)))), .inr (.inr (.inl (some (77))))]) (h' := h112) rfl ?_
                        refine wq_gi (p' := 215) rfl rfl (congrArg Prod.fst (ly_k N113.1 77 rfl)) rfl (ns_20 N113) ?_
                        refine av_wp_seq 2 (pc' := 217) (lv' := [some (.inr (.inr (.inl (some (77))))), some (.inl v28)]) (st' := [.inl (y20_168 + (1)), .inr (.inr (.inl (some (77))))]) (h' := h112) rfl ?_
                        refine ns_p20 (p' := 220) rfl rfl N113 F114 (fun h115 N116 F117 => ?_)
                        refine av_wp_seq 1 (pc' := 168) (lv' := [some (.inr (.inr (.inl (some (77))))), some (.inl v28)]) (st' := []) (h' := h115) rfl ?_
                        exact I76 _ (by omega) ((y20_168 + (1))) (((((10) * y23_168) + v109) - (48))) h115 ((show edn b lim 2 (Int.toNat ((y20_168 + (1)))) = edn b lim 2 (Int.toNat (y20_168)) from ((edn_go (a := Int.toNat (y20_168)) (by omega) (so_2.mpr (by omega))).trans (congrArg _ (by omega))).symm).trans g78) (by rw [show (Int.toNat ((y20_168 + (1)) - y20_0)) = (Int.toNat (y20_168 - y20_0)) + 1 by omega]; show _ = (if dgc b (Int.toNat (y20_0)) (Int.toNat (y20_168 - y20_0)) < 1000000 then 10 * dgc b (Int.toNat (y20_0)) (Int.toNat (y20_168 - y20_0)) + b (Int.toNat (y20_0) + (Int.toNat (y20_168 - y20_0))) - 48 else dgc b (Int.toNat (y20_0)) (Int.toNat (y20_168 - y20_0))); rw [← g79, if_pos (by omega), show (Int.toNat (y20_0) + (Int.toNat (y20_168 - y20_0))) = (Int.toNat (y20_168)) by omega]; omega) (by omega) (by omega) (by omega) N116 F117 rfl
                exact L75 _ (y20_0) ((0)) h34 rfl (by rw [show (Int.toNat (y20_0 - y20_0)) = 0 by omega]; rfl) (by omega) (by omega) (by omega) N35 F36 rfl
            · have c42 : v39 ≠ (0) := c42
              refine av_wp_seq 2 (pc' := 81) (lv' := [some (.inr (.inr (.inl (some (77))))), some (.inl v28)]) (st' := [.inl (1), .inr (.inr (.inl (some (77))))]) (h' := h34) rfl ?_
              refine ns_p22 (p' := 84) rfl rfl N35 F36 (fun h118 N119 F120 => ?_)
              refine av_wp_seq 2 (pc' := 86) (lv' := [some (.inr (.inr (.inl (some (77))))), some (.inl v28)]) (st' := [.inr (.inl (0)), .inr (.inr (.inl (some (77))))]) (h' := h118) rfl ?_
              refine ns_p24 (p' := 89) rfl rfl N119 F120 (fun h121 N122 F123 => ?_)
              have L128 : ∀ (m127 : Nat) (y20_89 : Int) (y24_89 : Int) (h124 : av_H), edn b lim 1 (Int.toNat (y20_89)) = edn b lim 1 (Int.toNat (y20_0)) → y24_89 = txt b (Int.toNat (y20_0)) (Int.toNat (y20_89 - y20_0)) → y20_0 ≤ y20_89 ∧ y20_89 ≤ (lim : Int) → (0 ≤ y20_89 ∧ y20_89 ≤ 900) → NS b lim (x17) (x18) ((lim : Int)) (y20_89) (y20_0) ((1)) ((0)) (y24_89) (x25) A h124 → FD g h124 → (901 - y20_89).toNat = m127 → av_wp none cd_130 89 [some (.inr (.inr (.inl (some (77))))), some (.inl v28)] [] h124 Q := by
                intro m127
                induction m127 using Nat.strongRecOn with
                | _ m127 I129 =>
                  intro y20_89 y24_89 h124 g131 g132 g133 g134 N125 F126 e130
                  refine av_wp_seq 1 (pc' := 90) (lv' := [some (.inr (.inr (.inl (some (77))))), some (.inl v28)]) (st' := [.inr (.inr (.inl (some (77))))]) (h' := h124) rfl ?_
                  refine wq_cv (p' := 93) (av_qc (.invokevirtual 157) 129 0 0 8) 1 cd_129 [] (77) 8 [some (.inr (.inr (.inl (some (77)))))] rfl rfl rfl pp_129 rfl rfl rfl (congrArg Prod.fst (ly_k N125.1 77 rfl)) rfl rfl rfl rfl ?_
                  refine ct_129 N125 F126 (by omega) (by omega) (fun v135 p136 => ?_)
                  have g137 := ns_bv N125 (Int.toNat (y20_89))
                  show av_wp _ cd_130 93 [some (.inr (.inr (.inl (some (77))))), some (.inl v28)] [.inl v135] h124 _
                  refine av_wp_seq 2 (pc' := 97) (lv' := [some (.inr (.inr (.inl (some (77))))), some (.inl v28)]) (st' := [.inl (122), .inl (97), .inl v135]) (h' := h124) rfl ?_
                  refine wq_cs (p' := 100) (av_qc (.invokestatic 176) 127 3 2 8) 3 cd_127 [.inl v135, .inl (97), .inl (122)] [.inl (122), .inl (97), .inl v135] [some (.inl v135), some (.inl (97)), some (.inl (122))] rfl rfl rfl pp_127 (fun _ => rfl) rfl rfl ?_
                  refine ct_127 (g := h) (v135) (by omega) ((97)) (by omega) ((122)) (by omega) (fun v138 p139 => ?_)
                  show av_wp _ cd_130 100 [some (.inr (.inr (.inl (some (77))))), some (.inl v28)] [.inl v138] h124 _
                  refine wq_k1 (p' := 103) rfl rfl ⟨by omega, by omega⟩ (fun c140 => ?_) (fun c141 => ?_)
                  · have c140 : v138 = (0) := c140
                    refine av_wp_ret (v := none) rfl rfl rfl ?_
                    have z143 : so (b (Int.toNat (y20_0))) = 1 := so_1.mpr (by omega)
                    have z144 : edn b lim 1 (Int.toNat (y20_0) + 1) = Int.toNat (y20_89) := by rw [← edn_go (by omega) z143, ← g131]; exact edn_end (fun z => by have z1 := z.1; have z2 := so_1.mp z.2; omega)
                    have z142 : adv b lim t = (Int.toNat (y20_0), Int.toNat (y20_89), (1 : Int), t.2.2.2) := by simp only [adv, z24, if_pos (show Int.toNat (y20_0) < lim by omega), z143, or_true, true_or, if_true, z144]
                    refine hq h124 ?_ F126
                    rw [z142]
                    have k20 : ((Int.toNat (y20_89) : Nat) : Int) = y20_89 := by omega
                    have k21 : ((Int.toNat (y20_0) : Nat) : Int) = y20_0 := by omega
                    have k22 : tokv (Int.toNat (y20_0), Int.toNat (y20_89), (1 : Int), t.2.2.2) = (1) := rfl
                    have k23 : valv b (Int.toNat (y20_0), Int.toNat (y20_89), (1 : Int), t.2.2.2) = (0) := rfl
                    have k24 : txtv b (Int.toNat (y20_0), Int.toNat (y20_89), (1 : Int), t.2.2.2) = y24_89 := (show txt b (Int.toNat (y20_0)) (Int.toNat (y20_89) - Int.toNat (y20_0)) = y24_89 by rw [g132]; congr 1; omega)
                    show NS b lim x17 x18 (lim : Int) (((Int.toNat (y20_89) : Nat)) : Int) ((Int.toNat (y20_0) : Nat) : Int) (tokv (Int.toNat (y20_0), Int.toNat (y20_89), (1 : Int), t.2.2.2)) (valv b (Int.toNat (y20_0), Int.toNat (y20_89), (1 : Int), t.2.2.2)) (txtv b (Int.toNat (y20_0), Int.toNat (y20_89), (1 : Int), t.2.2.2)) x25 A h124
                    rw [k20, k21, k22, k23, k24]
                    exact N125
                  · have c141 : v138 ≠ (0) := c141
                    refine av_wp_seq 2 (pc' := 105) (lv' := [some (.inr (.inr (.inl (some (77))))), some (.inl v28)]) (st' := [.inr (.inr (.inl (some (77)))), .inr (.inr (.inl (some (77))))]) (h' := h124) rfl ?_
                    refine wq_gi (p' := 108) rfl rfl (congrArg Prod.fst (ly_k N125.1 77 rfl)) rfl (ns_20 N125) ?_
                    refine av_wp_seq 1 (pc' := 109) (lv' := [some (.inr (.inr (.inl (some (77))))), some (.inl v28)]) (st' := [.inr (.inr (.inl (some (77)))), .inl y20_89, .inr (.inr (.inl (some (77))))]) (h' := h124) rfl ?_
                    refine wq_gi (p' := 112) rfl rfl (congrArg Prod.fst (ly_k N125.1 77 rfl)) rfl (ns_21 N125) ?_
                    refine av_wp_seq 2 (pc' := 115) (lv' := [some (.inr (.inr (.inl (some (77))))), some (.inl v28)]) (st' := [.inl (8), .inl (y20_89 - y20_0), .inr (.inr (.inl (some (77))))]) (h' := h124) rfl ?_
                    refine wq_k2 (p' := 118) rfl rfl ⟨by omega, by omega⟩ ⟨by omega, by omega⟩ (fun c145 => ?_) (fun c146 => ?_)
                    · have c145 : (8) ≤ (y20_89 - y20_0) := c145
                      refine av_wp_seq 1 (pc' := 141) (lv' := [some (.inr (.inr (.inl (some (77))))), some (.inl v28)]) (st' := [.inr (.inl (-1)), .inr (.inr (.inl (some (77))))]) (h' := h124) rfl ?_
                      refine ns_p24 (p' := 144) rfl rfl N125 F126 (fun h147 N148 F149 => ?_)
                      refine av_wp_seq 2 (pc' := 146) (lv' := [some (.inr (.inr (.inl (some (77))))), some (.inl v28)]) (st' := [.inr (.inr (.inl (some (77)))), .inr (.inr (.inl (some (77))))]) (h' := h147) rfl ?_
                      refine wq_gi (p' := 149) rfl rfl (congrArg Prod.fst (ly_k N148.1 77 rfl)) rfl (ns_20 N148) ?_
                      refine av_wp_seq 2 (pc' := 151) (lv' := [some (.inr (.inr (.inl (some (77))))), some (.inl v28)]) (st' := [.inl (y20_89 + (1)), .inr (.inr (.inl (some (77))))]) (h' := h147) rfl ?_
                      refine ns_p20 (p' := 154) rfl rfl N148 F149 (fun h150 N151 F152 => ?_)
                      refine av_wp_seq 1 (pc' := 89) (lv' := [some (.inr (.inr (.inl (some (77))))), some (.inl v28)]) (st' := []) (h' := h150) rfl ?_
                      exact I129 _ (by omega) ((y20_89 + (1))) ((-1)) h150 ((show edn b lim 1 (Int.toNat ((y20_89 + (1)))) = edn b lim 1 (Int.toNat (y20_89)) from ((edn_go (a := Int.toNat (y20_89)) (by omega) (so_1.mpr (by omega))).trans (congrArg _ (by omega))).symm).trans g131) (by rw [show (Int.toNat ((y20_89 + (1)) - y20_0)) = (Int.toNat (y20_89 - y20_0)) + 1 by omega]; show _ = (if (Int.toNat (y20_89 - y20_0)) < 8 then txt b (Int.toNat (y20_0)) (Int.toNat (y20_89 - y20_0)) * 27 + (b (Int.toNat (y20_0) + (Int.toNat (y20_89 - y20_0))) - 96) else -1); rw [if_neg (by omega)]) (by omega) (by omega) N151 F152 rfl
                    · have c146 : (y20_89 - y20_0) < (8) := c146
                      refine av_wp_seq 1 (pc' := 119) (lv' := [some (.inr (.inr (.inl (some (77))))), some (.inl v28)]) (st' := [.inr (.inr (.inl (some (77)))), .inr (.inr (.inl (some (77))))]) (h' := h124) rfl ?_
                      refine wq_gl (p' := 122) rfl rfl (congrArg Prod.fst (ly_k N125.1 77 rfl)) rfl (ns_24 N125) ?_
                      refine av_wp_seq 3 (pc' := 127) (lv' := [some (.inr (.inr (.inl (some (77))))), some (.inl v28)]) (st' := [.inr (.inr (.inl (some (77)))), .inr (.inl (y24_89 * (27))), .inr (.inr (.inl (some (77))))]) (h' := h124) rfl ?_
                      refine wq_cv (p' := 130) (av_qc (.invokevirtual 157) 129 0 0 8) 1 cd_129 [] (77) 8 [some (.inr (.inr (.inl (some (77)))))] rfl rfl rfl pp_129 rfl rfl rfl (congrArg Prod.fst (ly_k N125.1 77 rfl)) rfl rfl rfl rfl ?_
                      refine ct_129 N125 F126 (by omega) (by omega) (fun v153 p154 => ?_)
                      have g155 := ns_bv N125 (Int.toNat (y20_89))
                      show av_wp _ cd_130 130 [some (.inr (.inr (.inl (some (77))))), some (.inl v28)] [.inl v153, .inr (.inl (y24_89 * (27))), .inr (.inr (.inl (some (77))))] h124 _
                      refine av_wp_seq 5 (pc' := 141) (lv' := [some (.inr (.inr (.inl (some (77))))), some (.inl v28)]) (st' := [.inr (.inl ((y24_89 * (27)) + (av_w (v153 - (96))))), .inr (.inr (.inl (some (77))))]) (h' := h124) rfl ?_
                      refine ns_p24 (p' := 144) rfl rfl N125 F126 (fun h156 N157 F158 => ?_)
                      refine av_wp_seq 2 (pc' := 146) (lv' := [some (.inr (.inr (.inl (some (77))))), some (.inl v28)]) (st' := [.inr (.inr (.inl (some (77)))), .inr (.inr (.inl (some (77))))]) (h' := h156) rfl ?_
                      refine wq_gi (p' := 149) rfl rfl (congrArg Prod.fst (ly_k N157.1 77 rfl)) rfl (ns_20 N157) ?_
                      refine av_wp_seq 2 (pc' := 151) (lv' := [some (.inr (.inr (.inl (some (77))))), some (.inl v28)]) (st' := [.inl (y20_89 + (1)), .inr (.inr (.inl (some (77))))]) (h' := h156) rfl ?_
                      refine ns_p20 (p' := 154) rfl rfl N157 F158 (fun h159 N160 F161 => ?_)
                      refine av_wp_seq 1 (pc' := 89) (lv' := [some (.inr (.inr (.inl (some (77))))), some (.inl v28)]) (st' := []) (h' := h159) rfl ?_
                      exact I129 _ (by omega) ((y20_89 + (1))) (((y24_89 * (27)) + (av_w (v153 - (96))))) h159 ((show edn b lim 1 (Int.toNat ((y20_89 + (1)))) = edn b lim 1 (Int.toNat (y20_89)) from ((edn_go (a := Int.toNat (y20_89)) (by omega) (so_1.mpr (by omega))).trans (congrArg _ (by omega))).symm).trans g131) (by rw [show (Int.toNat ((y20_89 + (1)) - y20_0)) = (Int.toNat (y20_89 - y20_0)) + 1 by omega]; show _ = (if (Int.toNat (y20_89 - y20_0)) < 8 then txt b (Int.toNat (y20_0)) (Int.toNat (y20_89 - y20_0)) * 27 + (b (Int.toNat (y20_0) + (Int.toNat (y20_89 - y20_0))) - 96) else -1); rw [if_pos (by omega), ← g132, show (Int.toNat (y20_0) + (Int.toNat (y20_89 - y20_0))) = (Int.toNat (y20_89)) by omega, av_rgw ⟨by omega, by omega⟩]; omega) (by omega) (by omega) N160 F161 rfl
              exact L128 _ (y20_0) ((0)) h121 rfl (by rw [show (Int.toNat (y20_0 - y20_0)) = 0 by omega]; rfl) (by omega) (by omega) N122 F123 rfl
          · have c38 : v28 < (0) := c38
            refine av_wp_seq 2 (pc' := 62) (lv' := [some (.inr (.inr (.inl (some (77))))), some (.inl v28)]) (st' := [.inl (0), .inr (.inr (.inl (some (77))))]) (h' := h34) rfl ?_
            refine ns_p22 (p' := 65) rfl rfl N35 F36 (fun h162 N163 F164 => ?_)
            refine av_wp_seq 1 (pc' := 274) (lv' := [some (.inr (.inr (.inl (some (77))))), some (.inl v28)]) (st' := []) (h' := h162) rfl ?_
            refine av_wp_ret (v := none) rfl rfl rfl ?_
            have z165 : adv b lim t = (Int.toNat (y20_0), Int.toNat (y20_0), (0 : Int), t.2.2.2) := by simp only [adv, z24, if_neg (show ¬ Int.toNat (y20_0) < lim by omega)]
            refine hq h162 ?_ F164
            rw [z165]
            have k20 : ((Int.toNat (y20_0) : Nat) : Int) = y20_0 := by omega
            have k21 : ((Int.toNat (y20_0) : Nat) : Int) = y20_0 := by omega
            have k22 : tokv (Int.toNat (y20_0), Int.toNat (y20_0), (0 : Int), t.2.2.2) = (0) := rfl
            have k23 : valv b (Int.toNat (y20_0), Int.toNat (y20_0), (0 : Int), t.2.2.2) = (0) := rfl
            have k24 : txtv b (Int.toNat (y20_0), Int.toNat (y20_0), (0 : Int), t.2.2.2) = (-1) := rfl
            show NS b lim x17 x18 (lim : Int) (((Int.toNat (y20_0) : Nat)) : Int) ((Int.toNat (y20_0) : Nat) : Int) (tokv (Int.toNat (y20_0), Int.toNat (y20_0), (0 : Int), t.2.2.2)) (valv b (Int.toNat (y20_0), Int.toNat (y20_0), (0 : Int), t.2.2.2)) (txtv b (Int.toNat (y20_0), Int.toNat (y20_0), (0 : Int), t.2.2.2)) x25 A h162
            rw [k20, k22, k23, k24]
            exact N163
        · have c23 : v19 = (10) := c23
          refine av_wp_seq 2 (pc' := 20) (lv' := [some (.inr (.inr (.inl (some (77))))), none]) (st' := [.inr (.inr (.inl (some (77)))), .inr (.inr (.inl (some (77))))]) (h' := h1) rfl ?_
          refine wq_gi (p' := 23) rfl rfl (congrArg Prod.fst (ly_k N2.1 77 rfl)) rfl (ns_20 N2) ?_
          refine av_wp_seq 2 (pc' := 25) (lv' := [some (.inr (.inr (.inl (some (77))))), none]) (st' := [.inl (y20_0 + (1)), .inr (.inr (.inl (some (77))))]) (h' := h1) rfl ?_
          refine ns_p20 (p' := 28) rfl rfl N2 F3 (fun h166 N167 F168 => ?_)
          refine av_wp_seq 1 (pc' := 0) (lv' := [some (.inr (.inr (.inl (some (77))))), none]) (st' := []) (h' := h166) rfl ?_
          exact I6 _ (by omega) ((y20_0 + (1))) h166 ((show edn b lim 4 (Int.toNat ((y20_0 + (1)))) = edn b lim 4 (Int.toNat (y20_0)) from ((edn_go (a := Int.toNat (y20_0)) (by omega) (so_4.mpr (by omega))).trans (congrArg _ (by omega))).symm).trans g8) (by omega) (by omega) N167 F168 rfl
  exact L5 _ ((t.2.1 : Int)) h rfl (by omega) (by omega) N F rfl

