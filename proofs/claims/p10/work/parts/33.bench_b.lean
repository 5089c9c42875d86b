set_option maxRecDepth 100000 in
set_option maxHeartbeats 4000000 in
theorem ct_7 {g h : av_H} {b t c s r : Nat} {cb : Int} (i : IB b t c s r cb h) (F : Fr1 g h) {Q : Option av_V → av_H → Prop} (hq : ∀ h', IB b t c s r cb h' → Fr1 g h' → Q none h') : av_wp none cd_7 0 [some (.inr (.inr (.inl (some (b))))), none, none, none] [] h Q := by
  have s12 := co_s12 (ib_co i)
  have cbr := co_cbr (ib_co i)
  refine av_wp_sqF ck_7 2 (pc' := 2) (lv' := [some (.inr (.inr (.inl (some (b))))), some (.inl (0)), none, none]) (st' := []) (h' := h) rfl ?_
  have L8 : ∀ (m7 : Nat) (k1 : Int) (a2 : Option av_V) (a3 : Option av_V) (h4 : av_H), av_lg a2 = false → av_lg a3 = false → k1 ≤ (s : Int) → (0 ≤ k1 ∧ k1 ≤ 12) → IB b t c s r cb h4 → Fr1 g h4 → ((s : Int) - k1).toNat = m7 → av_wp none cd_7 2 [some (.inr (.inr (.inl (some (b))))), some (.inl k1), a2, a3] [] h4 Q := by
    intro m7
    induction m7 using Nat.strongRecOn with
    | _ m7 I9 =>
      intro k1 a2 a3 h4 g11 g12 g13 g14 i5 F6 e10
      have la2 := g11
      have la3 := g12
      refine av_wp_sqF ck_7 2 (pc' := 4) (lv' := [some (.inr (.inr (.inl (some (b))))), some (.inl k1), a2, a3]) (st' := [.inr (.inr (.inl (some (b)))), .inl k1]) (h' := h4) rfl ?_
      refine wq_gr (p' := 7) (ck_7 _ _ rfl) rfl (congrArg Prod.fst (ib_k0 i5)) rfl (ib_t i5) ?_
      refine wq_gi (p' := 10) (ck_7 _ _ rfl) rfl (congrArg Prod.fst (co_kt (ib_co i5))) rfl (co_s (ib_co i5)) ?_
      refine wq_k2 (p' := 13) (ck_7 _ _ rfl) rfl ⟨by omega, by omega⟩ ⟨by omega, by omega⟩ (fun c15 => ?_) (fun c16 => ?_)
      · have c15 : (s : Int) ≤ k1 := c15
        refine av_wp_ret (v := none) (ck_7 _ _ rfl) rfl rfl ?_
        exact hq h4 i5 F6
      · have c16 : k1 < (s : Int) := c16
        refine av_wp_sqF ck_7 1 (pc' := 14) (lv' := [some (.inr (.inr (.inl (some (b))))), some (.inl k1), a2, a3]) (st' := [.inr (.inr (.inl (some (b))))]) (h' := h4) rfl ?_
        refine wq_gr (p' := 17) (ck_7 _ _ rfl) rfl (congrArg Prod.fst (ib_k0 i5)) rfl (ib_g i5 9 rfl) ?_
        refine av_wp_sqF ck_7 2 (pc' := 21) (lv' := [some (.inr (.inr (.inl (some (b))))), some (.inl k1), a2, a3]) (st' := [.inl (9999), .inl k1, .inr (.inr (.inl (some (b + 1 + 9))))]) (h' := h4) rfl ?_
        refine ib_as (p' := 22) (n := 12) rfl rfl i5 F6 9 rfl rfl (by omega) (fun h17 i18 F19 => ?_)
        refine av_wp_sqF ck_7 1 (pc' := 23) (lv' := [some (.inr (.inr (.inl (some (b))))), some (.inl k1), a2, a3]) (st' := [.inr (.inr (.inl (some (b))))]) (h' := h17) rfl ?_
        refine wq_gr (p' := 26) (ck_7 _ _ rfl) rfl (congrArg Prod.fst (ib_k0 i18)) rfl (ib_g i18 10 rfl) ?_
        refine av_wp_sqF ck_7 2 (pc' := 30) (lv' := [some (.inr (.inr (.inl (some (b))))), some (.inl k1), a2, a3]) (st' := [.inl (9999), .inl k1, .inr (.inr (.inl (some (b + 1 + 10))))]) (h' := h17) rfl ?_
        refine ib_as (p' := 31) (n := 12) rfl rfl i18 F19 10 rfl rfl (by omega) (fun h20 i21 F22 => ?_)
        refine av_wp_sqF ck_7 1 (pc' := 32) (lv' := [some (.inr (.inr (.inl (some (b))))), some (.inl k1), a2, a3]) (st' := [.inr (.inr (.inl (some (b))))]) (h' := h20) rfl ?_
        refine wq_gr (p' := 35) (ck_7 _ _ rfl) rfl (congrArg Prod.fst (ib_k0 i21)) rfl (ib_g i21 6 rfl) ?_
        refine av_wp_sqF ck_7 2 (pc' := 39) (lv' := [some (.inr (.inr (.inl (some (b))))), some (.inl k1), a2, a3]) (st' := [.inl (9999), .inl k1, .inr (.inr (.inl (some (b + 1 + 6))))]) (h' := h20) rfl ?_
        refine ib_as (p' := 40) (n := 12) rfl rfl i21 F22 6 rfl rfl (by omega) (fun h23 i24 F25 => ?_)
        refine av_wp_sqF ck_7 1 (pc' := 41) (lv' := [some (.inr (.inr (.inl (some (b))))), some (.inl k1), a2, a3]) (st' := [.inr (.inr (.inl (some (b))))]) (h' := h23) rfl ?_
        refine wq_gr (p' := 44) (ck_7 _ _ rfl) rfl (congrArg Prod.fst (ib_k0 i24)) rfl (ib_g i24 7 rfl) ?_
        refine av_wp_sqF ck_7 2 (pc' := 46) (lv' := [some (.inr (.inr (.inl (some (b))))), some (.inl k1), a2, a3]) (st' := [.inl (0), .inl k1, .inr (.inr (.inl (some (b + 1 + 7))))]) (h' := h23) rfl ?_
        refine ib_as (p' := 47) (n := 12) rfl rfl i24 F25 7 rfl rfl (by omega) (fun h26 i27 F28 => ?_)
        refine av_wp_sqF ck_7 1 (pc' := 48) (lv' := [some (.inr (.inr (.inl (some (b))))), some (.inl k1), a2, a3]) (st' := [.inr (.inr (.inl (some (b))))]) (h' := h26) rfl ?_
        refine wq_gr (p' := 51) (ck_7 _ _ rfl) rfl (congrArg Prod.fst (ib_k0 i27)) rfl (ib_g i27 8 rfl) ?_
        refine av_wp_sqF ck_7 2 (pc' := 53) (lv' := [some (.inr (.inr (.inl (some (b))))), some (.inl k1), a2, a3]) (st' := [.inl (-1), .inl k1, .inr (.inr (.inl (some (b + 1 + 8))))]) (h' := h26) rfl ?_
        refine ib_as (p' := 54) (n := 12) rfl rfl i27 F28 8 rfl rfl (by omega) (fun h29 i30 F31 => ?_)
        refine av_wp_sqF ck_7 1 (pc' := 55) (lv' := [some (.inr (.inr (.inl (some (b))))), some (.inl k1), a2, a3]) (st' := [.inr (.inr (.inl (some (b))))]) (h' := h29) rfl ?_
        refine wq_gr (p' := 58) (ck_7 _ _ rfl) rfl (congrArg Prod.fst (ib_k0 i30)) rfl (ib_g i30 5 rfl) ?_
        refine av_wp_sqF ck_7 2 (pc' := 60) (lv' := [some (.inr (.inr (.inl (some (b))))), some (.inl k1), a2, a3]) (st' := [.inr (.inr (.inl (some (b)))), .inl k1, .inr (.inr (.inl (some (b + 1 + 5))))]) (h' := h29) rfl ?_
        refine wq_gr (p' := 63) (ck_7 _ _ rfl) rfl (congrArg Prod.fst (ib_k0 i30)) rfl (ib_g i30 2 rfl) ?_
        refine av_wp_sqF ck_7 1 (pc' := 64) (lv' := [some (.inr (.inr (.inl (some (b))))), some (.inl k1), a2, a3]) (st' := [.inl k1, .inr (.inr (.inl (some (b + 1 + 2)))), .inl k1, .inr (.inr (.inl (some (b + 1 + 5))))]) (h' := h29) rfl ?_
        obtain ⟨v32, e33⟩ : ∃ v, hA h29 (b + 1 + 2) (Int.toNat (k1)) = v := ⟨_, rfl⟩
        refine wq_bl (p' := 65) (n := 12) (ck_7 _ _ rfl) rfl ((Or.inr (ib_k i30 2 rfl))) (by omega) (e33) ?_
        have J36 : ∀ (j35 : Int),  av_wp none cd_7 92 [some (.inr (.inr (.inl (some (b))))), some (.inl k1), a2, a3] [.inl j35, .inl k1, .inr (.inr (.inl (some (b + 1 + 5))))] h29 Q := by
          intro j35
          refine ib_as (p' := 93) (n := 12) rfl rfl i30 F31 5 rfl rfl (by omega) (fun h37 i38 F39 => ?_)
          refine av_wp_sqF ck_7 1 (pc' := 94) (lv' := [some (.inr (.inr (.inl (some (b))))), some (.inl k1), a2, a3]) (st' := [.inr (.inr (.inl (some (b))))]) (h' := h37) rfl ?_
          refine wq_gr (p' := 97) (ck_7 _ _ rfl) rfl (congrArg Prod.fst (ib_k0 i38)) rfl (ib_t i38) ?_
          refine wq_gr (p' := 100) (ck_7 _ _ rfl) rfl (congrArg Prod.fst (co_kt (ib_co i38))) rfl (co_c (ib_co i38)) ?_
          refine av_wp_sqF ck_7 5 (pc' := 106) (lv' := [some (.inr (.inr (.inl (some (b))))), some (.inl k1), a2, a3]) (st' := [.inl ((k1 * (21)) + (5)), .inr (.inr (.inl (some (c))))]) (h' := h37) rfl ?_
          obtain ⟨v40, e41⟩ : ∃ v, hA h37 (c) (Int.toNat (((k1 * (21)) + (5)))) = v := ⟨_, rfl⟩
          have g42 := co_v (ib_co i38) (Int.toNat (((k1 * (21)) + (5))))
          rw [e41] at g42
          refine wq_al (p' := 107) (n := 21 * s) (ck_7 _ _ rfl) rfl (co_kc (ib_co i38)) (by omega) (e41) ?_
          refine av_wp_sqF ck_7 4 (pc' := 111) (lv' := [some (.inr (.inr (.inl (some (b))))), some (.inl k1), some (.inl v40), a3]) (st' := [.inl (1), .inl k1, .inr (.inr (.inl (some (b))))]) (h' := h37) rfl ?_
          refine wq_cv (p' := 114) (av_qc (.invokevirtual 115) 6 2 0 0) 3 cd_6 [.inl (1), .inl k1] (b) 0 [some (.inr (.inr (.inl (some (b))))), some (.inl k1), some (.inl (1))] (ck_7 _ _ rfl) rfl rfl pp_6 rfl rfl rfl (congrArg Prod.fst (ib_k0 i38)) rfl rfl rfl rfl ?_
          refine ct_6 i38 F39 (k1) ((1)) (by omega) (by omega) (fun v43 => ?_)
          show av_wp _ cd_7 114 [some (.inr (.inr (.inl (some (b))))), some (.inl k1), some (.inl v40), a3] [.inl v43] h37 _
          refine av_wp_sqF ck_7 3 (pc' := 117) (lv' := [some (.inr (.inr (.inl (some (b))))), some (.inl k1), some (.inl v40), some (.inl v43)]) (st' := [.inl (-1), .inl v40]) (h' := h37) rfl ?_
          have J48 : ∀  (h45 : av_H), IB b t c s r cb h45 → Fr1 g h45 →  av_wp none cd_7 167 [some (.inr (.inr (.inl (some (b))))), some (.inl k1), some (.inl v40), some (.inl v43)] [] h45 Q := by
            intro h45 i46 F47
            refine av_wp_sqF ck_7 2 (pc' := 2) (lv' := [some (.inr (.inr (.inl (some (b))))), some (.inl (k1 + (1))), some (.inl v40), some (.inl v43)]) (st' := []) (h' := h45) rfl ?_
            exact I9 _ (by omega) ((k1 + (1))) (some (.inl v40)) (some (.inl v43)) h45 rfl rfl (by omega) (by omega) i46 F47 rfl
          refine wq_k2 (p' := 120) (ck_7 _ _ rfl) rfl ⟨by omega, by omega⟩ ⟨by omega, by omega⟩ (fun c49 => ?_) (fun c50 => ?_)
          · have c49 : v40 = (-1) := c49
            refine av_wp_sqF ck_7 1 (pc' := 134) (lv' := [some (.inr (.inr (.inl (some (b))))), some (.inl k1), some (.inl v40), some (.inl v43)]) (st' := [.inr (.inr (.inl (some (b))))]) (h' := h37) rfl ?_
            refine wq_gr (p' := 137) (ck_7 _ _ rfl) rfl (congrArg Prod.fst (ib_k0 i38)) rfl (ib_r i38) ?_
            refine av_wp_sqF ck_7 1 (pc' := 139) (lv' := [some (.inr (.inr (.inl (some (b))))), some (.inl k1), some (.inl v40), some (.inl v43)]) (st' := [.inl (7), .inr (.inr (.inl (some (r))))]) (h' := h37) rfl ?_
            obtain ⟨v51, e52⟩ : ∃ v, hA h37 (r) (Int.toNat ((7))) = v := ⟨_, rfl⟩
            have g53 := ib_rv i38 (Int.toNat ((7)))
            rw [e52] at g53
            refine wq_al (p' := 140) (n := 14) (ck_7 _ _ rfl) rfl (ib_kr i38) (by omega) (e52) ?_
            refine av_wp_sqF ck_7 1 (pc' := 141) (lv' := [some (.inr (.inr (.inl (some (b))))), some (.inl k1), some (.inl v40), some (.inl v43)]) (st' := [.inl (-1), .inl v51]) (h' := h37) rfl ?_
            refine wq_k2 (p' := 144) (ck_7 _ _ rfl) rfl ⟨by omega, by omega⟩ ⟨by omega, by omega⟩ (fun c54 => ?_) (fun c55 => ?_)
            · have c54 : v51 = (-1) := c54
              exact J48 h37 i38 F39
            · have c55 : v51 ≠ (-1) := c55
              refine av_wp_sqF ck_7 2 (pc' := 146) (lv' := [some (.inr (.inr (.inl (some (b))))), some (.inl k1), some (.inl v40), some (.inl v43)]) (st' := [.inl (-1), .inl v43]) (h' := h37) rfl ?_
              refine wq_c2 (p' := 149) (ck_7 _ _ rfl) rfl ?_ ?_
              · exact J48 h37 i38 F39
              · refine av_wp_sqF ck_7 4 (pc' := 153) (lv' := [some (.inr (.inr (.inl (some (b))))), some (.inl k1), some (.inl v40), some (.inl v43)]) (st' := [.inr (.inr (.inl (some (b)))), .inl v43, .inl k1, .inr (.inr (.inl (some (b))))]) (h' := h37) rfl ?_
                refine wq_gr (p' := 156) (ck_7 _ _ rfl) rfl (congrArg Prod.fst (ib_k0 i38)) rfl (ib_r i38) ?_
                refine av_wp_sqF ck_7 1 (pc' := 158) (lv' := [some (.inr (.inr (.inl (some (b))))), some (.inl k1), some (.inl v40), some (.inl v43)]) (st' := [.inl (7), .inr (.inr (.inl (some (r)))), .inl v43, .inl k1, .inr (.inr (.inl (some (b))))]) (h' := h37) rfl ?_
                obtain ⟨v56, e57⟩ : ∃ v, hA h37 (r) (Int.toNat ((7))) = v := ⟨_, rfl⟩
                have g58 := ib_rv i38 (Int.toNat ((7)))
                rw [e57] at g58
                refine wq_al (p' := 159) (n := 14) (ck_7 _ _ rfl) rfl (ib_kr i38) (by omega) (e57) ?_
                refine av_wp_sqF ck_7 5 (pc' := 164) (lv' := [some (.inr (.inr (.inl (some (b))))), some (.inl k1), some (.inl v40), some (.inl v43)]) (st' := [.inl (-1), .inl (4), .inl ((v43 + v56) + (1)), .inl k1, .inr (.inr (.inl (some (b))))]) (h' := h37) rfl ?_
                refine wq_cv (p' := 167) (av_qc (.invokevirtual 118) 8 4 0 0) 5 cd_8 [.inl (-1), .inl (4), .inl ((v43 + v56) + (1)), .inl k1] (b) 0 [some (.inr (.inr (.inl (some (b))))), some (.inl k1), some (.inl ((v43 + v56) + (1))), some (.inl (4)), some (.inl (-1))] (ck_7 _ _ rfl) rfl rfl pp_8 rfl rfl rfl (congrArg Prod.fst (ib_k0 i38)) rfl rfl rfl rfl ?_
                refine ct_8 i38 F39 (k1) (((v43 + v56) + (1))) ((4)) ((-1)) (by omega) (fun h59 i60 F61 => ?_)
                show av_wp _ cd_7 167 [some (.inr (.inr (.inl (some (b))))), some (.inl k1), some (.inl v40), some (.inl v43)] [] h59 _
                exact J48 h59 i60 F61
          · have c50 : v40 ≠ (-1) := c50
            refine av_wp_sqF ck_7 7 (pc' := 127) (lv' := [some (.inr (.inr (.inl (some (b))))), some (.inl k1), some (.inl v40), some (.inl v43)]) (st' := [.inl (-1), .inl (3), .inl (v40 + (1)), .inl k1, .inr (.inr (.inl (some (b))))]) (h' := h37) rfl ?_
            refine wq_cv (p' := 130) (av_qc (.invokevirtual 118) 8 4 0 0) 5 cd_8 [.inl (-1), .inl (3), .inl (v40 + (1)), .inl k1] (b) 0 [some (.inr (.inr (.inl (some (b))))), some (.inl k1), some (.inl (v40 + (1))), some (.inl (3)), some (.inl (-1))] (ck_7 _ _ rfl) rfl rfl pp_8 rfl rfl rfl (congrArg Prod.fst (ib_k0 i38)) rfl rfl rfl rfl ?_
            refine ct_8 i38 F39 (k1) ((v40 + (1))) ((3)) ((-1)) (by omega) (fun h62 i63 F64 => ?_)
            show av_wp _ cd_7 130 [some (.inr (.inr (.inl (some (b))))), some (.inl k1), some (.inl v40), some (.inl v43)] [] h62 _
            refine av_wp_sqF ck_7 1 (pc' := 167) (lv' := [some (.inr (.inr (.inl (some (b))))), some (.inl k1), some (.inl v40), some (.inl v43)]) (st' := []) (h' := h62) rfl ?_
            exact J48 h62 i63 F64
        refine wq_c1 (p' := 68) (ck_7 _ _ rfl) rfl ?_ ?_
        · refine av_wp_sqF ck_7 1 (pc' := 92) (lv' := [some (.inr (.inr (.inl (some (b))))), some (.inl k1), a2, a3]) (st' := [.inl (-1), .inl k1, .inr (.inr (.inl (some (b + 1 + 5))))]) (h' := h29) rfl ?_
          exact J36 ((-1))
        · refine av_wp_sqF ck_7 1 (pc' := 69) (lv' := [some (.inr (.inr (.inl (some (b))))), some (.inl k1), a2, a3]) (st' := [.inr (.inr (.inl (some (b)))), .inl k1, .inr (.inr (.inl (some (b + 1 + 5))))]) (h' := h29) rfl ?_
          refine wq_gr (p' := 72) (ck_7 _ _ rfl) rfl (congrArg Prod.fst (ib_k0 i30)) rfl (ib_g i30 4 rfl) ?_
          refine av_wp_sqF ck_7 1 (pc' := 73) (lv' := [some (.inr (.inr (.inl (some (b))))), some (.inl k1), a2, a3]) (st' := [.inl k1, .inr (.inr (.inl (some (b + 1 + 4)))), .inl k1, .inr (.inr (.inl (some (b + 1 + 5))))]) (h' := h29) rfl ?_
          obtain ⟨v65, e66⟩ : ∃ v, hA h29 (b + 1 + 4) (Int.toNat (k1)) = v := ⟨_, rfl⟩
          refine wq_bl (p' := 74) (n := 12) (ck_7 _ _ rfl) rfl ((Or.inr (ib_k i30 4 rfl))) (by omega) (e66) ?_
          refine wq_c1 (p' := 77) (ck_7 _ _ rfl) rfl ?_ ?_
          · refine av_wp_sqF ck_7 1 (pc' := 92) (lv' := [some (.inr (.inr (.inl (some (b))))), some (.inl k1), a2, a3]) (st' := [.inl (-1), .inl k1, .inr (.inr (.inl (some (b + 1 + 5))))]) (h' := h29) rfl ?_
            exact J36 ((-1))
          · refine av_wp_sqF ck_7 3 (pc' := 80) (lv' := [some (.inr (.inr (.inl (some (b))))), some (.inl k1), a2, a3]) (st' := [.inr (.inr (.inl (some (b)))), .inl k1, .inr (.inr (.inl (some (b)))), .inl k1, .inr (.inr (.inl (some (b + 1 + 5))))]) (h' := h29) rfl ?_
            refine wq_gr (p' := 83) (ck_7 _ _ rfl) rfl (congrArg Prod.fst (ib_k0 i30)) rfl (ib_r i30) ?_
            refine av_wp_sqF ck_7 1 (pc' := 84) (lv' := [some (.inr (.inr (.inl (some (b))))), some (.inl k1), a2, a3]) (st' := [.inl (3), .inr (.inr (.inl (some (r)))), .inl k1, .inr (.inr (.inl (some (b)))), .inl k1, .inr (.inr (.inl (some (b + 1 + 5))))]) (h' := h29) rfl ?_
            obtain ⟨v68, e69⟩ : ∃ v, hA h29 (r) (Int.toNat ((3))) = v := ⟨_, rfl⟩
            have g70 := ib_rv i30 (Int.toNat ((3)))
            rw [e69] at g70
            refine wq_al (p' := 85) (n := 14) (ck_7 _ _ rfl) rfl (ib_kr i30) (by omega) (e69) ?_
            refine wq_cv (p' := 88) (av_qc (.invokevirtual 115) 6 2 0 0) 3 cd_6 [.inl v68, .inl k1] (b) 0 [some (.inr (.inr (.inl (some (b))))), some (.inl k1), some (.inl v68)] (ck_7 _ _ rfl) rfl rfl pp_6 rfl rfl rfl (congrArg Prod.fst (ib_k0 i30)) rfl rfl rfl rfl ?_
            refine ct_6 i30 F31 (k1) (v68) (by omega) (by omega) (fun v71 => ?_)
            show av_wp _ cd_7 88 [some (.inr (.inr (.inl (some (b))))), some (.inl k1), a2, a3] [.inl v71, .inl k1, .inr (.inr (.inl (some (b + 1 + 5))))] h29 _
            refine av_wp_sqF ck_7 1 (pc' := 92) (lv' := [some (.inr (.inr (.inl (some (b))))), some (.inl k1), a2, a3]) (st' := [.inl v71, .inl k1, .inr (.inr (.inl (some (b + 1 + 5))))]) (h' := h29) rfl ?_
            exact J36 (v71)
  exact L8 _ ((0)) (none) (none) h rfl rfl (by omega) (by omega) i F rfl

set_option maxRecDepth 100000 in
set_option maxHeartbeats 4000000 in
theorem ct_9 {g h : av_H} {b t c s r : Nat} {cb : Int} (i : IB b t c s r cb h) (F : Fr1 g h) {Q : Option av_V → av_H → Prop} (hq : ∀ h', IB b t c s r cb h' → Fr1 g h' → Q none h') : av_wp none cd_9 0 [some (.inr (.inr (.inl (some (b))))), none, none, none, none] [] h Q := by
  have s12 := co_s12 (ib_co i)
  have cbr := co_cbr (ib_co i)
  refine av_wp_sqF ck_9 2 (pc' := 2) (lv' := [some (.inr (.inr (.inl (some (b))))), some (.inl (0)), none, none, none]) (st' := []) (h' := h) rfl ?_
  have L9 : ∀ (m8 : Nat) (k1 : Int) (a2 : Option av_V) (a3 : Option av_V) (a4 : Option av_V) (h5 : av_H), av_lg a2 = false → av_lg a3 = false → av_lg a4 = false → k1 ≤ (s : Int) → (0 ≤ k1 ∧ k1 ≤ 12) → IB b t c s r cb h5 → Fr1 g h5 → ((s : Int) - k1).toNat = m8 → av_wp none cd_9 2 [some (.inr (.inr (.inl (some (b))))), some (.inl k1), a2, a3, a4] [] h5 Q := by
    intro m8
    induction m8 using Nat.strongRecOn with
    | _ m8 I10 =>
      intro k1 a2 a3 a4 h5 g12 g13 g14 g15 g16 i6 F7 e11
      have la2 := g12
      have la3 := g13
      have la4 := g14
      refine av_wp_sqF ck_9 2 (pc' := 4) (lv' := [some (.inr (.inr (.inl (some (b))))), some (.inl k1), a2, a3, a4]) (st' := [.inr (.inr (.inl (some (b)))), .inl k1]) (h' := h5) rfl ?_
      refine wq_gr (p' := 7) (ck_9 _ _ rfl) rfl (congrArg Prod.fst (ib_k0 i6)) rfl (ib_t i6) ?_
      refine wq_gi (p' := 10) (ck_9 _ _ rfl) rfl (congrArg Prod.fst (co_kt (ib_co i6))) rfl (co_s (ib_co i6)) ?_
      refine wq_k2 (p' := 13) (ck_9 _ _ rfl) rfl ⟨by omega, by omega⟩ ⟨by omega, by omega⟩ (fun c17 => ?_) (fun c18 => ?_)
      · have c17 : (s : Int) ≤ k1 := c17
        refine av_wp_ret (v := none) (ck_9 _ _ rfl) rfl rfl ?_
        exact hq h5 i6 F7
      · have c18 : k1 < (s : Int) := c18
        refine av_wp_sqF ck_9 1 (pc' := 14) (lv' := [some (.inr (.inr (.inl (some (b))))), some (.inl k1), a2, a3, a4]) (st' := [.inr (.inr (.inl (some (b))))]) (h' := h5) rfl ?_
        refine wq_gr (p' := 17) (ck_9 _ _ rfl) rfl (congrArg Prod.fst (ib_k0 i6)) rfl (ib_t i6) ?_
        refine wq_gr (p' := 20) (ck_9 _ _ rfl) rfl (congrArg Prod.fst (co_kt (ib_co i6))) rfl (co_c (ib_co i6)) ?_
        refine av_wp_sqF ck_9 5 (pc' := 26) (lv' := [some (.inr (.inr (.inl (some (b))))), some (.inl k1), a2, a3, a4]) (st' := [.inl ((k1 * (21)) + (3)), .inr (.inr (.inl (some (c))))]) (h' := h5) rfl ?_
        obtain ⟨v19, e20⟩ : ∃ v, hA h5 (c) (Int.toNat (((k1 * (21)) + (3)))) = v := ⟨_, rfl⟩
        have g21 := co_v (ib_co i6) (Int.toNat (((k1 * (21)) + (3))))
        rw [e20] at g21
        refine wq_al (p' := 27) (n := 21 * s) (ck_9 _ _ rfl) rfl (co_kc (ib_co i6)) (by omega) (e20) ?_
        refine av_wp_sqF ck_9 2 (pc' := 29) (lv' := [some (.inr (.inr (.inl (some (b))))), some (.inl k1), some (.inl v19), a3, a4]) (st' := [.inr (.inr (.inl (some (b))))]) (h' := h5) rfl ?_
        refine wq_gr (p' := 32) (ck_9 _ _ rfl) rfl (congrArg Prod.fst (ib_k0 i6)) rfl (ib_t i6) ?_
        refine wq_gr (p' := 35) (ck_9 _ _ rfl) rfl (congrArg Prod.fst (co_kt (ib_co i6))) rfl (co_c (ib_co i6)) ?_
        refine av_wp_sqF ck_9 5 (pc' := 41) (lv' := [some (.inr (.inr (.inl (some (b))))), some (.inl k1), some (.inl v19), a3, a4]) (st' := [.inl ((k1 * (21)) + (0)), .inr (.inr (.inl (some (c))))]) (h' := h5) rfl ?_
        obtain ⟨v22, e23⟩ : ∃ v, hA h5 (c) (Int.toNat (((k1 * (21)) + (0)))) = v := ⟨_, rfl⟩
        have g24 := co_v (ib_co i6) (Int.toNat (((k1 * (21)) + (0))))
        rw [e23] at g24
        refine wq_al (p' := 42) (n := 21 * s) (ck_9 _ _ rfl) rfl (co_kc (ib_co i6)) (by omega) (e23) ?_
        refine av_wp_sqF ck_9 1 (pc' := 43) (lv' := [some (.inr (.inr (.inl (some (b))))), some (.inl k1), some (.inl v19), a3, a4]) (st' := [.inl (5), .inl v22]) (h' := h5) rfl ?_
        refine wq_k2 (p' := 46) (ck_9 _ _ rfl) rfl ⟨by omega, by omega⟩ ⟨by omega, by omega⟩ (fun c25 => ?_) (fun c26 => ?_)
        · have c25 : v22 ≠ (5) := c25
          refine av_wp_sqF ck_9 12 (pc' := 130) (lv' := [some (.inr (.inr (.inl (some (b))))), some (.inl k1), some (.inl v19), some (.inl (0)), some (.inl (-1))]) (st' := []) (h' := h5) rfl ?_
          refine av_wp_sqF ck_9 2 (pc' := 2) (lv' := [some (.inr (.inr (.inl (some (b))))), some (.inl (k1 + (1))), some (.inl v19), some (.inl (0)), some (.inl (-1))]) (st' := []) (h' := h5) rfl ?_
          exact I10 _ (by omega) ((k1 + (1))) (some (.inl v19)) (some (.inl (0))) (some (.inl (-1))) h5 rfl rfl rfl (by omega) (by omega) i6 F7 rfl
        · have c26 : v22 = (5) := c26
          refine av_wp_sqF ck_9 1 (pc' := 47) (lv' := [some (.inr (.inr (.inl (some (b))))), some (.inl k1), some (.inl v19), a3, a4]) (st' := [.inl v19]) (h' := h5) rfl ?_
          refine wq_k1 (p' := 50) (ck_9 _ _ rfl) rfl ⟨by omega, by omega⟩ (fun c27 => ?_) (fun c28 => ?_)
          · have c27 : v19 < (0) := c27
            refine av_wp_sqF ck_9 12 (pc' := 130) (lv' := [some (.inr (.inr (.inl (some (b))))), some (.inl k1), some (.inl v19), some (.inl (0)), some (.inl (-1))]) (st' := []) (h' := h5) rfl ?_
            refine av_wp_sqF ck_9 2 (pc' := 2) (lv' := [some (.inr (.inr (.inl (some (b))))), some (.inl (k1 + (1))), some (.inl v19), some (.inl (0)), some (.inl (-1))]) (st' := []) (h' := h5) rfl ?_
            exact I10 _ (by omega) ((k1 + (1))) (some (.inl v19)) (some (.inl (0))) (some (.inl (-1))) h5 rfl rfl rfl (by omega) (by omega) i6 F7 rfl
          · have c28 : (0) ≤ v19 := c28
            refine av_wp_sqF ck_9 2 (pc' := 52) (lv' := [some (.inr (.inr (.inl (some (b))))), some (.inl k1), some (.inl v19), a3, a4]) (st' := [.inl k1, .inl v19]) (h' := h5) rfl ?_
            refine wq_k2 (p' := 55) (ck_9 _ _ rfl) rfl ⟨by omega, by omega⟩ ⟨by omega, by omega⟩ (fun c29 => ?_) (fun c30 => ?_)
            · have c29 : k1 ≤ v19 := c29
              refine av_wp_sqF ck_9 12 (pc' := 130) (lv' := [some (.inr (.inr (.inl (some (b))))), some (.inl k1), some (.inl v19), some (.inl (0)), some (.inl (-1))]) (st' := []) (h' := h5) rfl ?_
              refine av_wp_sqF ck_9 2 (pc' := 2) (lv' := [some (.inr (.inr (.inl (some (b))))), some (.inl (k1 + (1))), some (.inl v19), some (.inl (0)), some (.inl (-1))]) (st' := []) (h' := h5) rfl ?_
              exact I10 _ (by omega) ((k1 + (1))) (some (.inl v19)) (some (.inl (0))) (some (.inl (-1))) h5 rfl rfl rfl (by omega) (by omega) i6 F7 rfl
            · have c30 : v19 < k1 := c30
              refine av_wp_sqF ck_9 8 (pc' := 68) (lv' := [some (.inr (.inr (.inl (some (b))))), some (.inl k1), some (.inl v19), some (.inl (1)), a4]) (st' := [.inr (.inr (.inl (some (b)))), .inl k1, .inr (.inr (.inl (some (b))))]) (h' := h5) rfl ?_
              refine wq_gr (p' := 71) (ck_9 _ _ rfl) rfl (congrArg Prod.fst (ib_k0 i6)) rfl (ib_r i6) ?_
              refine av_wp_sqF ck_9 1 (pc' := 72) (lv' := [some (.inr (.inr (.inl (some (b))))), some (.inl k1), some (.inl v19), some (.inl (1)), a4]) (st' := [.inl (4), .inr (.inr (.inl (some (r)))), .inl k1, .inr (.inr (.inl (some (b))))]) (h' := h5) rfl ?_
              obtain ⟨v31, e32⟩ : ∃ v, hA h5 (r) (Int.toNat ((4))) = v := ⟨_, rfl⟩
              have g33 := ib_rv i6 (Int.toNat ((4)))
              rw [e32] at g33
              refine wq_al (p' := 73) (n := 14) (ck_9 _ _ rfl) rfl (ib_kr i6) (by omega) (e32) ?_
              refine wq_cv (p' := 76) (av_qc (.invokevirtual 115) 6 2 0 0) 3 cd_6 [.inl v31, .inl k1] (b) 0 [some (.inr (.inr (.inl (some (b))))), some (.inl k1), some (.inl v31)] (ck_9 _ _ rfl) rfl rfl pp_6 rfl rfl rfl (congrArg Prod.fst (ib_k0 i6)) rfl rfl rfl rfl ?_
              refine ct_6 i6 F7 (k1) (v31) (by omega) (by omega) (fun v34 => ?_)
              show av_wp _ cd_9 76 [some (.inr (.inr (.inl (some (b))))), some (.inl k1), some (.inl v19), some (.inl (1)), a4] [.inl v34] h5 _
              refine av_wp_sqF ck_9 4 (pc' := 85) (lv' := [some (.inr (.inr (.inl (some (b))))), some (.inl k1), some (.inl v19), some (.inl (1)), some (.inl v34)]) (st' := [.inl (-1), .inl v34]) (h' := h5) rfl ?_
              refine wq_c2 (p' := 88) (ck_9 _ _ rfl) rfl ?_ ?_
              · refine av_wp_sqF ck_9 2 (pc' := 108) (lv' := [some (.inr (.inr (.inl (some (b))))), some (.inl k1), some (.inl v19), some (.inl (1)), some (.inl v34)]) (st' := [.inl (-1), .inl v34]) (h' := h5) rfl ?_
                refine wq_c2 (p' := 111) (ck_9 _ _ rfl) rfl ?_ ?_
                · refine av_wp_sqF ck_9 2 (pc' := 2) (lv' := [some (.inr (.inr (.inl (some (b))))), some (.inl (k1 + (1))), some (.inl v19), some (.inl (1)), some (.inl v34)]) (st' := []) (h' := h5) rfl ?_
                  exact I10 _ (by omega) ((k1 + (1))) (some (.inl v19)) (some (.inl (1))) (some (.inl v34)) h5 rfl rfl rfl (by omega) (by omega) i6 F7 rfl
                · refine av_wp_sqF ck_9 3 (pc' := 115) (lv' := [some (.inr (.inr (.inl (some (b))))), some (.inl k1), some (.inl v19), some (.inl (1)), some (.inl v34)]) (st' := [.inl v19, .inr (.inr (.inl (some (b)))), .inl v34]) (h' := h5) rfl ?_
                  refine wq_cv (p' := 118) (av_qc (.invokevirtual 125) 10 1 0 0) 3 cd_10 [.inl v19] (b) 0 [some (.inr (.inr (.inl (some (b))))), some (.inl v19), none] (ck_9 _ _ rfl) rfl rfl pp_10 rfl rfl rfl (congrArg Prod.fst (ib_k0 i6)) rfl rfl rfl rfl ?_
                  refine ct_10 i6 F7 (v19) (by omega) (fun v36 p37 => ?_)
                  show av_wp _ cd_9 118 [some (.inr (.inr (.inl (some (b))))), some (.inl k1), some (.inl v19), some (.inl (1)), some (.inl v34)] [.inl v36, .inl v34] h5 _
                  refine wq_c2 (p' := 121) (ck_9 _ _ rfl) rfl ?_ ?_
                  · refine av_wp_sqF ck_9 2 (pc' := 2) (lv' := [some (.inr (.inr (.inl (some (b))))), some (.inl (k1 + (1))), some (.inl v19), some (.inl (1)), some (.inl v34)]) (st' := []) (h' := h5) rfl ?_
                    exact I10 _ (by omega) ((k1 + (1))) (some (.inl v19)) (some (.inl (1))) (some (.inl v34)) h5 rfl rfl rfl (by omega) (by omega) i6 F7 rfl
                  · refine av_wp_sqF ck_9 5 (pc' := 127) (lv' := [some (.inr (.inr (.inl (some (b))))), some (.inl k1), some (.inl v19), some (.inl (1)), some (.inl v34)]) (st' := [.inl k1, .inl (1), .inl v34, .inl v19, .inr (.inr (.inl (some (b))))]) (h' := h5) rfl ?_
                    refine wq_cv (p' := 130) (av_qc (.invokevirtual 118) 8 4 0 0) 5 cd_8 [.inl k1, .inl (1), .inl v34, .inl v19] (b) 0 [some (.inr (.inr (.inl (some (b))))), some (.inl v19), some (.inl v34), some (.inl (1)), some (.inl k1)] (ck_9 _ _ rfl) rfl rfl pp_8 rfl rfl rfl (congrArg Prod.fst (ib_k0 i6)) rfl rfl rfl rfl ?_
                    refine ct_8 i6 F7 (v19) (v34) ((1)) (k1) (by omega) (fun h38 i39 F40 => ?_)
                    show av_wp _ cd_9 130 [some (.inr (.inr (.inl (some (b))))), some (.inl k1), some (.inl v19), some (.inl (1)), some (.inl v34)] [] h38 _
                    refine av_wp_sqF ck_9 2 (pc' := 2) (lv' := [some (.inr (.inr (.inl (some (b))))), some (.inl (k1 + (1))), some (.inl v19), some (.inl (1)), some (.inl v34)]) (st' := []) (h' := h38) rfl ?_
                    exact I10 _ (by omega) ((k1 + (1))) (some (.inl v19)) (some (.inl (1))) (some (.inl v34)) h38 rfl rfl rfl (by omega) (by omega) i39 F40 rfl
              · refine av_wp_sqF ck_9 1 (pc' := 89) (lv' := [some (.inr (.inr (.inl (some (b))))), some (.inl k1), some (.inl v19), some (.inl (1)), some (.inl v34)]) (st' := [.inr (.inr (.inl (some (b))))]) (h' := h5) rfl ?_
                refine wq_gr (p' := 92) (ck_9 _ _ rfl) rfl (congrArg Prod.fst (ib_k0 i6)) rfl (ib_g i6 9 rfl) ?_
                refine av_wp_sqF ck_9 2 (pc' := 94) (lv' := [some (.inr (.inr (.inl (some (b))))), some (.inl k1), some (.inl v19), some (.inl (1)), some (.inl v34)]) (st' := [.inr (.inr (.inl (some (b)))), .inl v19, .inr (.inr (.inl (some (b + 1 + 9))))]) (h' := h5) rfl ?_
                refine wq_gr (p' := 97) (ck_9 _ _ rfl) rfl (congrArg Prod.fst (ib_k0 i6)) rfl (ib_g i6 9 rfl) ?_
                refine av_wp_sqF ck_9 1 (pc' := 98) (lv' := [some (.inr (.inr (.inl (some (b))))), some (.inl k1), some (.inl v19), some (.inl (1)), some (.inl v34)]) (st' := [.inl v19, .inr (.inr (.inl (some (b + 1 + 9)))), .inl v19, .inr (.inr (.inl (some (b + 1 + 9))))]) (h' := h5) rfl ?_
                obtain ⟨v41, e42⟩ : ∃ v, hA h5 (b + 1 + 9) (Int.toNat (v19)) = v := ⟨_, rfl⟩
                refine wq_al (p' := 99) (n := 12) (ck_9 _ _ rfl) rfl (ib_k i6 9 rfl) (by omega) (e42) ?_
                refine av_wp_sqF ck_9 1 (pc' := 101) (lv' := [some (.inr (.inr (.inl (some (b))))), some (.inl k1), some (.inl v19), some (.inl (1)), some (.inl v34)]) (st' := [.inl v34, .inl v41, .inl v19, .inr (.inr (.inl (some (b + 1 + 9))))]) (h' := h5) rfl ?_
                refine wq_mn (p' := 104) (ck_9 _ _ rfl) rfl rfl (fun _ _ => rfl) rfl (fun v44 e45 e46 => ?_)
                refine ib_as (p' := 105) (n := 12) rfl rfl i6 F7 9 rfl rfl (by omega) (fun h47 i48 F49 => ?_)
                refine av_wp_sqF ck_9 2 (pc' := 108) (lv' := [some (.inr (.inr (.inl (some (b))))), some (.inl k1), some (.inl v19), some (.inl (1)), some (.inl v34)]) (st' := [.inl (-1), .inl v34]) (h' := h47) rfl ?_
                refine wq_c2 (p' := 111) (ck_9 _ _ rfl) rfl ?_ ?_
                · refine av_wp_sqF ck_9 2 (pc' := 2) (lv' := [some (.inr (.inr (.inl (some (b))))), some (.inl (k1 + (1))), some (.inl v19), some (.inl (1)), some (.inl v34)]) (st' := []) (h' := h47) rfl ?_
                  exact I10 _ (by omega) ((k1 + (1))) (some (.inl v19)) (some (.inl (1))) (some (.inl v34)) h47 rfl rfl rfl (by omega) (by omega) i48 F49 rfl
                · refine av_wp_sqF ck_9 3 (pc' := 115) (lv' := [some (.inr (.inr (.inl (some (b))))), some (.inl k1), some (.inl v19), some (.inl (1)), some (.inl v34)]) (st' := [.inl v19, .inr (.inr (.inl (some (b)))), .inl v34]) (h' := h47) rfl ?_
                  refine wq_cv (p' := 118) (av_qc (.invokevirtual 125) 10 1 0 0) 3 cd_10 [.inl v19] (b) 0 [some (.inr (.inr (.inl (some (b))))), some (.inl v19), none] (ck_9 _ _ rfl) rfl rfl pp_10 rfl rfl rfl (congrArg Prod.fst (ib_k0 i48)) rfl rfl rfl rfl ?_
                  refine ct_10 i48 F49 (v19) (by omega) (fun v50 p51 => ?_)
                  show av_wp _ cd_9 118 [some (.inr (.inr (.inl (some (b))))), some (.inl k1), some (.inl v19), some (.inl (1)), some (.inl v34)] [.inl v50, .inl v34] h47 _
                  refine wq_c2 (p' := 121) (ck_9 _ _ rfl) rfl ?_ ?_
                  · refine av_wp_sqF ck_9 2 (pc' := 2) (lv' := [some (.inr (.inr (.inl (some (b))))), some (.inl (k1 + (1))), some (.inl v19), some (.inl (1)), some (.inl v34)]) (st' := []) (h' := h47) rfl ?_
                    exact I10 _ (by omega) ((k1 + (1))) (some (.inl v19)) (some (.inl (1))) (some (.inl v34)) h47 rfl rfl rfl (by omega) (by omega) i48 F49 rfl
                  · refine av_wp_sqF ck_9 5 (pc' := 127) (lv' := [some (.inr (.inr (.inl (some (b))))), some (.inl k1), some (.inl v19), some (.inl (1)), some (.inl v34)]) (st' := [.inl k1, .inl (1), .inl v34, .inl v19, .inr (.inr (.inl (some (b))))]) (h' := h47) rfl ?_
                    refine wq_cv (p' := 130) (av_qc (.invokevirtual 118) 8 4 0 0) 5 cd_8 [.inl k1, .inl (1), .inl v34, .inl v19] (b) 0 [some (.inr (.inr (.inl (some (b))))), some (.inl v19), some (.inl v34), some (.inl (1)), some (.inl k1)] (ck_9 _ _ rfl) rfl rfl pp_8 rfl rfl rfl (congrArg Prod.fst (ib_k0 i48)) rfl rfl rfl rfl ?_
                    refine ct_8 i48 F49 (v19) (v34) ((1)) (k1) (by omega) (fun h52 i53 F54 => ?_)
                    show av_wp _ cd_9 130 [some (.inr (.inr (.inl (some (b))))), some (.inl k1), some (.inl v19), some (.inl (1)), some (.inl v34)] [] h52 _
                    refine av_wp_sqF ck_9 2 (pc' := 2) (lv' := [some (.inr (.inr (.inl (some (b))))), some (.inl (k1 + (1))), some (.inl v19), some (.inl (1)), some (.inl v34)]) (st' := []) (h' := h52) rfl ?_
                    exact I10 _ (by omega) ((k1 + (1))) (some (.inl v19)) (some (.inl (1))) (some (.inl v34)) h52 rfl rfl rfl (by omega) (by omega) i53 F54 rfl
  exact L9 _ ((0)) (none) (none) (none) h rfl rfl rfl (by omega) (by omega) i F rfl

set_option maxRecDepth 100000 in
set_option maxHeartbeats 4000000 in
theorem ct_11 {g h : av_H} {b t c s r : Nat} {cb : Int} (i : IB b t c s r cb h) (F : Fr1 g h) {Q : Option av_V → av_H → Prop} (hq : ∀ h', IB b t c s r cb h' → Fr1 g h' → Q none h') : av_wp none cd_11 0 [some (.inr (.inr (.inl (some (b))))), none, none, none] [] h Q := by
  have s12 := co_s12 (ib_co i)
  have cbr := co_cbr (ib_co i)
  refine av_wp_sqF ck_11 2 (pc' := 2) (lv' := [some (.inr (.inr (.inl (some (b))))), some (.inl (0)), none, none]) (st' := []) (h' := h) rfl ?_
  have L8 : ∀ (m7 : Nat) (k1 : Int) (a2 : Option av_V) (a3 : Option av_V) (h4 : av_H), av_lg a2 = false → av_lg a3 = false → k1 ≤ (s : Int) → (0 ≤ k1 ∧ k1 ≤ 12) → IB b t c s r cb h4 → Fr1 g h4 → ((s : Int) - k1).toNat = m7 → av_wp none cd_11 2 [some (.inr (.inr (.inl (some (b))))), some (.inl k1), a2, a3] [] h4 Q := by
    intro m7
    induction m7 using Nat.strongRecOn with
    | _ m7 I9 =>
      intro k1 a2 a3 h4 g11 g12 g13 g14 i5 F6 e10
      have la2 := g11
      have la3 := g12
      refine av_wp_sqF ck_11 2 (pc' := 4) (lv' := [some (.inr (.inr (.inl (some (b))))), some (.inl k1), a2, a3]) (st' := [.inr (.inr (.inl (some (b)))), .inl k1]) (h' := h4) rfl ?_
      refine wq_gr (p' := 7) (ck_11 _ _ rfl) rfl (congrArg Prod.fst (ib_k0 i5)) rfl (ib_t i5) ?_
      refine wq_gi (p' := 10) (ck_11 _ _ rfl) rfl (congrArg Prod.fst (co_kt (ib_co i5))) rfl (co_s (ib_co i5)) ?_
      refine wq_k2 (p' := 13) (ck_11 _ _ rfl) rfl ⟨by omega, by omega⟩ ⟨by omega, by omega⟩ (fun c15 => ?_) (fun c16 => ?_)
      · have c15 : (s : Int) ≤ k1 := c15
        refine av_wp_ret (v := none) (ck_11 _ _ rfl) rfl rfl ?_
        exact hq h4 i5 F6
      · have c16 : k1 < (s : Int) := c16
        refine av_wp_sqF ck_11 1 (pc' := 14) (lv' := [some (.inr (.inr (.inl (some (b))))), some (.inl k1), a2, a3]) (st' := [.inr (.inr (.inl (some (b))))]) (h' := h4) rfl ?_
        refine wq_gr (p' := 17) (ck_11 _ _ rfl) rfl (congrArg Prod.fst (ib_k0 i5)) rfl (ib_t i5) ?_
        refine wq_gr (p' := 20) (ck_11 _ _ rfl) rfl (congrArg Prod.fst (co_kt (ib_co i5))) rfl (co_c (ib_co i5)) ?_
        refine av_wp_sqF ck_11 5 (pc' := 26) (lv' := [some (.inr (.inr (.inl (some (b))))), some (.inl k1), a2, a3]) (st' := [.inl ((k1 * (21)) + (0)), .inr (.inr (.inl (some (c))))]) (h' := h4) rfl ?_
        obtain ⟨v17, e18⟩ : ∃ v, hA h4 (c) (Int.toNat (((k1 * (21)) + (0)))) = v := ⟨_, rfl⟩
        have g19 := co_v (ib_co i5) (Int.toNat (((k1 * (21)) + (0))))
        rw [e18] at g19
        refine wq_al (p' := 27) (n := 21 * s) (ck_11 _ _ rfl) rfl (co_kc (ib_co i5)) (by omega) (e18) ?_
        refine av_wp_sqF ck_11 2 (pc' := 29) (lv' := [some (.inr (.inr (.inl (some (b))))), some (.inl k1), some (.inl v17), a3]) (st' := [.inr (.inr (.inl (some (b))))]) (h' := h4) rfl ?_
        refine wq_gr (p' := 32) (ck_11 _ _ rfl) rfl (congrArg Prod.fst (ib_k0 i5)) rfl (ib_t i5) ?_
        refine wq_gr (p' := 35) (ck_11 _ _ rfl) rfl (congrArg Prod.fst (co_kt (ib_co i5))) rfl (co_c (ib_co i5)) ?_
        refine av_wp_sqF ck_11 5 (pc' := 41) (lv' := [some (.inr (.inr (.inl (some (b))))), some (.inl k1), some (.inl v17), a3]) (st' := [.inl ((k1 * (21)) + (3)), .inr (.inr (.inl (some (c))))]) (h' := h4) rfl ?_
        obtain ⟨v20, e21⟩ : ∃ v, hA h4 (c) (Int.toNat (((k1 * (21)) + (3)))) = v := ⟨_, rfl⟩
        have g22 := co_v (ib_co i5) (Int.toNat (((k1 * (21)) + (3))))
        rw [e21] at g22
        refine wq_al (p' := 42) (n := 21 * s) (ck_11 _ _ rfl) rfl (co_kc (ib_co i5)) (by omega) (e21) ?_
        refine av_wp_sqF ck_11 2 (pc' := 44) (lv' := [some (.inr (.inr (.inl (some (b))))), some (.inl k1), some (.inl v17), some (.inl v20)]) (st' := [.inl v20]) (h' := h4) rfl ?_
        have J26 : ∀  (h23 : av_H), IB b t c s r cb h23 → Fr1 g h23 →  av_wp none cd_11 116 [some (.inr (.inr (.inl (some (b))))), some (.inl k1), some (.inl v17), some (.inl v20)] [] h23 Q := by
          intro h23 i24 F25
          refine av_wp_sqF ck_11 2 (pc' := 2) (lv' := [some (.inr (.inr (.inl (some (b))))), some (.inl (k1 + (1))), some (.inl v17), some (.inl v20)]) (st' := []) (h' := h23) rfl ?_
          exact I9 _ (by omega) ((k1 + (1))) (some (.inl v17)) (some (.inl v20)) h23 rfl rfl (by omega) (by omega) i24 F25 rfl
        refine wq_k1 (p' := 47) (ck_11 _ _ rfl) rfl ⟨by omega, by omega⟩ (fun c27 => ?_) (fun c28 => ?_)
        · have c27 : v20 < (0) := c27
          exact J26 h4 i5 F6
        · have c28 : (0) ≤ v20 := c28
          refine av_wp_sqF ck_11 2 (pc' := 49) (lv' := [some (.inr (.inr (.inl (some (b))))), some (.inl k1), some (.inl v17), some (.inl v20)]) (st' := [.inl k1, .inl v20]) (h' := h4) rfl ?_
          refine wq_k2 (p' := 52) (ck_11 _ _ rfl) rfl ⟨by omega, by omega⟩ ⟨by omega, by omega⟩ (fun c29 => ?_) (fun c30 => ?_)
          · have c29 : k1 ≤ v20 := c29
            exact J26 h4 i5 F6
          · have c30 : v20 < k1 := c30
            refine av_wp_sqF ck_11 2 (pc' := 54) (lv' := [some (.inr (.inr (.inl (some (b))))), some (.inl k1), some (.inl v17), some (.inl v20)]) (st' := [.inl (5), .inl v17]) (h' := h4) rfl ?_
            refine wq_k2 (p' := 57) (ck_11 _ _ rfl) rfl ⟨by omega, by omega⟩ ⟨by omega, by omega⟩ (fun c31 => ?_) (fun c32 => ?_)
            · have c31 : v17 = (5) := c31
              exact J26 h4 i5 F6
            · have c32 : v17 ≠ (5) := c32
              refine av_wp_sqF ck_11 2 (pc' := 60) (lv' := [some (.inr (.inr (.inl (some (b))))), some (.inl k1), some (.inl v17), some (.inl v20)]) (st' := [.inl (7), .inl v17]) (h' := h4) rfl ?_
              refine wq_k2 (p' := 63) (ck_11 _ _ rfl) rfl ⟨by omega, by omega⟩ ⟨by omega, by omega⟩ (fun c33 => ?_) (fun c34 => ?_)
              · have c33 : v17 = (7) := c33
                exact J26 h4 i5 F6
              · have c34 : v17 ≠ (7) := c34
                refine av_wp_sqF ck_11 1 (pc' := 64) (lv' := [some (.inr (.inr (.inl (some (b))))), some (.inl k1), some (.inl v17), some (.inl v20)]) (st' := [.inr (.inr (.inl (some (b))))]) (h' := h4) rfl ?_
                refine wq_gr (p' := 67) (ck_11 _ _ rfl) rfl (congrArg Prod.fst (ib_k0 i5)) rfl (ib_g i5 10 rfl) ?_
                refine av_wp_sqF ck_11 2 (pc' := 69) (lv' := [some (.inr (.inr (.inl (some (b))))), some (.inl k1), some (.inl v17), some (.inl v20)]) (st' := [.inr (.inr (.inl (some (b)))), .inl v20, .inr (.inr (.inl (some (b + 1 + 10))))]) (h' := h4) rfl ?_
                refine wq_gr (p' := 72) (ck_11 _ _ rfl) rfl (congrArg Prod.fst (ib_k0 i5)) rfl (ib_g i5 10 rfl) ?_
                refine av_wp_sqF ck_11 1 (pc' := 73) (lv' := [some (.inr (.inr (.inl (some (b))))), some (.inl k1), some (.inl v17), some (.inl v20)]) (st' := [.inl v20, .inr (.inr (.inl (some (b + 1 + 10)))), .inl v20, .inr (.inr (.inl (some (b + 1 + 10))))]) (h' := h4) rfl ?_
                obtain ⟨v35, e36⟩ : ∃ v, hA h4 (b + 1 + 10) (Int.toNat (v20)) = v := ⟨_, rfl⟩
                refine wq_al (p' := 74) (n := 12) (ck_11 _ _ rfl) rfl (ib_k i5 10 rfl) (by omega) (e36) ?_
                refine av_wp_sqF ck_11 3 (pc' := 77) (lv' := [some (.inr (.inr (.inl (some (b))))), some (.inl k1), some (.inl v17), some (.inl v20)]) (st' := [.inl (0), .inl k1, .inr (.inr (.inl (some (b)))), .inl v35, .inl v20, .inr (.inr (.inl (some (b + 1 + 10))))]) (h' := h4) rfl ?_
                refine wq_cv (p' := 80) (av_qc (.invokevirtual 115) 6 2 0 0) 3 cd_6 [.inl (0), .inl k1] (b) 0 [some (.inr (.inr (.inl (some (b))))), some (.inl k1), some (.inl (0))] (ck_11 _ _ rfl) rfl rfl pp_6 rfl rfl rfl (congrArg Prod.fst (ib_k0 i5)) rfl rfl rfl rfl ?_
                refine ct_6 i5 F6 (k1) ((0)) (by omega) (by omega) (fun v38 => ?_)
                show av_wp _ cd_11 80 [some (.inr (.inr (.inl (some (b))))), some (.inl k1), some (.inl v17), some (.inl v20)] [.inl v38, .inl v35, .inl v20, .inr (.inr (.inl (some (b + 1 + 10))))] h4 _
                refine wq_mn (p' := 83) (ck_11 _ _ rfl) rfl rfl (fun _ _ => rfl) rfl (fun v40 e41 e42 => ?_)
                refine ib_as (p' := 84) (n := 12) rfl rfl i5 F6 10 rfl rfl (by omega) (fun h43 i44 F45 => ?_)
                refine av_wp_sqF ck_11 2 (pc' := 86) (lv' := [some (.inr (.inr (.inl (some (b))))), some (.inl k1), some (.inl v17), some (.inl v20)]) (st' := [.inl (4), .inl v17]) (h' := h43) rfl ?_
                refine wq_k2 (p' := 89) (ck_11 _ _ rfl) rfl ⟨by omega, by omega⟩ ⟨by omega, by omega⟩ (fun c46 => ?_) (fun c47 => ?_)
                · have c46 : v17 = (4) := c46
                  refine av_wp_sqF ck_11 5 (pc' := 103) (lv' := [some (.inr (.inr (.inl (some (b))))), some (.inl k1), some (.inl v17), some (.inl v20)]) (st' := [.inr (.inr (.inl (some (b)))), .inl k1, .inr (.inr (.inl (some (b)))), .inl v20, .inr (.inr (.inl (some (b))))]) (h' := h43) rfl ?_
                  refine wq_gr (p' := 106) (ck_11 _ _ rfl) rfl (congrArg Prod.fst (ib_k0 i44)) rfl (ib_r i44) ?_
                  refine av_wp_sqF ck_11 1 (pc' := 107) (lv' := [some (.inr (.inr (.inl (some (b))))), some (.inl k1), some (.inl v17), some (.inl v20)]) (st' := [.inl (5), .inr (.inr (.inl (some (r)))), .inl k1, .inr (.inr (.inl (some (b)))), .inl v20, .inr (.inr (.inl (some (b))))]) (h' := h43) rfl ?_
                  obtain ⟨v48, e49⟩ : ∃ v, hA h43 (r) (Int.toNat ((5))) = v := ⟨_, rfl⟩
                  have g50 := ib_rv i44 (Int.toNat ((5)))
                  rw [e49] at g50
                  refine wq_al (p' := 108) (n := 14) (ck_11 _ _ rfl) rfl (ib_kr i44) (by omega) (e49) ?_
                  refine wq_cv (p' := 111) (av_qc (.invokevirtual 115) 6 2 0 0) 3 cd_6 [.inl v48, .inl k1] (b) 0 [some (.inr (.inr (.inl (some (b))))), some (.inl k1), some (.inl v48)] (ck_11 _ _ rfl) rfl rfl pp_6 rfl rfl rfl (congrArg Prod.fst (ib_k0 i44)) rfl rfl rfl rfl ?_
                  refine ct_6 i44 F45 (k1) (v48) (by omega) (by omega) (fun v51 => ?_)
                  show av_wp _ cd_11 111 [some (.inr (.inr (.inl (some (b))))), some (.inl k1), some (.inl v17), some (.inl v20)] [.inl v51, .inl v20, .inr (.inr (.inl (some (b))))] h43 _
                  refine av_wp_sqF ck_11 2 (pc' := 113) (lv' := [some (.inr (.inr (.inl (some (b))))), some (.inl k1), some (.inl v17), some (.inl v20)]) (st' := [.inl k1, .inl (2), .inl v51, .inl v20, .inr (.inr (.inl (some (b))))]) (h' := h43) rfl ?_
                  refine wq_cv (p' := 116) (av_qc (.invokevirtual 118) 8 4 0 0) 5 cd_8 [.inl k1, .inl (2), .inl v51, .inl v20] (b) 0 [some (.inr (.inr (.inl (some (b))))), some (.inl v20), some (.inl v51), some (.inl (2)), some (.inl k1)] (ck_11 _ _ rfl) rfl rfl pp_8 rfl rfl rfl (congrArg Prod.fst (ib_k0 i44)) rfl rfl rfl rfl ?_
                  refine ct_8 i44 F45 (v20) (v51) ((2)) (k1) (by omega) (fun h53 i54 F55 => ?_)
                  show av_wp _ cd_11 116 [some (.inr (.inr (.inl (some (b))))), some (.inl k1), some (.inl v17), some (.inl v20)] [] h53 _
                  exact J26 h53 i54 F55
                · have c47 : v17 ≠ (4) := c47
                  refine av_wp_sqF ck_11 1 (pc' := 90) (lv' := [some (.inr (.inr (.inl (some (b))))), some (.inl k1), some (.inl v17), some (.inl v20)]) (st' := [.inr (.inr (.inl (some (b))))]) (h' := h43) rfl ?_
                  refine wq_gr (p' := 93) (ck_11 _ _ rfl) rfl (congrArg Prod.fst (ib_k0 i44)) rfl (ib_g i44 2 rfl) ?_
                  refine av_wp_sqF ck_11 1 (pc' := 94) (lv' := [some (.inr (.inr (.inl (some (b))))), some (.inl k1), some (.inl v17), some (.inl v20)]) (st' := [.inl k1, .inr (.inr (.inl (some (b + 1 + 2))))]) (h' := h43) rfl ?_
                  obtain ⟨v56, e57⟩ : ∃ v, hA h43 (b + 1 + 2) (Int.toNat (k1)) = v := ⟨_, rfl⟩
                  refine wq_bl (p' := 95) (n := 12) (ck_11 _ _ rfl) rfl ((Or.inr (ib_k i44 2 rfl))) (by omega) (e57) ?_
                  refine wq_c1 (p' := 98) (ck_11 _ _ rfl) rfl ?_ ?_
                  · exact J26 h43 i44 F45
                  · refine av_wp_sqF ck_11 5 (pc' := 103) (lv' := [some (.inr (.inr (.inl (some (b))))), some (.inl k1), some (.inl v17), some (.inl v20)]) (st' := [.inr (.inr (.inl (some (b)))), .inl k1, .inr (.inr (.inl (some (b)))), .inl v20, .inr (.inr (.inl (some (b))))]) (h' := h43) rfl ?_
                    refine wq_gr (p' := 106) (ck_11 _ _ rfl) rfl (congrArg Prod.fst (ib_k0 i44)) rfl (ib_r i44) ?_
                    refine av_wp_sqF ck_11 1 (pc' := 107) (lv' := [some (.inr (.inr (.inl (some (b))))), some (.inl k1), some (.inl v17), some (.inl v20)]) (st' := [.inl (5), .inr (.inr (.inl (some (r)))), .inl k1, .inr (.inr (.inl (some (b)))), .inl v20, .inr (.inr (.inl (some (b))))]) (h' := h43) rfl ?_
                    obtain ⟨v59, e60⟩ : ∃ v, hA h43 (r) (Int.toNat ((5))) = v := ⟨_, rfl⟩
                    have g61 := ib_rv i44 (Int.toNat ((5)))
                    rw [e60] at g61
                    refine wq_al (p' := 108) (n := 14) (ck_11 _ _ rfl) rfl (ib_kr i44) (by omega) (e60) ?_
                    refine wq_cv (p' := 111) (av_qc (.invokevirtual 115) 6 2 0 0) 3 cd_6 [.inl v59, .inl k1] (b) 0 [some (.inr (.inr (.inl (some (b))))), some (.inl k1), some (.inl v59)] (ck_11 _ _ rfl) rfl rfl pp_6 rfl rfl rfl (congrArg Prod.fst (ib_k0 i44)) rfl rfl rfl rfl ?_
                    refine ct_6 i44 F45 (k1) (v59) (by omega) (by omega) (fun v62 => ?_)
                    show av_wp _ cd_11 111 [some (.inr (.inr (.inl (some (b))))), some (.inl k1), some (.inl v17), some (.inl v20)] [.inl v62, .inl v20, .inr (.inr (.inl (some (b))))] h43 _
                    refine av_wp_sqF ck_11 2 (pc' := 113) (lv' := [some (.inr (.inr (.inl (some (b))))), some (.inl k1), some (.inl v17), some (.inl v20)]) (st' := [.inl k1, .inl (2), .inl v62, .inl v20, .inr (.inr (.inl (some (b))))]) (h' := h43) rfl ?_
                    refine wq_cv (p' := 116) (av_qc (.invokevirtual 118) 8 4 0 0) 5 cd_8 [.inl k1, .inl (2), .inl v62, .inl v20] (b) 0 [some (.inr (.inr (.inl (some (b))))), some (.inl v20), some (.inl v62), some (.inl (2)), some (.inl k1)] (ck_11 _ _ rfl) rfl rfl pp_8 rfl rfl rfl (congrArg Prod.fst (ib_k0 i44)) rfl rfl rfl rfl ?_
                    refine ct_8 i44 F45 (v20) (v62) ((2)) (k1) (by omega) (fun h64 i65 F66 => ?_)
                    show av_wp _ cd_11 116 [some (.inr (.inr (.inl (some (b))))), some (.inl k1), some (.inl v17), some (.inl v20)] [] h64 _
                    exact J26 h64 i65 F66
  exact L8 _ ((0)) (none) (none) h rfl rfl (by omega) (by omega) i F rfl

set_option maxRecDepth 100000 in
set_option maxHeartbeats 4000000 in
theorem ct_12 {g h : av_H} {b t c s r : Nat} {cb : Int} (i : IB b t c s r cb h) (F : Fr1 g h) {Q : Option av_V → av_H → Prop} (hq : ∀ h', IB b t c s r cb h' → Fr1 g h' → Q none h') : av_wp none cd_12 0 [some (.inr (.inr (.inl (some (b))))), none, none, none, none, none] [] h Q := by
  have s12 := co_s12 (ib_co i)
  have cbr := co_cbr (ib_co i)
  refine av_wp_sqF ck_12 2 (pc' := 2) (lv' := [some (.inr (.inr (.inl (some (b))))), some (.inl (0)), none, none, none, none]) (st' := []) (h' := h) rfl ?_
  have L10 : ∀ (m9 : Nat) (k1 : Int) (a2 : Option av_V) (a3 : Option av_V) (a4 : Option av_V) (a5 : Option av_V) (h6 : av_H), av_lg a2 = false → av_lg a3 = false → av_lg a4 = false → av_lg a5 = false → k1 ≤ (s : Int) → (0 ≤ k1 ∧ k1 ≤ 12) → IB b t c s r cb h6 → Fr1 g h6 → ((s : Int) - k1).toNat = m9 → av_wp none cd_12 2 [some (.inr (.inr (.inl (some (b))))), some (.inl k1), a2, a3, a4, a5] [] h6 Q := by
    intro m9
    induction m9 using Nat.strongRecOn with
    | _ m9 I11 =>
      intro k1 a2 a3 a4 a5 h6 g13 g14 g15 g16 g17 g18 i7 F8 e12
      have la2 := g13
      have la3 := g14
      have la4 := g15
      have la5 := g16
      refine av_wp_sqF ck_12 2 (pc' := 4) (lv' := [some (.inr (.inr (.inl (some (b))))), some (.inl k1), a2, a3, a4, a5]) (st' := [.inr (.inr (.inl (some (b)))), .inl k1]) (h' := h6) rfl ?_
      refine wq_gr (p' := 7) (ck_12 _ _ rfl) rfl (congrArg Prod.fst (ib_k0 i7)) rfl (ib_t i7) ?_
      refine wq_gi (p' := 10) (ck_12 _ _ rfl) rfl (congrArg Prod.fst (co_kt (ib_co i7))) rfl (co_s (ib_co i7)) ?_
      refine wq_k2 (p' := 13) (ck_12 _ _ rfl) rfl ⟨by omega, by omega⟩ ⟨by omega, by omega⟩ (fun c19 => ?_) (fun c20 => ?_)
      · have c19 : (s : Int) ≤ k1 := c19
        refine av_wp_ret (v := none) (ck_12 _ _ rfl) rfl rfl ?_
        exact hq h6 i7 F8
      · have c20 : k1 < (s : Int) := c20
        refine av_wp_sqF ck_12 1 (pc' := 14) (lv' := [some (.inr (.inr (.inl (some (b))))), some (.inl k1), a2, a3, a4, a5]) (st' := [.inr (.inr (.inl (some (b))))]) (h' := h6) rfl ?_
        refine wq_gr (p' := 17) (ck_12 _ _ rfl) rfl (congrArg Prod.fst (ib_k0 i7)) rfl (ib_t i7) ?_
        refine wq_gr (p' := 20) (ck_12 _ _ rfl) rfl (congrArg Prod.fst (co_kt (ib_co i7))) rfl (co_c (ib_co i7)) ?_
        refine av_wp_sqF ck_12 5 (pc' := 26) (lv' := [some (.inr (.inr (.inl (some (b))))), some (.inl k1), a2, a3, a4, a5]) (st' := [.inl ((k1 * (21)) + (3)), .inr (.inr (.inl (some (c))))]) (h' := h6) rfl ?_
        obtain ⟨v21, e22⟩ : ∃ v, hA h6 (c) (Int.toNat (((k1 * (21)) + (3)))) = v := ⟨_, rfl⟩
        have g23 := co_v (ib_co i7) (Int.toNat (((k1 * (21)) + (3))))
        rw [e22] at g23
        refine wq_al (p' := 27) (n := 21 * s) (ck_12 _ _ rfl) rfl (co_kc (ib_co i7)) (by omega) (e22) ?_
        refine av_wp_sqF ck_12 2 (pc' := 29) (lv' := [some (.inr (.inr (.inl (some (b))))), some (.inl k1), some (.inl v21), a3, a4, a5]) (st' := [.inr (.inr (.inl (some (b))))]) (h' := h6) rfl ?_
        refine wq_gr (p' := 32) (ck_12 _ _ rfl) rfl (congrArg Prod.fst (ib_k0 i7)) rfl (ib_g i7 3 rfl) ?_
        refine av_wp_sqF ck_12 1 (pc' := 33) (lv' := [some (.inr (.inr (.inl (some (b))))), some (.inl k1), some (.inl v21), a3, a4, a5]) (st' := [.inl k1, .inr (.inr (.inl (some (b + 1 + 3))))]) (h' := h6) rfl ?_
        obtain ⟨v24, e25⟩ : ∃ v, hA h6 (b + 1 + 3) (Int.toNat (k1)) = v := ⟨_, rfl⟩
        refine wq_bl (p' := 34) (n := 12) (ck_12 _ _ rfl) rfl ((Or.inr (ib_k i7 3 rfl))) (by omega) (e25) ?_
        refine wq_c1 (p' := 37) (ck_12 _ _ rfl) rfl ?_ ?_
        · refine av_wp_sqF ck_12 2 (pc' := 2) (lv' := [some (.inr (.inr (.inl (some (b))))), some (.inl (k1 + (1))), some (.inl v21), a3, a4, a5]) (st' := []) (h' := h6) rfl ?_
          exact I11 _ (by omega) ((k1 + (1))) (some (.inl v21)) (a3) (a4) (a5) h6 rfl la3 la4 la5 (by omega) (by omega) i7 F8 rfl
        · refine av_wp_sqF ck_12 1 (pc' := 38) (lv' := [some (.inr (.inr (.inl (some (b))))), some (.inl k1), some (.inl v21), a3, a4, a5]) (st' := [.inl v21]) (h' := h6) rfl ?_
          refine wq_k1 (p' := 41) (ck_12 _ _ rfl) rfl ⟨by omega, by omega⟩ (fun c27 => ?_) (fun c28 => ?_)
          · have c27 : v21 < (0) := c27
            refine av_wp_sqF ck_12 2 (pc' := 2) (lv' := [some (.inr (.inr (.inl (some (b))))), some (.inl (k1 + (1))), some (.inl v21), a3, a4, a5]) (st' := []) (h' := h6) rfl ?_
            exact I11 _ (by omega) ((k1 + (1))) (some (.inl v21)) (a3) (a4) (a5) h6 rfl la3 la4 la5 (by omega) (by omega) i7 F8 rfl
          · have c28 : (0) ≤ v21 := c28
            refine av_wp_sqF ck_12 2 (pc' := 43) (lv' := [some (.inr (.inr (.inl (some (b))))), some (.inl k1), some (.inl v21), a3, a4, a5]) (st' := [.inl k1, .inl v21]) (h' := h6) rfl ?_
            refine wq_k2 (p' := 46) (ck_12 _ _ rfl) rfl ⟨by omega, by omega⟩ ⟨by omega, by omega⟩ (fun c29 => ?_) (fun c30 => ?_)
            · have c29 : k1 ≤ v21 := c29
              refine av_wp_sqF ck_12 2 (pc' := 2) (lv' := [some (.inr (.inr (.inl (some (b))))), some (.inl (k1 + (1))), some (.inl v21), a3, a4, a5]) (st' := []) (h' := h6) rfl ?_
              exact I11 _ (by omega) ((k1 + (1))) (some (.inl v21)) (a3) (a4) (a5) h6 rfl la3 la4 la5 (by omega) (by omega) i7 F8 rfl
            · have c30 : v21 < k1 := c30
              refine av_wp_sqF ck_12 1 (pc' := 47) (lv' := [some (.inr (.inr (.inl (some (b))))), some (.inl k1), some (.inl v21), a3, a4, a5]) (st' := [.inr (.inr (.inl (some (b))))]) (h' := h6) rfl ?_
              refine wq_gr (p' := 50) (ck_12 _ _ rfl) rfl (congrArg Prod.fst (ib_k0 i7)) rfl (ib_g i7 2 rfl) ?_
              refine av_wp_sqF ck_12 1 (pc' := 51) (lv' := [some (.inr (.inr (.inl (some (b))))), some (.inl k1), some (.inl v21), a3, a4, a5]) (st' := [.inl v21, .inr (.inr (.inl (some (b + 1 + 2))))]) (h' := h6) rfl ?_
              obtain ⟨v31, e32⟩ : ∃ v, hA h6 (b + 1 + 2) (Int.toNat (v21)) = v := ⟨_, rfl⟩
              refine wq_bl (p' := 52) (n := 12) (ck_12 _ _ rfl) rfl ((Or.inr (ib_k i7 2 rfl))) (by omega) (e32) ?_
              refine wq_c1 (p' := 55) (ck_12 _ _ rfl) rfl ?_ ?_
              · refine av_wp_sqF ck_12 2 (pc' := 2) (lv' := [some (.inr (.inr (.inl (some (b))))), some (.inl (k1 + (1))), some (.inl v21), a3, a4, a5]) (st' := []) (h' := h6) rfl ?_
                exact I11 _ (by omega) ((k1 + (1))) (some (.inl v21)) (a3) (a4) (a5) h6 rfl la3 la4 la5 (by omega) (by omega) i7 F8 rfl
              · refine av_wp_sqF ck_12 4 (pc' := 59) (lv' := [some (.inr (.inr (.inl (some (b))))), some (.inl k1), some (.inl v21), a3, a4, a5]) (st' := [.inl k1, .inr (.inr (.inl (some (b)))), .inl k1, .inr (.inr (.inl (some (b))))]) (h' := h6) rfl ?_
                refine wq_cv (p' := 62) (av_qc (.invokevirtual 129) 13 1 0 0) 3 cd_13 [.inl k1] (b) 0 [some (.inr (.inr (.inl (some (b))))), some (.inl k1), none] (ck_12 _ _ rfl) rfl rfl pp_13 rfl rfl rfl (congrArg Prod.fst (ib_k0 i7)) rfl rfl rfl rfl ?_
                refine ct_13 i7 F8 (k1) (by omega) (fun v34 p35 => ?_)
                show av_wp _ cd_12 62 [some (.inr (.inr (.inl (some (b))))), some (.inl k1), some (.inl v21), a3, a4, a5] [.inl v34, .inl k1, .inr (.inr (.inl (some (b))))] h6 _
                refine wq_cv (p' := 65) (av_qc (.invokevirtual 115) 6 2 0 0) 3 cd_6 [.inl v34, .inl k1] (b) 0 [some (.inr (.inr (.inl (some (b))))), some (.inl k1), some (.inl v34)] (ck_12 _ _ rfl) rfl rfl pp_6 rfl rfl rfl (congrArg Prod.fst (ib_k0 i7)) rfl rfl rfl rfl ?_
                refine ct_6 i7 F8 (k1) (v34) (by omega) (by omega) (fun v36 => ?_)
                show av_wp _ cd_12 65 [some (.inr (.inr (.inl (some (b))))), some (.inl k1), some (.inl v21), a3, a4, a5] [.inl v36] h6 _
                refine av_wp_sqF ck_12 4 (pc' := 69) (lv' := [some (.inr (.inr (.inl (some (b))))), some (.inl k1), some (.inl v21), some (.inl v36), a4, a5]) (st' := [.inl (1), .inl v21, .inr (.inr (.inl (some (b))))]) (h' := h6) rfl ?_
                refine wq_cv (p' := 72) (av_qc (.invokevirtual 115) 6 2 0 0) 3 cd_6 [.inl (1), .inl v21] (b) 0 [some (.inr (.inr (.inl (some (b))))), some (.inl v21), some (.inl (1))] (ck_12 _ _ rfl) rfl rfl pp_6 rfl rfl rfl (congrArg Prod.fst (ib_k0 i7)) rfl rfl rfl rfl ?_
                refine ct_6 i7 F8 (v21) ((1)) (by omega) (by omega) (fun v38 => ?_)
                show av_wp _ cd_12 72 [some (.inr (.inr (.inl (some (b))))), some (.inl k1), some (.inl v21), some (.inl v36), a4, a5] [.inl v38] h6 _
                refine av_wp_sqF ck_12 3 (pc' := 77) (lv' := [some (.inr (.inr (.inl (some (b))))), some (.inl k1), some (.inl v21), some (.inl v36), some (.inl v38), a5]) (st' := [.inl (-1), .inl v38]) (h' := h6) rfl ?_
                refine wq_c2 (p' := 80) (ck_12 _ _ rfl) rfl ?_ ?_
                · refine av_wp_sqF ck_12 4 (pc' := 100) (lv' := [some (.inr (.inr (.inl (some (b))))), some (.inl k1), some (.inl v21), some (.inl v36), some (.inl v38), some (.inl (0))]) (st' := [.inr (.inr (.inl (some (b)))), .inl v36]) (h' := h6) rfl ?_
                  obtain ⟨v40, e41⟩ : ∃ v, hF h6 b 15 = v := ⟨_, rfl⟩
                  refine wq_gi (p' := 103) (ck_12 _ _ rfl) rfl (congrArg Prod.fst (ib_k0 i7)) rfl (e41) ?_
                  refine wq_c2 (p' := 106) (ck_12 _ _ rfl) rfl ?_ ?_
                  · refine av_wp_sqF ck_12 2 (pc' := 2) (lv' := [some (.inr (.inr (.inl (some (b))))), some (.inl (k1 + (1))), some (.inl v21), some (.inl v36), some (.inl v38), some (.inl (0))]) (st' := []) (h' := h6) rfl ?_
                    exact I11 _ (by omega) ((k1 + (1))) (some (.inl v21)) (some (.inl v36)) (some (.inl v38)) (some (.inl (0))) h6 rfl rfl rfl rfl (by omega) (by omega) i7 F8 rfl
                  · refine av_wp_sqF ck_12 4 (pc' := 2) (lv' := [some (.inr (.inr (.inl (some (b))))), some (.inl (k1 + (1))), some (.inl v21), some (.inl v36), some (.inl v38), some (.inl (0))]) (st' := []) (h' := h6) rfl ?_
                    exact I11 _ (by omega) ((k1 + (1))) (some (.inl v21)) (some (.inl v36)) (some (.inl v38)) (some (.inl (0))) h6 rfl rfl rfl rfl (by omega) (by omega) i7 F8 rfl
                · refine av_wp_sqF ck_12 4 (pc' := 85) (lv' := [some (.inr (.inr (.inl (some (b))))), some (.inl k1), some (.inl v21), some (.inl v36), some (.inl v38), a5]) (st' := [.inl (0), .inl k1, .inr (.inr (.inl (some (b)))), .inl v38]) (h' := h6) rfl ?_
                  refine wq_cv (p' := 88) (av_qc (.invokevirtual 115) 6 2 0 0) 3 cd_6 [.inl (0), .inl k1] (b) 0 [some (.inr (.inr (.inl (some (b))))), some (.inl k1), some (.inl (0))] (ck_12 _ _ rfl) rfl rfl pp_6 rfl rfl rfl (congrArg Prod.fst (ib_k0 i7)) rfl rfl rfl rfl ?_
                  refine ct_6 i7 F8 (k1) ((0)) (by omega) (by omega) (fun v42 => ?_)
                  show av_wp _ cd_12 88 [some (.inr (.inr (.inl (some (b))))), some (.inl k1), some (.inl v21), some (.inl v36), some (.inl v38), a5] [.inl v42, .inl v38] h6 _
                  refine wq_c2 (p' := 91) (ck_12 _ _ rfl) rfl ?_ ?_
                  · refine av_wp_sqF ck_12 4 (pc' := 100) (lv' := [some (.inr (.inr (.inl (some (b))))), some (.inl k1), some (.inl v21), some (.inl v36), some (.inl v38), some (.inl (0))]) (st' := [.inr (.inr (.inl (some (b)))), .inl v36]) (h' := h6) rfl ?_
                    obtain ⟨v44, e45⟩ : ∃ v, hF h6 b 15 = v := ⟨_, rfl⟩
                    refine wq_gi (p' := 103) (ck_12 _ _ rfl) rfl (congrArg Prod.fst (ib_k0 i7)) rfl (e45) ?_
                    refine wq_c2 (p' := 106) (ck_12 _ _ rfl) rfl ?_ ?_
                    · refine av_wp_sqF ck_12 2 (pc' := 2) (lv' := [some (.inr (.inr (.inl (some (b))))), some (.inl (k1 + (1))), some (.inl v21), some (.inl v36), some (.inl v38), some (.inl (0))]) (st' := []) (h' := h6) rfl ?_
                      exact I11 _ (by omega) ((k1 + (1))) (some (.inl v21)) (some (.inl v36)) (some (.inl v38)) (some (.inl (0))) h6 rfl rfl rfl rfl (by omega) (by omega) i7 F8 rfl
                    · refine av_wp_sqF ck_12 4 (pc' := 2) (lv' := [some (.inr (.inr (.inl (some (b))))), some (.inl (k1 + (1))), some (.inl v21), some (.inl v36), some (.inl v38), some (.inl (0))]) (st' := []) (h' := h6) rfl ?_
                      exact I11 _ (by omega) ((k1 + (1))) (some (.inl v21)) (some (.inl v36)) (some (.inl v38)) (some (.inl (0))) h6 rfl rfl rfl rfl (by omega) (by omega) i7 F8 rfl
                  · refine av_wp_sqF ck_12 5 (pc' := 100) (lv' := [some (.inr (.inr (.inl (some (b))))), some (.inl k1), some (.inl v21), some (.inl v36), some (.inl v38), some (.inl (1))]) (st' := [.inr (.inr (.inl (some (b)))), .inl v36]) (h' := h6) rfl ?_
                    obtain ⟨v46, e47⟩ : ∃ v, hF h6 b 15 = v := ⟨_, rfl⟩
                    refine wq_gi (p' := 103) (ck_12 _ _ rfl) rfl (congrArg Prod.fst (ib_k0 i7)) rfl (e47) ?_
                    refine wq_c2 (p' := 106) (ck_12 _ _ rfl) rfl ?_ ?_
                    · refine av_wp_sqF ck_12 2 (pc' := 2) (lv' := [some (.inr (.inr (.inl (some (b))))), some (.inl (k1 + (1))), some (.inl v21), some (.inl v36), some (.inl v38), some (.inl (1))]) (st' := []) (h' := h6) rfl ?_
                      exact I11 _ (by omega) ((k1 + (1))) (some (.inl v21)) (some (.inl v36)) (some (.inl v38)) (some (.inl (1))) h6 rfl rfl rfl rfl (by omega) (by omega) i7 F8 rfl
                    · refine av_wp_sqF ck_12 3 (pc' := 112) (lv' := [some (.inr (.inr (.inl (some (b))))), some (.inl k1), some (.inl v21), some (.inl v36), some (.inl v38), some (.inl (1))]) (st' := [.inr (.inr (.inl (some (b))))]) (h' := h6) rfl ?_
                      refine wq_gr (p' := 115) (ck_12 _ _ rfl) rfl (congrArg Prod.fst (ib_k0 i7)) rfl (ib_g i7 9 rfl) ?_
                      refine av_wp_sqF ck_12 1 (pc' := 116) (lv' := [some (.inr (.inr (.inl (some (b))))), some (.inl k1), some (.inl v21), some (.inl v36), some (.inl v38), some (.inl (1))]) (st' := [.inl k1, .inr (.inr (.inl (some (b + 1 + 9))))]) (h' := h6) rfl ?_
                      obtain ⟨v48, e49⟩ : ∃ v, hA h6 (b + 1 + 9) (Int.toNat (k1)) = v := ⟨_, rfl⟩
                      refine wq_al (p' := 117) (n := 12) (ck_12 _ _ rfl) rfl (ib_k i7 9 rfl) (by omega) (e49) ?_
                      refine av_wp_sqF ck_12 1 (pc' := 118) (lv' := [some (.inr (.inr (.inl (some (b))))), some (.inl k1), some (.inl v21), some (.inl v36), some (.inl v38), some (.inl (1))]) (st' := [.inl v36, .inl v48]) (h' := h6) rfl ?_
                      refine wq_c2 (p' := 121) (ck_12 _ _ rfl) rfl ?_ ?_
                      · refine av_wp_sqF ck_12 2 (pc' := 2) (lv' := [some (.inr (.inr (.inl (some (b))))), some (.inl (k1 + (1))), some (.inl v21), some (.inl v36), some (.inl v38), some (.inl (1))]) (st' := []) (h' := h6) rfl ?_
                        exact I11 _ (by omega) ((k1 + (1))) (some (.inl v21)) (some (.inl v36)) (some (.inl v38)) (some (.inl (1))) h6 rfl rfl rfl rfl (by omega) (by omega) i7 F8 rfl
                      · refine av_wp_sqF ck_12 3 (pc' := 124) (lv' := [some (.inr (.inr (.inl (some (b))))), some (.inl k1), some (.inl v21), some (.inl v36), some (.inl v38), some (.inl (1))]) (st' := [.inl v36, .inl v21, .inr (.inr (.inl (some (b))))]) (h' := h6) rfl ?_
                        refine wq_cv (p' := 127) (av_qc (.invokevirtual 132) 16 2 0 0) 3 cd_16 [.inl v36, .inl v21] (b) 0 [some (.inr (.inr (.inl (some (b))))), some (.inl v21), some (.inl v36)] (ck_12 _ _ rfl) rfl rfl pp_16 rfl rfl rfl (congrArg Prod.fst (ib_k0 i7)) rfl rfl rfl rfl ?_
                        refine ct_16 i7 F8 (v21) (v36) (by omega) (fun v51 p52 => ?_)
                        show av_wp _ cd_12 127 [some (.inr (.inr (.inl (some (b))))), some (.inl k1), some (.inl v21), some (.inl v36), some (.inl v38), some (.inl (1))] [.inl v51] h6 _
                        refine wq_k1 (p' := 130) (ck_12 _ _ rfl) rfl ⟨by omega, by omega⟩ (fun c53 => ?_) (fun c54 => ?_)
                        · have c53 : v51 = (0) := c53
                          refine av_wp_sqF ck_12 2 (pc' := 2) (lv' := [some (.inr (.inr (.inl (some (b))))), some (.inl (k1 + (1))), some (.inl v21), some (.inl v36), some (.inl v38), some (.inl (1))]) (st' := []) (h' := h6) rfl ?_
                          exact I11 _ (by omega) ((k1 + (1))) (some (.inl v21)) (some (.inl v36)) (some (.inl v38)) (some (.inl (1))) h6 rfl rfl rfl rfl (by omega) (by omega) i7 F8 rfl
                        · have c54 : v51 ≠ (0) := c54
                          refine av_wp_sqF ck_12 2 (pc' := 132) (lv' := [some (.inr (.inr (.inl (some (b))))), some (.inl k1), some (.inl v21), some (.inl v36), some (.inl v38), some (.inl (1))]) (st' := [.inl k1, .inr (.inr (.inl (some (b))))]) (h' := h6) rfl ?_
                          refine ib_pi (p' := 135) rfl rfl i7 F8 (by omega) (by omega) (fun h55 i56 F57 => ?_)
                          refine av_wp_sqF ck_12 2 (pc' := 137) (lv' := [some (.inr (.inr (.inl (some (b))))), some (.inl k1), some (.inl v21), some (.inl v36), some (.inl v38), some (.inl (1))]) (st' := [.inl v21, .inr (.inr (.inl (some (b))))]) (h' := h55) rfl ?_
                          refine ib_pi (p' := 140) rfl rfl i56 F57 (by omega) (by omega) (fun h58 i59 F60 => ?_)
                          refine av_wp_sqF ck_12 2 (pc' := 142) (lv' := [some (.inr (.inr (.inl (some (b))))), some (.inl k1), some (.inl v21), some (.inl v36), some (.inl v38), some (.inl (1))]) (st' := [.inl v36, .inr (.inr (.inl (some (b))))]) (h' := h58) rfl ?_
                          refine ib_pi (p' := 145) rfl rfl i59 F60 (by omega) (by omega) (fun h61 i62 F63 => ?_)
                          refine av_wp_sqF ck_12 2 (pc' := 2) (lv' := [some (.inr (.inr (.inl (some (b))))), some (.inl (k1 + (1))), some (.inl v21), some (.inl v36), some (.inl v38), some (.inl (1))]) (st' := []) (h' := h61) rfl ?_
                          exact I11 _ (by omega) ((k1 + (1))) (some (.inl v21)) (some (.inl v36)) (some (.inl v38)) (some (.inl (1))) h61 rfl rfl rfl rfl (by omega) (by omega) i62 F63 rfl
  exact L10 _ ((0)) (none) (none) (none) (none) h rfl rfl rfl rfl (by omega) (by omega) i F rfl

