set_option maxRecDepth 100000 in
set_option maxHeartbeats 4000000 in
theorem ct_106 {h : av_H} (I : IC h) (n : Int) (qn : -2147483648 ≤ n ∧ n ≤ 2147483647) (l : Int) (ql : -2147483648 ≤ l ∧ l ≤ 2147483647) (x : Int) (qx : -2147483648 ≤ x ∧ x ≤ 2147483647) (w : Int) (qw : -2147483648 ≤ w ∧ w ≤ 2147483647) {Q : Option av_V → av_H → Prop} (hq : ∀ (v : Int) h', IC h' → Fr h h' → Q (some (.inl v)) h') : av_wp none cd_106 0 [some (.inr (.inr (.inl (some (0))))), some (.inl n), some (.inl l), some (.inl x), some (.inl w), none, none] [] h Q := by
  have F := Fr_rf h
  refine av_wp_sqF ck_106 1 (pc' := 2) (lv' := [some (.inr (.inr (.inl (some (0))))), some (.inl n), some (.inl l), some (.inl x), some (.inl w), none, none]) (st' := [.inl w]) (h' := h) rfl ?_
  refine wq_k1 (p' := 5) (ck_106 _ _ rfl) rfl ⟨by omega, by omega⟩ (fun c1 => ?_) (fun c2 => ?_)
  · have c1 : w < (0) := c1
    refine av_wp_sqF ck_106 1 (pc' := 13) (lv' := [some (.inr (.inr (.inl (some (0))))), some (.inl n), some (.inl l), some (.inl x), some (.inl w), none, none]) (st' := [.inl w]) (h' := h) rfl ?_
    refine wq_cs (p' := 16) (av_qc (.invokestatic 133) 102 1 2 7) 1 cd_102 [.inl w] [.inl w] [some (.inl w)] (ck_106 _ _ rfl) rfl rfl pp_102 (fun _ => rfl) rfl rfl ?_
    refine ct_102 (w) (by omega) (fun v3 p4 => ?_)
    show av_wp _ cd_106 16 [some (.inr (.inr (.inl (some (0))))), some (.inl n), some (.inl l), some (.inl x), some (.inl w), none, none] [.inl v3] h _
    refine wq_k1 (p' := 19) (ck_106 _ _ rfl) rfl ⟨by omega, by omega⟩ (fun c5 => ?_) (fun c6 => ?_)
    · have c5 : v3 = (0) := c5
      refine av_wp_sqF ck_106 5 (pc' := 46) (lv' := [some (.inr (.inr (.inl (some (0))))), some (.inl n), some (.inl l), some (.inl x), some (.inl w), some (.inl (0)), none]) (st' := [.inl (-3)]) (h' := h) rfl ?_
      refine av_wp_ret (v := some (.inl (-3))) (ck_106 _ _ rfl) rfl rfl ?_
      exact hq _ h I F
    · have c6 : v3 ≠ (0) := c6
      refine av_wp_sqF ck_106 6 (pc' := 32) (lv' := [some (.inr (.inr (.inl (some (0))))), some (.inl n), some (.inl l), some (.inl x), some (.inl w), some (.inl (1)), none]) (st' := [.inr (.inr (.inl (some (0))))]) (h' := h) rfl ?_
      refine wq_gr (p' := 35) (ck_106 _ _ rfl) rfl (congrArg Prod.fst (ly_k I.1 0 rfl)) rfl (ly_g I.1 0 5 26 rfl) ?_
      refine av_wp_sqF ck_106 3 (pc' := 38) (lv' := [some (.inr (.inr (.inl (some (0))))), some (.inl n), some (.inl l), some (.inl x), some (.inl w), some (.inl (1)), none]) (st' := [.inl x, .inl l, .inl n, .inr (.inr (.inl (some (26))))]) (h' := h) rfl ?_
      refine wq_cv (p' := 41) (av_qc (.invokevirtual 160) 48 3 0 3) 5 cd_48 [.inl x, .inl l, .inl n] (26) 3 [some (.inr (.inr (.inl (some (26))))), some (.inl n), some (.inl l), some (.inl x), none] (ck_106 _ _ rfl) rfl rfl pp_48 rfl rfl rfl (congrArg Prod.fst (ly_k I.1 26 rfl)) rfl rfl rfl rfl ?_
      refine ct_48 I (n) (by omega) (l) (by omega) (x) (by omega) (fun h7 i8 F9 => ?_) (fun h7 t11 c12 s13 r14 d15 i8 z10 F9 => ?_)
      · have F16 := Fr_tr F F9.1
        show av_wp _ cd_106 41 [some (.inr (.inr (.inl (some (0))))), some (.inl n), some (.inl l), some (.inl x), some (.inl w), some (.inl (1)), none] [.inl (0)] h7 _
        refine av_wp_sqF ck_106 2 (pc' := 46) (lv' := [some (.inr (.inr (.inl (some (0))))), some (.inl n), some (.inl l), some (.inl x), some (.inl w), some (.inl (1)), none]) (st' := [.inl (-3)]) (h' := h7) rfl ?_
        refine av_wp_ret (v := some (.inl (-3))) (ck_106 _ _ rfl) rfl rfl ?_
        exact hq _ h7 i8 F16
      · have F17 := Fr_tr F F9.1
        have g18 := co_s12 (ib_co i8)
        have g19 := co_cbr (ib_co i8)
        show av_wp _ cd_106 41 [some (.inr (.inr (.inl (some (0))))), some (.inl n), some (.inl l), some (.inl x), some (.inl w), some (.inl (1)), none] [.inl (1)] h7 _
        refine av_wp_sqF ck_106 2 (pc' := 48) (lv' := [some (.inr (.inr (.inl (some (0))))), some (.inl n), some (.inl l), some (.inl x), some (.inl w), some (.inl (1)), none]) (st' := [.inr (.inr (.inl (some (0))))]) (h' := h7) rfl ?_
        refine wq_gr (p' := 51) (ck_106 _ _ rfl) rfl (congrArg Prod.fst (ly_k (ib_ic i8).1 0 rfl)) rfl (ly_g (ib_ic i8).1 0 5 26 rfl) ?_
        refine wq_gr (p' := 54) (ck_106 _ _ rfl) rfl (congrArg Prod.fst (ly_k (ib_ic i8).1 26 rfl)) rfl (ly_g (ib_ic i8).1 26 1 35 rfl) ?_
        refine av_wp_sqF ck_106 2 (pc' := 58) (lv' := [some (.inr (.inr (.inl (some (0))))), some (.inl n), some (.inl l), some (.inl x), some (.inl w), some (.inl (1)), some (.inr (.inr (.inl (some (35)))))]) (st' := [.inr (.inr (.inl (some (35))))]) (h' := h7) rfl ?_
        refine wq_cv (p' := 61) (av_qc (.invokevirtual 168) 3 0 0 0) 1 cd_3 [] (35) 0 [some (.inr (.inr (.inl (some (35)))))] (ck_106 _ _ rfl) rfl rfl pp_3 rfl rfl rfl (congrArg Prod.fst (bn_k0 (ib_ic i8).1 (Or.inl rfl))) rfl rfl rfl rfl ?_
        refine ct_3 i8 (Fr1_rf h7)   (fun v20 p21 => ?_)
        show av_wp _ cd_106 61 [some (.inr (.inr (.inl (some (0))))), some (.inl n), some (.inl l), some (.inl x), some (.inl w), some (.inl (1)), some (.inr (.inr (.inl (some (35)))))] [.inl v20] h7 _
        refine wq_k1 (p' := 64) (ck_106 _ _ rfl) rfl ⟨by omega, by omega⟩ (fun c22 => ?_) (fun c23 => ?_)
        · have c22 : v20 ≠ (0) := c22
          refine av_wp_sqF ck_106 1 (pc' := 69) (lv' := [some (.inr (.inr (.inl (some (0))))), some (.inl n), some (.inl l), some (.inl x), some (.inl w), some (.inl (1)), some (.inr (.inr (.inl (some (35)))))]) (st' := [.inl w]) (h' := h7) rfl ?_
          rcases (show w = 0 ∨ w = 1 ∨ w = 2 ∨ (w < 0 ∨ 2 < w) by omega) with e24 | e24 | e24 | e24
          · exfalso; omega
          · exfalso; omega
          · exfalso; omega
          · refine wq_td (t := 114) (ck_106 _ _ rfl) ⟨by omega, by omega⟩ e24 rfl ?_
            refine av_wp_sqF ck_106 4 (pc' := 121) (lv' := [some (.inr (.inr (.inl (some (0))))), some (.inl n), some (.inl l), some (.inl x), some (.inl w), some (.inl (1)), some (.inr (.inr (.inl (some (35)))))]) (st' := [.inl (w - (10)), .inr (.inr (.inl (some (35))))]) (h' := h7) rfl ?_
            refine wq_cv (p' := 124) (av_qc (.invokevirtual 183) 17 1 0 0) 4 cd_17 [.inl (w - (10))] (35) 0 [some (.inr (.inr (.inl (some (35))))), some (.inl (w - (10))), none, none] (ck_106 _ _ rfl) rfl rfl pp_17 rfl rfl rfl (congrArg Prod.fst (bn_k0 (ib_ic i8).1 (Or.inl rfl))) rfl rfl rfl rfl ?_
            refine ct_17 i8 (Fr1_rf h7) ((w - (10))) (by omega) (fun v25 => ?_)
            show av_wp _ cd_106 124 [some (.inr (.inr (.inl (some (0))))), some (.inl n), some (.inl l), some (.inl x), some (.inl w), some (.inl (1)), some (.inr (.inr (.inl (some (35)))))] [.inl v25] h7 _
            refine av_wp_ret (v := some (.inl v25)) (ck_106 _ _ rfl) rfl rfl ?_
            exact hq _ h7 (ib_ic i8) F17
        · have c23 : v20 = (0) := c23
          refine av_wp_sqF ck_106 1 (pc' := 66) (lv' := [some (.inr (.inr (.inl (some (0))))), some (.inl n), some (.inl l), some (.inl x), some (.inl w), some (.inl (1)), some (.inr (.inr (.inl (some (35)))))]) (st' := [.inl (-2)]) (h' := h7) rfl ?_
          refine av_wp_ret (v := some (.inl (-2))) (ck_106 _ _ rfl) rfl rfl ?_
          exact hq _ h7 (ib_ic i8) F17
  · have c2 : (0) ≤ w := c2
    refine av_wp_sqF ck_106 2 (pc' := 8) (lv' := [some (.inr (.inr (.inl (some (0))))), some (.inl n), some (.inl l), some (.inl x), some (.inl w), none, none]) (st' := [.inl (2), .inl w]) (h' := h) rfl ?_
    refine wq_k2 (p' := 11) (ck_106 _ _ rfl) rfl ⟨by omega, by omega⟩ ⟨by omega, by omega⟩ (fun c27 => ?_) (fun c28 => ?_)
    · have c27 : w ≤ (2) := c27
      refine av_wp_sqF ck_106 6 (pc' := 32) (lv' := [some (.inr (.inr (.inl (some (0))))), some (.inl n), some (.inl l), some (.inl x), some (.inl w), some (.inl (1)), none]) (st' := [.inr (.inr (.inl (some (0))))]) (h' := h) rfl ?_
      refine wq_gr (p' := 35) (ck_106 _ _ rfl) rfl (congrArg Prod.fst (ly_k I.1 0 rfl)) rfl (ly_g I.1 0 5 26 rfl) ?_
      refine av_wp_sqF ck_106 3 (pc' := 38) (lv' := [some (.inr (.inr (.inl (some (0))))), some (.inl n), some (.inl l), some (.inl x), some (.inl w), some (.inl (1)), none]) (st' := [.inl x, .inl l, .inl n, .inr (.inr (.inl (some (26))))]) (h' := h) rfl ?_
      refine wq_cv (p' := 41) (av_qc (.invokevirtual 160) 48 3 0 3) 5 cd_48 [.inl x, .inl l, .inl n] (26) 3 [some (.inr (.inr (.inl (some (26))))), some (.inl n), some (.inl l), some (.inl x), none] (ck_106 _ _ rfl) rfl rfl pp_48 rfl rfl rfl (congrArg Prod.fst (ly_k I.1 26 rfl)) rfl rfl rfl rfl ?_
      refine ct_48 I (n) (by omega) (l) (by omega) (x) (by omega) (fun h29 i30 F31 => ?_) (fun h29 t33 c34 s35 r36 d37 i30 z32 F31 => ?_)
      · have F38 := Fr_tr F F31.1
        show av_wp _ cd_106 41 [some (.inr (.inr (.inl (some (0))))), some (.inl n), some (.inl l), some (.inl x), some (.inl w), some (.inl (1)), none] [.inl (0)] h29 _
        refine av_wp_sqF ck_106 2 (pc' := 46) (lv' := [some (.inr (.inr (.inl (some (0))))), some (.inl n), some (.inl l), some (.inl x), some (.inl w), some (.inl (1)), none]) (st' := [.inl (-3)]) (h' := h29) rfl ?_
        refine av_wp_ret (v := some (.inl (-3))) (ck_106 _ _ rfl) rfl rfl ?_
        exact hq _ h29 i30 F38
      · have F39 := Fr_tr F F31.1
        have g40 := co_s12 (ib_co i30)
        have g41 := co_cbr (ib_co i30)
        show av_wp _ cd_106 41 [some (.inr (.inr (.inl (some (0))))), some (.inl n), some (.inl l), some (.inl x), some (.inl w), some (.inl (1)), none] [.inl (1)] h29 _
        refine av_wp_sqF ck_106 2 (pc' := 48) (lv' := [some (.inr (.inr (.inl (some (0))))), some (.inl n), some (.inl l), some (.inl x), some (.inl w), some (.inl (1)), none]) (st' := [.inr (.inr (.inl (some (0))))]) (h' := h29) rfl ?_
        refine wq_gr (p' := 51) (ck_106 _ _ rfl) rfl (congrArg Prod.fst (ly_k (ib_ic i30).1 0 rfl)) rfl (ly_g (ib_ic i30).1 0 5 26 rfl) ?_
        refine wq_gr (p' := 54) (ck_106 _ _ rfl) rfl (congrArg Prod.fst (ly_k (ib_ic i30).1 26 rfl)) rfl (ly_g (ib_ic i30).1 26 1 35 rfl) ?_
        refine av_wp_sqF ck_106 2 (pc' := 58) (lv' := [some (.inr (.inr (.inl (some (0))))), some (.inl n), some (.inl l), some (.inl x), some (.inl w), some (.inl (1)), some (.inr (.inr (.inl (some (35)))))]) (st' := [.inr (.inr (.inl (some (35))))]) (h' := h29) rfl ?_
        refine wq_cv (p' := 61) (av_qc (.invokevirtual 168) 3 0 0 0) 1 cd_3 [] (35) 0 [some (.inr (.inr (.inl (some (35)))))] (ck_106 _ _ rfl) rfl rfl pp_3 rfl rfl rfl (congrArg Prod.fst (bn_k0 (ib_ic i30).1 (Or.inl rfl))) rfl rfl rfl rfl ?_
        refine ct_3 i30 (Fr1_rf h29)   (fun v42 p43 => ?_)
        show av_wp _ cd_106 61 [some (.inr (.inr (.inl (some (0))))), some (.inl n), some (.inl l), some (.inl x), some (.inl w), some (.inl (1)), some (.inr (.inr (.inl (some (35)))))] [.inl v42] h29 _
        refine wq_k1 (p' := 64) (ck_106 _ _ rfl) rfl ⟨by omega, by omega⟩ (fun c44 => ?_) (fun c45 => ?_)
        · have c44 : v42 ≠ (0) := c44
          refine av_wp_sqF ck_106 1 (pc' := 69) (lv' := [some (.inr (.inr (.inl (some (0))))), some (.inl n), some (.inl l), some (.inl x), some (.inl w), some (.inl (1)), some (.inr (.inr (.inl (some (35)))))]) (st' := [.inl w]) (h' := h29) rfl ?_
          rcases (show w = 0 ∨ w = 1 ∨ w = 2 ∨ (w < 0 ∨ 2 < w) by omega) with e46 | e46 | e46 | e46
          · refine wq_tc (t := 96) (ck_106 _ _ rfl) e46 rfl ?_
            refine av_wp_sqF ck_106 1 (pc' := 98) (lv' := [some (.inr (.inr (.inl (some (0))))), some (.inl n), some (.inl l), some (.inl x), some (.inl w), some (.inl (1)), some (.inr (.inr (.inl (some (35)))))]) (st' := [.inr (.inr (.inl (some (35))))]) (h' := h29) rfl ?_
            obtain ⟨v47, e48⟩ : ∃ v, hF h29 35 13 = v := ⟨_, rfl⟩
            have g49 := ic_mb (ib_ic i30) (Or.inl rfl)
            rw [e48] at g49
            refine wq_gi (p' := 101) (ck_106 _ _ rfl) rfl (congrArg Prod.fst (bn_k0 (ib_ic i30).1 (Or.inl rfl))) rfl (e48) ?_
            refine av_wp_ret (v := some (.inl v47)) (ck_106 _ _ rfl) rfl rfl ?_
            exact hq _ h29 (ib_ic i30) F39
          · refine wq_tc (t := 102) (ck_106 _ _ rfl) e46 rfl ?_
            refine av_wp_sqF ck_106 1 (pc' := 104) (lv' := [some (.inr (.inr (.inl (some (0))))), some (.inl n), some (.inl l), some (.inl x), some (.inl w), some (.inl (1)), some (.inr (.inr (.inl (some (35)))))]) (st' := [.inr (.inr (.inl (some (35))))]) (h' := h29) rfl ?_
            obtain ⟨v50, e51⟩ : ∃ v, hF h29 35 14 = v := ⟨_, rfl⟩
            have g52 := ic_mo (ib_ic i30) (Or.inl rfl)
            rw [e51] at g52
            refine wq_gi (p' := 107) (ck_106 _ _ rfl) rfl (congrArg Prod.fst (bn_k0 (ib_ic i30).1 (Or.inl rfl))) rfl (e51) ?_
            refine av_wp_ret (v := some (.inl v50)) (ck_106 _ _ rfl) rfl rfl ?_
            exact hq _ h29 (ib_ic i30) F39
          · refine wq_tc (t := 108) (ck_106 _ _ rfl) e46 rfl ?_
            refine av_wp_sqF ck_106 1 (pc' := 110) (lv' := [some (.inr (.inr (.inl (some (0))))), some (.inl n), some (.inl l), some (.inl x), some (.inl w), some (.inl (1)), some (.inr (.inr (.inl (some (35)))))]) (st' := [.inr (.inr (.inl (some (35))))]) (h' := h29) rfl ?_
            obtain ⟨v53, e54⟩ : ∃ v, hF h29 35 15 = v := ⟨_, rfl⟩
            refine wq_gi (p' := 113) (ck_106 _ _ rfl) rfl (congrArg Prod.fst (bn_k0 (ib_ic i30).1 (Or.inl rfl))) rfl (e54) ?_
            refine av_wp_ret (v := some (.inl v53)) (ck_106 _ _ rfl) rfl rfl ?_
            exact hq _ h29 (ib_ic i30) F39
          · refine wq_td (t := 114) (ck_106 _ _ rfl) ⟨by omega, by omega⟩ e46 rfl ?_
            refine av_wp_sqF ck_106 4 (pc' := 121) (lv' := [some (.inr (.inr (.inl (some (0))))), some (.inl n), some (.inl l), some (.inl x), some (.inl w), some (.inl (1)), some (.inr (.inr (.inl (some (35)))))]) (st' := [.inl (w - (10)), .inr (.inr (.inl (some (35))))]) (h' := h29) rfl ?_
            refine wq_cv (p' := 124) (av_qc (.invokevirtual 183) 17 1 0 0) 4 cd_17 [.inl (w - (10))] (35) 0 [some (.inr (.inr (.inl (some (35))))), some (.inl (w - (10))), none, none] (ck_106 _ _ rfl) rfl rfl pp_17 rfl rfl rfl (congrArg Prod.fst (bn_k0 (ib_ic i30).1 (Or.inl rfl))) rfl rfl rfl rfl ?_
            refine ct_17 i30 (Fr1_rf h29) ((w - (10))) (by omega) (fun v55 => ?_)
            show av_wp _ cd_106 124 [some (.inr (.inr (.inl (some (0))))), some (.inl n), some (.inl l), some (.inl x), some (.inl w), some (.inl (1)), some (.inr (.inr (.inl (some (35)))))] [.inl v55] h29 _
            refine av_wp_ret (v := some (.inl v55)) (ck_106 _ _ rfl) rfl rfl ?_
            exact hq _ h29 (ib_ic i30) F39
        · have c45 : v42 = (0) := c45
          refine av_wp_sqF ck_106 1 (pc' := 66) (lv' := [some (.inr (.inr (.inl (some (0))))), some (.inl n), some (.inl l), some (.inl x), some (.inl w), some (.inl (1)), some (.inr (.inr (.inl (some (35)))))]) (st' := [.inl (-2)]) (h' := h29) rfl ?_
          refine av_wp_ret (v := some (.inl (-2))) (ck_106 _ _ rfl) rfl rfl ?_
          exact hq _ h29 (ib_ic i30) F39
    · have c28 : (2) < w := c28
      refine av_wp_sqF ck_106 1 (pc' := 13) (lv' := [some (.inr (.inr (.inl (some (0))))), some (.inl n), some (.inl l), some (.inl x), some (.inl w), none, none]) (st' := [.inl w]) (h' := h) rfl ?_
      refine wq_cs (p' := 16) (av_qc (.invokestatic 133) 102 1 2 7) 1 cd_102 [.inl w] [.inl w] [some (.inl w)] (ck_106 _ _ rfl) rfl rfl pp_102 (fun _ => rfl) rfl rfl ?_
      refine ct_102 (w) (by omega) (fun v57 p58 => ?_)
      show av_wp _ cd_106 16 [some (.inr (.inr (.inl (some (0))))), some (.inl n), some (.inl l), some (.inl x), some (.inl w), none, none] [.inl v57] h _
      refine wq_k1 (p' := 19) (ck_106 _ _ rfl) rfl ⟨by omega, by omega⟩ (fun c59 => ?_) (fun c60 => ?_)
      · have c59 : v57 = (0) := c59
        refine av_wp_sqF ck_106 5 (pc' := 46) (lv' := [some (.inr (.inr (.inl (some (0))))), some (.inl n), some (.inl l), some (.inl x), some (.inl w), some (.inl (0)), none]) (st' := [.inl (-3)]) (h' := h) rfl ?_
        refine av_wp_ret (v := some (.inl (-3))) (ck_106 _ _ rfl) rfl rfl ?_
        exact hq _ h I F
      · have c60 : v57 ≠ (0) := c60
        refine av_wp_sqF ck_106 6 (pc' := 32) (lv' := [some (.inr (.inr (.inl (some (0))))), some (.inl n), some (.inl l), some (.inl x), some (.inl w), some (.inl (1)), none]) (st' := [.inr (.inr (.inl (some (0))))]) (h' := h) rfl ?_
        refine wq_gr (p' := 35) (ck_106 _ _ rfl) rfl (congrArg Prod.fst (ly_k I.1 0 rfl)) rfl (ly_g I.1 0 5 26 rfl) ?_
        refine av_wp_sqF ck_106 3 (pc' := 38) (lv' := [some (.inr (.inr (.inl (some (0))))), some (.inl n), some (.inl l), some (.inl x), some (.inl w), some (.inl (1)), none]) (st' := [.inl x, .inl l, .inl n, .inr (.inr (.inl (some (26))))]) (h' := h) rfl ?_
        refine wq_cv (p' := 41) (av_qc (.invokevirtual 160) 48 3 0 3) 5 cd_48 [.inl x, .inl l, .inl n] (26) 3 [some (.inr (.inr (.inl (some (26))))), some (.inl n), some (.inl l), some (.inl x), none] (ck_106 _ _ rfl) rfl rfl pp_48 rfl rfl rfl (congrArg Prod.fst (ly_k I.1 26 rfl)) rfl rfl rfl rfl ?_
        refine ct_48 I (n) (by omega) (l) (by omega) (x) (by omega) (fun h61 i62 F63 => ?_) (fun h61 t65 c66 s67 r68 d69 i62 z64 F63 => ?_)
        · have F70 := Fr_tr F F63.1
          show av_wp _ cd_106 41 [some (.inr (.inr (.inl (some (0))))), some (.inl n), some (.inl l), some (.inl x), some (.inl w), some (.inl (1)), none] [.inl (0)] h61 _
          refine av_wp_sqF ck_106 2 (pc' := 46) (lv' := [some (.inr (.inr (.inl (some (0))))), some (.inl n), some (.inl l), some (.inl x), some (.inl w), some (.inl (1)), none]) (st' := [.inl (-3)]) (h' := h61) rfl ?_
          refine av_wp_ret (v := some (.inl (-3))) (ck_106 _ _ rfl) rfl rfl ?_
          exact hq _ h61 i62 F70
        · have F71 := Fr_tr F F63.1
          have g72 := co_s12 (ib_co i62)
          have g73 := co_cbr (ib_co i62)
          show av_wp _ cd_106 41 [some (.inr (.inr (.inl (some (0))))), some (.inl n), some (.inl l), some (.inl x), some (.inl w), some (.inl (1)), none] [.inl (1)] h61 _
          refine av_wp_sqF ck_106 2 (pc' := 48) (lv' := [some (.inr (.inr (.inl (some (0))))), some (.inl n), some (.inl l), some (.inl x), some (.inl w), some (.inl (1)), none]) (st' := [.inr (.inr (.inl (some (0))))]) (h' := h61) rfl ?_
          refine wq_gr (p' := 51) (ck_106 _ _ rfl) rfl (congrArg Prod.fst (ly_k (ib_ic i62).1 0 rfl)) rfl (ly_g (ib_ic i62).1 0 5 26 rfl) ?_
          refine wq_gr (p' := 54) (ck_106 _ _ rfl) rfl (congrArg Prod.fst (ly_k (ib_ic i62).1 26 rfl)) rfl (ly_g (ib_ic i62).1 26 1 35 rfl) ?_
          refine av_wp_sqF ck_106 2 (pc' := 58) (lv' := [some (.inr (.inr (.inl (some (0))))), some (.inl n), some (.inl l), some (.inl x), some (.inl w), some (.inl (1)), some (.inr (.inr (.inl (some (35)))))]) (st' := [.inr (.inr (.inl (some (35))))]) (h' := h61) rfl ?_
          refine wq_cv (p' := 61) (av_qc (.invokevirtual 168) 3 0 0 0) 1 cd_3 [] (35) 0 [some (.inr (.inr (.inl (some (35)))))] (ck_106 _ _ rfl) rfl rfl pp_3 rfl rfl rfl (congrArg Prod.fst (bn_k0 (ib_ic i62).1 (Or.inl rfl))) rfl rfl rfl rfl ?_
          refine ct_3 i62 (Fr1_rf h61)   (fun v74 p75 => ?_)
          show av_wp _ cd_106 61 [some (.inr (.inr (.inl (some (0))))), some (.inl n), some (.inl l), some (.inl x), some (.inl w), some (.inl (1)), some (.inr (.inr (.inl (some (35)))))] [.inl v74] h61 _
          refine wq_k1 (p' := 64) (ck_106 _ _ rfl) rfl ⟨by omega, by omega⟩ (fun c76 => ?_) (fun c77 => ?_)
          · have c76 : v74 ≠ (0) := c76
            refine av_wp_sqF ck_106 1 (pc' := 69) (lv' := [some (.inr (.inr (.inl (some (0))))), some (.inl n), some (.inl l), some (.inl x), some (.inl w), some (.inl (1)), some (.inr (.inr (.inl (some (35)))))]) (st' := [.inl w]) (h' := h61) rfl ?_
            rcases (show w = 0 ∨ w = 1 ∨ w = 2 ∨ (w < 0 ∨ 2 < w) by omega) with e78 | e78 | e78 | e78
            · exfalso; omega
            · exfalso; omega
            · exfalso; omega
            · refine wq_td (t := 114) (ck_106 _ _ rfl) ⟨by omega, by omega⟩ e78 rfl ?_
              refine av_wp_sqF ck_106 4 (pc' := 121) (lv' := [some (.inr (.inr (.inl (some (0))))), some (.inl n), some (.inl l), some (.inl x), some (.inl w), some (.inl (1)), some (.inr (.inr (.inl (some (35)))))]) (st' := [.inl (w - (10)), .inr (.inr (.inl (some (35))))]) (h' := h61) rfl ?_
              refine wq_cv (p' := 124) (av_qc (.invokevirtual 183) 17 1 0 0) 4 cd_17 [.inl (w - (10))] (35) 0 [some (.inr (.inr (.inl (some (35))))), some (.inl (w - (10))), none, none] (ck_106 _ _ rfl) rfl rfl pp_17 rfl rfl rfl (congrArg Prod.fst (bn_k0 (ib_ic i62).1 (Or.inl rfl))) rfl rfl rfl rfl ?_
              refine ct_17 i62 (Fr1_rf h61) ((w - (10))) (by omega) (fun v79 => ?_)
              show av_wp _ cd_106 124 [some (.inr (.inr (.inl (some (0))))), some (.inl n), some (.inl l), some (.inl x), some (.inl w), some (.inl (1)), some (.inr (.inr (.inl (some (35)))))] [.inl v79] h61 _
              refine av_wp_ret (v := some (.inl v79)) (ck_106 _ _ rfl) rfl rfl ?_
              exact hq _ h61 (ib_ic i62) F71
          · have c77 : v74 = (0) := c77
            refine av_wp_sqF ck_106 1 (pc' := 66) (lv' := [some (.inr (.inr (.inl (some (0))))), some (.inl n), some (.inl l), some (.inl x), some (.inl w), some (.inl (1)), some (.inr (.inr (.inl (some (35)))))]) (st' := [.inl (-2)]) (h' := h61) rfl ?_
            refine av_wp_ret (v := some (.inl (-2))) (ck_106 _ _ rfl) rfl rfl ?_
            exact hq _ h61 (ib_ic i62) F71

set_option maxRecDepth 100000 in
set_option maxHeartbeats 4000000 in
theorem ct_107 {h : av_H} (I : IC h) (n : Int) (qn : -2147483648 ≤ n ∧ n ≤ 2147483647) (l : Int) (ql : -2147483648 ≤ l ∧ l ≤ 2147483647) (x : Int) (qx : -2147483648 ≤ x ∧ x ≤ 2147483647) (k : Int) (qk : -2147483648 ≤ k ∧ k ≤ 2147483647) (w : Int) (qw : -2147483648 ≤ w ∧ w ≤ 2147483647) {Q : Option av_V → av_H → Prop} (hq : ∀ (v : Int) h', IC h' → Fr h h' → Q (some (.inl v)) h') : av_wp none cd_107 0 [some (.inr (.inr (.inl (some (0))))), some (.inl n), some (.inl l), some (.inl x), some (.inl k), some (.inl w)] [] h Q := by
  have F := Fr_rf h
  refine av_wp_sqF ck_107 1 (pc' := 2) (lv' := [some (.inr (.inr (.inl (some (0))))), some (.inl n), some (.inl l), some (.inl x), some (.inl k), some (.inl w)]) (st' := [.inl w]) (h' := h) rfl ?_
  refine wq_k1 (p' := 5) (ck_107 _ _ rfl) rfl ⟨by omega, by omega⟩ (fun c1 => ?_) (fun c2 => ?_)
  · have c1 : w < (0) := c1
    refine av_wp_sqF ck_107 1 (pc' := 41) (lv' := [some (.inr (.inr (.inl (some (0))))), some (.inl n), some (.inl l), some (.inl x), some (.inl k), some (.inl w)]) (st' := [.inl (-2)]) (h' := h) rfl ?_
    refine av_wp_ret (v := some (.inl (-2))) (ck_107 _ _ rfl) rfl rfl ?_
    exact hq _ h I F
  · have c2 : (0) ≤ w := c2
    refine av_wp_sqF ck_107 2 (pc' := 8) (lv' := [some (.inr (.inr (.inl (some (0))))), some (.inl n), some (.inl l), some (.inl x), some (.inl k), some (.inl w)]) (st' := [.inl (2), .inl w]) (h' := h) rfl ?_
    refine wq_k2 (p' := 11) (ck_107 _ _ rfl) rfl ⟨by omega, by omega⟩ ⟨by omega, by omega⟩ (fun c3 => ?_) (fun c4 => ?_)
    · have c3 : (2) < w := c3
      refine av_wp_sqF ck_107 1 (pc' := 41) (lv' := [some (.inr (.inr (.inl (some (0))))), some (.inl n), some (.inl l), some (.inl x), some (.inl k), some (.inl w)]) (st' := [.inl (-2)]) (h' := h) rfl ?_
      refine av_wp_ret (v := some (.inl (-2))) (ck_107 _ _ rfl) rfl rfl ?_
      exact hq _ h I F
    · have c4 : w ≤ (2) := c4
      refine av_wp_sqF ck_107 1 (pc' := 12) (lv' := [some (.inr (.inr (.inl (some (0))))), some (.inl n), some (.inl l), some (.inl x), some (.inl k), some (.inl w)]) (st' := [.inr (.inr (.inl (some (0))))]) (h' := h) rfl ?_
      refine wq_gr (p' := 15) (ck_107 _ _ rfl) rfl (congrArg Prod.fst (ly_k I.1 0 rfl)) rfl (ly_g I.1 0 5 26 rfl) ?_
      refine av_wp_sqF ck_107 3 (pc' := 18) (lv' := [some (.inr (.inr (.inl (some (0))))), some (.inl n), some (.inl l), some (.inl x), some (.inl k), some (.inl w)]) (st' := [.inl x, .inl l, .inl n, .inr (.inr (.inl (some (26))))]) (h' := h) rfl ?_
      refine wq_cv (p' := 21) (av_qc (.invokevirtual 160) 48 3 0 3) 5 cd_48 [.inl x, .inl l, .inl n] (26) 3 [some (.inr (.inr (.inl (some (26))))), some (.inl n), some (.inl l), some (.inl x), none] (ck_107 _ _ rfl) rfl rfl pp_48 rfl rfl rfl (congrArg Prod.fst (ly_k I.1 26 rfl)) rfl rfl rfl rfl ?_
      refine ct_48 I (n) (by omega) (l) (by omega) (x) (by omega) (fun h5 i6 F7 => ?_) (fun h5 t9 c10 s11 r12 d13 i6 z8 F7 => ?_)
      · have F14 := Fr_tr F F7.1
        show av_wp _ cd_107 21 [some (.inr (.inr (.inl (some (0))))), some (.inl n), some (.inl l), some (.inl x), some (.inl k), some (.inl w)] [.inl (0)] h5 _
        refine av_wp_sqF ck_107 2 (pc' := 41) (lv' := [some (.inr (.inr (.inl (some (0))))), some (.inl n), some (.inl l), some (.inl x), some (.inl k), some (.inl w)]) (st' := [.inl (-2)]) (h' := h5) rfl ?_
        refine av_wp_ret (v := some (.inl (-2))) (ck_107 _ _ rfl) rfl rfl ?_
        exact hq _ h5 i6 F14
      · have F15 := Fr_tr F F7.1
        have g16 := co_s12 (ib_co i6)
        have g17 := co_cbr (ib_co i6)
        show av_wp _ cd_107 21 [some (.inr (.inr (.inl (some (0))))), some (.inl n), some (.inl l), some (.inl x), some (.inl k), some (.inl w)] [.inl (1)] h5 _
        refine av_wp_sqF ck_107 2 (pc' := 25) (lv' := [some (.inr (.inr (.inl (some (0))))), some (.inl n), some (.inl l), some (.inl x), some (.inl k), some (.inl w)]) (st' := [.inr (.inr (.inl (some (0))))]) (h' := h5) rfl ?_
        refine wq_gr (p' := 28) (ck_107 _ _ rfl) rfl (congrArg Prod.fst (ly_k (ib_ic i6).1 0 rfl)) rfl (ly_g (ib_ic i6).1 0 5 26 rfl) ?_
        refine wq_gr (p' := 31) (ck_107 _ _ rfl) rfl (congrArg Prod.fst (ly_k (ib_ic i6).1 26 rfl)) rfl (ly_g (ib_ic i6).1 26 1 35 rfl) ?_
        refine av_wp_sqF ck_107 1 (pc' := 33) (lv' := [some (.inr (.inr (.inl (some (0))))), some (.inl n), some (.inl l), some (.inl x), some (.inl k), some (.inl w)]) (st' := [.inl k, .inr (.inr (.inl (some (35))))]) (h' := h5) rfl ?_
        refine wq_cv (p' := 36) (av_qc (.invokevirtual 187) 15 1 0 0) 2 cd_15 [.inl k] (35) 0 [some (.inr (.inr (.inl (some (35))))), some (.inl k)] (ck_107 _ _ rfl) rfl rfl pp_15 rfl rfl rfl (congrArg Prod.fst (bn_k0 (ib_ic i6).1 (Or.inl rfl))) rfl rfl rfl rfl ?_
        refine ct_15 i6 (Fr1_rf h5) (k) (by omega) (fun v18 p19 => ?_)
        show av_wp _ cd_107 36 [some (.inr (.inr (.inl (some (0))))), some (.inl n), some (.inl l), some (.inl x), some (.inl k), some (.inl w)] [.inl v18] h5 _
        refine wq_k1 (p' := 39) (ck_107 _ _ rfl) rfl ⟨by omega, by omega⟩ (fun c20 => ?_) (fun c21 => ?_)
        · have c20 : v18 ≠ (0) := c20
          refine av_wp_sqF ck_107 1 (pc' := 44) (lv' := [some (.inr (.inr (.inl (some (0))))), some (.inl n), some (.inl l), some (.inl x), some (.inl k), some (.inl w)]) (st' := [.inl w]) (h' := h5) rfl ?_
          rcases (show w = 0 ∨ w = 1 ∨ (w ≠ 0 ∧ w ≠ 1) by omega) with e22 | e22 | e22
          · refine wq_lc (t := 72) (ck_107 _ _ rfl) e22 rfl ?_
            refine av_wp_sqF ck_107 1 (pc' := 73) (lv' := [some (.inr (.inr (.inl (some (0))))), some (.inl n), some (.inl l), some (.inl x), some (.inl k), some (.inl w)]) (st' := [.inr (.inr (.inl (some (0))))]) (h' := h5) rfl ?_
            refine wq_gr (p' := 76) (ck_107 _ _ rfl) rfl (congrArg Prod.fst (ly_k (ib_ic i6).1 0 rfl)) rfl (ly_g (ib_ic i6).1 0 5 26 rfl) ?_
            refine wq_gr (p' := 79) (ck_107 _ _ rfl) rfl (congrArg Prod.fst (ly_k (ib_ic i6).1 26 rfl)) rfl (ly_g (ib_ic i6).1 26 1 35 rfl) ?_
            refine wq_gr (p' := 82) (ck_107 _ _ rfl) rfl (congrArg Prod.fst (bn_k0 (ib_ic i6).1 (Or.inl rfl))) rfl (bn_g (ib_ic i6).1 (Or.inl rfl) 5 rfl) ?_
            refine av_wp_sqF ck_107 1 (pc' := 84) (lv' := [some (.inr (.inr (.inl (some (0))))), some (.inl n), some (.inl l), some (.inl x), some (.inl k), some (.inl w)]) (st' := [.inl k, .inr (.inr (.inl (some (35 + 1 + 5))))]) (h' := h5) rfl ?_
            obtain ⟨v23, e24⟩ : ∃ v, hA h5 (35 + 1 + 5) (Int.toNat (k)) = v := ⟨_, rfl⟩
            refine wq_al (p' := 85) (n := 12) (ck_107 _ _ rfl) rfl (bn_k (ib_ic i6).1 (Or.inl rfl) 5 rfl) (by omega) (e24) ?_
            refine av_wp_ret (v := some (.inl v23)) (ck_107 _ _ rfl) rfl rfl ?_
            exact hq _ h5 (ib_ic i6) F15
          · refine wq_lc (t := 86) (ck_107 _ _ rfl) e22 rfl ?_
            refine av_wp_sqF ck_107 1 (pc' := 87) (lv' := [some (.inr (.inr (.inl (some (0))))), some (.inl n), some (.inl l), some (.inl x), some (.inl k), some (.inl w)]) (st' := [.inr (.inr (.inl (some (0))))]) (h' := h5) rfl ?_
            refine wq_gr (p' := 90) (ck_107 _ _ rfl) rfl (congrArg Prod.fst (ly_k (ib_ic i6).1 0 rfl)) rfl (ly_g (ib_ic i6).1 0 5 26 rfl) ?_
            refine wq_gr (p' := 93) (ck_107 _ _ rfl) rfl (congrArg Prod.fst (ly_k (ib_ic i6).1 26 rfl)) rfl (ly_g (ib_ic i6).1 26 1 35 rfl) ?_
            refine wq_gr (p' := 96) (ck_107 _ _ rfl) rfl (congrArg Prod.fst (bn_k0 (ib_ic i6).1 (Or.inl rfl))) rfl (bn_g (ib_ic i6).1 (Or.inl rfl) 6 rfl) ?_
            refine av_wp_sqF ck_107 1 (pc' := 98) (lv' := [some (.inr (.inr (.inl (some (0))))), some (.inl n), some (.inl l), some (.inl x), some (.inl k), some (.inl w)]) (st' := [.inl k, .inr (.inr (.inl (some (35 + 1 + 6))))]) (h' := h5) rfl ?_
            obtain ⟨v26, e27⟩ : ∃ v, hA h5 (35 + 1 + 6) (Int.toNat (k)) = v := ⟨_, rfl⟩
            refine wq_al (p' := 99) (n := 12) (ck_107 _ _ rfl) rfl (bn_k (ib_ic i6).1 (Or.inl rfl) 6 rfl) (by omega) (e27) ?_
            refine av_wp_ret (v := some (.inl v26)) (ck_107 _ _ rfl) rfl rfl ?_
            exact hq _ h5 (ib_ic i6) F15
          · refine wq_ld (t := 100) (ck_107 _ _ rfl) ⟨by omega, by omega⟩ (by show Op.lookupswitch.offset [(0, 28), (1, 42)] 56 w = 56; rw [Op.lookupswitch.offset_cons, if_neg (by omega), Op.lookupswitch.offset_cons, if_neg (by omega), Op.lookupswitch.offset_nil]) rfl ?_
            refine av_wp_sqF ck_107 1 (pc' := 101) (lv' := [some (.inr (.inr (.inl (some (0))))), some (.inl n), some (.inl l), some (.inl x), some (.inl k), some (.inl w)]) (st' := [.inr (.inr (.inl (some (0))))]) (h' := h5) rfl ?_
            refine wq_gr (p' := 104) (ck_107 _ _ rfl) rfl (congrArg Prod.fst (ly_k (ib_ic i6).1 0 rfl)) rfl (ly_g (ib_ic i6).1 0 5 26 rfl) ?_
            refine wq_gr (p' := 107) (ck_107 _ _ rfl) rfl (congrArg Prod.fst (ly_k (ib_ic i6).1 26 rfl)) rfl (ly_g (ib_ic i6).1 26 1 35 rfl) ?_
            refine wq_gr (p' := 110) (ck_107 _ _ rfl) rfl (congrArg Prod.fst (bn_k0 (ib_ic i6).1 (Or.inl rfl))) rfl (bn_g (ib_ic i6).1 (Or.inl rfl) 7 rfl) ?_
            refine av_wp_sqF ck_107 1 (pc' := 112) (lv' := [some (.inr (.inr (.inl (some (0))))), some (.inl n), some (.inl l), some (.inl x), some (.inl k), some (.inl w)]) (st' := [.inl k, .inr (.inr (.inl (some (35 + 1 + 7))))]) (h' := h5) rfl ?_
            obtain ⟨v29, e30⟩ : ∃ v, hA h5 (35 + 1 + 7) (Int.toNat (k)) = v := ⟨_, rfl⟩
            refine wq_al (p' := 113) (n := 12) (ck_107 _ _ rfl) rfl (bn_k (ib_ic i6).1 (Or.inl rfl) 7 rfl) (by omega) (e30) ?_
            refine av_wp_ret (v := some (.inl v29)) (ck_107 _ _ rfl) rfl rfl ?_
            exact hq _ h5 (ib_ic i6) F15
        · have c21 : v18 = (0) := c21
          refine av_wp_sqF ck_107 1 (pc' := 41) (lv' := [some (.inr (.inr (.inl (some (0))))), some (.inl n), some (.inl l), some (.inl x), some (.inl k), some (.inl w)]) (st' := [.inl (-2)]) (h' := h5) rfl ?_
          refine av_wp_ret (v := some (.inl (-2))) (ck_107 _ _ rfl) rfl rfl ?_
          exact hq _ h5 (ib_ic i6) F15

set_option maxRecDepth 100000 in
set_option maxHeartbeats 4000000 in
theorem ct_108 {h : av_H} (I : IC h) (n : Int) (qn : -2147483648 ≤ n ∧ n ≤ 2147483647) (l : Int) (ql : -2147483648 ≤ l ∧ l ≤ 2147483647) (x : Int) (qx : -2147483648 ≤ x ∧ x ≤ 2147483647) {Q : Option av_V → av_H → Prop} (hq : ∀ (v : Int) h', IC h' → Fr h h' → Q (some (.inl v)) h') : av_wp none cd_108 0 [some (.inr (.inr (.inl (some (0))))), some (.inl n), some (.inl l), some (.inl x)] [] h Q := by
  have F := Fr_rf h
  refine av_wp_sqF ck_108 1 (pc' := 1) (lv' := [some (.inr (.inr (.inl (some (0))))), some (.inl n), some (.inl l), some (.inl x)]) (st' := [.inr (.inr (.inl (some (0))))]) (h' := h) rfl ?_
  refine wq_gr (p' := 4) (ck_108 _ _ rfl) rfl (congrArg Prod.fst (ly_k I.1 0 rfl)) rfl (ly_g I.1 0 5 26 rfl) ?_
  refine av_wp_sqF ck_108 3 (pc' := 7) (lv' := [some (.inr (.inr (.inl (some (0))))), some (.inl n), some (.inl l), some (.inl x)]) (st' := [.inl x, .inl l, .inl n, .inr (.inr (.inl (some (26))))]) (h' := h) rfl ?_
  refine wq_cv (p' := 10) (av_qc (.invokevirtual 160) 48 3 0 3) 5 cd_48 [.inl x, .inl l, .inl n] (26) 3 [some (.inr (.inr (.inl (some (26))))), some (.inl n), some (.inl l), some (.inl x), none] (ck_108 _ _ rfl) rfl rfl pp_48 rfl rfl rfl (congrArg Prod.fst (ly_k I.1 26 rfl)) rfl rfl rfl rfl ?_
  refine ct_48 I (n) (by omega) (l) (by omega) (x) (by omega) (fun h1 i2 F3 => ?_) (fun h1 t5 c6 s7 r8 d9 i2 z4 F3 => ?_)
  · have F10 := Fr_tr F F3.1
    show av_wp _ cd_108 10 [some (.inr (.inr (.inl (some (0))))), some (.inl n), some (.inl l), some (.inl x)] [.inl (0)] h1 _
    refine av_wp_sqF ck_108 2 (pc' := 15) (lv' := [some (.inr (.inr (.inl (some (0))))), some (.inl n), some (.inl l), some (.inl x)]) (st' := [.inl (-2)]) (h' := h1) rfl ?_
    refine av_wp_ret (v := some (.inl (-2))) (ck_108 _ _ rfl) rfl rfl ?_
    exact hq _ h1 i2 F10
  · have F11 := Fr_tr F F3.1
    have g12 := co_s12 (ib_co i2)
    have g13 := co_cbr (ib_co i2)
    show av_wp _ cd_108 10 [some (.inr (.inr (.inl (some (0))))), some (.inl n), some (.inl l), some (.inl x)] [.inl (1)] h1 _
    refine av_wp_sqF ck_108 2 (pc' := 17) (lv' := [some (.inr (.inr (.inl (some (0))))), some (.inl n), some (.inl l), some (.inl x)]) (st' := [.inr (.inr (.inl (some (0))))]) (h' := h1) rfl ?_
    refine wq_gr (p' := 20) (ck_108 _ _ rfl) rfl (congrArg Prod.fst (ly_k (ib_ic i2).1 0 rfl)) rfl (ly_g (ib_ic i2).1 0 5 26 rfl) ?_
    refine wq_gr (p' := 23) (ck_108 _ _ rfl) rfl (congrArg Prod.fst (ly_k (ib_ic i2).1 26 rfl)) rfl (ly_g (ib_ic i2).1 26 1 35 rfl) ?_
    refine wq_cv (p' := 26) (av_qc (.invokevirtual 199) 18 0 0 0) 3 cd_18 [] (35) 0 [some (.inr (.inr (.inl (some (35))))), none, none] (ck_108 _ _ rfl) rfl rfl pp_18 rfl rfl rfl (congrArg Prod.fst (bn_k0 (ib_ic i2).1 (Or.inl rfl))) rfl rfl rfl rfl ?_
    refine ct_18 i2 (Fr1_rf h1)   (fun v14 => ?_)
    show av_wp _ cd_108 26 [some (.inr (.inr (.inl (some (0))))), some (.inl n), some (.inl l), some (.inl x)] [.inl v14] h1 _
    refine av_wp_ret (v := some (.inl v14)) (ck_108 _ _ rfl) rfl rfl ?_
    exact hq _ h1 (ib_ic i2) F11

set_option maxRecDepth 100000 in
set_option maxHeartbeats 4000000 in
theorem ct_109 {h : av_H} (I : IC h) (n : Int) (qn : -2147483648 ≤ n ∧ n ≤ 2147483647) (l : Int) (ql : -2147483648 ≤ l ∧ l ≤ 2147483647) (w : Int) (qw : -2147483648 ≤ w ∧ w ≤ 2147483647) {Q : Option av_V → av_H → Prop} (hq : ∀ (v : Int) h', IC h' → Fr h h' → Q (some (.inl v)) h') : av_wp none cd_109 0 [some (.inr (.inr (.inl (some (0))))), some (.inl n), some (.inl l), some (.inl w)] [] h Q := by
  have F := Fr_rf h
  refine av_wp_sqF ck_109 1 (pc' := 1) (lv' := [some (.inr (.inr (.inl (some (0))))), some (.inl n), some (.inl l), some (.inl w)]) (st' := [.inl w]) (h' := h) rfl ?_
  refine wq_k1 (p' := 4) (ck_109 _ _ rfl) rfl ⟨by omega, by omega⟩ (fun c1 => ?_) (fun c2 => ?_)
  · have c1 : w < (0) := c1
    refine av_wp_sqF ck_109 1 (pc' := 23) (lv' := [some (.inr (.inr (.inl (some (0))))), some (.inl n), some (.inl l), some (.inl w)]) (st' := [.inl (-2)]) (h' := h) rfl ?_
    refine av_wp_ret (v := some (.inl (-2))) (ck_109 _ _ rfl) rfl rfl ?_
    exact hq _ h I F
  · have c2 : (0) ≤ w := c2
    refine av_wp_sqF ck_109 2 (pc' := 6) (lv' := [some (.inr (.inr (.inl (some (0))))), some (.inl n), some (.inl l), some (.inl w)]) (st' := [.inl (5), .inl w]) (h' := h) rfl ?_
    refine wq_k2 (p' := 9) (ck_109 _ _ rfl) rfl ⟨by omega, by omega⟩ ⟨by omega, by omega⟩ (fun c3 => ?_) (fun c4 => ?_)
    · have c3 : (5) ≤ w := c3
      refine av_wp_sqF ck_109 1 (pc' := 23) (lv' := [some (.inr (.inr (.inl (some (0))))), some (.inl n), some (.inl l), some (.inl w)]) (st' := [.inl (-2)]) (h' := h) rfl ?_
      refine av_wp_ret (v := some (.inl (-2))) (ck_109 _ _ rfl) rfl rfl ?_
      exact hq _ h I F
    · have c4 : w < (5) := c4
      refine av_wp_sqF ck_109 1 (pc' := 10) (lv' := [some (.inr (.inr (.inl (some (0))))), some (.inl n), some (.inl l), some (.inl w)]) (st' := [.inr (.inr (.inl (some (0))))]) (h' := h) rfl ?_
      refine wq_gr (p' := 13) (ck_109 _ _ rfl) rfl (congrArg Prod.fst (ly_k I.1 0 rfl)) rfl (ly_g I.1 0 5 26 rfl) ?_
      refine av_wp_sqF ck_109 2 (pc' := 15) (lv' := [some (.inr (.inr (.inl (some (0))))), some (.inl n), some (.inl l), some (.inl w)]) (st' := [.inl l, .inl n, .inr (.inr (.inl (some (26))))]) (h' := h) rfl ?_
      refine wq_cv (p' := 18) (av_qc (.invokevirtual 203) 49 2 0 3) 3 cd_49 [.inl l, .inl n] (26) 3 [some (.inr (.inr (.inl (some (26))))), some (.inl n), some (.inl l)] (ck_109 _ _ rfl) rfl rfl pp_49 rfl rfl rfl (congrArg Prod.fst (ly_k I.1 26 rfl)) rfl rfl rfl rfl ?_
      refine ct_49 I (n) (by omega) (l) (by omega) (fun h5 i6 F7 => ?_) (fun h5 t9 c10 s11 r12 d13 i6 z8 F7 => ?_)
      · have F14 := Fr_tr F F7.1
        show av_wp _ cd_109 18 [some (.inr (.inr (.inl (some (0))))), some (.inl n), some (.inl l), some (.inl w)] [.inl (0)] h5 _
        refine av_wp_sqF ck_109 2 (pc' := 23) (lv' := [some (.inr (.inr (.inl (some (0))))), some (.inl n), some (.inl l), some (.inl w)]) (st' := [.inl (-2)]) (h' := h5) rfl ?_
        refine av_wp_ret (v := some (.inl (-2))) (ck_109 _ _ rfl) rfl rfl ?_
        exact hq _ h5 i6 F14
      · have F15 := Fr_tr F F7.1
        have g16 := co_s12 (ib_co i6)
        have g17 := co_cbr (ib_co i6)
        show av_wp _ cd_109 18 [some (.inr (.inr (.inl (some (0))))), some (.inl n), some (.inl l), some (.inl w)] [.inl (1)] h5 _
        refine av_wp_sqF ck_109 2 (pc' := 25) (lv' := [some (.inr (.inr (.inl (some (0))))), some (.inl n), some (.inl l), some (.inl w)]) (st' := [.inr (.inr (.inl (some (0))))]) (h' := h5) rfl ?_
        refine wq_gr (p' := 28) (ck_109 _ _ rfl) rfl (congrArg Prod.fst (ly_k (ib_ic i6).1 0 rfl)) rfl (ly_g (ib_ic i6).1 0 5 26 rfl) ?_
        refine wq_cv (p' := 31) (av_qc (.invokevirtual 207) 56 0 0 3) 2 cd_56 [] (26) 3 [some (.inr (.inr (.inl (some (26))))), none] (ck_109 _ _ rfl) rfl rfl pp_56 rfl rfl rfl (congrArg Prod.fst (ly_k (ib_ic i6).1 26 rfl)) rfl rfl rfl rfl ?_
        refine ct_56 i6  (fun h18 i19 F20 => ?_)
        have F23 := Fr_tr F15 F20.1
        have o24 := CO_fr (ib_ic i6).1 (ib_co i6) F20.1
        show av_wp _ cd_109 31 [some (.inr (.inr (.inl (some (0))))), some (.inl n), some (.inl l), some (.inl w)] [] h18 _
        refine av_wp_sqF ck_109 1 (pc' := 32) (lv' := [some (.inr (.inr (.inl (some (0))))), some (.inl n), some (.inl l), some (.inl w)]) (st' := [.inr (.inr (.inl (some (0))))]) (h' := h18) rfl ?_
        refine wq_gr (p' := 35) (ck_109 _ _ rfl) rfl (congrArg Prod.fst (ly_k (ib_ic i19).1 0 rfl)) rfl (ly_g (ib_ic i19).1 0 5 26 rfl) ?_
        refine wq_gr (p' := 38) (ck_109 _ _ rfl) rfl (congrArg Prod.fst (ly_k (ib_ic i19).1 26 rfl)) rfl (ly_g (ib_ic i19).1 26 8 31 rfl) ?_
        refine av_wp_sqF ck_109 1 (pc' := 39) (lv' := [some (.inr (.inr (.inl (some (0))))), some (.inl n), some (.inl l), some (.inl w)]) (st' := [.inl w, .inr (.inr (.inl (some (31))))]) (h' := h18) rfl ?_
        obtain ⟨v25, e26⟩ : ∃ v, hA h18 (31) (Int.toNat (w)) = v := ⟨_, rfl⟩
        refine wq_al (p' := 40) (n := 5) (ck_109 _ _ rfl) rfl (ly_k (ib_ic i19).1 31 rfl) (by omega) (e26) ?_
        refine av_wp_ret (v := some (.inl v25)) (ck_109 _ _ rfl) rfl rfl ?_
        exact hq _ h18 (ib_ic i19) F23

set_option maxRecDepth 100000 in
set_option maxHeartbeats 4000000 in
theorem ct_110 {h : av_H} (I : IC h) (n : Int) (qn : -2147483648 ≤ n ∧ n ≤ 2147483647) (l : Int) (ql : -2147483648 ≤ l ∧ l ≤ 2147483647) {Q : Option av_V → av_H → Prop} (hq : ∀ (v : Int) h', IC h' → Fr h h' → Q (some (.inl v)) h') : av_wp none cd_110 0 [some (.inr (.inr (.inl (some (0))))), some (.inl n), some (.inl l)] [] h Q := by
  have F := Fr_rf h
  refine av_wp_sqF ck_110 1 (pc' := 1) (lv' := [some (.inr (.inr (.inl (some (0))))), some (.inl n), some (.inl l)]) (st' := [.inr (.inr (.inl (some (0))))]) (h' := h) rfl ?_
  refine wq_gr (p' := 4) (ck_110 _ _ rfl) rfl (congrArg Prod.fst (ly_k I.1 0 rfl)) rfl (ly_g I.1 0 5 26 rfl) ?_
  refine av_wp_sqF ck_110 2 (pc' := 6) (lv' := [some (.inr (.inr (.inl (some (0))))), some (.inl n), some (.inl l)]) (st' := [.inl l, .inl n, .inr (.inr (.inl (some (26))))]) (h' := h) rfl ?_
  refine wq_cv (p' := 9) (av_qc (.invokevirtual 203) 49 2 0 3) 3 cd_49 [.inl l, .inl n] (26) 3 [some (.inr (.inr (.inl (some (26))))), some (.inl n), some (.inl l)] (ck_110 _ _ rfl) rfl rfl pp_49 rfl rfl rfl (congrArg Prod.fst (ly_k I.1 26 rfl)) rfl rfl rfl rfl ?_
  refine ct_49 I (n) (by omega) (l) (by omega) (fun h1 i2 F3 => ?_) (fun h1 t5 c6 s7 r8 d9 i2 z4 F3 => ?_)
  · have F10 := Fr_tr F F3.1
    show av_wp _ cd_110 9 [some (.inr (.inr (.inl (some (0))))), some (.inl n), some (.inl l)] [.inl (0)] h1 _
    refine av_wp_sqF ck_110 2 (pc' := 32) (lv' := [some (.inr (.inr (.inl (some (0))))), some (.inl n), some (.inl l)]) (st' := [.inl (-2)]) (h' := h1) rfl ?_
    refine av_wp_ret (v := some (.inl (-2))) (ck_110 _ _ rfl) rfl rfl ?_
    exact hq _ h1 i2 F10
  · have F11 := Fr_tr F F3.1
    have g12 := co_s12 (ib_co i2)
    have g13 := co_cbr (ib_co i2)
    show av_wp _ cd_110 9 [some (.inr (.inr (.inl (some (0))))), some (.inl n), some (.inl l)] [.inl (1)] h1 _
    refine av_wp_sqF ck_110 2 (pc' := 13) (lv' := [some (.inr (.inr (.inl (some (0))))), some (.inl n), some (.inl l)]) (st' := [.inr (.inr (.inl (some (0))))]) (h' := h1) rfl ?_
    refine wq_gr (p' := 16) (ck_110 _ _ rfl) rfl (congrArg Prod.fst (ly_k (ib_ic i2).1 0 rfl)) rfl (ly_g (ib_ic i2).1 0 5 26 rfl) ?_
    refine wq_gr (p' := 19) (ck_110 _ _ rfl) rfl (congrArg Prod.fst (ly_k (ib_ic i2).1 26 rfl)) rfl (ly_g (ib_ic i2).1 26 1 35 rfl) ?_
    refine wq_gr (p' := 22) (ck_110 _ _ rfl) rfl (congrArg Prod.fst (bn_k0 (ib_ic i2).1 (Or.inl rfl))) rfl (ib_t i2) ?_
    obtain ⟨v14, e15⟩ : ∃ v, hF h1 t5 2 = v := ⟨_, rfl⟩
    refine wq_gi (p' := 25) (ck_110 _ _ rfl) rfl (congrArg Prod.fst (co_kt (ib_co i2))) rfl (e15) ?_
    refine av_wp_sqF ck_110 1 (pc' := 27) (lv' := [some (.inr (.inr (.inl (some (0))))), some (.inl n), some (.inl l)]) (st' := [.inl (12), .inl v14]) (h' := h1) rfl ?_
    refine wq_c2 (p' := 30) (ck_110 _ _ rfl) rfl ?_ ?_
    · refine av_wp_sqF ck_110 1 (pc' := 34) (lv' := [some (.inr (.inr (.inl (some (0))))), some (.inl n), some (.inl l)]) (st' := [.inr (.inr (.inl (some (0))))]) (h' := h1) rfl ?_
      refine wq_gr (p' := 37) (ck_110 _ _ rfl) rfl (congrArg Prod.fst (ly_k (ib_ic i2).1 0 rfl)) rfl (ly_g (ib_ic i2).1 0 5 26 rfl) ?_
      refine wq_cv (p' := 40) (av_qc (.invokevirtual 216) 58 0 0 3) 7 cd_58 [] (26) 3 [some (.inr (.inr (.inl (some (26))))), none, none, none, none, none, none] (ck_110 _ _ rfl) rfl rfl pp_58 rfl rfl rfl (congrArg Prod.fst (ly_k (ib_ic i2).1 26 rfl)) rfl rfl rfl rfl ?_
      refine ct_58 i2  (fun v19 h16 i17 F18 => ?_)
      have F21 := Fr_tr F11 F18.1
      have o22 := CO_fr (ib_ic i2).1 (ib_co i2) F18.1
      show av_wp _ cd_110 40 [some (.inr (.inr (.inl (some (0))))), some (.inl n), some (.inl l)] [.inl v19] h16 _
      refine av_wp_ret (v := some (.inl v19)) (ck_110 _ _ rfl) rfl rfl ?_
      exact hq _ h16 (ib_ic i17) F21
    · refine av_wp_sqF ck_110 1 (pc' := 32) (lv' := [some (.inr (.inr (.inl (some (0))))), some (.inl n), some (.inl l)]) (st' := [.inl (-2)]) (h' := h1) rfl ?_
      refine av_wp_ret (v := some (.inl (-2))) (ck_110 _ _ rfl) rfl rfl ?_
      exact hq _ h1 (ib_ic i2) F11

set_option maxRecDepth 100000 in
set_option maxHeartbeats 4000000 in
theorem ct_111 {h : av_H} (I : IC h) (n : Int) (qn : -2147483648 ≤ n ∧ n ≤ 2147483647) (l : Int) (ql : -2147483648 ≤ l ∧ l ≤ 2147483647) (x : Int) (qx : -2147483648 ≤ x ∧ x ≤ 2147483647) (y : Int) (qy : -2147483648 ≤ y ∧ y ≤ 2147483647) {Q : Option av_V → av_H → Prop} (hq : ∀ (v : Int) h', IC h' → Fr h h' → Q (some (.inl v)) h') : av_wp none cd_111 0 [some (.inr (.inr (.inl (some (0))))), some (.inl n), some (.inl l), some (.inl x), some (.inl y)] [] h Q := by
  have F := Fr_rf h
  refine av_wp_sqF ck_111 1 (pc' := 2) (lv' := [some (.inr (.inr (.inl (some (0))))), some (.inl n), some (.inl l), some (.inl x), some (.inl y)]) (st' := [.inl y]) (h' := h) rfl ?_
  refine wq_k1 (p' := 5) (ck_111 _ _ rfl) rfl ⟨by omega, by omega⟩ (fun c1 => ?_) (fun c2 => ?_)
  · have c1 : y < (0) := c1
    refine av_wp_sqF ck_111 1 (pc' := 20) (lv' := [some (.inr (.inr (.inl (some (0))))), some (.inl n), some (.inl l), some (.inl x), some (.inl y)]) (st' := [.inl (-2)]) (h' := h) rfl ?_
    refine av_wp_ret (v := some (.inl (-2))) (ck_111 _ _ rfl) rfl rfl ?_
    exact hq _ h I F
  · have c2 : (0) ≤ y := c2
    refine av_wp_sqF ck_111 1 (pc' := 6) (lv' := [some (.inr (.inr (.inl (some (0))))), some (.inl n), some (.inl l), some (.inl x), some (.inl y)]) (st' := [.inr (.inr (.inl (some (0))))]) (h' := h) rfl ?_
    refine wq_gr (p' := 9) (ck_111 _ _ rfl) rfl (congrArg Prod.fst (ly_k I.1 0 rfl)) rfl (ly_g I.1 0 5 26 rfl) ?_
    refine av_wp_sqF ck_111 3 (pc' := 12) (lv' := [some (.inr (.inr (.inl (some (0))))), some (.inl n), some (.inl l), some (.inl x), some (.inl y)]) (st' := [.inl x, .inl l, .inl n, .inr (.inr (.inl (some (26))))]) (h' := h) rfl ?_
    refine wq_cv (p' := 15) (av_qc (.invokevirtual 160) 48 3 0 3) 5 cd_48 [.inl x, .inl l, .inl n] (26) 3 [some (.inr (.inr (.inl (some (26))))), some (.inl n), some (.inl l), some (.inl x), none] (ck_111 _ _ rfl) rfl rfl pp_48 rfl rfl rfl (congrArg Prod.fst (ly_k I.1 26 rfl)) rfl rfl rfl rfl ?_
    refine ct_48 I (n) (by omega) (l) (by omega) (x) (by omega) (fun h3 i4 F5 => ?_) (fun h3 t7 c8 s9 r10 d11 i4 z6 F5 => ?_)
    · have F12 := Fr_tr F F5.1
      show av_wp _ cd_111 15 [some (.inr (.inr (.inl (some (0))))), some (.inl n), some (.inl l), some (.inl x), some (.inl y)] [.inl (0)] h3 _
      refine av_wp_sqF ck_111 2 (pc' := 20) (lv' := [some (.inr (.inr (.inl (some (0))))), some (.inl n), some (.inl l), some (.inl x), some (.inl y)]) (st' := [.inl (-2)]) (h' := h3) rfl ?_
      refine av_wp_ret (v := some (.inl (-2))) (ck_111 _ _ rfl) rfl rfl ?_
      exact hq _ h3 i4 F12
    · have F13 := Fr_tr F F5.1
      have g14 := co_s12 (ib_co i4)
      have g15 := co_cbr (ib_co i4)
      show av_wp _ cd_111 15 [some (.inr (.inr (.inl (some (0))))), some (.inl n), some (.inl l), some (.inl x), some (.inl y)] [.inl (1)] h3 _
      refine av_wp_sqF ck_111 2 (pc' := 22) (lv' := [some (.inr (.inr (.inl (some (0))))), some (.inl n), some (.inl l), some (.inl x), some (.inl y)]) (st' := [.inr (.inr (.inl (some (0))))]) (h' := h3) rfl ?_
      refine wq_gr (p' := 25) (ck_111 _ _ rfl) rfl (congrArg Prod.fst (ly_k (ib_ic i4).1 0 rfl)) rfl (ly_g (ib_ic i4).1 0 5 26 rfl) ?_
      refine wq_gr (p' := 28) (ck_111 _ _ rfl) rfl (congrArg Prod.fst (ly_k (ib_ic i4).1 26 rfl)) rfl (ly_g (ib_ic i4).1 26 1 35 rfl) ?_
      refine av_wp_sqF ck_111 1 (pc' := 30) (lv' := [some (.inr (.inr (.inl (some (0))))), some (.inl n), some (.inl l), some (.inl x), some (.inl y)]) (st' := [.inl y, .inr (.inr (.inl (some (35))))]) (h' := h3) rfl ?_
      refine wq_cv (p' := 33) (av_qc (.invokevirtual 219) 19 1 0 0) 4 cd_19 [.inl y] (35) 0 [some (.inr (.inr (.inl (some (35))))), some (.inl y), none, none] (ck_111 _ _ rfl) rfl rfl pp_19 rfl rfl rfl (congrArg Prod.fst (bn_k0 (ib_ic i4).1 (Or.inl rfl))) rfl rfl rfl rfl ?_
      refine ct_19 i4 (Fr1_rf h3) (y)  (fun v16 => ?_)
      show av_wp _ cd_111 33 [some (.inr (.inr (.inl (some (0))))), some (.inl n), some (.inl l), some (.inl x), some (.inl y)] [.inl v16] h3 _
      refine av_wp_ret (v := some (.inl v16)) (ck_111 _ _ rfl) rfl rfl ?_
      exact hq _ h3 (ib_ic i4) F13

set_option maxRecDepth 100000 in
set_option maxHeartbeats 4000000 in
theorem ct_112 {h : av_H} (I : IC h) (n : Int) (qn : -2147483648 ≤ n ∧ n ≤ 2147483647) (l : Int) (ql : -2147483648 ≤ l ∧ l ≤ 2147483647) (x : Int) (qx : -2147483648 ≤ x ∧ x ≤ 2147483647) (y : Int) (z : Int) {Q : Option av_V → av_H → Prop} (hq : ∀ (v : Int) h', IC h' → Fr h h' → Q (some (.inl v)) h') : av_wp none cd_112 0 [some (.inr (.inr (.inl (some (0))))), some (.inl n), some (.inl l), some (.inl x), some (.inl y), some (.inl z), none, none] [] h Q := by
  have F := Fr_rf h
  refine av_wp_sqF ck_112 1 (pc' := 1) (lv' := [some (.inr (.inr (.inl (some (0))))), some (.inl n), some (.inl l), some (.inl x), some (.inl y), some (.inl z), none, none]) (st' := [.inr (.inr (.inl (some (0))))]) (h' := h) rfl ?_
  refine wq_gr (p' := 4) (ck_112 _ _ rfl) rfl (congrArg Prod.fst (ly_k I.1 0 rfl)) rfl (ly_g I.1 0 5 26 rfl) ?_
  refine av_wp_sqF ck_112 3 (pc' := 7) (lv' := [some (.inr (.inr (.inl (some (0))))), some (.inl n), some (.inl l), some (.inl x), some (.inl y), some (.inl z), none, none]) (st' := [.inl x, .inl l, .inl n, .inr (.inr (.inl (some (26))))]) (h' := h) rfl ?_
  refine wq_cv (p' := 10) (av_qc (.invokevirtual 160) 48 3 0 3) 5 cd_48 [.inl x, .inl l, .inl n] (26) 3 [some (.inr (.inr (.inl (some (26))))), some (.inl n), some (.inl l), some (.inl x), none] (ck_112 _ _ rfl) rfl rfl pp_48 rfl rfl rfl (congrArg Prod.fst (ly_k I.1 26 rfl)) rfl rfl rfl rfl ?_
  refine ct_48 I (n) (by omega) (l) (by omega) (x) (by omega) (fun h1 i2 F3 => ?_) (fun h1 t5 c6 s7 r8 d9 i2 z4 F3 => ?_)
  · have F10 := Fr_tr F F3.1
    show av_wp _ cd_112 10 [some (.inr (.inr (.inl (some (0))))), some (.inl n), some (.inl l), some (.inl x), some (.inl y), some (.inl z), none, none] [.inl (0)] h1 _
    refine av_wp_sqF ck_112 2 (pc' := 15) (lv' := [some (.inr (.inr (.inl (some (0))))), some (.inl n), some (.inl l), some (.inl x), some (.inl y), some (.inl z), none, none]) (st' := [.inl (-2)]) (h' := h1) rfl ?_
    refine av_wp_ret (v := some (.inl (-2))) (ck_112 _ _ rfl) rfl rfl ?_
    exact hq _ h1 i2 F10
  · have F11 := Fr_tr F F3.1
    have g12 := co_s12 (ib_co i2)
    have g13 := co_cbr (ib_co i2)
    show av_wp _ cd_112 10 [some (.inr (.inr (.inl (some (0))))), some (.inl n), some (.inl l), some (.inl x), some (.inl y), some (.inl z), none, none] [.inl (1)] h1 _
    refine av_wp_sqF ck_112 2 (pc' := 17) (lv' := [some (.inr (.inr (.inl (some (0))))), some (.inl n), some (.inl l), some (.inl x), some (.inl y), some (.inl z), none, none]) (st' := [.inr (.inr (.inl (some (0))))]) (h' := h1) rfl ?_
    refine wq_gr (p' := 20) (ck_112 _ _ rfl) rfl (congrArg Prod.fst (ly_k (ib_ic i2).1 0 rfl)) rfl (ly_g (ib_ic i2).1 0 5 26 rfl) ?_
    refine wq_gr (p' := 23) (ck_112 _ _ rfl) rfl (congrArg Prod.fst (ly_k (ib_ic i2).1 26 rfl)) rfl (ly_g (ib_ic i2).1 26 1 35 rfl) ?_
    refine av_wp_sqF ck_112 3 (pc' := 29) (lv' := [some (.inr (.inr (.inl (some (0))))), some (.inl n), some (.inl l), some (.inl x), some (.inl y), some (.inl z), some (.inr (.inr (.inl (some (35))))), none]) (st' := [.inl (-2), .inl y]) (h' := h1) rfl ?_
    have J16 : ∀ (j14 : Int), (0 ≤ j14 ∧ j14 ≤ 1) →  av_wp none cd_112 37 [some (.inr (.inr (.inl (some (0))))), some (.inl n), some (.inl l), some (.inl x), some (.inl y), some (.inl z), some (.inr (.inr (.inl (some (35))))), none] [.inl j14] h1 Q := by
      intro j14 g15
      refine av_wp_sqF ck_112 3 (pc' := 43) (lv' := [some (.inr (.inr (.inl (some (0))))), some (.inl n), some (.inl l), some (.inl x), some (.inl y), some (.inl z), some (.inr (.inr (.inl (some (35))))), some (.inl j14)]) (st' := [.inr (.inr (.inl (some (35)))), .inl j14]) (h' := h1) rfl ?_
      refine wq_cv (p' := 46) (av_qc (.invokevirtual 168) 3 0 0 0) 1 cd_3 [] (35) 0 [some (.inr (.inr (.inl (some (35)))))] (ck_112 _ _ rfl) rfl rfl pp_3 rfl rfl rfl (congrArg Prod.fst (bn_k0 (ib_ic i2).1 (Or.inl rfl))) rfl rfl rfl rfl ?_
      refine ct_3 i2 (Fr1_rf h1)   (fun v17 p18 => ?_)
      show av_wp _ cd_112 46 [some (.inr (.inr (.inl (some (0))))), some (.inl n), some (.inl l), some (.inl x), some (.inl y), some (.inl z), some (.inr (.inr (.inl (some (35))))), some (.inl j14)] [.inl v17, .inl j14] h1 _
      refine wq_k2 (p' := 49) (ck_112 _ _ rfl) rfl ⟨by omega, by omega⟩ ⟨by omega, by omega⟩ (fun c19 => ?_) (fun c20 => ?_)
      · have c19 : j14 = v17 := c19
        refine av_wp_sqF ck_112 1 (pc' := 53) (lv' := [some (.inr (.inr (.inl (some (0))))), some (.inl n), some (.inl l), some (.inl x), some (.inl y), some (.inl z), some (.inr (.inr (.inl (some (35))))), some (.inl j14)]) (st' := [.inl j14]) (h' := h1) rfl ?_
        refine wq_k1 (p' := 56) (ck_112 _ _ rfl) rfl ⟨by omega, by omega⟩ (fun c21 => ?_) (fun c22 => ?_)
        · have c21 : j14 ≠ (0) := c21
          refine av_wp_sqF ck_112 2 (pc' := 62) (lv' := [some (.inr (.inr (.inl (some (0))))), some (.inl n), some (.inl l), some (.inl x), some (.inl y), some (.inl z), some (.inr (.inr (.inl (some (35))))), some (.inl j14)]) (st' := [.inr (.inr (.inl (some (35)))), .inl y]) (h' := h1) rfl ?_
          obtain ⟨v23, e24⟩ : ∃ v, hF h1 35 13 = v := ⟨_, rfl⟩
          have g25 := ic_mb (ib_ic i2) (Or.inl rfl)
          rw [e24] at g25
          refine wq_gi (p' := 65) (ck_112 _ _ rfl) rfl (congrArg Prod.fst (bn_k0 (ib_ic i2).1 (Or.inl rfl))) rfl (e24) ?_
          refine wq_c2 (p' := 68) (ck_112 _ _ rfl) rfl ?_ ?_
          · refine av_wp_sqF ck_112 2 (pc' := 74) (lv' := [some (.inr (.inr (.inl (some (0))))), some (.inl n), some (.inl l), some (.inl x), some (.inl y), some (.inl z), some (.inr (.inr (.inl (some (35))))), some (.inl j14)]) (st' := [.inr (.inr (.inl (some (35)))), .inl z]) (h' := h1) rfl ?_
            obtain ⟨v26, e27⟩ : ∃ v, hF h1 35 15 = v := ⟨_, rfl⟩
            refine wq_gi (p' := 77) (ck_112 _ _ rfl) rfl (congrArg Prod.fst (bn_k0 (ib_ic i2).1 (Or.inl rfl))) rfl (e27) ?_
            refine wq_c2 (p' := 80) (ck_112 _ _ rfl) rfl ?_ ?_
            · refine av_wp_sqF ck_112 1 (pc' := 85) (lv' := [some (.inr (.inr (.inl (some (0))))), some (.inl n), some (.inl l), some (.inl x), some (.inl y), some (.inl z), some (.inr (.inr (.inl (some (35))))), some (.inl j14)]) (st' := [.inl (2)]) (h' := h1) rfl ?_
              refine av_wp_ret (v := some (.inl (2))) (ck_112 _ _ rfl) rfl rfl ?_
              exact hq _ h1 (ib_ic i2) F11
            · refine av_wp_sqF ck_112 2 (pc' := 85) (lv' := [some (.inr (.inr (.inl (some (0))))), some (.inl n), some (.inl l), some (.inl x), some (.inl y), some (.inl z), some (.inr (.inr (.inl (some (35))))), some (.inl j14)]) (st' := [.inl (-1)]) (h' := h1) rfl ?_
              refine av_wp_ret (v := some (.inl (-1))) (ck_112 _ _ rfl) rfl rfl ?_
              exact hq _ h1 (ib_ic i2) F11
          · refine av_wp_sqF ck_112 1 (pc' := 69) (lv' := [some (.inr (.inr (.inl (some (0))))), some (.inl n), some (.inl l), some (.inl x), some (.inl y), some (.inl z), some (.inr (.inr (.inl (some (35))))), some (.inl j14)]) (st' := [.inl (1)]) (h' := h1) rfl ?_
            refine av_wp_ret (v := some (.inl (1))) (ck_112 _ _ rfl) rfl rfl ?_
            exact hq _ h1 (ib_ic i2) F11
        · have c22 : j14 = (0) := c22
          refine av_wp_sqF ck_112 1 (pc' := 57) (lv' := [some (.inr (.inr (.inl (some (0))))), some (.inl n), some (.inl l), some (.inl x), some (.inl y), some (.inl z), some (.inr (.inr (.inl (some (35))))), some (.inl j14)]) (st' := [.inl (-1)]) (h' := h1) rfl ?_
          refine av_wp_ret (v := some (.inl (-1))) (ck_112 _ _ rfl) rfl rfl ?_
          exact hq _ h1 (ib_ic i2) F11
      · have c20 : j14 ≠ v17 := c20
        refine av_wp_sqF ck_112 1 (pc' := 50) (lv' := [some (.inr (.inr (.inl (some (0))))), some (.inl n), some (.inl l), some (.inl x), some (.inl y), some (.inl z), some (.inr (.inr (.inl (some (35))))), some (.inl j14)]) (st' := [.inl (0)]) (h' := h1) rfl ?_
        refine av_wp_ret (v := some (.inl (0))) (ck_112 _ _ rfl) rfl rfl ?_
        exact hq _ h1 (ib_ic i2) F11
    refine wq_c2 (p' := 32) (ck_112 _ _ rfl) rfl ?_ ?_
    · refine av_wp_sqF ck_112 1 (pc' := 37) (lv' := [some (.inr (.inr (.inl (some (0))))), some (.inl n), some (.inl l), some (.inl x), some (.inl y), some (.inl z), some (.inr (.inr (.inl (some (35))))), none]) (st' := [.inl (0)]) (h' := h1) rfl ?_
      exact J16 ((0)) (by omega)
    · refine av_wp_sqF ck_112 2 (pc' := 37) (lv' := [some (.inr (.inr (.inl (some (0))))), some (.inl n), some (.inl l), some (.inl x), some (.inl y), some (.inl z), some (.inr (.inr (.inl (some (35))))), none]) (st' := [.inl (1)]) (h' := h1) rfl ?_
      exact J16 ((1)) (by omega)

set_option maxRecDepth 100000 in
set_option maxHeartbeats 4000000 in
theorem ct_113 {h : av_H} (I : IC h) (n : Int) (qn : -2147483648 ≤ n ∧ n ≤ 2147483647) (l : Int) (ql : -2147483648 ≤ l ∧ l ≤ 2147483647) (x : Int) (qx : -2147483648 ≤ x ∧ x ≤ 2147483647) (w : Int) (qw : -2147483648 ≤ w ∧ w ≤ 2147483647) {Q : Option av_V → av_H → Prop} (hq : ∀ (v : Int) h', IC h' → Fr h h' → Q (some (.inl v)) h') : av_wp none cd_113 0 [some (.inr (.inr (.inl (some (0))))), some (.inl n), some (.inl l), some (.inl x), some (.inl w)] [] h Q := by
  have F := Fr_rf h
  refine av_wp_sqF ck_113 1 (pc' := 2) (lv' := [some (.inr (.inr (.inl (some (0))))), some (.inl n), some (.inl l), some (.inl x), some (.inl w)]) (st' := [.inl w]) (h' := h) rfl ?_
  refine wq_k1 (p' := 5) (ck_113 _ _ rfl) rfl ⟨by omega, by omega⟩ (fun c1 => ?_) (fun c2 => ?_)
  · have c1 : w < (0) := c1
    refine av_wp_sqF ck_113 1 (pc' := 26) (lv' := [some (.inr (.inr (.inl (some (0))))), some (.inl n), some (.inl l), some (.inl x), some (.inl w)]) (st' := [.inl (-2)]) (h' := h) rfl ?_
    refine av_wp_ret (v := some (.inl (-2))) (ck_113 _ _ rfl) rfl rfl ?_
    exact hq _ h I F
  · have c2 : (0) ≤ w := c2
    refine av_wp_sqF ck_113 2 (pc' := 8) (lv' := [some (.inr (.inr (.inl (some (0))))), some (.inl n), some (.inl l), some (.inl x), some (.inl w)]) (st' := [.inl (1), .inl w]) (h' := h) rfl ?_
    refine wq_k2 (p' := 11) (ck_113 _ _ rfl) rfl ⟨by omega, by omega⟩ ⟨by omega, by omega⟩ (fun c3 => ?_) (fun c4 => ?_)
    · have c3 : (1) < w := c3
      refine av_wp_sqF ck_113 1 (pc' := 26) (lv' := [some (.inr (.inr (.inl (some (0))))), some (.inl n), some (.inl l), some (.inl x), some (.inl w)]) (st' := [.inl (-2)]) (h' := h) rfl ?_
      refine av_wp_ret (v := some (.inl (-2))) (ck_113 _ _ rfl) rfl rfl ?_
      exact hq _ h I F
    · have c4 : w ≤ (1) := c4
      refine av_wp_sqF ck_113 1 (pc' := 12) (lv' := [some (.inr (.inr (.inl (some (0))))), some (.inl n), some (.inl l), some (.inl x), some (.inl w)]) (st' := [.inr (.inr (.inl (some (0))))]) (h' := h) rfl ?_
      refine wq_gr (p' := 15) (ck_113 _ _ rfl) rfl (congrArg Prod.fst (ly_k I.1 0 rfl)) rfl (ly_g I.1 0 5 26 rfl) ?_
      refine av_wp_sqF ck_113 3 (pc' := 18) (lv' := [some (.inr (.inr (.inl (some (0))))), some (.inl n), some (.inl l), some (.inl x), some (.inl w)]) (st' := [.inl x, .inl l, .inl n, .inr (.inr (.inl (some (26))))]) (h' := h) rfl ?_
      refine wq_cv (p' := 21) (av_qc (.invokevirtual 222) 50 3 0 3) 5 cd_50 [.inl x, .inl l, .inl n] (26) 3 [some (.inr (.inr (.inl (some (26))))), some (.inl n), some (.inl l), some (.inl x), none] (ck_113 _ _ rfl) rfl rfl pp_50 rfl rfl rfl (congrArg Prod.fst (ly_k I.1 26 rfl)) rfl rfl rfl rfl ?_
      refine ct_50 I (n) (by omega) (l) (by omega) (x) (by omega) (fun h5 i6 F8 => ?_) (fun h5 t10 c11 s12 r13 r14 d15 i6 i7 z9 F8 => ?_)
      · have F16 := Fr_tr F F8
        show av_wp _ cd_113 21 [some (.inr (.inr (.inl (some (0))))), some (.inl n), some (.inl l), some (.inl x), some (.inl w)] [.inl (0)] h5 _
        refine av_wp_sqF ck_113 2 (pc' := 26) (lv' := [some (.inr (.inr (.inl (some (0))))), some (.inl n), some (.inl l), some (.inl x), some (.inl w)]) (st' := [.inl (-2)]) (h' := h5) rfl ?_
        refine av_wp_ret (v := some (.inl (-2))) (ck_113 _ _ rfl) rfl rfl ?_
        exact hq _ h5 i6 F16
      · have F17 := Fr_tr F F8
        have g18 := co_s12 (ib_co i6)
        have g19 := co_cbr (ib_co i6)
        show av_wp _ cd_113 21 [some (.inr (.inr (.inl (some (0))))), some (.inl n), some (.inl l), some (.inl x), some (.inl w)] [.inl (1)] h5 _
        refine av_wp_sqF ck_113 2 (pc' := 29) (lv' := [some (.inr (.inr (.inl (some (0))))), some (.inl n), some (.inl l), some (.inl x), some (.inl w)]) (st' := [.inl w]) (h' := h5) rfl ?_
        refine wq_k1 (p' := 32) (ck_113 _ _ rfl) rfl ⟨by omega, by omega⟩ (fun c20 => ?_) (fun c21 => ?_)
        · have c20 : w ≠ (0) := c20
          refine av_wp_sqF ck_113 1 (pc' := 43) (lv' := [some (.inr (.inr (.inl (some (0))))), some (.inl n), some (.inl l), some (.inl x), some (.inl w)]) (st' := [.inr (.inr (.inl (some (0))))]) (h' := h5) rfl ?_
          refine wq_gr (p' := 46) (ck_113 _ _ rfl) rfl (congrArg Prod.fst (ly_k (ib_ic i6).1 0 rfl)) rfl (ly_g (ib_ic i6).1 0 5 26 rfl) ?_
          refine wq_cv (p' := 49) (av_qc (.invokevirtual 228) 61 0 0 3) 2 cd_61 [] (26) 3 [some (.inr (.inr (.inl (some (26))))), none] (ck_113 _ _ rfl) rfl rfl pp_61 rfl rfl rfl (congrArg Prod.fst (ly_k (ib_ic i6).1 26 rfl)) rfl rfl rfl rfl ?_
          refine ct_61 i6 i7  (fun v26 h22 i23 i24 F25 => ?_)
          have F28 := Fr_tr F17 F25.1
          have i29 := ib_f1 i7 (ib_ic i23) F25
          have o30 := CO_fr (ib_ic i6).1 (ib_co i6) F25.1
          show av_wp _ cd_113 49 [some (.inr (.inr (.inl (some (0))))), some (.inl n), some (.inl l), some (.inl x), some (.inl w)] [.inl v26] h22 _
          refine av_wp_ret (v := some (.inl v26)) (ck_113 _ _ rfl) rfl rfl ?_
          exact hq _ h22 (ib_ic i23) F28
        · have c21 : w = (0) := c21
          refine av_wp_sqF ck_113 1 (pc' := 33) (lv' := [some (.inr (.inr (.inl (some (0))))), some (.inl n), some (.inl l), some (.inl x), some (.inl w)]) (st' := [.inr (.inr (.inl (some (0))))]) (h' := h5) rfl ?_
          refine wq_gr (p' := 36) (ck_113 _ _ rfl) rfl (congrArg Prod.fst (ly_k (ib_ic i6).1 0 rfl)) rfl (ly_g (ib_ic i6).1 0 5 26 rfl) ?_
          refine wq_cv (p' := 39) (av_qc (.invokevirtual 225) 60 0 0 3) 3 cd_60 [] (26) 3 [some (.inr (.inr (.inl (some (26))))), none, none] (ck_113 _ _ rfl) rfl rfl pp_60 rfl rfl rfl (congrArg Prod.fst (ly_k (ib_ic i6).1 26 rfl)) rfl rfl rfl rfl ?_
          refine ct_60 i6 i7  (fun v35 h31 i32 i33 F34 => ?_)
          have F37 := Fr_tr F17 F34.1
          have i38 := ib_f1 i7 (ib_ic i32) F34
          have o39 := CO_fr (ib_ic i6).1 (ib_co i6) F34.1
          show av_wp _ cd_113 39 [some (.inr (.inr (.inl (some (0))))), some (.inl n), some (.inl l), some (.inl x), some (.inl w)] [.inl v35] h31 _
          refine av_wp_sqF ck_113 1 (pc' := 49) (lv' := [some (.inr (.inr (.inl (some (0))))), some (.inl n), some (.inl l), some (.inl x), some (.inl w)]) (st' := [.inl v35]) (h' := h31) rfl ?_
          refine av_wp_ret (v := some (.inl v35)) (ck_113 _ _ rfl) rfl rfl ?_
          exact hq _ h31 (ib_ic i32) F37
