set_option maxRecDepth 100000 in
set_option maxHeartbeats 4000000 in
theorem ct_52 {h : av_H} (I : IC h) {t c s : Nat} {cb : Int} (o : CO h t c s cb) (n : Int) (qn : 0 ≤ n ∧ n ≤ 15) {r : Nat} (kr : hK h r = (20, 14)) (k2 : rwc r = true) (y : Int) (qy : 0 ≤ y ∧ y ≤ 128) {Q : Option av_V → av_H → Prop} (hq : ∀ h', IC h' → FX 61 h h' → Q none h') : av_wp none cd_52 0 [some (.inr (.inr (.inl (some (26))))), some (.inr (.inr (.inl (some (t))))), some (.inl n), some (.inr (.inr (.inl (some (r))))), some (.inl y), none, none, none] [] h Q := by
  have F := FX_rf 61 h
  have g1 := co_s12 o
  have g2 := co_cbr o
  refine av_wp_sqF ck_52 3 (pc' := 3) (lv' := [some (.inr (.inr (.inl (some (26))))), some (.inr (.inr (.inl (some (t))))), some (.inl n), some (.inr (.inr (.inl (some (r))))), some (.inl y), none, none, none]) (st' := [.inl n, .inr (.inr (.inl (some (t)))), .inr (.inr (.inl (some (26))))]) (h' := h) rfl ?_
  refine wq_cv (p' := 6) (av_qc (.invokevirtual 104) 53 2 0 3) 6 cd_53 [.inl n, .inr (.inr (.inl (some (t))))] (26) 3 [some (.inr (.inr (.inl (some (26))))), some (.inr (.inr (.inl (some (t))))), some (.inl n), none, none, none] (ck_52 _ _ rfl) rfl rfl pp_53 rfl rfl rfl (congrArg Prod.fst (ly_k I.1 26 rfl)) rfl rfl rfl rfl ?_
  refine ct_53 I o (n) (by omega) (fun v6 h3 p7 I4 F5 => ?_)
  have F8 := FX_1 F F5
  have o9 := CO_fr I.1 o F5.1
  show av_wp _ cd_52 6 [some (.inr (.inr (.inl (some (26))))), some (.inr (.inr (.inl (some (t))))), some (.inl n), some (.inr (.inr (.inl (some (r))))), some (.inl y), none, none, none] [.inl v6] h3 _
  refine wq_k1 (p' := 9) (ck_52 _ _ rfl) rfl ⟨by omega, by omega⟩ (fun c10 => ?_) (fun c11 => ?_)
  · have c10 : v6 ≠ (0) := c10
    refine av_wp_sqF ck_52 2 (pc' := 13) (lv' := [some (.inr (.inr (.inl (some (26))))), some (.inr (.inr (.inl (some (t))))), some (.inl n), some (.inr (.inr (.inl (some (r))))), some (.inl y), some (.inl (0)), none, none]) (st' := []) (h' := h3) rfl ?_
    have L20 : ∀ (m19 : Nat) (k12 : Int) (a13 : Option av_V) (a14 : Option av_V) (h15 : av_H), av_lg a13 = false → av_lg a14 = false → k12 ≤ n → (0 ≤ k12 ∧ k12 ≤ 15) → IC h15 → FX 61 h h15 → CO h15 t c s cb → (n - k12).toNat = m19 → av_wp none cd_52 13 [some (.inr (.inr (.inl (some (26))))), some (.inr (.inr (.inl (some (t))))), some (.inl n), some (.inr (.inr (.inl (some (r))))), some (.inl y), some (.inl k12), a13, a14] [] h15 Q := by
      intro m19
      induction m19 using Nat.strongRecOn with
      | _ m19 I21 =>
        intro k12 a13 a14 h15 g23 g24 g25 g26 I16 F17 o18 e22
        have la13 := g23
        have la14 := g24
        refine av_wp_sqF ck_52 2 (pc' := 16) (lv' := [some (.inr (.inr (.inl (some (26))))), some (.inr (.inr (.inl (some (t))))), some (.inl n), some (.inr (.inr (.inl (some (r))))), some (.inl y), some (.inl k12), a13, a14]) (st' := [.inl n, .inl k12]) (h' := h15) rfl ?_
        refine wq_k2 (p' := 19) (ck_52 _ _ rfl) rfl ⟨by omega, by omega⟩ ⟨by omega, by omega⟩ (fun c27 => ?_) (fun c28 => ?_)
        · have c27 : n ≤ k12 := c27
          refine av_wp_ret (v := none) (ck_52 _ _ rfl) rfl rfl ?_
          exact hq h15 I16 F17
        · have c28 : k12 < n := c28
          refine av_wp_sqF ck_52 1 (pc' := 20) (lv' := [some (.inr (.inr (.inl (some (26))))), some (.inr (.inr (.inl (some (t))))), some (.inl n), some (.inr (.inr (.inl (some (r))))), some (.inl y), some (.inl k12), a13, a14]) (st' := [.inr (.inr (.inl (some (26))))]) (h' := h15) rfl ?_
          refine wq_gr (p' := 23) (ck_52 _ _ rfl) rfl (congrArg Prod.fst (ly_k I16.1 26 rfl)) rfl (ly_g I16.1 26 0 3 rfl) ?_
          refine av_wp_sqF ck_52 1 (pc' := 25) (lv' := [some (.inr (.inr (.inl (some (26))))), some (.inr (.inr (.inl (some (t))))), some (.inl n), some (.inr (.inr (.inl (some (r))))), some (.inl y), some (.inl k12), a13, a14]) (st' := [.inl k12, .inr (.inr (.inl (some (3))))]) (h' := h15) rfl ?_
          refine wq_cv (p' := 28) (av_qc (.invokevirtual 76) 69 1 0 5) 2 cd_69 [.inl k12] (3) 5 [some (.inr (.inr (.inl (some (3))))), some (.inl k12)] (ck_52 _ _ rfl) rfl rfl pp_69 rfl rfl rfl (congrArg Prod.fst (ly_k I16.1 3 rfl)) rfl rfl rfl rfl ?_
          refine ct_69 I16 (k12) (by omega) ?_ (fun t29 c30 s31 d32 o33 z34 z35 => ?_)
          · show av_wp _ cd_52 28 [some (.inr (.inr (.inl (some (26))))), some (.inr (.inr (.inl (some (t))))), some (.inl n), some (.inr (.inr (.inl (some (r))))), some (.inl y), some (.inl k12), a13, a14] [.inr (.inr (.inl none))] h15 _
            refine av_wp_sqF ck_52 5 (pc' := 13) (lv' := [some (.inr (.inr (.inl (some (26))))), some (.inr (.inr (.inl (some (t))))), some (.inl n), some (.inr (.inr (.inl (some (r))))), some (.inl y), some (.inl (k12 + (1))), some (.inr (.inr (.inl none))), a14]) (st' := []) (h' := h15) rfl ?_
            exact I21 _ (by omega) ((k12 + (1))) (some (.inr (.inr (.inl none)))) (a14) h15 rfl la14 (by omega) (by omega) I16 F17 o18 rfl
          · have g36 := co_s12 o33
            have g37 := co_cbr o33
            show av_wp _ cd_52 28 [some (.inr (.inr (.inl (some (26))))), some (.inr (.inr (.inl (some (t))))), some (.inl n), some (.inr (.inr (.inl (some (r))))), some (.inl y), some (.inl k12), a13, a14] [.inr (.inr (.inl (some (t29))))] h15 _
            refine av_wp_sqF ck_52 4 (pc' := 36) (lv' := [some (.inr (.inr (.inl (some (26))))), some (.inr (.inr (.inl (some (t))))), some (.inl n), some (.inr (.inr (.inl (some (r))))), some (.inl y), some (.inl k12), some (.inr (.inr (.inl (some (t29))))), a14]) (st' := [.inr (.inr (.inl (some (26))))]) (h' := h15) rfl ?_
            refine wq_gr (p' := 39) (ck_52 _ _ rfl) rfl (congrArg Prod.fst (ly_k I16.1 26 rfl)) rfl (ly_g I16.1 26 5 28 rfl) ?_
            refine av_wp_sqF ck_52 1 (pc' := 41) (lv' := [some (.inr (.inr (.inl (some (26))))), some (.inr (.inr (.inl (some (t))))), some (.inl n), some (.inr (.inr (.inl (some (r))))), some (.inl y), some (.inl k12), some (.inr (.inr (.inl (some (t29))))), a14]) (st' := [.inl k12, .inr (.inr (.inl (some (28))))]) (h' := h15) rfl ?_
            obtain ⟨v38, e39⟩ : ∃ v, hA h15 (28) (Int.toNat (k12)) = v := ⟨_, rfl⟩
            refine wq_bl (p' := 42) (n := 16) (ck_52 _ _ rfl) rfl ((Or.inr (ly_k I16.1 28 rfl))) (by omega) (e39) ?_
            have J48 : ∀ (a41 : Option av_V) (h42 : av_H), av_lg a41 = false → IC h42 → FX 61 h h42 → CO h42 t c s cb → CO h42 t29 c30 s31 d32 →  av_wp none cd_52 122 [some (.inr (.inr (.inl (some (26))))), some (.inr (.inr (.inl (some (t))))), some (.inl n), some (.inr (.inr (.inl (some (r))))), some (.inl y), some (.inl k12), some (.inr (.inr (.inl (some (t29))))), a41] [] h42 Q := by
              intro a41 h42 g47 I43 F44 o45 o46
              have la41 := g47
              refine av_wp_sqF ck_52 2 (pc' := 13) (lv' := [some (.inr (.inr (.inl (some (26))))), some (.inr (.inr (.inl (some (t))))), some (.inl n), some (.inr (.inr (.inl (some (r))))), some (.inl y), some (.inl (k12 + (1))), some (.inr (.inr (.inl (some (t29))))), a41]) (st' := []) (h' := h42) rfl ?_
              exact I21 _ (by omega) ((k12 + (1))) (some (.inr (.inr (.inl (some (t29)))))) (a41) h42 rfl la41 (by omega) (by omega) I43 F44 o45 rfl
            refine wq_c1 (p' := 45) (ck_52 _ _ rfl) rfl ?_ ?_
            · exact J48 (a14) h15 la14 I16 F17 o18 o33
            · refine av_wp_sqF ck_52 1 (pc' := 46) (lv' := [some (.inr (.inr (.inl (some (26))))), some (.inr (.inr (.inl (some (t))))), some (.inl n), some (.inr (.inr (.inl (some (r))))), some (.inl y), some (.inl k12), some (.inr (.inr (.inl (some (t29))))), a14]) (st' := [.inr (.inr (.inl (some (26))))]) (h' := h15) rfl ?_
              refine wq_gr (p' := 49) (ck_52 _ _ rfl) rfl (congrArg Prod.fst (ly_k I16.1 26 rfl)) rfl (ly_g I16.1 26 4 27 rfl) ?_
              refine av_wp_sqF ck_52 3 (pc' := 54) (lv' := [some (.inr (.inr (.inl (some (26))))), some (.inr (.inr (.inl (some (t))))), some (.inl n), some (.inr (.inr (.inl (some (r))))), some (.inl y), some (.inl k12), some (.inr (.inr (.inl (some (t29))))), a14]) (st' := [.inl (y + k12), .inr (.inr (.inl (some (27))))]) (h' := h15) rfl ?_
              obtain ⟨v49, e50⟩ : ∃ v, hA h15 (27) (Int.toNat ((y + k12))) = v := ⟨_, rfl⟩
              refine wq_al (p' := 55) (n := 144) (ck_52 _ _ rfl) rfl (ly_k I16.1 27 rfl) (by omega) (e50) ?_
              refine wq_c1 (p' := 58) (ck_52 _ _ rfl) rfl ?_ ?_
              · exact J48 (a14) h15 la14 I16 F17 o18 o33
              · refine av_wp_sqF ck_52 1 (pc' := 59) (lv' := [some (.inr (.inr (.inl (some (26))))), some (.inr (.inr (.inl (some (t))))), some (.inl n), some (.inr (.inr (.inl (some (r))))), some (.inl y), some (.inl k12), some (.inr (.inr (.inl (some (t29))))), a14]) (st' := [.inr (.inr (.inl (some (26))))]) (h' := h15) rfl ?_
                refine wq_gr (p' := 62) (ck_52 _ _ rfl) rfl (congrArg Prod.fst (ly_k I16.1 26 rfl)) rfl (ly_g I16.1 26 3 61 rfl) ?_
                refine av_wp_sqF ck_52 3 (pc' := 66) (lv' := [some (.inr (.inr (.inl (some (26))))), some (.inr (.inr (.inl (some (t))))), some (.inl n), some (.inr (.inr (.inl (some (r))))), some (.inl y), some (.inl k12), some (.inr (.inr (.inl (some (t29))))), a14]) (st' := [.inr (.inr (.inl (some (26)))), .inr (.inr (.inl (some (r)))), .inr (.inr (.inl (some (t29)))), .inr (.inr (.inl (some (61))))]) (h' := h15) rfl ?_
                refine wq_gr (p' := 69) (ck_52 _ _ rfl) rfl (congrArg Prod.fst (ly_k I16.1 26 rfl)) rfl (ly_g I16.1 26 4 27 rfl) ?_
                refine av_wp_sqF ck_52 1 (pc' := 71) (lv' := [some (.inr (.inr (.inl (some (26))))), some (.inr (.inr (.inl (some (t))))), some (.inl n), some (.inr (.inr (.inl (some (r))))), some (.inl y), some (.inl k12), some (.inr (.inr (.inl (some (t29))))), a14]) (st' := [.inl y, .inr (.inr (.inl (some (27)))), .inr (.inr (.inl (some (r)))), .inr (.inr (.inl (some (t29)))), .inr (.inr (.inl (some (61))))]) (h' := h15) rfl ?_
                refine wq_cv (p' := 74) (av_qc (.invokevirtual 64) 1 4 0 0) 9 cd_1 [.inl y, .inr (.inr (.inl (some (27)))), .inr (.inr (.inl (some (r)))), .inr (.inr (.inl (some (t29))))] (61) 0 [some (.inr (.inr (.inl (some (61))))), some (.inr (.inr (.inl (some (t29))))), some (.inr (.inr (.inl (some (r))))), some (.inr (.inr (.inl (some (27))))), some (.inl y), none, none, none, none] (ck_52 _ _ rfl) rfl rfl pp_1 rfl rfl rfl (congrArg Prod.fst (bn_k0 I16.1 (Or.inr (Or.inr rfl)))) rfl rfl rfl rfl ?_
                refine ct_1 I16 (Or.inr (Or.inr rfl)) o33 ((congrFun F17.1.2.2.1 r).trans kr) (k2) (y) (by omega) (fun h52 i53 F54 => ?_)
                have F55 := FX_tr F17 F54
                have o56 := CO_fr I16.1 o18 F54.1
                have o57 := CO_fr I16.1 o33 F54.1
                show av_wp _ cd_52 74 [some (.inr (.inr (.inl (some (26))))), some (.inr (.inr (.inl (some (t))))), some (.inl n), some (.inr (.inr (.inl (some (r))))), some (.inl y), some (.inl k12), some (.inr (.inr (.inl (some (t29))))), a14] [] h52 _
                refine av_wp_sqF ck_52 1 (pc' := 76) (lv' := [some (.inr (.inr (.inl (some (26))))), some (.inr (.inr (.inl (some (t))))), some (.inl n), some (.inr (.inr (.inl (some (r))))), some (.inl y), some (.inl k12), some (.inr (.inr (.inl (some (t29))))), a14]) (st' := [.inr (.inr (.inl (some (t29))))]) (h' := h52) rfl ?_
                refine wq_gi (p' := 79) (ck_52 _ _ rfl) rfl (congrArg Prod.fst (co_kt o57)) rfl (co_cb o57) ?_
                refine av_wp_sqF ck_52 1 (pc' := 80) (lv' := [some (.inr (.inr (.inl (some (26))))), some (.inr (.inr (.inl (some (t))))), some (.inl n), some (.inr (.inr (.inl (some (r))))), some (.inl y), some (.inl k12), some (.inr (.inr (.inl (some (t29))))), a14]) (st' := [.inl (-1), .inl d32]) (h' := h52) rfl ?_
                have J65 : ∀ (j58 : Int) (h59 : av_H), (0 ≤ j58 ∧ j58 ≤ 1) → IC h59 → FX 61 h h59 → CO h59 t c s cb → IB 61 t29 c30 s31 r d32 h59 →  av_wp none cd_52 100 [some (.inr (.inr (.inl (some (26))))), some (.inr (.inr (.inl (some (t))))), some (.inl n), some (.inr (.inr (.inl (some (r))))), some (.inl y), some (.inl k12), some (.inr (.inr (.inl (some (t29))))), a14] [.inl j58] h59 Q := by
                  intro j58 h59 g64 I60 F61 o62 i63
                  refine av_wp_sqF ck_52 2 (pc' := 103) (lv' := [some (.inr (.inr (.inl (some (26))))), some (.inr (.inr (.inl (some (t))))), some (.inl n), some (.inr (.inr (.inl (some (r))))), some (.inl y), some (.inl k12), some (.inr (.inr (.inl (some (t29))))), some (.inl j58)]) (st' := [.inr (.inr (.inl (some (26))))]) (h' := h59) rfl ?_
                  refine wq_gr (p' := 106) (ck_52 _ _ rfl) rfl (congrArg Prod.fst (ly_k I60.1 26 rfl)) rfl (ly_g I60.1 26 4 27 rfl) ?_
                  refine av_wp_sqF ck_52 4 (pc' := 113) (lv' := [some (.inr (.inr (.inl (some (26))))), some (.inr (.inr (.inl (some (t))))), some (.inl n), some (.inr (.inr (.inl (some (r))))), some (.inl y), some (.inl k12), some (.inr (.inr (.inl (some (t29))))), some (.inl j58)]) (st' := [.inl j58, .inl (y + k12), .inr (.inr (.inl (some (27))))]) (h' := h59) rfl ?_
                  have J68 : ∀ (j66 : Int), (1 ≤ j66 ∧ j66 ≤ 2) →  av_wp none cd_52 121 [some (.inr (.inr (.inl (some (26))))), some (.inr (.inr (.inl (some (t))))), some (.inl n), some (.inr (.inr (.inl (some (r))))), some (.inl y), some (.inl k12), some (.inr (.inr (.inl (some (t29))))), some (.inl j58)] [.inl j66, .inl (y + k12), .inr (.inr (.inl (some (27))))] h59 Q := by
                    intro j66 g67
                    refine ic_as (p' := 122) (n := 144) rfl rfl I60 (ly_k I60.1 27 rfl) rfl (fun z => by cases z) (by omega) (fun h69 I70 F71 => ?_)
                    have F72 := FX_1 F61 F71
                    have i73 := ib_f1 i63 I70 F71
                    have o74 := CO_fr I60.1 o62 F71.1
                    have o75 := CO_fr I60.1 (ib_co i63) F71.1
                    exact J48 (some (.inl j58)) h69 rfl I70 F72 o74 o75
                  refine wq_k1 (p' := 116) (ck_52 _ _ rfl) rfl ⟨by omega, by omega⟩ (fun c76 => ?_) (fun c77 => ?_)
                  · have c76 : j58 = (0) := c76
                    refine av_wp_sqF ck_52 1 (pc' := 121) (lv' := [some (.inr (.inr (.inl (some (26))))), some (.inr (.inr (.inl (some (t))))), some (.inl n), some (.inr (.inr (.inl (some (r))))), some (.inl y), some (.inl k12), some (.inr (.inr (.inl (some (t29))))), some (.inl j58)]) (st' := [.inl (1), .inl (y + k12), .inr (.inr (.inl (some (27))))]) (h' := h59) rfl ?_
                    exact J68 ((1)) (by omega)
                  · have c77 : j58 ≠ (0) := c77
                    refine av_wp_sqF ck_52 2 (pc' := 121) (lv' := [some (.inr (.inr (.inl (some (26))))), some (.inr (.inr (.inl (some (t))))), some (.inl n), some (.inr (.inr (.inl (some (r))))), some (.inl y), some (.inl k12), some (.inr (.inr (.inl (some (t29))))), some (.inl j58)]) (st' := [.inl (2), .inl (y + k12), .inr (.inr (.inl (some (27))))]) (h' := h59) rfl ?_
                    exact J68 ((2)) (by omega)
                refine wq_k2 (p' := 83) (ck_52 _ _ rfl) rfl ⟨by omega, by omega⟩ ⟨by omega, by omega⟩ (fun c78 => ?_) (fun c79 => ?_)
                · have c78 : d32 = (-1) := c78
                  refine av_wp_sqF ck_52 1 (pc' := 100) (lv' := [some (.inr (.inr (.inl (some (26))))), some (.inr (.inr (.inl (some (t))))), some (.inl n), some (.inr (.inr (.inl (some (r))))), some (.inl y), some (.inl k12), some (.inr (.inr (.inl (some (t29))))), a14]) (st' := [.inl (0)]) (h' := h52) rfl ?_
                  exact J65 ((0)) h52 (by omega) (ib_ic i53) F55 o56 i53
                · have c79 : d32 ≠ (-1) := c79
                  refine av_wp_sqF ck_52 1 (pc' := 84) (lv' := [some (.inr (.inr (.inl (some (26))))), some (.inr (.inr (.inl (some (t))))), some (.inl n), some (.inr (.inr (.inl (some (r))))), some (.inl y), some (.inl k12), some (.inr (.inr (.inl (some (t29))))), a14]) (st' := [.inr (.inr (.inl (some (26))))]) (h' := h52) rfl ?_
                  refine wq_gr (p' := 87) (ck_52 _ _ rfl) rfl (congrArg Prod.fst (ly_k (ib_ic i53).1 26 rfl)) rfl (ly_g (ib_ic i53).1 26 3 61 rfl) ?_
                  refine av_wp_sqF ck_52 1 (pc' := 88) (lv' := [some (.inr (.inr (.inl (some (26))))), some (.inr (.inr (.inl (some (t))))), some (.inl n), some (.inr (.inr (.inl (some (r))))), some (.inl y), some (.inl k12), some (.inr (.inr (.inl (some (t29))))), a14]) (st' := [.inl (0), .inr (.inr (.inl (some (61))))]) (h' := h52) rfl ?_
                  refine wq_cs (p' := 91) (av_qc (.invokestatic 108) 55 2 2 3) 4 cd_55 [.inr (.inr (.inl (some (61)))), .inl (0)] [.inl (0), .inr (.inr (.inl (some (61))))] [some (.inr (.inr (.inl (some (61))))), some (.inl (0)), none, none] (ck_52 _ _ rfl) rfl rfl pp_55 (fun _ => rfl) rfl rfl ?_
                  refine ct_55 i53 ((0)) (by omega) (fun v83 h80 p84 i81 F82 => ?_)
                  have F85 := FX_1 F55 F82
                  have o86 := CO_fr (ib_ic i53).1 o56 F82.1
                  have o87 := CO_fr (ib_ic i53).1 o57 F82.1
                  show av_wp _ cd_52 91 [some (.inr (.inr (.inl (some (26))))), some (.inr (.inr (.inl (some (t))))), some (.inl n), some (.inr (.inr (.inl (some (r))))), some (.inl y), some (.inl k12), some (.inr (.inr (.inl (some (t29))))), a14] [.inl v83] h80 _
                  refine av_wp_sqF ck_52 1 (pc' := 92) (lv' := [some (.inr (.inr (.inl (some (26))))), some (.inr (.inr (.inl (some (t))))), some (.inl n), some (.inr (.inr (.inl (some (r))))), some (.inl y), some (.inl k12), some (.inr (.inr (.inl (some (t29))))), a14]) (st' := [.inl (-1), .inl v83]) (h' := h80) rfl ?_
                  refine wq_k2 (p' := 95) (ck_52 _ _ rfl) rfl ⟨by omega, by omega⟩ ⟨by omega, by omega⟩ (fun c88 => ?_) (fun c89 => ?_)
                  · have c88 : v83 ≠ (-1) := c88
                    refine av_wp_sqF ck_52 1 (pc' := 100) (lv' := [some (.inr (.inr (.inl (some (26))))), some (.inr (.inr (.inl (some (t))))), some (.inl n), some (.inr (.inr (.inl (some (r))))), some (.inl y), some (.inl k12), some (.inr (.inr (.inl (some (t29))))), a14]) (st' := [.inl (0)]) (h' := h80) rfl ?_
                    exact J65 ((0)) h80 (by omega) (ib_ic i81) F85 o86 i81
                  · have c89 : v83 = (-1) := c89
                    refine av_wp_sqF ck_52 2 (pc' := 100) (lv' := [some (.inr (.inr (.inl (some (26))))), some (.inr (.inr (.inl (some (t))))), some (.inl n), some (.inr (.inr (.inl (some (r))))), some (.inl y), some (.inl k12), some (.inr (.inr (.inl (some (t29))))), a14]) (st' := [.inl (1)]) (h' := h80) rfl ?_
                    exact J65 ((1)) h80 (by omega) (ib_ic i81) F85 o86 i81
    exact L20 _ ((0)) (none) (none) h3 rfl rfl (by omega) (by omega) I4 F8 o9 rfl
  · have c11 : v6 = (0) := c11
    refine av_wp_ret (v := none) (ck_52 _ _ rfl) rfl rfl ?_
    exact hq h3 I4 F8

set_option maxRecDepth 100000 in
set_option maxHeartbeats 4000000 in
theorem ct_51 {h : av_H} (I : IC h) {b : Nat} (hb : bn b) {t c s : Nat} {cb : Int} (o : CO h t c s cb) (n : Int) (qn : 0 ≤ n ∧ n ≤ 15) (l : Int) (ql : -2147483648 ≤ l ∧ l ≤ 2147483647) {Q : Option av_V → av_H → Prop} (hq0 : ∀ h', IC h' → FX b h h' → Q (some (.inl 0)) h') (hq1 : ∀ h' r, IB b t c s r cb h' → 0 ≤ cb → FX b h h' → Q (some (.inl 1)) h') : av_wp none cd_51 0 [some (.inr (.inr (.inl (some (26))))), some (.inr (.inr (.inl (some (b))))), some (.inr (.inr (.inl (some (t))))), some (.inl n), some (.inl l)] [] h Q := by
  have F := FX_rf b h
  have g1 := co_s12 o
  have g2 := co_cbr o
  refine av_wp_sqF ck_51 3 (pc' := 5) (lv' := [some (.inr (.inr (.inl (some (26))))), some (.inr (.inr (.inl (some (b))))), some (.inr (.inr (.inl (some (t))))), some (.inl n), some (.inl l)]) (st' := [.inr (.inr (.inl (some (t))))]) (h' := h) rfl ?_
  refine wq_gi (p' := 8) (ck_51 _ _ rfl) rfl (congrArg Prod.fst (co_kt o)) rfl (co_cb o) ?_
  refine av_wp_sqF ck_51 1 (pc' := 9) (lv' := [some (.inr (.inr (.inl (some (26))))), some (.inr (.inr (.inl (some (b))))), some (.inr (.inr (.inl (some (t))))), some (.inl n), some (.inl l)]) (st' := [.inl (-1), .inl cb]) (h' := h) rfl ?_
  refine wq_k2 (p' := 12) (ck_51 _ _ rfl) rfl ⟨by omega, by omega⟩ ⟨by omega, by omega⟩ (fun c3 => ?_) (fun c4 => ?_)
  · have c3 : cb = (-1) := c3
    refine av_wp_sqF ck_51 1 (pc' := 25) (lv' := [some (.inr (.inr (.inl (some (26))))), some (.inr (.inr (.inl (some (b))))), some (.inr (.inr (.inl (some (t))))), some (.inl n), some (.inl l)]) (st' := [.inl (0)]) (h' := h) rfl ?_
    refine av_wp_ret (v := some (.inl (0))) (ck_51 _ _ rfl) rfl rfl ?_
    exact hq0 h I F
  · have c4 : cb ≠ (-1) := c4
    refine av_wp_sqF ck_51 1 (pc' := 13) (lv' := [some (.inr (.inr (.inl (some (26))))), some (.inr (.inr (.inl (some (b))))), some (.inr (.inr (.inl (some (t))))), some (.inl n), some (.inl l)]) (st' := [.inr (.inr (.inl (some (26))))]) (h' := h) rfl ?_
    refine wq_gr (p' := 16) (ck_51 _ _ rfl) rfl (congrArg Prod.fst (ly_k I.1 26 rfl)) rfl (ly_g I.1 26 0 3 rfl) ?_
    refine av_wp_sqF ck_51 1 (pc' := 18) (lv' := [some (.inr (.inr (.inl (some (26))))), some (.inr (.inr (.inl (some (b))))), some (.inr (.inr (.inl (some (t))))), some (.inl n), some (.inl l)]) (st' := [.inl l, .inr (.inr (.inl (some (3))))]) (h' := h) rfl ?_
    refine wq_cv (p' := 21) (av_qc (.invokevirtual 93) 70 1 0 5) 2 cd_70 [.inl l] (3) 5 [some (.inr (.inr (.inl (some (3))))), some (.inl l)] (ck_51 _ _ rfl) rfl rfl pp_70 rfl rfl rfl (congrArg Prod.fst (ly_k I.1 3 rfl)) rfl rfl rfl rfl ?_
    refine ct_70 I (l) (by omega) (fun v5 p6 => ?_)
    show av_wp _ cd_51 21 [some (.inr (.inr (.inl (some (26))))), some (.inr (.inr (.inl (some (b))))), some (.inr (.inr (.inl (some (t))))), some (.inl n), some (.inl l)] [.inl v5] h _
    refine wq_k1 (p' := 24) (ck_51 _ _ rfl) rfl ⟨by omega, by omega⟩ (fun c7 => ?_) (fun c8 => ?_)
    · have c7 : v5 ≠ (0) := c7
      refine av_wp_sqF ck_51 4 (pc' := 30) (lv' := [some (.inr (.inr (.inl (some (26))))), some (.inr (.inr (.inl (some (b))))), some (.inr (.inr (.inl (some (t))))), some (.inl n), some (.inl l)]) (st' := [.inr (.inr (.inl (some (26)))), .inl n, .inr (.inr (.inl (some (t)))), .inr (.inr (.inl (some (26))))]) (h' := h) rfl ?_
      refine wq_gr (p' := 33) (ck_51 _ _ rfl) rfl (congrArg Prod.fst (ly_k I.1 26 rfl)) rfl (ly_g I.1 26 0 3 rfl) ?_
      refine wq_gr (p' := 36) (ck_51 _ _ rfl) rfl (congrArg Prod.fst (ly_k I.1 3 rfl)) rfl (ly_g I.1 3 1 5 rfl) ?_
      refine av_wp_sqF ck_51 1 (pc' := 38) (lv' := [some (.inr (.inr (.inl (some (26))))), some (.inr (.inr (.inl (some (b))))), some (.inr (.inr (.inl (some (t))))), some (.inl n), some (.inl l)]) (st' := [.inl l, .inr (.inr (.inl (some (5)))), .inl n, .inr (.inr (.inl (some (t)))), .inr (.inr (.inl (some (26))))]) (h' := h) rfl ?_
      have u9 : (Int.toNat (l)) < 8 := by omega
      refine wq_ar (p' := 39) (n := 8) (k := 32) (ck_51 _ _ rfl) rfl (ly_k I.1 5 rfl) (by omega) (by omega) (I.1.2.2.1 _ u9) ?_
      refine av_wp_sqF ck_51 3 (pc' := 44) (lv' := [some (.inr (.inr (.inl (some (26))))), some (.inr (.inr (.inl (some (b))))), some (.inr (.inr (.inl (some (t))))), some (.inl n), some (.inl l)]) (st' := [.inl (l * (16)), .inr (.inr (.inl (some (6 + (Int.toNat (l)))))), .inl n, .inr (.inr (.inl (some (t)))), .inr (.inr (.inl (some (26))))]) (h' := h) rfl ?_
      refine wq_cv (p' := 47) (av_qc (.invokevirtual 100) 52 4 0 3) 8 cd_52 [.inl (l * (16)), .inr (.inr (.inl (some (6 + (Int.toNat (l)))))), .inl n, .inr (.inr (.inl (some (t))))] (26) 3 [some (.inr (.inr (.inl (some (26))))), some (.inr (.inr (.inl (some (t))))), some (.inl n), some (.inr (.inr (.inl (some (6 + (Int.toNat (l))))))), some (.inl (l * (16))), none, none, none] (ck_51 _ _ rfl) rfl rfl pp_52 rfl rfl rfl (congrArg Prod.fst (ly_k I.1 26 rfl)) rfl rfl rfl rfl ?_
      refine ct_52 I o (n) (by omega) (ly_l I.1 u9) (rwc_l u9) ((l * (16))) (by omega) (fun h10 I11 F12 => ?_)
      have F13 := FX_61 F F12
      have o14 := CO_fr I.1 o F12.1
      show av_wp _ cd_51 47 [some (.inr (.inr (.inl (some (26))))), some (.inr (.inr (.inl (some (b))))), some (.inr (.inr (.inl (some (t))))), some (.inl n), some (.inl l)] [] h10 _
      refine av_wp_sqF ck_51 3 (pc' := 50) (lv' := [some (.inr (.inr (.inl (some (26))))), some (.inr (.inr (.inl (some (b))))), some (.inr (.inr (.inl (some (t))))), some (.inl n), some (.inl l)]) (st' := [.inr (.inr (.inl (some (26)))), .inr (.inr (.inl (some (t)))), .inr (.inr (.inl (some (b))))]) (h' := h10) rfl ?_
      refine wq_gr (p' := 53) (ck_51 _ _ rfl) rfl (congrArg Prod.fst (ly_k I11.1 26 rfl)) rfl (ly_g I11.1 26 0 3 rfl) ?_
      refine wq_gr (p' := 56) (ck_51 _ _ rfl) rfl (congrArg Prod.fst (ly_k I11.1 3 rfl)) rfl (ly_g I11.1 3 1 5 rfl) ?_
      refine av_wp_sqF ck_51 1 (pc' := 58) (lv' := [some (.inr (.inr (.inl (some (26))))), some (.inr (.inr (.inl (some (b))))), some (.inr (.inr (.inl (some (t))))), some (.inl n), some (.inl l)]) (st' := [.inl l, .inr (.inr (.inl (some (5)))), .inr (.inr (.inl (some (t)))), .inr (.inr (.inl (some (b))))]) (h' := h10) rfl ?_
      have u15 : (Int.toNat (l)) < 8 := by omega
      refine wq_ar (p' := 59) (n := 8) (k := 32) (ck_51 _ _ rfl) rfl (ly_k I11.1 5 rfl) (by omega) (by omega) (I11.1.2.2.1 _ u15) ?_
      refine av_wp_sqF ck_51 1 (pc' := 60) (lv' := [some (.inr (.inr (.inl (some (26))))), some (.inr (.inr (.inl (some (b))))), some (.inr (.inr (.inl (some (t))))), some (.inl n), some (.inl l)]) (st' := [.inr (.inr (.inl (some (26)))), .inr (.inr (.inl (some (6 + (Int.toNat (l)))))), .inr (.inr (.inl (some (t)))), .inr (.inr (.inl (some (b))))]) (h' := h10) rfl ?_
      refine wq_gr (p' := 63) (ck_51 _ _ rfl) rfl (congrArg Prod.fst (ly_k I11.1 26 rfl)) rfl (ly_g I11.1 26 4 27 rfl) ?_
      refine av_wp_sqF ck_51 3 (pc' := 68) (lv' := [some (.inr (.inr (.inl (some (26))))), some (.inr (.inr (.inl (some (b))))), some (.inr (.inr (.inl (some (t))))), some (.inl n), some (.inl l)]) (st' := [.inl (l * (16)), .inr (.inr (.inl (some (27)))), .inr (.inr (.inl (some (6 + (Int.toNat (l)))))), .inr (.inr (.inl (some (t)))), .inr (.inr (.inl (some (b))))]) (h' := h10) rfl ?_
      refine wq_cv (p' := 71) (av_qc (.invokevirtual 64) 1 4 0 0) 9 cd_1 [.inl (l * (16)), .inr (.inr (.inl (some (27)))), .inr (.inr (.inl (some (6 + (Int.toNat (l)))))), .inr (.inr (.inl (some (t))))] (b) 0 [some (.inr (.inr (.inl (some (b))))), some (.inr (.inr (.inl (some (t))))), some (.inr (.inr (.inl (some (6 + (Int.toNat (l))))))), some (.inr (.inr (.inl (some (27))))), some (.inl (l * (16))), none, none, none, none] (ck_51 _ _ rfl) rfl rfl pp_1 rfl rfl rfl (congrArg Prod.fst (bn_k0 I11.1 hb)) rfl rfl rfl rfl ?_
      refine ct_1 I11 hb o14 (ly_l I11.1 u15) (rwc_l u15) ((l * (16))) (by omega) (fun h16 i17 F18 => ?_)
      have F19 := FX_tr F13 F18
      have o20 := CO_fr I11.1 o14 F18.1
      show av_wp _ cd_51 71 [some (.inr (.inr (.inl (some (26))))), some (.inr (.inr (.inl (some (b))))), some (.inr (.inr (.inl (some (t))))), some (.inl n), some (.inl l)] [] h16 _
      refine av_wp_sqF ck_51 1 (pc' := 72) (lv' := [some (.inr (.inr (.inl (some (26))))), some (.inr (.inr (.inl (some (b))))), some (.inr (.inr (.inl (some (t))))), some (.inl n), some (.inl l)]) (st' := [.inl (1)]) (h' := h16) rfl ?_
      refine av_wp_ret (v := some (.inl (1))) (ck_51 _ _ rfl) rfl rfl ?_
      exact hq1 h16 _ i17 (by omega) F19
    · have c8 : v5 = (0) := c8
      refine av_wp_sqF ck_51 1 (pc' := 25) (lv' := [some (.inr (.inr (.inl (some (26))))), some (.inr (.inr (.inl (some (b))))), some (.inr (.inr (.inl (some (t))))), some (.inl n), some (.inl l)]) (st' := [.inl (0)]) (h' := h) rfl ?_
      refine av_wp_ret (v := some (.inl (0))) (ck_51 _ _ rfl) rfl rfl ?_
      exact hq0 h I F

set_option maxRecDepth 100000 in
set_option maxHeartbeats 4000000 in
theorem ct_51n {h : av_H} {b : Nat} (n : Int) (l : Int) {Q : Option av_V → av_H → Prop} (hq : Q (some (.inl 0)) h) : av_wp none cd_51 0 [some (.inr (.inr (.inl (some (26))))), some (.inr (.inr (.inl (some (b))))), some (.inr (.inr (.inl none))), some (.inl n), some (.inl l)] [] h Q := by
  have F := Fr1_rf h
  refine av_wp_sqF ck_51 3 (pc' := 25) (lv' := [some (.inr (.inr (.inl (some (26))))), some (.inr (.inr (.inl (some (b))))), some (.inr (.inr (.inl none))), some (.inl n), some (.inl l)]) (st' := [.inl (0)]) (h' := h) rfl ?_
  refine av_wp_ret (v := some (.inl (0))) (ck_51 _ _ rfl) rfl rfl ?_
  exact hq

set_option maxRecDepth 100000 in
set_option maxHeartbeats 4000000 in
theorem ct_48 {h : av_H} (I : IC h) (n : Int) (qn : -2147483648 ≤ n ∧ n ≤ 2147483647) (l : Int) (ql : -2147483648 ≤ l ∧ l ≤ 2147483647) (x : Int) (qx : -2147483648 ≤ x ∧ x ≤ 2147483647) {Q : Option av_V → av_H → Prop} (hq0 : ∀ h', IC h' → FX 35 h h' → Q (some (.inl 0)) h') (hq1 : ∀ h' t c s r cb, IB 35 t c s r cb h' → 0 ≤ cb → FX 35 h h' → Q (some (.inl 1)) h') : av_wp none cd_48 0 [some (.inr (.inr (.inl (some (26))))), some (.inl n), some (.inl l), some (.inl x), none] [] h Q := by
  have F := FX_rf 35 h
  refine av_wp_sqF ck_48 1 (pc' := 1) (lv' := [some (.inr (.inr (.inl (some (26))))), some (.inl n), some (.inl l), some (.inl x), none]) (st' := [.inr (.inr (.inl (some (26))))]) (h' := h) rfl ?_
  refine wq_gr (p' := 4) (ck_48 _ _ rfl) rfl (congrArg Prod.fst (ly_k I.1 26 rfl)) rfl (ly_g I.1 26 0 3 rfl) ?_
  refine av_wp_sqF ck_48 1 (pc' := 5) (lv' := [some (.inr (.inr (.inl (some (26))))), some (.inl n), some (.inl l), some (.inl x), none]) (st' := [.inl n, .inr (.inr (.inl (some (3))))]) (h' := h) rfl ?_
  refine wq_cv (p' := 8) (av_qc (.invokevirtual 76) 69 1 0 5) 2 cd_69 [.inl n] (3) 5 [some (.inr (.inr (.inl (some (3))))), some (.inl n)] (ck_48 _ _ rfl) rfl rfl pp_69 rfl rfl rfl (congrArg Prod.fst (ly_k I.1 3 rfl)) rfl rfl rfl rfl ?_
  refine ct_69 I (n) (by omega) ?_ (fun t1 c2 s3 d4 o5 z6 z7 => ?_)
  · show av_wp _ cd_48 8 [some (.inr (.inr (.inl (some (26))))), some (.inl n), some (.inl l), some (.inl x), none] [.inr (.inr (.inl none))] h _
    refine av_wp_sqF ck_48 4 (pc' := 44) (lv' := [some (.inr (.inr (.inl (some (26))))), some (.inl n), some (.inl l), some (.inl x), some (.inr (.inr (.inl none)))]) (st' := [.inl (0)]) (h' := h) rfl ?_
    refine av_wp_ret (v := some (.inl (0))) (ck_48 _ _ rfl) rfl rfl ?_
    exact hq0 h I F
  · have g8 := co_s12 o5
    have g9 := co_cbr o5
    show av_wp _ cd_48 8 [some (.inr (.inr (.inl (some (26))))), some (.inl n), some (.inl l), some (.inl x), none] [.inr (.inr (.inl (some (t1))))] h _
    refine av_wp_sqF ck_48 4 (pc' := 16) (lv' := [some (.inr (.inr (.inl (some (26))))), some (.inl n), some (.inl l), some (.inl x), some (.inr (.inr (.inl (some (t1)))))]) (st' := [.inl x]) (h' := h) rfl ?_
    refine wq_k1 (p' := 19) (ck_48 _ _ rfl) rfl ⟨by omega, by omega⟩ (fun c10 => ?_) (fun c11 => ?_)
    · have c10 : x < (0) := c10
      refine av_wp_sqF ck_48 1 (pc' := 44) (lv' := [some (.inr (.inr (.inl (some (26))))), some (.inl n), some (.inl l), some (.inl x), some (.inr (.inr (.inl (some (t1)))))]) (st' := [.inl (0)]) (h' := h) rfl ?_
      refine av_wp_ret (v := some (.inl (0))) (ck_48 _ _ rfl) rfl rfl ?_
      exact hq0 h I F
    · have c11 : (0) ≤ x := c11
      refine av_wp_sqF ck_48 2 (pc' := 22) (lv' := [some (.inr (.inr (.inl (some (26))))), some (.inl n), some (.inl l), some (.inl x), some (.inr (.inr (.inl (some (t1)))))]) (st' := [.inr (.inr (.inl (some (t1)))), .inl x]) (h' := h) rfl ?_
      refine wq_gi (p' := 25) (ck_48 _ _ rfl) rfl (congrArg Prod.fst (co_kt o5)) rfl (co_cb o5) ?_
      refine wq_k2 (p' := 28) (ck_48 _ _ rfl) rfl ⟨by omega, by omega⟩ ⟨by omega, by omega⟩ (fun c12 => ?_) (fun c13 => ?_)
      · have c12 : d4 ≤ x := c12
        refine av_wp_sqF ck_48 1 (pc' := 44) (lv' := [some (.inr (.inr (.inl (some (26))))), some (.inl n), some (.inl l), some (.inl x), some (.inr (.inr (.inl (some (t1)))))]) (st' := [.inl (0)]) (h' := h) rfl ?_
        refine av_wp_ret (v := some (.inl (0))) (ck_48 _ _ rfl) rfl rfl ?_
        exact hq0 h I F
      · have c13 : x < d4 := c13
        refine av_wp_sqF ck_48 2 (pc' := 30) (lv' := [some (.inr (.inr (.inl (some (26))))), some (.inl n), some (.inl l), some (.inl x), some (.inr (.inr (.inl (some (t1)))))]) (st' := [.inr (.inr (.inl (some (26)))), .inr (.inr (.inl (some (26))))]) (h' := h) rfl ?_
        refine wq_gr (p' := 33) (ck_48 _ _ rfl) rfl (congrArg Prod.fst (ly_k I.1 26 rfl)) rfl (ly_g I.1 26 1 35 rfl) ?_
        refine av_wp_sqF ck_48 3 (pc' := 37) (lv' := [some (.inr (.inr (.inl (some (26))))), some (.inl n), some (.inl l), some (.inl x), some (.inr (.inr (.inl (some (t1)))))]) (st' := [.inl l, .inl n, .inr (.inr (.inl (some (t1)))), .inr (.inr (.inl (some (35)))), .inr (.inr (.inl (some (26))))]) (h' := h) rfl ?_
        refine wq_cv (p' := 40) (av_qc (.invokevirtual 85) 51 4 0 3) 5 cd_51 [.inl l, .inl n, .inr (.inr (.inl (some (t1)))), .inr (.inr (.inl (some (35))))] (26) 3 [some (.inr (.inr (.inl (some (26))))), some (.inr (.inr (.inl (some (35))))), some (.inr (.inr (.inl (some (t1))))), some (.inl n), some (.inl l)] (ck_48 _ _ rfl) rfl rfl pp_51 rfl rfl rfl (congrArg Prod.fst (ly_k I.1 26 rfl)) rfl rfl rfl rfl ?_
        refine ct_51 I (Or.inl rfl) o5 (n) (by omega) (l) (by omega) (fun h14 i15 F16 => ?_) (fun h14 r17 i15 z18 F16 => ?_)
        · have F19 := FX_tr F F16
          have o20 := CO_fr I.1 o5 F16.1
          show av_wp _ cd_48 40 [some (.inr (.inr (.inl (some (26))))), some (.inl n), some (.inl l), some (.inl x), some (.inr (.inr (.inl (some (t1)))))] [.inl (0)] h14 _
          refine av_wp_sqF ck_48 2 (pc' := 44) (lv' := [some (.inr (.inr (.inl (some (26))))), some (.inl n), some (.inl l), some (.inl x), some (.inr (.inr (.inl (some (t1)))))]) (st' := [.inl (0)]) (h' := h14) rfl ?_
          refine av_wp_ret (v := some (.inl (0))) (ck_48 _ _ rfl) rfl rfl ?_
          exact hq0 h14 i15 F19
        · have F21 := FX_tr F F16
          have o22 := CO_fr I.1 o5 F16.1
          show av_wp _ cd_48 40 [some (.inr (.inr (.inl (some (26))))), some (.inl n), some (.inl l), some (.inl x), some (.inr (.inr (.inl (some (t1)))))] [.inl (1)] h14 _
          refine av_wp_sqF ck_48 2 (pc' := 46) (lv' := [some (.inr (.inr (.inl (some (26))))), some (.inl n), some (.inl l), some (.inl x), some (.inr (.inr (.inl (some (t1)))))]) (st' := [.inr (.inr (.inl (some (26))))]) (h' := h14) rfl ?_
          refine wq_gr (p' := 49) (ck_48 _ _ rfl) rfl (congrArg Prod.fst (ly_k (ib_ic i15).1 26 rfl)) rfl (ly_g (ib_ic i15).1 26 1 35 rfl) ?_
          refine av_wp_sqF ck_48 1 (pc' := 50) (lv' := [some (.inr (.inr (.inl (some (26))))), some (.inl n), some (.inl l), some (.inl x), some (.inr (.inr (.inl (some (t1)))))]) (st' := [.inl x, .inr (.inr (.inl (some (35))))]) (h' := h14) rfl ?_
          refine wq_cv (p' := 53) (av_qc (.invokevirtual 89) 2 1 0 0) 2 cd_2 [.inl x] (35) 0 [some (.inr (.inr (.inl (some (35))))), some (.inl x)] (ck_48 _ _ rfl) rfl rfl pp_2 rfl rfl rfl (congrArg Prod.fst (bn_k0 (ib_ic i15).1 (Or.inl rfl))) rfl rfl rfl rfl ?_
          refine ct_2 i15 (Fr1_rf h14) (x)  (fun v23 h25 p24 i26 F27 => ?_)
          have F28 := FX_1 F21 F27
          have o29 := CO_fr (ib_ic i15).1 o22 F27.1
          show av_wp _ cd_48 53 [some (.inr (.inr (.inl (some (26))))), some (.inl n), some (.inl l), some (.inl x), some (.inr (.inr (.inl (some (t1)))))] [.inl v23] h25 _
          refine av_wp_sqF ck_48 2 (pc' := 55) (lv' := [some (.inr (.inr (.inl (some (26))))), some (.inl n), some (.inl l), some (.inl x), some (.inr (.inr (.inl (some (t1)))))]) (st' := [.inl (1)]) (h' := h25) rfl ?_
          refine av_wp_ret (v := some (.inl (1))) (ck_48 _ _ rfl) rfl rfl ?_
          exact hq1 h25 _ _ _ _ _ i26 (by omega) F28

set_option maxRecDepth 100000 in
set_option maxHeartbeats 4000000 in
theorem ct_49 {h : av_H} (I : IC h) (n : Int) (qn : -2147483648 ≤ n ∧ n ≤ 2147483647) (l : Int) (ql : -2147483648 ≤ l ∧ l ≤ 2147483647) {Q : Option av_V → av_H → Prop} (hq0 : ∀ h', IC h' → FX 35 h h' → Q (some (.inl 0)) h') (hq1 : ∀ h' t c s r cb, IB 35 t c s r cb h' → 0 ≤ cb → FX 35 h h' → Q (some (.inl 1)) h') : av_wp none cd_49 0 [some (.inr (.inr (.inl (some (26))))), some (.inl n), some (.inl l)] [] h Q := by
  have F := FX_rf 35 h
  refine av_wp_sqF ck_49 2 (pc' := 2) (lv' := [some (.inr (.inr (.inl (some (26))))), some (.inl n), some (.inl l)]) (st' := [.inr (.inr (.inl (some (26)))), .inr (.inr (.inl (some (26))))]) (h' := h) rfl ?_
  refine wq_gr (p' := 5) (ck_49 _ _ rfl) rfl (congrArg Prod.fst (ly_k I.1 26 rfl)) rfl (ly_g I.1 26 1 35 rfl) ?_
  refine av_wp_sqF ck_49 1 (pc' := 6) (lv' := [some (.inr (.inr (.inl (some (26))))), some (.inl n), some (.inl l)]) (st' := [.inr (.inr (.inl (some (26)))), .inr (.inr (.inl (some (35)))), .inr (.inr (.inl (some (26))))]) (h' := h) rfl ?_
  refine wq_gr (p' := 9) (ck_49 _ _ rfl) rfl (congrArg Prod.fst (ly_k I.1 26 rfl)) rfl (ly_g I.1 26 0 3 rfl) ?_
  refine av_wp_sqF ck_49 1 (pc' := 10) (lv' := [some (.inr (.inr (.inl (some (26))))), some (.inl n), some (.inl l)]) (st' := [.inl n, .inr (.inr (.inl (some (3)))), .inr (.inr (.inl (some (35)))), .inr (.inr (.inl (some (26))))]) (h' := h) rfl ?_
  refine wq_cv (p' := 13) (av_qc (.invokevirtual 76) 69 1 0 5) 2 cd_69 [.inl n] (3) 5 [some (.inr (.inr (.inl (some (3))))), some (.inl n)] (ck_49 _ _ rfl) rfl rfl pp_69 rfl rfl rfl (congrArg Prod.fst (ly_k I.1 3 rfl)) rfl rfl rfl rfl ?_
  refine ct_69 I (n) (by omega) ?_ (fun t1 c2 s3 d4 o5 z6 z7 => ?_)
  · show av_wp _ cd_49 13 [some (.inr (.inr (.inl (some (26))))), some (.inl n), some (.inl l)] [.inr (.inr (.inl none)), .inr (.inr (.inl (some (35)))), .inr (.inr (.inl (some (26))))] h _
    refine av_wp_sqF ck_49 2 (pc' := 15) (lv' := [some (.inr (.inr (.inl (some (26))))), some (.inl n), some (.inl l)]) (st' := [.inl l, .inl n, .inr (.inr (.inl none)), .inr (.inr (.inl (some (35)))), .inr (.inr (.inl (some (26))))]) (h' := h) rfl ?_
    refine wq_cv (p' := 18) (av_qc (.invokevirtual 85) 51 4 0 3) 5 cd_51 [.inl l, .inl n, .inr (.inr (.inl none)), .inr (.inr (.inl (some (35))))] (26) 3 [some (.inr (.inr (.inl (some (26))))), some (.inr (.inr (.inl (some (35))))), some (.inr (.inr (.inl none))), some (.inl n), some (.inl l)] (ck_49 _ _ rfl) rfl rfl pp_51 rfl rfl rfl (congrArg Prod.fst (ly_k I.1 26 rfl)) rfl rfl rfl rfl ?_
    refine ct_51n (b := 35) (n) (l) ?_
    show av_wp _ cd_49 18 [some (.inr (.inr (.inl (some (26))))), some (.inl n), some (.inl l)] [.inl (0)] h _
    refine av_wp_ret (v := some (.inl (0))) (ck_49 _ _ rfl) rfl rfl ?_
    exact hq0 h I F
  · have g8 := co_s12 o5
    have g9 := co_cbr o5
    show av_wp _ cd_49 13 [some (.inr (.inr (.inl (some (26))))), some (.inl n), some (.inl l)] [.inr (.inr (.inl (some (t1)))), .inr (.inr (.inl (some (35)))), .inr (.inr (.inl (some (26))))] h _
    refine av_wp_sqF ck_49 2 (pc' := 15) (lv' := [some (.inr (.inr (.inl (some (26))))), some (.inl n), some (.inl l)]) (st' := [.inl l, .inl n, .inr (.inr (.inl (some (t1)))), .inr (.inr (.inl (some (35)))), .inr (.inr (.inl (some (26))))]) (h' := h) rfl ?_
    refine wq_cv (p' := 18) (av_qc (.invokevirtual 85) 51 4 0 3) 5 cd_51 [.inl l, .inl n, .inr (.inr (.inl (some (t1)))), .inr (.inr (.inl (some (35))))] (26) 3 [some (.inr (.inr (.inl (some (26))))), some (.inr (.inr (.inl (some (35))))), some (.inr (.inr (.inl (some (t1))))), some (.inl n), some (.inl l)] (ck_49 _ _ rfl) rfl rfl pp_51 rfl rfl rfl (congrArg Prod.fst (ly_k I.1 26 rfl)) rfl rfl rfl rfl ?_
    refine ct_51 I (Or.inl rfl) o5 (n) (by omega) (l) (by omega) (fun h10 i11 F12 => ?_) (fun h10 r13 i11 z14 F12 => ?_)
    · have F15 := FX_tr F F12
      have o16 := CO_fr I.1 o5 F12.1
      show av_wp _ cd_49 18 [some (.inr (.inr (.inl (some (26))))), some (.inl n), some (.inl l)] [.inl (0)] h10 _
      refine av_wp_ret (v := some (.inl (0))) (ck_49 _ _ rfl) rfl rfl ?_
      exact hq0 h10 i11 F15
    · have F17 := FX_tr F F12
      have o18 := CO_fr I.1 o5 F12.1
      show av_wp _ cd_49 18 [some (.inr (.inr (.inl (some (26))))), some (.inl n), some (.inl l)] [.inl (1)] h10 _
      refine av_wp_ret (v := some (.inl (1))) (ck_49 _ _ rfl) rfl rfl ?_
      exact hq1 h10 _ _ _ _ _ i11 (by omega) F17

set_option maxRecDepth 100000 in
set_option maxHeartbeats 4000000 in
theorem ct_50 {h : av_H} (I : IC h) (n : Int) (qn : -2147483648 ≤ n ∧ n ≤ 2147483647) (l : Int) (ql : -2147483648 ≤ l ∧ l ≤ 2147483647) (x : Int) (qx : -2147483648 ≤ x ∧ x ≤ 2147483647) {Q : Option av_V → av_H → Prop} (hq0 : ∀ h', IC h' → Fr h h' → Q (some (.inl 0)) h') (hq1 : ∀ h' t c s r r2 cb, IB 35 t c s r cb h' → IB 48 t c s r2 cb h' → 0 ≤ cb → Fr h h' → Q (some (.inl 1)) h') : av_wp none cd_50 0 [some (.inr (.inr (.inl (some (26))))), some (.inl n), some (.inl l), some (.inl x), none] [] h Q := by
  have F := Fr_rf h
  refine av_wp_sqF ck_50 1 (pc' := 1) (lv' := [some (.inr (.inr (.inl (some (26))))), some (.inl n), some (.inl l), some (.inl x), none]) (st' := [.inr (.inr (.inl (some (26))))]) (h' := h) rfl ?_
  refine wq_gr (p' := 4) (ck_50 _ _ rfl) rfl (congrArg Prod.fst (ly_k I.1 26 rfl)) rfl (ly_g I.1 26 0 3 rfl) ?_
  refine av_wp_sqF ck_50 1 (pc' := 5) (lv' := [some (.inr (.inr (.inl (some (26))))), some (.inl n), some (.inl l), some (.inl x), none]) (st' := [.inl n, .inr (.inr (.inl (some (3))))]) (h' := h) rfl ?_
  refine wq_cv (p' := 8) (av_qc (.invokevirtual 76) 69 1 0 5) 2 cd_69 [.inl n] (3) 5 [some (.inr (.inr (.inl (some (3))))), some (.inl n)] (ck_50 _ _ rfl) rfl rfl pp_69 rfl rfl rfl (congrArg Prod.fst (ly_k I.1 3 rfl)) rfl rfl rfl rfl ?_
  refine ct_69 I (n) (by omega) ?_ (fun t1 c2 s3 d4 o5 z6 z7 => ?_)
  · show av_wp _ cd_50 8 [some (.inr (.inr (.inl (some (26))))), some (.inl n), some (.inl l), some (.inl x), none] [.inr (.inr (.inl none))] h _
    refine av_wp_sqF ck_50 3 (pc' := 12) (lv' := [some (.inr (.inr (.inl (some (26))))), some (.inl n), some (.inl l), some (.inl x), some (.inr (.inr (.inl none)))]) (st' := [.inr (.inr (.inl (some (26)))), .inr (.inr (.inl (some (26))))]) (h' := h) rfl ?_
    refine wq_gr (p' := 15) (ck_50 _ _ rfl) rfl (congrArg Prod.fst (ly_k I.1 26 rfl)) rfl (ly_g I.1 26 1 35 rfl) ?_
    refine av_wp_sqF ck_50 3 (pc' := 19) (lv' := [some (.inr (.inr (.inl (some (26))))), some (.inl n), some (.inl l), some (.inl x), some (.inr (.inr (.inl none)))]) (st' := [.inl l, .inl n, .inr (.inr (.inl none)), .inr (.inr (.inl (some (35)))), .inr (.inr (.inl (some (26))))]) (h' := h) rfl ?_
    refine wq_cv (p' := 22) (av_qc (.invokevirtual 85) 51 4 0 3) 5 cd_51 [.inl l, .inl n, .inr (.inr (.inl none)), .inr (.inr (.inl (some (35))))] (26) 3 [some (.inr (.inr (.inl (some (26))))), some (.inr (.inr (.inl (some (35))))), some (.inr (.inr (.inl none))), some (.inl n), some (.inl l)] (ck_50 _ _ rfl) rfl rfl pp_51 rfl rfl rfl (congrArg Prod.fst (ly_k I.1 26 rfl)) rfl rfl rfl rfl ?_
    refine ct_51n (b := 35) (n) (l) ?_
    show av_wp _ cd_50 22 [some (.inr (.inr (.inl (some (26))))), some (.inl n), some (.inl l), some (.inl x), some (.inr (.inr (.inl none)))] [.inl (0)] h _
    refine av_wp_sqF ck_50 2 (pc' := 45) (lv' := [some (.inr (.inr (.inl (some (26))))), some (.inl n), some (.inl l), some (.inl x), some (.inr (.inr (.inl none)))]) (st' := [.inl (0)]) (h' := h) rfl ?_
    refine av_wp_ret (v := some (.inl (0))) (ck_50 _ _ rfl) rfl rfl ?_
    exact hq0 h I F
  · have g8 := co_s12 o5
    have g9 := co_cbr o5
    show av_wp _ cd_50 8 [some (.inr (.inr (.inl (some (26))))), some (.inl n), some (.inl l), some (.inl x), none] [.inr (.inr (.inl (some (t1))))] h _
    refine av_wp_sqF ck_50 3 (pc' := 12) (lv' := [some (.inr (.inr (.inl (some (26))))), some (.inl n), some (.inl l), some (.inl x), some (.inr (.inr (.inl (some (t1)))))]) (st' := [.inr (.inr (.inl (some (26)))), .inr (.inr (.inl (some (26))))]) (h' := h) rfl ?_
    refine wq_gr (p' := 15) (ck_50 _ _ rfl) rfl (congrArg Prod.fst (ly_k I.1 26 rfl)) rfl (ly_g I.1 26 1 35 rfl) ?_
    refine av_wp_sqF ck_50 3 (pc' := 19) (lv' := [some (.inr (.inr (.inl (some (26))))), some (.inl n), some (.inl l), some (.inl x), some (.inr (.inr (.inl (some (t1)))))]) (st' := [.inl l, .inl n, .inr (.inr (.inl (some (t1)))), .inr (.inr (.inl (some (35)))), .inr (.inr (.inl (some (26))))]) (h' := h) rfl ?_
    refine wq_cv (p' := 22) (av_qc (.invokevirtual 85) 51 4 0 3) 5 cd_51 [.inl l, .inl n, .inr (.inr (.inl (some (t1)))), .inr (.inr (.inl (some (35))))] (26) 3 [some (.inr (.inr (.inl (some (26))))), some (.inr (.inr (.inl (some (35))))), some (.inr (.inr (.inl (some (t1))))), some (.inl n), some (.inl l)] (ck_50 _ _ rfl) rfl rfl pp_51 rfl rfl rfl (congrArg Prod.fst (ly_k I.1 26 rfl)) rfl rfl rfl rfl ?_
    refine ct_51 I (Or.inl rfl) o5 (n) (by omega) (l) (by omega) (fun h10 i11 F12 => ?_) (fun h10 r13 i11 z14 F12 => ?_)
    · have F15 := Fr_tr F F12.1
      have o16 := CO_fr I.1 o5 F12.1
      show av_wp _ cd_50 22 [some (.inr (.inr (.inl (some (26))))), some (.inl n), some (.inl l), some (.inl x), some (.inr (.inr (.inl (some (t1)))))] [.inl (0)] h10 _
      refine av_wp_sqF ck_50 2 (pc' := 45) (lv' := [some (.inr (.inr (.inl (some (26))))), some (.inl n), some (.inl l), some (.inl x), some (.inr (.inr (.inl (some (t1)))))]) (st' := [.inl (0)]) (h' := h10) rfl ?_
      refine av_wp_ret (v := some (.inl (0))) (ck_50 _ _ rfl) rfl rfl ?_
      exact hq0 h10 i11 F15
    · have F17 := Fr_tr F F12.1
      have o18 := CO_fr I.1 o5 F12.1
      show av_wp _ cd_50 22 [some (.inr (.inr (.inl (some (26))))), some (.inl n), some (.inl l), some (.inl x), some (.inr (.inr (.inl (some (t1)))))] [.inl (1)] h10 _
      refine av_wp_sqF ck_50 3 (pc' := 27) (lv' := [some (.inr (.inr (.inl (some (26))))), some (.inl n), some (.inl l), some (.inl x), some (.inr (.inr (.inl (some (t1)))))]) (st' := [.inr (.inr (.inl (some (26)))), .inr (.inr (.inl (some (26))))]) (h' := h10) rfl ?_
      refine wq_gr (p' := 30) (ck_50 _ _ rfl) rfl (congrArg Prod.fst (ly_k (ib_ic i11).1 26 rfl)) rfl (ly_g (ib_ic i11).1 26 2 48 rfl) ?_
      refine av_wp_sqF ck_50 3 (pc' := 34) (lv' := [some (.inr (.inr (.inl (some (26))))), some (.inl n), some (.inl l), some (.inl x), some (.inr (.inr (.inl (some (t1)))))]) (st' := [.inl x, .inl n, .inr (.inr (.inl (some (t1)))), .inr (.inr (.inl (some (48)))), .inr (.inr (.inl (some (26))))]) (h' := h10) rfl ?_
      refine wq_cv (p' := 37) (av_qc (.invokevirtual 85) 51 4 0 3) 5 cd_51 [.inl x, .inl n, .inr (.inr (.inl (some (t1)))), .inr (.inr (.inl (some (48))))] (26) 3 [some (.inr (.inr (.inl (some (26))))), some (.inr (.inr (.inl (some (48))))), some (.inr (.inr (.inl (some (t1))))), some (.inl n), some (.inl x)] (ck_50 _ _ rfl) rfl rfl pp_51 rfl rfl rfl (congrArg Prod.fst (ly_k (ib_ic i11).1 26 rfl)) rfl rfl rfl rfl ?_
      refine ct_51 (ib_ic i11) (Or.inr (Or.inl rfl)) o18 (n) (by omega) (x) (by omega) (fun h19 i20 F21 => ?_) (fun h19 r22 i20 z23 F21 => ?_)
      · have F24 := Fr_tr F17 F21.1
        have i25 := ib_fx i11 i20 F21 (by decide) (by decide)
        have o26 := CO_fr (ib_ic i11).1 o18 F21.1
        show av_wp _ cd_50 37 [some (.inr (.inr (.inl (some (26))))), some (.inl n), some (.inl l), some (.inl x), some (.inr (.inr (.inl (some (t1)))))] [.inl (0)] h19 _
        refine av_wp_sqF ck_50 2 (pc' := 45) (lv' := [some (.inr (.inr (.inl (some (26))))), some (.inl n), some (.inl l), some (.inl x), some (.inr (.inr (.inl (some (t1)))))]) (st' := [.inl (0)]) (h' := h19) rfl ?_
        refine av_wp_ret (v := some (.inl (0))) (ck_50 _ _ rfl) rfl rfl ?_
        exact hq0 h19 i20 F24
      · have F27 := Fr_tr F17 F21.1
        have i28 := ib_fx i11 (ib_ic i20) F21 (by decide) (by decide)
        have o29 := CO_fr (ib_ic i11).1 o18 F21.1
        show av_wp _ cd_50 37 [some (.inr (.inr (.inl (some (26))))), some (.inl n), some (.inl l), some (.inl x), some (.inr (.inr (.inl (some (t1)))))] [.inl (1)] h19 _
        refine av_wp_sqF ck_50 3 (pc' := 45) (lv' := [some (.inr (.inr (.inl (some (26))))), some (.inl n), some (.inl l), some (.inl x), some (.inr (.inr (.inl (some (t1)))))]) (st' := [.inl (1)]) (h' := h19) rfl ?_
        refine av_wp_ret (v := some (.inl (1))) (ck_50 _ _ rfl) rfl rfl ?_
        exact hq1 h19 _ _ _ _ _ _ i28 i20 (by omega) F27

set_option maxRecDepth 100000 in
set_option maxHeartbeats 4000000 in
theorem ct_57 {h : av_H} {t c s r : Nat} {cb : Int} (i : IB 35 t c s r cb h) (x : Int) {Q : Option av_V → av_H → Prop} (hq : ∀ h', IB 35 t c s r cb h' → Fr1 h h' → Q none h') : av_wp none cd_57 0 [some (.inr (.inr (.inl (some (26))))), some (.inl x), none] [] h Q := by
  have F := Fr1_rf h
  have g1 := co_s12 (ib_co i)
  have g2 := co_cbr (ib_co i)
  refine av_wp_sqF ck_57 1 (pc' := 1) (lv' := [some (.inr (.inr (.inl (some (26))))), some (.inl x), none]) (st' := [.inr (.inr (.inl (some (26))))]) (h' := h) rfl ?_
  refine wq_gr (p' := 4) (ck_57 _ _ rfl) rfl (congrArg Prod.fst (ly_k (ib_ic i).1 26 rfl)) rfl (ly_g (ib_ic i).1 26 8 31 rfl) ?_
  refine av_wp_sqF ck_57 1 (pc' := 5) (lv' := [some (.inr (.inr (.inl (some (26))))), some (.inl x), none]) (st' := [.inl (0), .inr (.inr (.inl (some (31))))]) (h' := h) rfl ?_
  obtain ⟨v3, e4⟩ : ∃ v, hA h (31) (Int.toNat ((0))) = v := ⟨_, rfl⟩
  refine wq_al (p' := 6) (n := 5) (ck_57 _ _ rfl) rfl (ly_k (ib_ic i).1 31 rfl) (by omega) (e4) ?_
  have J8 : ∀ (j6 : Int), (0 ≤ j6 ∧ j6 ≤ 1) →  av_wp none cd_57 14 [some (.inr (.inr (.inl (some (26))))), some (.inl x), none] [.inl j6] h Q := by
    intro j6 g7
    refine av_wp_sqF ck_57 2 (pc' := 16) (lv' := [some (.inr (.inr (.inl (some (26))))), some (.inl x), some (.inl j6)]) (st' := [.inr (.inr (.inl (some (26))))]) (h' := h) rfl ?_
    refine wq_gr (p' := 19) (ck_57 _ _ rfl) rfl (congrArg Prod.fst (ly_k (ib_ic i).1 26 rfl)) rfl (ly_g (ib_ic i).1 26 8 31 rfl) ?_
    refine av_wp_sqF ck_57 2 (pc' := 21) (lv' := [some (.inr (.inr (.inl (some (26))))), some (.inl x), some (.inl j6)]) (st' := [.inl (0), .inr (.inr (.inl (some (31)))), .inl (0), .inr (.inr (.inl (some (31))))]) (h' := h) rfl ?_
    obtain ⟨v9, e10⟩ : ∃ v, hA h (31) (Int.toNat ((0))) = v := ⟨_, rfl⟩
    refine wq_al (p' := 22) (n := 5) (ck_57 _ _ rfl) rfl (ly_k (ib_ic i).1 31 rfl) (by omega) (e10) ?_
    refine av_wp_sqF ck_57 2 (pc' := 24) (lv' := [some (.inr (.inr (.inl (some (26))))), some (.inl x), some (.inl j6)]) (st' := [.inl (v9 + (1)), .inl (0), .inr (.inr (.inl (some (31))))]) (h' := h) rfl ?_
    refine ic_as (p' := 25) (n := 5) rfl rfl (ib_ic i) (ly_k (ib_ic i).1 31 rfl) rfl (fun z => by cases z) (by omega) (fun h12 I13 F14 => ?_)
    have F15 := Fr1_tr F F14
    have i16 := ib_f1 i I13 F14
    have o17 := CO_fr (ib_ic i).1 (ib_co i) F14.1
    refine av_wp_sqF ck_57 1 (pc' := 26) (lv' := [some (.inr (.inr (.inl (some (26))))), some (.inl x), some (.inl j6)]) (st' := [.inl j6]) (h' := h12) rfl ?_
    have J22 : ∀  (h18 : av_H), IC h18 → Fr1 h h18 → IB 35 t c s r cb h18 →  av_wp none cd_57 36 [some (.inr (.inr (.inl (some (26))))), some (.inl x), some (.inl j6)] [] h18 Q := by
      intro h18 I19 F20 i21
      refine av_wp_sqF ck_57 1 (pc' := 37) (lv' := [some (.inr (.inr (.inl (some (26))))), some (.inl x), some (.inl j6)]) (st' := [.inr (.inr (.inl (some (26))))]) (h' := h18) rfl ?_
      refine wq_gr (p' := 40) (ck_57 _ _ rfl) rfl (congrArg Prod.fst (ly_k I19.1 26 rfl)) rfl (ly_g I19.1 26 8 31 rfl) ?_
      refine av_wp_sqF ck_57 2 (pc' := 42) (lv' := [some (.inr (.inr (.inl (some (26))))), some (.inl x), some (.inl j6)]) (st' := [.inl j6, .inl (3), .inr (.inr (.inl (some (31))))]) (h' := h18) rfl ?_
      have J24 : ∀ (j23 : Int),  av_wp none cd_57 71 [some (.inr (.inr (.inl (some (26))))), some (.inl x), some (.inl j6)] [.inl j23, .inl (3), .inr (.inr (.inl (some (31))))] h18 Q := by
        intro j23
        refine ic_as (p' := 72) (n := 5) rfl rfl I19 (ly_k I19.1 31 rfl) rfl (fun z => by cases z) (by omega) (fun h25 I26 F27 => ?_)
        have F28 := Fr1_tr F20 F27
        have i29 := ib_f1 i21 I26 F27
        have o30 := CO_fr I19.1 (ib_co i21) F27.1
        refine av_wp_sqF ck_57 1 (pc' := 73) (lv' := [some (.inr (.inr (.inl (some (26))))), some (.inl x), some (.inl j6)]) (st' := [.inr (.inr (.inl (some (26))))]) (h' := h25) rfl ?_
        refine wq_gr (p' := 76) (ck_57 _ _ rfl) rfl (congrArg Prod.fst (ly_k I26.1 26 rfl)) rfl (ly_g I26.1 26 8 31 rfl) ?_
        refine av_wp_sqF ck_57 2 (pc' := 78) (lv' := [some (.inr (.inr (.inl (some (26))))), some (.inl x), some (.inl j6)]) (st' := [.inr (.inr (.inl (some (26)))), .inl (4), .inr (.inr (.inl (some (31))))]) (h' := h25) rfl ?_
        refine wq_gr (p' := 81) (ck_57 _ _ rfl) rfl (congrArg Prod.fst (ly_k I26.1 26 rfl)) rfl (ly_g I26.1 26 8 31 rfl) ?_
        refine av_wp_sqF ck_57 1 (pc' := 82) (lv' := [some (.inr (.inr (.inl (some (26))))), some (.inl x), some (.inl j6)]) (st' := [.inl (4), .inr (.inr (.inl (some (31)))), .inl (4), .inr (.inr (.inl (some (31))))]) (h' := h25) rfl ?_
        obtain ⟨v31, e32⟩ : ∃ v, hA h25 (31) (Int.toNat ((4))) = v := ⟨_, rfl⟩
        refine wq_al (p' := 83) (n := 5) (ck_57 _ _ rfl) rfl (ly_k I26.1 31 rfl) (by omega) (e32) ?_
        refine av_wp_sqF ck_57 1 (pc' := 84) (lv' := [some (.inr (.inr (.inl (some (26))))), some (.inl x), some (.inl j6)]) (st' := [.inr (.inr (.inl (some (26)))), .inl v31, .inl (4), .inr (.inr (.inl (some (31))))]) (h' := h25) rfl ?_
        refine wq_gr (p' := 87) (ck_57 _ _ rfl) rfl (congrArg Prod.fst (ly_k I26.1 26 rfl)) rfl (ly_g I26.1 26 1 35 rfl) ?_
        obtain ⟨v34, e35⟩ : ∃ v, hF h25 35 15 = v := ⟨_, rfl⟩
        refine wq_gi (p' := 90) (ck_57 _ _ rfl) rfl (congrArg Prod.fst (bn_k0 I26.1 (Or.inl rfl))) rfl (e35) ?_
        refine wq_mx (p' := 93) (ck_57 _ _ rfl) rfl rfl (fun _ _ => rfl) rfl (fun v36 e37 e38 => ?_)
        refine ic_as (p' := 94) (n := 5) rfl rfl I26 (ly_k I26.1 31 rfl) rfl (fun z => by cases z) (by omega) (fun h39 I40 F41 => ?_)
        have F42 := Fr1_tr F28 F41
        have i43 := ib_f1 i29 I40 F41
        have o44 := CO_fr I26.1 o30 F41.1
        refine av_wp_ret (v := none) (ck_57 _ _ rfl) rfl rfl ?_
        exact hq h39 i43 F42
      refine wq_k1 (p' := 45) (ck_57 _ _ rfl) rfl ⟨by omega, by omega⟩ (fun c45 => ?_) (fun c46 => ?_)
      · have c45 : j6 = (0) := c45
        refine av_wp_sqF ck_57 1 (pc' := 56) (lv' := [some (.inr (.inr (.inl (some (26))))), some (.inl x), some (.inl j6)]) (st' := [.inr (.inr (.inl (some (26)))), .inl (3), .inr (.inr (.inl (some (31))))]) (h' := h18) rfl ?_
        refine wq_gr (p' := 59) (ck_57 _ _ rfl) rfl (congrArg Prod.fst (ly_k I19.1 26 rfl)) rfl (ly_g I19.1 26 8 31 rfl) ?_
        refine av_wp_sqF ck_57 1 (pc' := 60) (lv' := [some (.inr (.inr (.inl (some (26))))), some (.inl x), some (.inl j6)]) (st' := [.inl (3), .inr (.inr (.inl (some (31)))), .inl (3), .inr (.inr (.inl (some (31))))]) (h' := h18) rfl ?_
        obtain ⟨v47, e48⟩ : ∃ v, hA h18 (31) (Int.toNat ((3))) = v := ⟨_, rfl⟩
        refine wq_al (p' := 61) (n := 5) (ck_57 _ _ rfl) rfl (ly_k I19.1 31 rfl) (by omega) (e48) ?_
        refine av_wp_sqF ck_57 1 (pc' := 62) (lv' := [some (.inr (.inr (.inl (some (26))))), some (.inl x), some (.inl j6)]) (st' := [.inr (.inr (.inl (some (26)))), .inl v47, .inl (3), .inr (.inr (.inl (some (31))))]) (h' := h18) rfl ?_
        refine wq_gr (p' := 65) (ck_57 _ _ rfl) rfl (congrArg Prod.fst (ly_k I19.1 26 rfl)) rfl (ly_g I19.1 26 1 35 rfl) ?_
        obtain ⟨v50, e51⟩ : ∃ v, hF h18 35 15 = v := ⟨_, rfl⟩
        refine wq_gi (p' := 68) (ck_57 _ _ rfl) rfl (congrArg Prod.fst (bn_k0 I19.1 (Or.inl rfl))) rfl (e51) ?_
        refine wq_mn (p' := 71) (ck_57 _ _ rfl) rfl rfl (fun _ _ => rfl) rfl (fun v52 e53 e54 => ?_)
        exact J24 (v52)
      · have c46 : j6 ≠ (0) := c46
        refine av_wp_sqF ck_57 1 (pc' := 46) (lv' := [some (.inr (.inr (.inl (some (26))))), some (.inl x), some (.inl j6)]) (st' := [.inr (.inr (.inl (some (26)))), .inl (3), .inr (.inr (.inl (some (31))))]) (h' := h18) rfl ?_
        refine wq_gr (p' := 49) (ck_57 _ _ rfl) rfl (congrArg Prod.fst (ly_k I19.1 26 rfl)) rfl (ly_g I19.1 26 1 35 rfl) ?_
        obtain ⟨v55, e56⟩ : ∃ v, hF h18 35 15 = v := ⟨_, rfl⟩
        refine wq_gi (p' := 52) (ck_57 _ _ rfl) rfl (congrArg Prod.fst (bn_k0 I19.1 (Or.inl rfl))) rfl (e56) ?_
        refine av_wp_sqF ck_57 1 (pc' := 71) (lv' := [some (.inr (.inr (.inl (some (26))))), some (.inl x), some (.inl j6)]) (st' := [.inl v55, .inl (3), .inr (.inr (.inl (some (31))))]) (h' := h18) rfl ?_
        exact J24 (v55)
    refine wq_k1 (p' := 29) (ck_57 _ _ rfl) rfl ⟨by omega, by omega⟩ (fun c57 => ?_) (fun c58 => ?_)
    · have c57 : j6 = (0) := c57
      exact J22 h12 I13 F15 i16
    · have c58 : j6 ≠ (0) := c58
      refine av_wp_sqF ck_57 1 (pc' := 30) (lv' := [some (.inr (.inr (.inl (some (26))))), some (.inl x), some (.inl j6)]) (st' := [.inr (.inr (.inl (some (26))))]) (h' := h12) rfl ?_
      refine wq_gr (p' := 33) (ck_57 _ _ rfl) rfl (congrArg Prod.fst (ly_k I13.1 26 rfl)) rfl (ly_g I13.1 26 8 31 rfl) ?_
      refine av_wp_sqF ck_57 2 (pc' := 35) (lv' := [some (.inr (.inr (.inl (some (26))))), some (.inl x), some (.inl j6)]) (st' := [.inl x, .inl (1), .inr (.inr (.inl (some (31))))]) (h' := h12) rfl ?_
      refine ic_as (p' := 36) (n := 5) rfl rfl I13 (ly_k I13.1 31 rfl) rfl (fun z => by cases z) (by omega) (fun h59 I60 F61 => ?_)
      have F62 := Fr1_tr F15 F61
      have i63 := ib_f1 i16 I60 F61
      have o64 := CO_fr I13.1 o17 F61.1
      exact J22 h59 I60 F62 i63
  refine wq_c1 (p' := 9) (ck_57 _ _ rfl) rfl ?_ ?_
  · refine av_wp_sqF ck_57 1 (pc' := 14) (lv' := [some (.inr (.inr (.inl (some (26))))), some (.inl x), none]) (st' := [.inl (0)]) (h' := h) rfl ?_
    exact J8 ((0)) (by omega)
  · refine av_wp_sqF ck_57 2 (pc' := 14) (lv' := [some (.inr (.inr (.inl (some (26))))), some (.inl x), none]) (st' := [.inl (1)]) (h' := h) rfl ?_
    exact J8 ((1)) (by omega)

set_option maxRecDepth 100000 in
set_option maxHeartbeats 4000000 in
theorem ct_56 {h : av_H} {t c s r : Nat} {cb : Int} (i : IB 35 t c s r cb h) {Q : Option av_V → av_H → Prop} (hq : ∀ h', IB 35 t c s r cb h' → Fr1 h h' → Q none h') : av_wp none cd_56 0 [some (.inr (.inr (.inl (some (26))))), none] [] h Q := by
  have F := Fr1_rf h
  have g1 := co_s12 (ib_co i)
  have g2 := co_cbr (ib_co i)
  refine av_wp_sqF ck_56 1 (pc' := 1) (lv' := [some (.inr (.inr (.inl (some (26))))), none]) (st' := [.inr (.inr (.inl (some (26))))]) (h' := h) rfl ?_
  refine wq_gr (p' := 4) (ck_56 _ _ rfl) rfl (congrArg Prod.fst (ly_k (ib_ic i).1 26 rfl)) rfl (ly_g (ib_ic i).1 26 8 31 rfl) ?_
  refine av_wp_sqF ck_56 2 (pc' := 6) (lv' := [some (.inr (.inr (.inl (some (26))))), none]) (st' := [.inl (0), .inl (0), .inr (.inr (.inl (some (31))))]) (h' := h) rfl ?_
  refine ic_as (p' := 7) (n := 5) rfl rfl (ib_ic i) (ly_k (ib_ic i).1 31 rfl) rfl (fun z => by cases z) (by omega) (fun h3 I4 F5 => ?_)
  have F6 := Fr1_tr F F5
  have i7 := ib_f1 i I4 F5
  have o8 := CO_fr (ib_ic i).1 (ib_co i) F5.1
  refine av_wp_sqF ck_56 1 (pc' := 8) (lv' := [some (.inr (.inr (.inl (some (26))))), none]) (st' := [.inr (.inr (.inl (some (26))))]) (h' := h3) rfl ?_
  refine wq_gr (p' := 11) (ck_56 _ _ rfl) rfl (congrArg Prod.fst (ly_k I4.1 26 rfl)) rfl (ly_g I4.1 26 8 31 rfl) ?_
  refine av_wp_sqF ck_56 3 (pc' := 14) (lv' := [some (.inr (.inr (.inl (some (26))))), none]) (st' := [.inl (-1), .inl (5), .inl (1), .inr (.inr (.inl (some (31))))]) (h' := h3) rfl ?_
  refine wq_cs (p' := 17) (av_qc (.invokestatic 126) 221 4 2 10) 5 cd_221 [.inr (.inr (.inl (some (31)))), .inl (1), .inl (5), .inl (-1)] [.inl (-1), .inl (5), .inl (1), .inr (.inr (.inl (some (31))))] [some (.inr (.inr (.inl (some (31))))), some (.inl (1)), some (.inl (5)), some (.inl (-1)), none] (ck_56 _ _ rfl) rfl rfl pp_221 (fun _ => rfl) rfl rfl ?_
  refine ct_221 (n := 5) 1 5 rfl rfl (ly_k I4.1 31 rfl) (by omega) (by omega) (by omega) ?_
  obtain ⟨I10, F9⟩ := IC_fil (a := 31) (lo := 1) (hi := 5) (v := (-1)) I4 rfl (fun z => by cases z) (by omega)
  have F11 := Fr1_tr F6 F9
  have i12 := ib_f1 i7 I10 F9
  have o13 := CO_fr I4.1 o8 F9.1
  show av_wp _ cd_56 17 [some (.inr (.inr (.inl (some (26))))), none] [] (hfil h3 (31) 1 5 (-1)) _
  refine av_wp_sqF ck_56 2 (pc' := 19) (lv' := [some (.inr (.inr (.inl (some (26))))), some (.inl (0))]) (st' := []) (h' := (hfil h3 (31) 1 5 (-1))) rfl ?_
  have L20 : ∀ (m19 : Nat) (k14 : Int) (h15 : av_H), (0 ≤ k14 ∧ k14 ≤ 1024) → IC h15 → Fr1 h h15 → IB 35 t c s r cb h15 → (1024 - k14).toNat = m19 → av_wp none cd_56 19 [some (.inr (.inr (.inl (some (26))))), some (.inl k14)] [] h15 Q := by
    intro m19
    induction m19 using Nat.strongRecOn with
    | _ m19 I21 =>
      intro k14 h15 g23 I16 F17 i18 e22
      refine av_wp_sqF ck_56 2 (pc' := 21) (lv' := [some (.inr (.inr (.inl (some (26))))), some (.inl k14)]) (st' := [.inr (.inr (.inl (some (26)))), .inl k14]) (h' := h15) rfl ?_
      refine wq_gr (p' := 24) (ck_56 _ _ rfl) rfl (congrArg Prod.fst (ly_k I16.1 26 rfl)) rfl (ly_g I16.1 26 1 35 rfl) ?_
      refine wq_gr (p' := 27) (ck_56 _ _ rfl) rfl (congrArg Prod.fst (bn_k0 I16.1 (Or.inl rfl))) rfl (ib_t i18) ?_
      refine wq_gi (p' := 30) (ck_56 _ _ rfl) rfl (congrArg Prod.fst (co_kt (ib_co i18))) rfl (co_cb (ib_co i18)) ?_
      refine wq_k2 (p' := 33) (ck_56 _ _ rfl) rfl ⟨by omega, by omega⟩ ⟨by omega, by omega⟩ (fun c24 => ?_) (fun c25 => ?_)
      · have c24 : cb ≤ k14 := c24
        refine av_wp_ret (v := none) (ck_56 _ _ rfl) rfl rfl ?_
        exact hq h15 i18 F17
      · have c25 : k14 < cb := c25
        refine av_wp_sqF ck_56 1 (pc' := 34) (lv' := [some (.inr (.inr (.inl (some (26))))), some (.inl k14)]) (st' := [.inr (.inr (.inl (some (26))))]) (h' := h15) rfl ?_
        refine wq_gr (p' := 37) (ck_56 _ _ rfl) rfl (congrArg Prod.fst (ly_k I16.1 26 rfl)) rfl (ly_g I16.1 26 1 35 rfl) ?_
        refine av_wp_sqF ck_56 1 (pc' := 38) (lv' := [some (.inr (.inr (.inl (some (26))))), some (.inl k14)]) (st' := [.inl k14, .inr (.inr (.inl (some (35))))]) (h' := h15) rfl ?_
        refine wq_cv (p' := 41) (av_qc (.invokevirtual 89) 2 1 0 0) 2 cd_2 [.inl k14] (35) 0 [some (.inr (.inr (.inl (some (35))))), some (.inl k14)] (ck_56 _ _ rfl) rfl rfl pp_2 rfl rfl rfl (congrArg Prod.fst (bn_k0 I16.1 (Or.inl rfl))) rfl rfl rfl rfl ?_
        refine ct_2 i18 (Fr1_rf h15) (k14)  (fun v26 h28 p27 i29 F30 => ?_)
        have F31 := Fr1_tr F17 F30
        have o32 := CO_fr I16.1 (ib_co i18) F30.1
        show av_wp _ cd_56 41 [some (.inr (.inr (.inl (some (26))))), some (.inl k14)] [.inl v26] h28 _
        have J37 : ∀  (h33 : av_H), IC h33 → Fr1 h h33 → IB 35 t c s r cb h33 →  av_wp none cd_56 69 [some (.inr (.inr (.inl (some (26))))), some (.inl k14)] [] h33 Q := by
          intro h33 I34 F35 i36
          refine av_wp_sqF ck_56 2 (pc' := 19) (lv' := [some (.inr (.inr (.inl (some (26))))), some (.inl (k14 + (1)))]) (st' := []) (h' := h33) rfl ?_
          exact I21 _ (by omega) ((k14 + (1))) h33 (by omega) I34 F35 i36 rfl
        refine wq_k1 (p' := 44) (ck_56 _ _ rfl) rfl ⟨by omega, by omega⟩ (fun c38 => ?_) (fun c39 => ?_)
        · have c38 : v26 = (0) := c38
          refine av_wp_sqF ck_56 1 (pc' := 53) (lv' := [some (.inr (.inr (.inl (some (26))))), some (.inl k14)]) (st' := [.inr (.inr (.inl (some (26))))]) (h' := h28) rfl ?_
          refine wq_gr (p' := 56) (ck_56 _ _ rfl) rfl (congrArg Prod.fst (ly_k (ib_ic i29).1 26 rfl)) rfl (ly_g (ib_ic i29).1 26 8 31 rfl) ?_
          refine av_wp_sqF ck_56 1 (pc' := 57) (lv' := [some (.inr (.inr (.inl (some (26))))), some (.inl k14)]) (st' := [.inl (2), .inr (.inr (.inl (some (31))))]) (h' := h28) rfl ?_
          obtain ⟨v40, e41⟩ : ∃ v, hA h28 (31) (Int.toNat ((2))) = v := ⟨_, rfl⟩
          refine wq_al (p' := 58) (n := 5) (ck_56 _ _ rfl) rfl (ly_k (ib_ic i29).1 31 rfl) (by omega) (e41) ?_
          refine av_wp_sqF ck_56 1 (pc' := 59) (lv' := [some (.inr (.inr (.inl (some (26))))), some (.inl k14)]) (st' := [.inl (-1), .inl v40]) (h' := h28) rfl ?_
          refine wq_c2 (p' := 62) (ck_56 _ _ rfl) rfl ?_ ?_
          · exact J37 h28 (ib_ic i29) F31 i29
          · refine av_wp_sqF ck_56 1 (pc' := 63) (lv' := [some (.inr (.inr (.inl (some (26))))), some (.inl k14)]) (st' := [.inr (.inr (.inl (some (26))))]) (h' := h28) rfl ?_
            refine wq_gr (p' := 66) (ck_56 _ _ rfl) rfl (congrArg Prod.fst (ly_k (ib_ic i29).1 26 rfl)) rfl (ly_g (ib_ic i29).1 26 8 31 rfl) ?_
            refine av_wp_sqF ck_56 2 (pc' := 68) (lv' := [some (.inr (.inr (.inl (some (26))))), some (.inl k14)]) (st' := [.inl k14, .inl (2), .inr (.inr (.inl (some (31))))]) (h' := h28) rfl ?_
            refine ic_as (p' := 69) (n := 5) rfl rfl (ib_ic i29) (ly_k (ib_ic i29).1 31 rfl) rfl (fun z => by cases z) (by omega) (fun h43 I44 F45 => ?_)
            have F46 := Fr1_tr F31 F45
            have i47 := ib_f1 i29 I44 F45
            have o48 := CO_fr (ib_ic i29).1 o32 F45.1
            exact J37 h43 I44 F46 i47
        · have c39 : v26 ≠ (0) := c39
          refine av_wp_sqF ck_56 2 (pc' := 46) (lv' := [some (.inr (.inr (.inl (some (26))))), some (.inl k14)]) (st' := [.inl k14, .inr (.inr (.inl (some (26))))]) (h' := h28) rfl ?_
          refine wq_cv (p' := 49) (av_qc (.invokevirtual 129) 57 1 0 3) 3 cd_57 [.inl k14] (26) 3 [some (.inr (.inr (.inl (some (26))))), some (.inl k14), none] (ck_56 _ _ rfl) rfl rfl pp_57 rfl rfl rfl (congrArg Prod.fst (ly_k (ib_ic i29).1 26 rfl)) rfl rfl rfl rfl ?_
          refine ct_57 i29 (k14) (fun h49 i50 F51 => ?_)
          have F54 := Fr1_tr F31 F51
          have o55 := CO_fr (ib_ic i29).1 o32 F51.1
          show av_wp _ cd_56 49 [some (.inr (.inr (.inl (some (26))))), some (.inl k14)] [] h49 _
          refine av_wp_sqF ck_56 1 (pc' := 69) (lv' := [some (.inr (.inr (.inl (some (26))))), some (.inl k14)]) (st' := []) (h' := h49) rfl ?_
          exact J37 h49 (ib_ic i50) F54 i50
  exact L20 _ ((0)) (hfil h3 (31) 1 5 (-1)) (by omega) I10 F11 i12 rfl
