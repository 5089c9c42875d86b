section
set_option maxRecDepth 100000 in
set_option maxHeartbeats 4000000 in
theorem ct_114 {h : av_H} (I : IC h) (l : Int) (ql : -2147483648 ≤ l ∧ l ≤ 2147483647) (x : Int) (qx : -2147483648 ≤ x ∧ x ≤ 2147483647) {Q : Option av_V → av_H → Prop} (hq : ∀ (v : Int) h', IC h' → Fr h h' → Q (some (.inl v)) h') : av_wp none cd_114 0 [some (.inr (.inr (.inl (some (0))))), some (.inl l), some (.inl x), none, none, none, none, none] [] h Q := by
  have F := Fr_rf h
  refine av_wp_sqF ck_114 1 (pc' := 1) (lv' := [some (.inr (.inr (.inl (some (0))))), some (.inl l), some (.inl x), none, none, none, none, none]) (st' := [.inr (.inr (.inl (some (0))))]) (h' := h) rfl ?_
  refine wq_gr (p' := 4) (ck_114 _ _ rfl) rfl (congrArg Prod.fst (ly_k I.1 0 rfl)) rfl (ly_g I.1 0 1 3 rfl) ?_
  refine av_wp_sqF ck_114 1 (pc' := 5) (lv' := [some (.inr (.inr (.inl (some (0))))), some (.inl l), some (.inl x), none, none, none, none, none]) (st' := [.inl l, .inr (.inr (.inl (some (3))))]) (h' := h) rfl ?_
  refine wq_cv (p' := 8) (av_qc (.invokevirtual 153) 70 1 0 5) 2 cd_70 [.inl l] (3) 5 [some (.inr (.inr (.inl (some (3))))), some (.inl l)] (ck_114 _ _ rfl) rfl rfl pp_70 rfl rfl rfl (congrArg Prod.fst (ly_k I.1 3 rfl)) rfl rfl rfl rfl ?_
  refine ct_70 I (l) (by omega) (fun v1 p2 => ?_)
  show av_wp _ cd_114 8 [some (.inr (.inr (.inl (some (0))))), some (.inl l), some (.inl x), none, none, none, none, none] [.inl v1] h _
  refine wq_k1 (p' := 11) (ck_114 _ _ rfl) rfl ⟨by omega, by omega⟩ (fun c3 => ?_) (fun c4 => ?_)
  · have c3 : v1 = (0) := c3
    refine av_wp_sqF ck_114 1 (pc' := 24) (lv' := [some (.inr (.inr (.inl (some (0))))), some (.inl l), some (.inl x), none, none, none, none, none]) (st' := [.inl (-2)]) (h' := h) rfl ?_
    refine av_wp_ret (v := some (.inl (-2))) (ck_114 _ _ rfl) rfl rfl ?_
    exact hq _ h I F
  · have c4 : v1 ≠ (0) := c4
    refine av_wp_sqF ck_114 1 (pc' := 12) (lv' := [some (.inr (.inr (.inl (some (0))))), some (.inl l), some (.inl x), none, none, none, none, none]) (st' := [.inr (.inr (.inl (some (0))))]) (h' := h) rfl ?_
    refine wq_gr (p' := 15) (ck_114 _ _ rfl) rfl (congrArg Prod.fst (ly_k I.1 0 rfl)) rfl (ly_g I.1 0 1 3 rfl) ?_
    refine av_wp_sqF ck_114 1 (pc' := 16) (lv' := [some (.inr (.inr (.inl (some (0))))), some (.inl l), some (.inl x), none, none, none, none, none]) (st' := [.inl x, .inr (.inr (.inl (some (3))))]) (h' := h) rfl ?_
    refine wq_cv (p' := 19) (av_qc (.invokevirtual 153) 70 1 0 5) 2 cd_70 [.inl x] (3) 5 [some (.inr (.inr (.inl (some (3))))), some (.inl x)] (ck_114 _ _ rfl) rfl rfl pp_70 rfl rfl rfl (congrArg Prod.fst (ly_k I.1 3 rfl)) rfl rfl rfl rfl ?_
    refine ct_70 I (x) (by omega) (fun v5 p6 => ?_)
    show av_wp _ cd_114 19 [some (.inr (.inr (.inl (some (0))))), some (.inl l), some (.inl x), none, none, none, none, none] [.inl v5] h _
    refine wq_k1 (p' := 22) (ck_114 _ _ rfl) rfl ⟨by omega, by omega⟩ (fun c7 => ?_) (fun c8 => ?_)
    · have c7 : v5 ≠ (0) := c7
      refine av_wp_sqF ck_114 6 (pc' := 34) (lv' := [some (.inr (.inr (.inl (some (0))))), some (.inl l), some (.inl x), some (.inl (-1)), some (.inl (13)), some (.inl (0)), none, none]) (st' := []) (h' := h) rfl ?_
      have L18 : ∀ (m17 : Nat) (k9 : Int) (k10 : Int) (k11 : Int) (a12 : Option av_V) (a13 : Option av_V) (h14 : av_H), av_lg a12 = false → av_lg a13 = false → (0 ≤ k11 ∧ k11 ≤ 16) → (0 ≤ k10 ∧ k10 ≤ 13) → IC h14 → Fr h h14 → (16 - k11).toNat = m17 → av_wp none cd_114 34 [some (.inr (.inr (.inl (some (0))))), some (.inl l), some (.inl x), some (.inl k9), some (.inl k10), some (.inl k11), a12, a13] [] h14 Q := by
        intro m17
        induction m17 using Nat.strongRecOn with
        | _ m17 I19 =>
          intro k9 k10 k11 a12 a13 h14 g21 g22 g23 g24 I15 F16 e20
          have la12 := g21
          have la13 := g22
          refine av_wp_sqF ck_114 2 (pc' := 37) (lv' := [some (.inr (.inr (.inl (some (0))))), some (.inl l), some (.inl x), some (.inl k9), some (.inl k10), some (.inl k11), a12, a13]) (st' := [.inr (.inr (.inl (some (0)))), .inl k11]) (h' := h14) rfl ?_
          refine wq_gr (p' := 40) (ck_114 _ _ rfl) rfl (congrArg Prod.fst (ly_k I15.1 0 rfl)) rfl (ly_g I15.1 0 1 3 rfl) ?_
          obtain ⟨v25, e26⟩ : ∃ v, hF h14 3 3 = v := ⟨_, rfl⟩
          have g27 := ic_cc I15
          rw [e26] at g27
          refine wq_gi (p' := 43) (ck_114 _ _ rfl) rfl (congrArg Prod.fst (ly_k I15.1 3 rfl)) rfl (e26) ?_
          refine wq_k2 (p' := 46) (ck_114 _ _ rfl) rfl ⟨by omega, by omega⟩ ⟨by omega, by omega⟩ (fun c28 => ?_) (fun c29 => ?_)
          · have c28 : v25 ≤ k11 := c28
            refine av_wp_sqF ck_114 1 (pc' := 126) (lv' := [some (.inr (.inr (.inl (some (0))))), some (.inl l), some (.inl x), some (.inl k9), some (.inl k10), some (.inl k11), a12, a13]) (st' := [.inl k9]) (h' := h14) rfl ?_
            refine av_wp_ret (v := some (.inl k9)) (ck_114 _ _ rfl) rfl rfl ?_
            exact hq _ h14 I15 F16
          · have c29 : k11 < v25 := c29
            refine av_wp_sqF ck_114 1 (pc' := 47) (lv' := [some (.inr (.inr (.inl (some (0))))), some (.inl l), some (.inl x), some (.inl k9), some (.inl k10), some (.inl k11), a12, a13]) (st' := [.inr (.inr (.inl (some (0))))]) (h' := h14) rfl ?_
            refine wq_gr (p' := 50) (ck_114 _ _ rfl) rfl (congrArg Prod.fst (ly_k I15.1 0 rfl)) rfl (ly_g I15.1 0 1 3 rfl) ?_
            refine av_wp_sqF ck_114 1 (pc' := 52) (lv' := [some (.inr (.inr (.inl (some (0))))), some (.inl l), some (.inl x), some (.inl k9), some (.inl k10), some (.inl k11), a12, a13]) (st' := [.inl k11, .inr (.inr (.inl (some (3))))]) (h' := h14) rfl ?_
            refine wq_cv (p' := 55) (av_qc (.invokevirtual 96) 69 1 0 5) 2 cd_69 [.inl k11] (3) 5 [some (.inr (.inr (.inl (some (3))))), some (.inl k11)] (ck_114 _ _ rfl) rfl rfl pp_69 rfl rfl rfl (congrArg Prod.fst (ly_k I15.1 3 rfl)) rfl rfl rfl rfl ?_
            refine ct_69 I15 (k11) (by omega) ?_ (fun t30 c31 s32 d33 o34 z35 z36 => ?_)
            · show av_wp _ cd_114 55 [some (.inr (.inr (.inl (some (0))))), some (.inl l), some (.inl x), some (.inl k9), some (.inl k10), some (.inl k11), a12, a13] [.inr (.inr (.inl none))] h14 _
              refine av_wp_sqF ck_114 9 (pc' := 34) (lv' := [some (.inr (.inr (.inl (some (0))))), some (.inl l), some (.inl x), some (.inl k9), some (.inl k10), some (.inl (k11 + (1))), some (.inr (.inr (.inl none))), some (.inl (0))]) (st' := []) (h' := h14) rfl ?_
              exact I19 _ (by omega) (k9) (k10) ((k11 + (1))) (some (.inr (.inr (.inl none)))) (some (.inl (0))) h14 rfl rfl (by omega) (by omega) I15 F16 rfl
            · have g37 := co_s12 o34
              have g38 := co_cbr o34
              show av_wp _ cd_114 55 [some (.inr (.inr (.inl (some (0))))), some (.inl l), some (.inl x), some (.inl k9), some (.inl k10), some (.inl k11), a12, a13] [.inr (.inr (.inl (some (t30))))] h14 _
              refine av_wp_sqF ck_114 4 (pc' := 64) (lv' := [some (.inr (.inr (.inl (some (0))))), some (.inl l), some (.inl x), some (.inl k9), some (.inl k10), some (.inl k11), some (.inr (.inr (.inl (some (t30))))), a13]) (st' := [.inr (.inr (.inl (some (t30))))]) (h' := h14) rfl ?_
              refine wq_gi (p' := 67) (ck_114 _ _ rfl) rfl (congrArg Prod.fst (co_kt o34)) rfl (co_s o34) ?_
              refine av_wp_sqF ck_114 1 (pc' := 69) (lv' := [some (.inr (.inr (.inl (some (0))))), some (.inl l), some (.inl x), some (.inl k9), some (.inl k10), some (.inl k11), some (.inr (.inr (.inl (some (t30))))), a13]) (st' := [.inl k10, .inl (s32 : Int)]) (h' := h14) rfl ?_
              refine wq_k2 (p' := 72) (ck_114 _ _ rfl) rfl ⟨by omega, by omega⟩ ⟨by omega, by omega⟩ (fun c39 => ?_) (fun c40 => ?_)
              · have c39 : k10 ≤ (s32 : Int) := c39
                refine av_wp_sqF ck_114 6 (pc' := 34) (lv' := [some (.inr (.inr (.inl (some (0))))), some (.inl l), some (.inl x), some (.inl k9), some (.inl k10), some (.inl (k11 + (1))), some (.inr (.inr (.inl (some (t30))))), some (.inl (0))]) (st' := []) (h' := h14) rfl ?_
                exact I19 _ (by omega) (k9) (k10) ((k11 + (1))) (some (.inr (.inr (.inl (some (t30)))))) (some (.inl (0))) h14 rfl rfl (by omega) (by omega) I15 F16 rfl
              · have c40 : (s32 : Int) < k10 := c40
                refine av_wp_sqF ck_114 6 (pc' := 85) (lv' := [some (.inr (.inr (.inl (some (0))))), some (.inl l), some (.inl x), some (.inl k9), some (.inl k10), some (.inl k11), some (.inr (.inr (.inl (some (t30))))), some (.inl (1))]) (st' := [.inr (.inr (.inl (some (0))))]) (h' := h14) rfl ?_
                refine wq_gr (p' := 88) (ck_114 _ _ rfl) rfl (congrArg Prod.fst (ly_k I15.1 0 rfl)) rfl (ly_g I15.1 0 5 26 rfl) ?_
                refine av_wp_sqF ck_114 3 (pc' := 92) (lv' := [some (.inr (.inr (.inl (some (0))))), some (.inl l), some (.inl x), some (.inl k9), some (.inl k10), some (.inl k11), some (.inr (.inr (.inl (some (t30))))), some (.inl (1))]) (st' := [.inl x, .inl l, .inl k11, .inr (.inr (.inl (some (26))))]) (h' := h14) rfl ?_
                refine wq_cv (p' := 95) (av_qc (.invokevirtual 222) 50 3 0 3) 5 cd_50 [.inl x, .inl l, .inl k11] (26) 3 [some (.inr (.inr (.inl (some (26))))), some (.inl k11), some (.inl l), some (.inl x), none] (ck_114 _ _ rfl) rfl rfl pp_50 rfl rfl rfl (congrArg Prod.fst (ly_k I15.1 26 rfl)) rfl rfl rfl rfl ?_
                refine ct_50 I15 (k11) (by omega) (l) (by omega) (x) (by omega) (fun h41 i42 F44 => ?_) (fun h41 t46 c47 s48 r49 r50 d51 i42 i43 z45 F44 => ?_)
                · have F52 := Fr_tr F16 F44
                  have o53 := CO_fr I15.1 o34 F44
                  show av_wp _ cd_114 95 [some (.inr (.inr (.inl (some (0))))), some (.inl l), some (.inl x), some (.inl k9), some (.inl k10), some (.inl k11), some (.inr (.inr (.inl (some (t30))))), some (.inl (1))] [.inl (0)] h41 _
                  refine av_wp_sqF ck_114 3 (pc' := 34) (lv' := [some (.inr (.inr (.inl (some (0))))), some (.inl l), some (.inl x), some (.inl k9), some (.inl k10), some (.inl (k11 + (1))), some (.inr (.inr (.inl (some (t30))))), some (.inl (1))]) (st' := []) (h' := h41) rfl ?_
                  exact I19 _ (by omega) (k9) (k10) ((k11 + (1))) (some (.inr (.inr (.inl (some (t30)))))) (some (.inl (1))) h41 rfl rfl (by omega) (by omega) i42 F52 rfl
                · have F54 := Fr_tr F16 F44
                  have o55 := CO_fr I15.1 o34 F44
                  have g56 := co_s12 (ib_co i42)
                  have g57 := co_cbr (ib_co i42)
                  show av_wp _ cd_114 95 [some (.inr (.inr (.inl (some (0))))), some (.inl l), some (.inl x), some (.inl k9), some (.inl k10), some (.inl k11), some (.inr (.inr (.inl (some (t30))))), some (.inl (1))] [.inl (1)] h41 _
                  refine av_wp_sqF ck_114 2 (pc' := 99) (lv' := [some (.inr (.inr (.inl (some (0))))), some (.inl l), some (.inl x), some (.inl k9), some (.inl k10), some (.inl k11), some (.inr (.inr (.inl (some (t30))))), some (.inl (1))]) (st' := [.inr (.inr (.inl (some (0))))]) (h' := h41) rfl ?_
                  refine wq_gr (p' := 102) (ck_114 _ _ rfl) rfl (congrArg Prod.fst (ly_k (ib_ic i42).1 0 rfl)) rfl (ly_g (ib_ic i42).1 0 5 26 rfl) ?_
                  refine wq_cv (p' := 105) (av_qc (.invokevirtual 228) 61 0 0 3) 2 cd_61 [] (26) 3 [some (.inr (.inr (.inl (some (26))))), none] (ck_114 _ _ rfl) rfl rfl pp_61 rfl rfl rfl (congrArg Prod.fst (ly_k (ib_ic i42).1 26 rfl)) rfl rfl rfl rfl ?_
                  refine ct_61 i42 i43  (fun v62 h58 i59 i60 F61 => ?_)
                  have F64 := Fr_tr F54 F61.1
                  have i65 := ib_f1 i43 (ib_ic i59) F61
                  have o66 := CO_fr (ib_ic i42).1 o55 F61.1
                  have o67 := CO_fr (ib_ic i42).1 (ib_co i42) F61.1
                  show av_wp _ cd_114 105 [some (.inr (.inr (.inl (some (0))))), some (.inl l), some (.inl x), some (.inl k9), some (.inl k10), some (.inl k11), some (.inr (.inr (.inl (some (t30))))), some (.inl (1))] [.inl v62] h58 _
                  refine av_wp_sqF ck_114 1 (pc' := 106) (lv' := [some (.inr (.inr (.inl (some (0))))), some (.inl l), some (.inl x), some (.inl k9), some (.inl k10), some (.inl k11), some (.inr (.inr (.inl (some (t30))))), some (.inl (1))]) (st' := [.inl (-1), .inl v62]) (h' := h58) rfl ?_
                  refine wq_c2 (p' := 109) (ck_114 _ _ rfl) rfl ?_ ?_
                  · refine av_wp_sqF ck_114 2 (pc' := 34) (lv' := [some (.inr (.inr (.inl (some (0))))), some (.inl l), some (.inl x), some (.inl k9), some (.inl k10), some (.inl (k11 + (1))), some (.inr (.inr (.inl (some (t30))))), some (.inl (1))]) (st' := []) (h' := h58) rfl ?_
                    exact I19 _ (by omega) (k9) (k10) ((k11 + (1))) (some (.inr (.inr (.inl (some (t30)))))) (some (.inl (1))) h58 rfl rfl (by omega) (by omega) (ib_ic i59) F64 rfl
                  · refine av_wp_sqF ck_114 3 (pc' := 114) (lv' := [some (.inr (.inr (.inl (some (0))))), some (.inl l), some (.inl x), some (.inl k11), some (.inl k10), some (.inl k11), some (.inr (.inr (.inl (some (t30))))), some (.inl (1))]) (st' := [.inr (.inr (.inl (some (t30))))]) (h' := h58) rfl ?_
                    refine wq_gi (p' := 117) (ck_114 _ _ rfl) rfl (congrArg Prod.fst (co_kt o66)) rfl (co_s o66) ?_
                    refine av_wp_sqF ck_114 3 (pc' := 34) (lv' := [some (.inr (.inr (.inl (some (0))))), some (.inl l), some (.inl x), some (.inl k11), some (.inl (s32 : Int)), some (.inl (k11 + (1))), some (.inr (.inr (.inl (some (t30))))), some (.inl (1))]) (st' := []) (h' := h58) rfl ?_
                    exact I19 _ (by omega) (k11) ((s32 : Int)) ((k11 + (1))) (some (.inr (.inr (.inl (some (t30)))))) (some (.inl (1))) h58 rfl rfl (by omega) (by omega) (ib_ic i59) F64 rfl
      exact L18 _ ((-1)) ((13)) ((0)) (none) (none) h rfl rfl (by omega) (by omega) I F rfl
    · have c8 : v5 = (0) := c8
      refine av_wp_sqF ck_114 1 (pc' := 24) (lv' := [some (.inr (.inr (.inl (some (0))))), some (.inl l), some (.inl x), none, none, none, none, none]) (st' := [.inl (-2)]) (h' := h) rfl ?_
      refine av_wp_ret (v := some (.inl (-2))) (ck_114 _ _ rfl) rfl rfl ?_
      exact hq _ h I F

set_option maxRecDepth 100000 in
set_option maxHeartbeats 4000000 in
theorem ct_116 {h : av_H} (I : IC h) (n : Int) (qn : -2147483648 ≤ n ∧ n ≤ 2147483647) (l : Int) (ql : -2147483648 ≤ l ∧ l ≤ 2147483647) (x : Int) (qx : -2147483648 ≤ x ∧ x ≤ 2147483647) (k : Int) (qk : -2147483648 ≤ k ∧ k ≤ 2147483647) {Q : Option av_V → av_H → Prop} (hq : ∀ (v : Int) h', IC h' → Fr h h' → Q (some (.inl v)) h') : av_wp none cd_116 0 [some (.inr (.inr (.inl (some (0))))), some (.inl n), some (.inl l), some (.inl x), some (.inl k)] [] h Q := by
  have F := Fr_rf h
  refine av_wp_sqF ck_116 1 (pc' := 1) (lv' := [some (.inr (.inr (.inl (some (0))))), some (.inl n), some (.inl l), some (.inl x), some (.inl k)]) (st' := [.inr (.inr (.inl (some (0))))]) (h' := h) rfl ?_
  refine wq_gr (p' := 4) (ck_116 _ _ rfl) rfl (congrArg Prod.fst (ly_k I.1 0 rfl)) rfl (ly_g I.1 0 5 26 rfl) ?_
  refine av_wp_sqF ck_116 3 (pc' := 7) (lv' := [some (.inr (.inr (.inl (some (0))))), some (.inl n), some (.inl l), some (.inl x), some (.inl k)]) (st' := [.inl x, .inl l, .inl n, .inr (.inr (.inl (some (26))))]) (h' := h) rfl ?_
  refine wq_cv (p' := 10) (av_qc (.invokevirtual 160) 48 3 0 3) 5 cd_48 [.inl x, .inl l, .inl n] (26) 3 [some (.inr (.inr (.inl (some (26))))), some (.inl n), some (.inl l), some (.inl x), none] (ck_116 _ _ rfl) rfl rfl pp_48 rfl rfl rfl (congrArg Prod.fst (ly_k I.1 26 rfl)) rfl rfl rfl rfl ?_
  refine ct_48 I (n) (by omega) (l) (by omega) (x) (by omega) (fun h1 i2 F3 => ?_) (fun h1 t5 c6 s7 r8 d9 i2 z4 F3 => ?_)
  · have F10 := Fr_tr F F3.1
    show av_wp _ cd_116 10 [some (.inr (.inr (.inl (some (0))))), some (.inl n), some (.inl l), some (.inl x), some (.inl k)] [.inl (0)] h1 _
    refine av_wp_sqF ck_116 2 (pc' := 33) (lv' := [some (.inr (.inr (.inl (some (0))))), some (.inl n), some (.inl l), some (.inl x), some (.inl k)]) (st' := [.inl (-2)]) (h' := h1) rfl ?_
    refine av_wp_ret (v := some (.inl (-2))) (ck_116 _ _ rfl) rfl rfl ?_
    exact hq _ h1 i2 F10
  · have F11 := Fr_tr F F3.1
    have g12 := co_s12 (ib_co i2)
    have g13 := co_cbr (ib_co i2)
    show av_wp _ cd_116 10 [some (.inr (.inr (.inl (some (0))))), some (.inl n), some (.inl l), some (.inl x), some (.inl k)] [.inl (1)] h1 _
    refine av_wp_sqF ck_116 2 (pc' := 14) (lv' := [some (.inr (.inr (.inl (some (0))))), some (.inl n), some (.inl l), some (.inl x), some (.inl k)]) (st' := [.inr (.inr (.inl (some (0))))]) (h' := h1) rfl ?_
    refine wq_gr (p' := 17) (ck_116 _ _ rfl) rfl (congrArg Prod.fst (ly_k (ib_ic i2).1 0 rfl)) rfl (ly_g (ib_ic i2).1 0 5 26 rfl) ?_
    refine wq_gr (p' := 20) (ck_116 _ _ rfl) rfl (congrArg Prod.fst (ly_k (ib_ic i2).1 26 rfl)) rfl (ly_g (ib_ic i2).1 26 1 35 rfl) ?_
    refine wq_gr (p' := 23) (ck_116 _ _ rfl) rfl (congrArg Prod.fst (bn_k0 (ib_ic i2).1 (Or.inl rfl))) rfl (ib_t i2) ?_
    refine av_wp_sqF ck_116 1 (pc' := 25) (lv' := [some (.inr (.inr (.inl (some (0))))), some (.inl n), some (.inl l), some (.inl x), some (.inl k)]) (st' := [.inl k, .inr (.inr (.inl (some (t5))))]) (h' := h1) rfl ?_
    refine wq_cv (p' := 28) (av_qc (.invokevirtual 136) 28 1 0 1) 2 cd_28 [.inl k] (t5) 1 [some (.inr (.inr (.inl (some (t5))))), some (.inl k)] (ck_116 _ _ rfl) rfl rfl pp_28 rfl rfl rfl (congrArg Prod.fst (co_kt (ib_co i2))) rfl rfl rfl rfl ?_
    refine ct_28 (ib_co i2) (k) (by omega) (fun v14 p15 => ?_)
    show av_wp _ cd_116 28 [some (.inr (.inr (.inl (some (0))))), some (.inl n), some (.inl l), some (.inl x), some (.inl k)] [.inl v14] h1 _
    refine wq_k1 (p' := 31) (ck_116 _ _ rfl) rfl ⟨by omega, by omega⟩ (fun c16 => ?_) (fun c17 => ?_)
    · have c16 : v14 ≠ (0) := c16
      refine av_wp_sqF ck_116 1 (pc' := 35) (lv' := [some (.inr (.inr (.inl (some (0))))), some (.inl n), some (.inl l), some (.inl x), some (.inl k)]) (st' := [.inr (.inr (.inl (some (0))))]) (h' := h1) rfl ?_
      refine wq_gr (p' := 38) (ck_116 _ _ rfl) rfl (congrArg Prod.fst (ly_k (ib_ic i2).1 0 rfl)) rfl (ly_g (ib_ic i2).1 0 5 26 rfl) ?_
      refine wq_gr (p' := 41) (ck_116 _ _ rfl) rfl (congrArg Prod.fst (ly_k (ib_ic i2).1 26 rfl)) rfl (ly_g (ib_ic i2).1 26 1 35 rfl) ?_
      refine av_wp_sqF ck_116 1 (pc' := 43) (lv' := [some (.inr (.inr (.inl (some (0))))), some (.inl n), some (.inl l), some (.inl x), some (.inl k)]) (st' := [.inl k, .inr (.inr (.inl (some (35))))]) (h' := h1) rfl ?_
      refine wq_cv (p' := 46) (av_qc (.invokevirtual 240) 21 1 0 0) 4 cd_21 [.inl k] (35) 0 [some (.inr (.inr (.inl (some (35))))), some (.inl k), none, none] (ck_116 _ _ rfl) rfl rfl pp_21 rfl rfl rfl (congrArg Prod.fst (bn_k0 (ib_ic i2).1 (Or.inl rfl))) rfl rfl rfl rfl ?_
      refine ct_21 i2 (Fr1_rf h1) (k) (by omega) (fun v18 => ?_)
      show av_wp _ cd_116 46 [some (.inr (.inr (.inl (some (0))))), some (.inl n), some (.inl l), some (.inl x), some (.inl k)] [.inl v18] h1 _
      refine av_wp_ret (v := some (.inl v18)) (ck_116 _ _ rfl) rfl rfl ?_
      exact hq _ h1 (ib_ic i2) F11
    · have c17 : v14 = (0) := c17
      refine av_wp_sqF ck_116 1 (pc' := 33) (lv' := [some (.inr (.inr (.inl (some (0))))), some (.inl n), some (.inl l), some (.inl x), some (.inl k)]) (st' := [.inl (-2)]) (h' := h1) rfl ?_
      refine av_wp_ret (v := some (.inl (-2))) (ck_116 _ _ rfl) rfl rfl ?_
      exact hq _ h1 (ib_ic i2) F11

set_option maxRecDepth 100000 in
set_option maxHeartbeats 4000000 in
theorem ct_117 {h : av_H} (I : IC h) (n : Int) (qn : -2147483648 ≤ n ∧ n ≤ 2147483647) (l : Int) (ql : -2147483648 ≤ l ∧ l ≤ 2147483647) (x : Int) (qx : -2147483648 ≤ x ∧ x ≤ 2147483647) (y : Int) (qy : -2147483648 ≤ y ∧ y ≤ 2147483647) (z : Int) (qz : -2147483648 ≤ z ∧ z ≤ 2147483647) {Q : Option av_V → av_H → Prop} (hq : ∀ (v : Int) h', IC h' → Fr h h' → Q (some (.inl v)) h') : av_wp none cd_117 0 [some (.inr (.inr (.inl (some (0))))), some (.inl n), some (.inl l), some (.inl x), some (.inl y), some (.inl z), none] [] h Q := by
  have F := Fr_rf h
  refine av_wp_sqF ck_117 1 (pc' := 2) (lv' := [some (.inr (.inr (.inl (some (0))))), some (.inl n), some (.inl l), some (.inl x), some (.inl y), some (.inl z), none]) (st' := [.inl y]) (h' := h) rfl ?_
  refine wq_cs (p' := 5) (av_qc (.invokestatic 243) 119 1 2 7) 1 cd_119 [.inl y] [.inl y] [some (.inl y)] (ck_117 _ _ rfl) rfl rfl pp_119 (fun _ => rfl) rfl rfl ?_
  refine ct_119 (y) (by omega) (fun v1 p2 => ?_)
  show av_wp _ cd_117 5 [some (.inr (.inr (.inl (some (0))))), some (.inl n), some (.inl l), some (.inl x), some (.inl y), some (.inl z), none] [.inl v1] h _
  refine wq_k1 (p' := 8) (ck_117 _ _ rfl) rfl ⟨by omega, by omega⟩ (fun c3 => ?_) (fun c4 => ?_)
  · have c3 : v1 = (0) := c3
    refine av_wp_sqF ck_117 1 (pc' := 36) (lv' := [some (.inr (.inr (.inl (some (0))))), some (.inl n), some (.inl l), some (.inl x), some (.inl y), some (.inl z), none]) (st' := [.inl (-2)]) (h' := h) rfl ?_
    refine av_wp_ret (v := some (.inl (-2))) (ck_117 _ _ rfl) rfl rfl ?_
    exact hq _ h I F
  · have c4 : v1 ≠ (0) := c4
    refine av_wp_sqF ck_117 1 (pc' := 10) (lv' := [some (.inr (.inr (.inl (some (0))))), some (.inl n), some (.inl l), some (.inl x), some (.inl y), some (.inl z), none]) (st' := [.inl z]) (h' := h) rfl ?_
    refine wq_k1 (p' := 13) (ck_117 _ _ rfl) rfl ⟨by omega, by omega⟩ (fun c5 => ?_) (fun c6 => ?_)
    · have c5 : z < (0) := c5
      refine av_wp_sqF ck_117 1 (pc' := 36) (lv' := [some (.inr (.inr (.inl (some (0))))), some (.inl n), some (.inl l), some (.inl x), some (.inl y), some (.inl z), none]) (st' := [.inl (-2)]) (h' := h) rfl ?_
      refine av_wp_ret (v := some (.inl (-2))) (ck_117 _ _ rfl) rfl rfl ?_
      exact hq _ h I F
    · have c6 : (0) ≤ z := c6
      refine av_wp_sqF ck_117 2 (pc' := 18) (lv' := [some (.inr (.inr (.inl (some (0))))), some (.inl n), some (.inl l), some (.inl x), some (.inl y), some (.inl z), none]) (st' := [.inl (9999), .inl z]) (h' := h) rfl ?_
      refine wq_k2 (p' := 21) (ck_117 _ _ rfl) rfl ⟨by omega, by omega⟩ ⟨by omega, by omega⟩ (fun c7 => ?_) (fun c8 => ?_)
      · have c7 : (9999) ≤ z := c7
        refine av_wp_sqF ck_117 1 (pc' := 36) (lv' := [some (.inr (.inr (.inl (some (0))))), some (.inl n), some (.inl l), some (.inl x), some (.inl y), some (.inl z), none]) (st' := [.inl (-2)]) (h' := h) rfl ?_
        refine av_wp_ret (v := some (.inl (-2))) (ck_117 _ _ rfl) rfl rfl ?_
        exact hq _ h I F
      · have c8 : z < (9999) := c8
        refine av_wp_sqF ck_117 1 (pc' := 22) (lv' := [some (.inr (.inr (.inl (some (0))))), some (.inl n), some (.inl l), some (.inl x), some (.inl y), some (.inl z), none]) (st' := [.inr (.inr (.inl (some (0))))]) (h' := h) rfl ?_
        refine wq_gr (p' := 25) (ck_117 _ _ rfl) rfl (congrArg Prod.fst (ly_k I.1 0 rfl)) rfl (ly_g I.1 0 5 26 rfl) ?_
        refine av_wp_sqF ck_117 3 (pc' := 28) (lv' := [some (.inr (.inr (.inl (some (0))))), some (.inl n), some (.inl l), some (.inl x), some (.inl y), some (.inl z), none]) (st' := [.inl x, .inl l, .inl n, .inr (.inr (.inl (some (26))))]) (h' := h) rfl ?_
        refine wq_cv (p' := 31) (av_qc (.invokevirtual 160) 48 3 0 3) 5 cd_48 [.inl x, .inl l, .inl n] (26) 3 [some (.inr (.inr (.inl (some (26))))), some (.inl n), some (.inl l), some (.inl x), none] (ck_117 _ _ rfl) rfl rfl pp_48 rfl rfl rfl (congrArg Prod.fst (ly_k I.1 26 rfl)) rfl rfl rfl rfl ?_
        refine ct_48 I (n) (by omega) (l) (by omega) (x) (by omega) (fun h9 i10 F11 => ?_) (fun h9 t13 c14 s15 r16 d17 i10 z12 F11 => ?_)
        · have F18 := Fr_tr F F11.1
          show av_wp _ cd_117 31 [some (.inr (.inr (.inl (some (0))))), some (.inl n), some (.inl l), some (.inl x), some (.inl y), some (.inl z), none] [.inl (0)] h9 _
          refine av_wp_sqF ck_117 2 (pc' := 36) (lv' := [some (.inr (.inr (.inl (some (0))))), some (.inl n), some (.inl l), some (.inl x), some (.inl y), some (.inl z), none]) (st' := [.inl (-2)]) (h' := h9) rfl ?_
          refine av_wp_ret (v := some (.inl (-2))) (ck_117 _ _ rfl) rfl rfl ?_
          exact hq _ h9 i10 F18
        · have F19 := Fr_tr F F11.1
          have g20 := co_s12 (ib_co i10)
          have g21 := co_cbr (ib_co i10)
          show av_wp _ cd_117 31 [some (.inr (.inr (.inl (some (0))))), some (.inl n), some (.inl l), some (.inl x), some (.inl y), some (.inl z), none] [.inl (1)] h9 _
          refine av_wp_sqF ck_117 2 (pc' := 38) (lv' := [some (.inr (.inr (.inl (some (0))))), some (.inl n), some (.inl l), some (.inl x), some (.inl y), some (.inl z), none]) (st' := [.inr (.inr (.inl (some (0))))]) (h' := h9) rfl ?_
          refine wq_gr (p' := 41) (ck_117 _ _ rfl) rfl (congrArg Prod.fst (ly_k (ib_ic i10).1 0 rfl)) rfl (ly_g (ib_ic i10).1 0 5 26 rfl) ?_
          refine wq_gr (p' := 44) (ck_117 _ _ rfl) rfl (congrArg Prod.fst (ly_k (ib_ic i10).1 26 rfl)) rfl (ly_g (ib_ic i10).1 26 1 35 rfl) ?_
          refine av_wp_sqF ck_117 3 (pc' := 49) (lv' := [some (.inr (.inr (.inl (some (0))))), some (.inl n), some (.inl l), some (.inl x), some (.inl y), some (.inl z), none]) (st' := [.inl z, .inl (1), .inl y, .inr (.inr (.inl (some (35))))]) (h' := h9) rfl ?_
          refine wq_cv (p' := 52) (av_qc (.invokevirtual 246) 23 3 0 0) 5 cd_23 [.inl z, .inl (1), .inl y] (35) 0 [some (.inr (.inr (.inl (some (35))))), some (.inl y), some (.inl (1)), some (.inl z), none] (ck_117 _ _ rfl) rfl rfl pp_23 rfl rfl rfl (congrArg Prod.fst (bn_k0 (ib_ic i10).1 (Or.inl rfl))) rfl rfl rfl rfl ?_
          refine ct_23 i10 (Fr1_rf h9) (y) ((1)) (z)  (fun v22 p23 => ?_)
          show av_wp _ cd_117 52 [some (.inr (.inr (.inl (some (0))))), some (.inl n), some (.inl l), some (.inl x), some (.inl y), some (.inl z), none] [.inl v22] h9 _
          refine wq_k1 (p' := 55) (ck_117 _ _ rfl) rfl ⟨by omega, by omega⟩ (fun c24 => ?_) (fun c25 => ?_)
          · have c24 : v22 = (0) := c24
            refine av_wp_sqF ck_117 3 (pc' := 63) (lv' := [some (.inr (.inr (.inl (some (0))))), some (.inl n), some (.inl l), some (.inl x), some (.inl y), some (.inl z), some (.inl (0))]) (st' := [.inr (.inr (.inl (some (0))))]) (h' := h9) rfl ?_
            refine wq_gr (p' := 66) (ck_117 _ _ rfl) rfl (congrArg Prod.fst (ly_k (ib_ic i10).1 0 rfl)) rfl (ly_g (ib_ic i10).1 0 5 26 rfl) ?_
            refine wq_gr (p' := 69) (ck_117 _ _ rfl) rfl (congrArg Prod.fst (ly_k (ib_ic i10).1 26 rfl)) rfl (ly_g (ib_ic i10).1 26 1 35 rfl) ?_
            refine av_wp_sqF ck_117 3 (pc' := 74) (lv' := [some (.inr (.inr (.inl (some (0))))), some (.inl n), some (.inl l), some (.inl x), some (.inl y), some (.inl z), some (.inl (0))]) (st' := [.inl z, .inl (2), .inl y, .inr (.inr (.inl (some (35))))]) (h' := h9) rfl ?_
            refine wq_cv (p' := 77) (av_qc (.invokevirtual 246) 23 3 0 0) 5 cd_23 [.inl z, .inl (2), .inl y] (35) 0 [some (.inr (.inr (.inl (some (35))))), some (.inl y), some (.inl (2)), some (.inl z), none] (ck_117 _ _ rfl) rfl rfl pp_23 rfl rfl rfl (congrArg Prod.fst (bn_k0 (ib_ic i10).1 (Or.inl rfl))) rfl rfl rfl rfl ?_
            refine ct_23 i10 (Fr1_rf h9) (y) ((2)) (z)  (fun v26 p27 => ?_)
            show av_wp _ cd_117 77 [some (.inr (.inr (.inl (some (0))))), some (.inl n), some (.inl l), some (.inl x), some (.inl y), some (.inl z), some (.inl (0))] [.inl v26] h9 _
            refine wq_k1 (p' := 80) (ck_117 _ _ rfl) rfl ⟨by omega, by omega⟩ (fun c28 => ?_) (fun c29 => ?_)
            · have c28 : v26 = (0) := c28
              refine av_wp_sqF ck_117 1 (pc' := 89) (lv' := [some (.inr (.inr (.inl (some (0))))), some (.inl n), some (.inl l), some (.inl x), some (.inl y), some (.inl z), some (.inl (0))]) (st' := [.inl (0)]) (h' := h9) rfl ?_
              refine av_wp_ret (v := some (.inl (0))) (ck_117 _ _ rfl) rfl rfl ?_
              exact hq _ h9 (ib_ic i10) F19
            · have c29 : v26 ≠ (0) := c29
              refine av_wp_sqF ck_117 4 (pc' := 89) (lv' := [some (.inr (.inr (.inl (some (0))))), some (.inl n), some (.inl l), some (.inl x), some (.inl y), some (.inl z), some (.inl (0))]) (st' := [.inl (2)]) (h' := h9) rfl ?_
              refine av_wp_ret (v := some (.inl (2))) (ck_117 _ _ rfl) rfl rfl ?_
              exact hq _ h9 (ib_ic i10) F19
          · have c25 : v22 ≠ (0) := c25
            refine av_wp_sqF ck_117 4 (pc' := 63) (lv' := [some (.inr (.inr (.inl (some (0))))), some (.inl n), some (.inl l), some (.inl x), some (.inl y), some (.inl z), some (.inl (1))]) (st' := [.inr (.inr (.inl (some (0))))]) (h' := h9) rfl ?_
            refine wq_gr (p' := 66) (ck_117 _ _ rfl) rfl (congrArg Prod.fst (ly_k (ib_ic i10).1 0 rfl)) rfl (ly_g (ib_ic i10).1 0 5 26 rfl) ?_
            refine wq_gr (p' := 69) (ck_117 _ _ rfl) rfl (congrArg Prod.fst (ly_k (ib_ic i10).1 26 rfl)) rfl (ly_g (ib_ic i10).1 26 1 35 rfl) ?_
            refine av_wp_sqF ck_117 3 (pc' := 74) (lv' := [some (.inr (.inr (.inl (some (0))))), some (.inl n), some (.inl l), some (.inl x), some (.inl y), some (.inl z), some (.inl (1))]) (st' := [.inl z, .inl (2), .inl y, .inr (.inr (.inl (some (35))))]) (h' := h9) rfl ?_
            refine wq_cv (p' := 77) (av_qc (.invokevirtual 246) 23 3 0 0) 5 cd_23 [.inl z, .inl (2), .inl y] (35) 0 [some (.inr (.inr (.inl (some (35))))), some (.inl y), some (.inl (2)), some (.inl z), none] (ck_117 _ _ rfl) rfl rfl pp_23 rfl rfl rfl (congrArg Prod.fst (bn_k0 (ib_ic i10).1 (Or.inl rfl))) rfl rfl rfl rfl ?_
            refine ct_23 i10 (Fr1_rf h9) (y) ((2)) (z)  (fun v30 p31 => ?_)
            show av_wp _ cd_117 77 [some (.inr (.inr (.inl (some (0))))), some (.inl n), some (.inl l), some (.inl x), some (.inl y), some (.inl z), some (.inl (1))] [.inl v30] h9 _
            refine wq_k1 (p' := 80) (ck_117 _ _ rfl) rfl ⟨by omega, by omega⟩ (fun c32 => ?_) (fun c33 => ?_)
            · have c32 : v30 = (0) := c32
              refine av_wp_sqF ck_117 1 (pc' := 89) (lv' := [some (.inr (.inr (.inl (some (0))))), some (.inl n), some (.inl l), some (.inl x), some (.inl y), some (.inl z), some (.inl (1))]) (st' := [.inl (1)]) (h' := h9) rfl ?_
              refine av_wp_ret (v := some (.inl (1))) (ck_117 _ _ rfl) rfl rfl ?_
              exact hq _ h9 (ib_ic i10) F19
            · have c33 : v30 ≠ (0) := c33
              refine av_wp_sqF ck_117 4 (pc' := 89) (lv' := [some (.inr (.inr (.inl (some (0))))), some (.inl n), some (.inl l), some (.inl x), some (.inl y), some (.inl z), some (.inl (1))]) (st' := [.inl (3)]) (h' := h9) rfl ?_
              refine av_wp_ret (v := some (.inl (3))) (ck_117 _ _ rfl) rfl rfl ?_
              exact hq _ h9 (ib_ic i10) F19

set_option maxRecDepth 100000 in
set_option maxHeartbeats 4000000 in
theorem ct_118 {h : av_H} (I : IC h) (n : Int) (qn : -2147483648 ≤ n ∧ n ≤ 2147483647) (l : Int) (ql : -2147483648 ≤ l ∧ l ≤ 2147483647) (x : Int) (qx : -2147483648 ≤ x ∧ x ≤ 2147483647) (y : Int) (qy : -2147483648 ≤ y ∧ y ≤ 2147483647) (w : Int) (qw : -2147483648 ≤ w ∧ w ≤ 2147483647) {Q : Option av_V → av_H → Prop} (hq : ∀ (v : Int) h', IC h' → Fr h h' → Q (some (.inl v)) h') : av_wp none cd_118 0 [some (.inr (.inr (.inl (some (0))))), some (.inl n), some (.inl l), some (.inl x), some (.inl y), some (.inl w)] [] h Q := by
  have F := Fr_rf h
  refine av_wp_sqF ck_118 1 (pc' := 2) (lv' := [some (.inr (.inr (.inl (some (0))))), some (.inl n), some (.inl l), some (.inl x), some (.inl y), some (.inl w)]) (st' := [.inl y]) (h' := h) rfl ?_
  refine wq_cs (p' := 5) (av_qc (.invokestatic 243) 119 1 2 7) 1 cd_119 [.inl y] [.inl y] [some (.inl y)] (ck_118 _ _ rfl) rfl rfl pp_119 (fun _ => rfl) rfl rfl ?_
  refine ct_119 (y) (by omega) (fun v1 p2 => ?_)
  show av_wp _ cd_118 5 [some (.inr (.inr (.inl (some (0))))), some (.inl n), some (.inl l), some (.inl x), some (.inl y), some (.inl w)] [.inl v1] h _
  refine wq_k1 (p' := 8) (ck_118 _ _ rfl) rfl ⟨by omega, by omega⟩ (fun c3 => ?_) (fun c4 => ?_)
  · have c3 : v1 = (0) := c3
    refine av_wp_sqF ck_118 1 (pc' := 35) (lv' := [some (.inr (.inr (.inl (some (0))))), some (.inl n), some (.inl l), some (.inl x), some (.inl y), some (.inl w)]) (st' := [.inl (-2)]) (h' := h) rfl ?_
    refine av_wp_ret (v := some (.inl (-2))) (ck_118 _ _ rfl) rfl rfl ?_
    exact hq _ h I F
  · have c4 : v1 ≠ (0) := c4
    refine av_wp_sqF ck_118 2 (pc' := 11) (lv' := [some (.inr (.inr (.inl (some (0))))), some (.inl n), some (.inl l), some (.inl x), some (.inl y), some (.inl w)]) (st' := [.inl (1), .inl w]) (h' := h) rfl ?_
    refine wq_k2 (p' := 14) (ck_118 _ _ rfl) rfl ⟨by omega, by omega⟩ ⟨by omega, by omega⟩ (fun c5 => ?_) (fun c6 => ?_)
    · have c5 : w < (1) := c5
      refine av_wp_sqF ck_118 1 (pc' := 35) (lv' := [some (.inr (.inr (.inl (some (0))))), some (.inl n), some (.inl l), some (.inl x), some (.inl y), some (.inl w)]) (st' := [.inl (-2)]) (h' := h) rfl ?_
      refine av_wp_ret (v := some (.inl (-2))) (ck_118 _ _ rfl) rfl rfl ?_
      exact hq _ h I F
    · have c6 : (1) ≤ w := c6
      refine av_wp_sqF ck_118 2 (pc' := 17) (lv' := [some (.inr (.inr (.inl (some (0))))), some (.inl n), some (.inl l), some (.inl x), some (.inl y), some (.inl w)]) (st' := [.inl (2), .inl w]) (h' := h) rfl ?_
      refine wq_k2 (p' := 20) (ck_118 _ _ rfl) rfl ⟨by omega, by omega⟩ ⟨by omega, by omega⟩ (fun c7 => ?_) (fun c8 => ?_)
      · have c7 : (2) < w := c7
        refine av_wp_sqF ck_118 1 (pc' := 35) (lv' := [some (.inr (.inr (.inl (some (0))))), some (.inl n), some (.inl l), some (.inl x), some (.inl y), some (.inl w)]) (st' := [.inl (-2)]) (h' := h) rfl ?_
        refine av_wp_ret (v := some (.inl (-2))) (ck_118 _ _ rfl) rfl rfl ?_
        exact hq _ h I F
      · have c8 : w ≤ (2) := c8
        refine av_wp_sqF ck_118 1 (pc' := 21) (lv' := [some (.inr (.inr (.inl (some (0))))), some (.inl n), some (.inl l), some (.inl x), some (.inl y), some (.inl w)]) (st' := [.inr (.inr (.inl (some (0))))]) (h' := h) rfl ?_
        refine wq_gr (p' := 24) (ck_118 _ _ rfl) rfl (congrArg Prod.fst (ly_k I.1 0 rfl)) rfl (ly_g I.1 0 5 26 rfl) ?_
        refine av_wp_sqF ck_118 3 (pc' := 27) (lv' := [some (.inr (.inr (.inl (some (0))))), some (.inl n), some (.inl l), some (.inl x), some (.inl y), some (.inl w)]) (st' := [.inl x, .inl l, .inl n, .inr (.inr (.inl (some (26))))]) (h' := h) rfl ?_
        refine wq_cv (p' := 30) (av_qc (.invokevirtual 160) 48 3 0 3) 5 cd_48 [.inl x, .inl l, .inl n] (26) 3 [some (.inr (.inr (.inl (some (26))))), some (.inl n), some (.inl l), some (.inl x), none] (ck_118 _ _ rfl) rfl rfl pp_48 rfl rfl rfl (congrArg Prod.fst (ly_k I.1 26 rfl)) rfl rfl rfl rfl ?_
        refine ct_48 I (n) (by omega) (l) (by omega) (x) (by omega) (fun h9 i10 F11 => ?_) (fun h9 t13 c14 s15 r16 d17 i10 z12 F11 => ?_)
        · have F18 := Fr_tr F F11.1
          show av_wp _ cd_118 30 [some (.inr (.inr (.inl (some (0))))), some (.inl n), some (.inl l), some (.inl x), some (.inl y), some (.inl w)] [.inl (0)] h9 _
          refine av_wp_sqF ck_118 2 (pc' := 35) (lv' := [some (.inr (.inr (.inl (some (0))))), some (.inl n), some (.inl l), some (.inl x), some (.inl y), some (.inl w)]) (st' := [.inl (-2)]) (h' := h9) rfl ?_
          refine av_wp_ret (v := some (.inl (-2))) (ck_118 _ _ rfl) rfl rfl ?_
          exact hq _ h9 i10 F18
        · have F19 := Fr_tr F F11.1
          have g20 := co_s12 (ib_co i10)
          have g21 := co_cbr (ib_co i10)
          show av_wp _ cd_118 30 [some (.inr (.inr (.inl (some (0))))), some (.inl n), some (.inl l), some (.inl x), some (.inl y), some (.inl w)] [.inl (1)] h9 _
          refine av_wp_sqF ck_118 2 (pc' := 37) (lv' := [some (.inr (.inr (.inl (some (0))))), some (.inl n), some (.inl l), some (.inl x), some (.inl y), some (.inl w)]) (st' := [.inr (.inr (.inl (some (0))))]) (h' := h9) rfl ?_
          refine wq_gr (p' := 40) (ck_118 _ _ rfl) rfl (congrArg Prod.fst (ly_k (ib_ic i10).1 0 rfl)) rfl (ly_g (ib_ic i10).1 0 5 26 rfl) ?_
          refine wq_gr (p' := 43) (ck_118 _ _ rfl) rfl (congrArg Prod.fst (ly_k (ib_ic i10).1 26 rfl)) rfl (ly_g (ib_ic i10).1 26 1 35 rfl) ?_
          refine av_wp_sqF ck_118 2 (pc' := 47) (lv' := [some (.inr (.inr (.inl (some (0))))), some (.inl n), some (.inl l), some (.inl x), some (.inl y), some (.inl w)]) (st' := [.inl w, .inl y, .inr (.inr (.inl (some (35))))]) (h' := h9) rfl ?_
          refine wq_cv (p' := 50) (av_qc (.invokevirtual 249) 24 2 0 0) 5 cd_24 [.inl w, .inl y] (35) 0 [some (.inr (.inr (.inl (some (35))))), some (.inl y), some (.inl w), none, none] (ck_118 _ _ rfl) rfl rfl pp_24 rfl rfl rfl (congrArg Prod.fst (bn_k0 (ib_ic i10).1 (Or.inl rfl))) rfl rfl rfl rfl ?_
          refine ct_24 i10 (Fr1_rf h9) (y) (w)  (fun v22 => ?_)
          show av_wp _ cd_118 50 [some (.inr (.inr (.inl (some (0))))), some (.inl n), some (.inl l), some (.inl x), some (.inl y), some (.inl w)] [.inl v22] h9 _
          refine av_wp_ret (v := some (.inl v22)) (ck_118 _ _ rfl) rfl rfl ?_
          exact hq _ h9 (ib_ic i10) F19

set_option maxRecDepth 100000 in
set_option maxHeartbeats 4000000 in
theorem ct_115 {h : av_H} (I : IC h) (n : Int) (qn : -2147483648 ≤ n ∧ n ≤ 2147483647) {Q : Option av_V → av_H → Prop} (hq : ∀ (v : Int) h', IC h' → Fr h h' → Q (some (.inl v)) h') : av_wp none cd_115 0 [some (.inr (.inr (.inl (some (0))))), some (.inl n), none, none, none, none] [] h Q := by
  have F := Fr_rf h
  refine av_wp_sqF ck_115 1 (pc' := 1) (lv' := [some (.inr (.inr (.inl (some (0))))), some (.inl n), none, none, none, none]) (st' := [.inr (.inr (.inl (some (0))))]) (h' := h) rfl ?_
  refine wq_gr (p' := 4) (ck_115 _ _ rfl) rfl (congrArg Prod.fst (ly_k I.1 0 rfl)) rfl (ly_g I.1 0 1 3 rfl) ?_
  refine av_wp_sqF ck_115 1 (pc' := 5) (lv' := [some (.inr (.inr (.inl (some (0))))), some (.inl n), none, none, none, none]) (st' := [.inl n, .inr (.inr (.inl (some (3))))]) (h' := h) rfl ?_
  refine wq_cv (p' := 8) (av_qc (.invokevirtual 96) 69 1 0 5) 2 cd_69 [.inl n] (3) 5 [some (.inr (.inr (.inl (some (3))))), some (.inl n)] (ck_115 _ _ rfl) rfl rfl pp_69 rfl rfl rfl (congrArg Prod.fst (ly_k I.1 3 rfl)) rfl rfl rfl rfl ?_
  refine ct_69 I (n) (by omega) ?_ (fun t1 c2 s3 d4 o5 z6 z7 => ?_)
  · show av_wp _ cd_115 8 [some (.inr (.inr (.inl (some (0))))), some (.inl n), none, none, none, none] [.inr (.inr (.inl none))] h _
    refine av_wp_sqF ck_115 4 (pc' := 33) (lv' := [some (.inr (.inr (.inl (some (0))))), some (.inl n), some (.inr (.inr (.inl none))), none, none, none]) (st' := [.inl (-2)]) (h' := h) rfl ?_
    refine av_wp_ret (v := some (.inl (-2))) (ck_115 _ _ rfl) rfl rfl ?_
    exact hq _ h I F
  · have g8 := co_s12 o5
    have g9 := co_cbr o5
    show av_wp _ cd_115 8 [some (.inr (.inr (.inl (some (0))))), some (.inl n), none, none, none, none] [.inr (.inr (.inl (some (t1))))] h _
    refine av_wp_sqF ck_115 4 (pc' := 14) (lv' := [some (.inr (.inr (.inl (some (0))))), some (.inl n), some (.inr (.inr (.inl (some (t1))))), none, none, none]) (st' := [.inr (.inr (.inl (some (t1))))]) (h' := h) rfl ?_
    refine wq_gi (p' := 17) (ck_115 _ _ rfl) rfl (congrArg Prod.fst (co_kt o5)) rfl (co_cb o5) ?_
    refine av_wp_sqF ck_115 1 (pc' := 18) (lv' := [some (.inr (.inr (.inl (some (0))))), some (.inl n), some (.inr (.inr (.inl (some (t1))))), none, none, none]) (st' := [.inl (-1), .inl d4]) (h' := h) rfl ?_
    refine wq_k2 (p' := 21) (ck_115 _ _ rfl) rfl ⟨by omega, by omega⟩ ⟨by omega, by omega⟩ (fun c10 => ?_) (fun c11 => ?_)
    · have c10 : d4 = (-1) := c10
      refine av_wp_sqF ck_115 1 (pc' := 33) (lv' := [some (.inr (.inr (.inl (some (0))))), some (.inl n), some (.inr (.inr (.inl (some (t1))))), none, none, none]) (st' := [.inl (-2)]) (h' := h) rfl ?_
      refine av_wp_ret (v := some (.inl (-2))) (ck_115 _ _ rfl) rfl rfl ?_
      exact hq _ h I F
    · have c11 : d4 ≠ (-1) := c11
      refine av_wp_sqF ck_115 1 (pc' := 22) (lv' := [some (.inr (.inr (.inl (some (0))))), some (.inl n), some (.inr (.inr (.inl (some (t1))))), none, none, none]) (st' := [.inr (.inr (.inl (some (0))))]) (h' := h) rfl ?_
      refine wq_gr (p' := 25) (ck_115 _ _ rfl) rfl (congrArg Prod.fst (ly_k I.1 0 rfl)) rfl (ly_g I.1 0 1 3 rfl) ?_
      obtain ⟨v12, e13⟩ : ∃ v, hF h 3 4 = v := ⟨_, rfl⟩
      have g14 := ic_lc I
      rw [e13] at g14
      refine wq_gi (p' := 28) (ck_115 _ _ rfl) rfl (congrArg Prod.fst (ly_k I.1 3 rfl)) rfl (e13) ?_
      refine wq_k1 (p' := 31) (ck_115 _ _ rfl) rfl ⟨by omega, by omega⟩ (fun c15 => ?_) (fun c16 => ?_)
      · have c15 : v12 ≠ (0) := c15
        refine av_wp_sqF ck_115 2 (pc' := 36) (lv' := [some (.inr (.inr (.inl (some (0))))), some (.inl n), some (.inr (.inr (.inl (some (t1))))), none, none, none]) (st' := [.inr (.inr (.inl (some (0)))), .inl (1)]) (h' := h) rfl ?_
        refine wq_gr (p' := 39) (ck_115 _ _ rfl) rfl (congrArg Prod.fst (ly_k I.1 0 rfl)) rfl (ly_g I.1 0 1 3 rfl) ?_
        obtain ⟨v17, e18⟩ : ∃ v, hF h 3 5 = v := ⟨_, rfl⟩
        have g19 := ic_kc I
        rw [e18] at g19
        refine wq_gi (p' := 42) (ck_115 _ _ rfl) rfl (congrArg Prod.fst (ly_k I.1 3 rfl)) rfl (e18) ?_
        refine av_wp_sqF ck_115 1 (pc' := 43) (lv' := [some (.inr (.inr (.inl (some (0))))), some (.inl n), some (.inr (.inr (.inl (some (t1))))), none, none, none]) (st' := [.inl (av_shl (1) v17)]) (h' := h) rfl ?_
        have g22 := shl_le (n := v17) (by omega)
        generalize av_shl (1) v17 = v20 at g22 ⊢
        refine av_wp_sqF ck_115 3 (pc' := 47) (lv' := [some (.inr (.inr (.inl (some (0))))), some (.inl n), some (.inr (.inr (.inl (some (t1))))), some (.inl v20), some (.inl (0)), none]) (st' := []) (h' := h) rfl ?_
        have L30 : ∀ (m29 : Nat) (k23 : Int) (a24 : Option av_V) (h25 : av_H), av_lg a24 = false → (0 ≤ k23 ∧ k23 ≤ 7) → IC h25 → Fr h h25 → CO h25 t1 c2 s3 d4 → (7 - k23).toNat = m29 → av_wp none cd_115 47 [some (.inr (.inr (.inl (some (0))))), some (.inl n), some (.inr (.inr (.inl (some (t1))))), some (.inl v20), some (.inl k23), a24] [] h25 Q := by
          intro m29
          induction m29 using Nat.strongRecOn with
          | _ m29 I31 =>
            intro k23 a24 h25 g33 g34 I26 F27 o28 e32
            have la24 := g33
            refine av_wp_sqF ck_115 2 (pc' := 50) (lv' := [some (.inr (.inr (.inl (some (0))))), some (.inl n), some (.inr (.inr (.inl (some (t1))))), some (.inl v20), some (.inl k23), a24]) (st' := [.inr (.inr (.inl (some (0)))), .inl k23]) (h' := h25) rfl ?_
            refine wq_gr (p' := 53) (ck_115 _ _ rfl) rfl (congrArg Prod.fst (ly_k I26.1 0 rfl)) rfl (ly_g I26.1 0 1 3 rfl) ?_
            obtain ⟨v35, e36⟩ : ∃ v, hF h25 3 5 = v := ⟨_, rfl⟩
            have g37 := ic_kc I26
            rw [e36] at g37
            refine wq_gi (p' := 56) (ck_115 _ _ rfl) rfl (congrArg Prod.fst (ly_k I26.1 3 rfl)) rfl (e36) ?_
            refine wq_k2 (p' := 59) (ck_115 _ _ rfl) rfl ⟨by omega, by omega⟩ ⟨by omega, by omega⟩ (fun c38 => ?_) (fun c39 => ?_)
            · have c38 : v35 < k23 := c38
              refine av_wp_sqF ck_115 1 (pc' := 108) (lv' := [some (.inr (.inr (.inl (some (0))))), some (.inl n), some (.inr (.inr (.inl (some (t1))))), some (.inl v20), some (.inl k23), a24]) (st' := [.inl (-1)]) (h' := h25) rfl ?_
              refine av_wp_ret (v := some (.inl (-1))) (ck_115 _ _ rfl) rfl rfl ?_
              exact hq _ h25 I26 F27
            · have c39 : k23 ≤ v35 := c39
              refine av_wp_sqF ck_115 2 (pc' := 62) (lv' := [some (.inr (.inr (.inl (some (0))))), some (.inl n), some (.inr (.inr (.inl (some (t1))))), some (.inl v20), some (.inl k23), some (.inl (0))]) (st' := []) (h' := h25) rfl ?_
              have L46 : ∀ (m45 : Nat) (k40 : Int) (h41 : av_H), (0 ≤ k40 ∧ k40 ≤ 64) → IC h41 → Fr h h41 → CO h41 t1 c2 s3 d4 → (64 - k40).toNat = m45 → av_wp none cd_115 62 [some (.inr (.inr (.inl (some (0))))), some (.inl n), some (.inr (.inr (.inl (some (t1))))), some (.inl v20), some (.inl k23), some (.inl k40)] [] h41 Q := by
                intro m45
                induction m45 using Nat.strongRecOn with
                | _ m45 I47 =>
                  intro k40 h41 g49 I42 F43 o44 e48
                  refine av_wp_sqF ck_115 2 (pc' := 65) (lv' := [some (.inr (.inr (.inl (some (0))))), some (.inl n), some (.inr (.inr (.inl (some (t1))))), some (.inl v20), some (.inl k23), some (.inl k40)]) (st' := [.inl v20, .inl k40]) (h' := h41) rfl ?_
                  refine wq_k2 (p' := 68) (ck_115 _ _ rfl) rfl ⟨by omega, by omega⟩ ⟨by omega, by omega⟩ (fun c50 => ?_) (fun c51 => ?_)
                  · have c50 : v20 ≤ k40 := c50
                    refine av_wp_sqF ck_115 2 (pc' := 47) (lv' := [some (.inr (.inr (.inl (some (0))))), some (.inl n), some (.inr (.inr (.inl (some (t1))))), some (.inl v20), some (.inl (k23 + (1))), some (.inl k40)]) (st' := []) (h' := h41) rfl ?_
                    exact I31 _ (by omega) ((k23 + (1))) (some (.inl k40)) h41 rfl (by omega) I42 F43 o44 rfl
                  · have c51 : k40 < v20 := c51
                    refine av_wp_sqF ck_115 1 (pc' := 70) (lv' := [some (.inr (.inr (.inl (some (0))))), some (.inl n), some (.inr (.inr (.inl (some (t1))))), some (.inl v20), some (.inl k23), some (.inl k40)]) (st' := [.inl k40]) (h' := h41) rfl ?_
                    refine wq_cs (p' := 73) (av_qc (.invokestatic 231) 218 1 2 11) 1 cd_218 [.inl k40] [.inl k40] [some (.inl k40)] (ck_115 _ _ rfl) rfl rfl pp_218 (fun _ => rfl) rfl rfl ?_
                    refine ct_218 (k40) (fun v52 => ?_)
                    show av_wp _ cd_115 73 [some (.inr (.inr (.inl (some (0))))), some (.inl n), some (.inr (.inr (.inl (some (t1))))), some (.inl v20), some (.inl k23), some (.inl k40)] [.inl v52] h41 _
                    refine av_wp_sqF ck_115 1 (pc' := 75) (lv' := [some (.inr (.inr (.inl (some (0))))), some (.inl n), some (.inr (.inr (.inl (some (t1))))), some (.inl v20), some (.inl k23), some (.inl k40)]) (st' := [.inl k23, .inl v52]) (h' := h41) rfl ?_
                    refine wq_c2 (p' := 78) (ck_115 _ _ rfl) rfl ?_ ?_
                    · refine av_wp_sqF ck_115 2 (pc' := 62) (lv' := [some (.inr (.inr (.inl (some (0))))), some (.inl n), some (.inr (.inr (.inl (some (t1))))), some (.inl v20), some (.inl k23), some (.inl (k40 + (1)))]) (st' := []) (h' := h41) rfl ?_
                      exact I47 _ (by omega) ((k40 + (1))) h41 (by omega) I42 F43 o44 rfl
                    · refine av_wp_sqF ck_115 1 (pc' := 79) (lv' := [some (.inr (.inr (.inl (some (0))))), some (.inl n), some (.inr (.inr (.inl (some (t1))))), some (.inl v20), some (.inl k23), some (.inl k40)]) (st' := [.inr (.inr (.inl (some (0))))]) (h' := h41) rfl ?_
                      refine wq_gr (p' := 82) (ck_115 _ _ rfl) rfl (congrArg Prod.fst (ly_k I42.1 0 rfl)) rfl (ly_g I42.1 0 5 26 rfl) ?_
                      refine av_wp_sqF ck_115 3 (pc' := 86) (lv' := [some (.inr (.inr (.inl (some (0))))), some (.inl n), some (.inr (.inr (.inl (some (t1))))), some (.inl v20), some (.inl k23), some (.inl k40)]) (st' := [.inl k40, .inl n, .inr (.inr (.inl (some (t1)))), .inr (.inr (.inl (some (26))))]) (h' := h41) rfl ?_
                      refine wq_cv (p' := 89) (av_qc (.invokevirtual 236) 63 3 0 3) 7 cd_63 [.inl k40, .inl n, .inr (.inr (.inl (some (t1))))] (26) 3 [some (.inr (.inr (.inl (some (26))))), some (.inr (.inr (.inl (some (t1))))), some (.inl n), some (.inl k40), none, none, none] (ck_115 _ _ rfl) rfl rfl pp_63 rfl rfl rfl (congrArg Prod.fst (ly_k I42.1 26 rfl)) rfl rfl rfl rfl ?_
                      refine ct_63 I42 o44 (n) (by omega) (k40) (fun v56 h53 p57 I54 F55 => ?_)
                      have F58 := Fr_tr F43 F55.1
                      have o59 := CO_fr I42.1 o44 F55.1
                      show av_wp _ cd_115 89 [some (.inr (.inr (.inl (some (0))))), some (.inl n), some (.inr (.inr (.inl (some (t1))))), some (.inl v20), some (.inl k23), some (.inl k40)] [.inl v56] h53 _
                      refine wq_k1 (p' := 92) (ck_115 _ _ rfl) rfl ⟨by omega, by omega⟩ (fun c60 => ?_) (fun c61 => ?_)
                      · have c60 : v56 = (0) := c60
                        refine av_wp_sqF ck_115 2 (pc' := 62) (lv' := [some (.inr (.inr (.inl (some (0))))), some (.inl n), some (.inr (.inr (.inl (some (t1))))), some (.inl v20), some (.inl k23), some (.inl (k40 + (1)))]) (st' := []) (h' := h53) rfl ?_
                        exact I47 _ (by omega) ((k40 + (1))) h53 (by omega) I54 F58 o59 rfl
                      · have c61 : v56 ≠ (0) := c61
                        refine av_wp_sqF ck_115 1 (pc' := 94) (lv' := [some (.inr (.inr (.inl (some (0))))), some (.inl n), some (.inr (.inr (.inl (some (t1))))), some (.inl v20), some (.inl k23), some (.inl k40)]) (st' := [.inl k40]) (h' := h53) rfl ?_
                        refine av_wp_ret (v := some (.inl k40)) (ck_115 _ _ rfl) rfl rfl ?_
                        exact hq _ h53 I54 F58
              exact L46 _ ((0)) h25 (by omega) I26 F27 o28 rfl
        exact L30 _ ((0)) (none) h rfl (by omega) I F o5 rfl
      · have c16 : v12 = (0) := c16
        refine av_wp_sqF ck_115 1 (pc' := 33) (lv' := [some (.inr (.inr (.inl (some (0))))), some (.inl n), some (.inr (.inr (.inl (some (t1))))), none, none, none]) (st' := [.inl (-2)]) (h' := h) rfl ?_
        refine av_wp_ret (v := some (.inl (-2))) (ck_115 _ _ rfl) rfl rfl ?_
        exact hq _ h I F
end
section
/-! THE REFERENCE'S LOOKS: what holds of its rows, what a look may change -/
theorem hF_self {h : av_H} {o f : Nat} {v : Int} : hF (hwF h o f v) o f = v := av_u2_self
theorem hF_oth {h : av_H} {o f q : Nat} {v : Int} (e : q ≠ f) : hF (hwF h o f v) o q = hF h o q := av_u2_oth e
theorem hA_ne {h : av_H} {a j q : Nat} {v : Int} (e : q ≠ a) : hA (hwA h a j v) q = hA h q := av_u2_ne e
def mlo (a : Nat) : Int := [0, 0, -1, -1, 0, -1, -1, 0, -1, 0, 0].getD (a - 82) 0
def mhi (a : Nat) : Int := [7, 2, 2, 11, 3, 1999, 15, 1, 999, 1999, 1999].getD (a - 82) 0
def wlo (a : Nat) : Int := [0, 0, 0, -1, -1, 0, -1, 0, -1, 0, 0, 0].getD (a - 96) 0
def whi (a : Nat) : Int := [7, 3, 2, 1999, 11, 2, 2, 1, 999, 1999, 1999, 47].getD (a - 96) 0
/-- the book's rows -/
def MV (h : av_H) : Prop := (∀ a, 82 ≤ a → a ≤ 92 → ∀ j, mlo a ≤ hA h a j ∧ hA h a j ≤ mhi a) ∧ (0 ≤ hA h 78 0 ∧ hA h 78 0 ≤ 16) ∧ (0 ≤ hA h 79 0 ∧ hA h 79 0 ≤ 8) ∧ (0 ≤ hA h 80 0 ∧ hA h 80 0 ≤ 6) ∧ (∀ j, 0 ≤ hA h 81 j ∧ hA h 81 j ≤ 12) ∧ (∀ c k : Nat, (c : Int) < hA h 78 0 → (k : Int) < hA h 81 c → 2 ≤ hA h 82 (12 * c + k) → 0 ≤ hA h 85 (12 * c + k) ∧ hA h 85 (12 * c + k) < k)
/-- the rows that are looked at -/
def WI (h : av_H) : Prop := ∀ a, 96 ≤ a → a ≤ 107 → ∀ j, wlo a ≤ hA h a j ∧ hA h a j ≤ whi a
def WR (h : av_H) : Prop := ∀ k : Nat, k < 12 → 2 ≤ hA h 96 k → 0 ≤ hA h 100 k ∧ hA h 100 k < k
/-- what is asked, and how many combos that makes -/
def AK (h : av_H) : Prop := (0 ≤ hF h 77 28 ∧ hF h 77 28 ≤ 48) ∧ (0 ≤ hF h 77 29 ∧ hF h 77 29 ≤ 1025) ∧ (∀ j : Nat, (j : Int) < hF h 77 28 → 2 ≤ hA h 108 j ∧ hA h 108 j ≤ 2000) ∧ ∃ p : Nat → Int, p 0 = 1 ∧ (∀ j : Nat, (j : Int) < hF h 77 28 → p (j + 1) = p j * hA h 108 j) ∧ (1 ≤ hF h 77 29 → hF h 77 29 ≤ 1024 → p (hF h 77 28).toNat ≤ hF h 77 29)
def NF (h : av_H) : Prop := (0 ≤ hF h 77 27 ∧ hF h 77 27 ≤ 12) ∧ (hF h 77 50 = 0 ∨ hF h 77 50 = 1) ∧ (-1 ≤ hF h 77 51 ∧ hF h 77 51 ≤ 11) ∧ (0 ≤ hF h 77 52 ∧ hF h 77 52 ≤ 11)
def IL (h : av_H) : Prop := LY h ∧ MV h ∧ WI h ∧ AK h ∧ NF h
def IM (h : av_H) : Prop := IL h ∧ WR h
def mA (a : Nat) : Bool := Nat.ble 95 a && Nat.ble a 121
def mF (o f : Nat) : Bool := Nat.beq o 77 && (Nat.beq f 27 || Nat.beq f 28 || Nat.beq f 29 || Nat.beq f 50 || Nat.beq f 51 || Nat.beq f 52 || Nat.beq f 53 || Nat.beq f 60 || Nat.beq f 61)
def FM (g h : av_H) : Prop := h.1 = g.1 ∧ h.2.1 = g.2.1 ∧ hK h = hK g ∧ hR h = hR g ∧ hG h = hG g ∧ (∀ o f, mF o f = false → hF h o f = hF g o f) ∧ (∀ a, mA a = false → hA h a = hA g a)
theorem FM_rf (h : av_H) : FM h h := ⟨rfl, rfl, rfl, rfl, rfl, fun _ _ _ => rfl, fun _ _ => rfl⟩
theorem FM_tr {g h k : av_H} (a : FM g h) (b : FM h k) : FM g k := ⟨b.1.trans a.1, b.2.1.trans a.2.1, b.2.2.1.trans a.2.2.1, b.2.2.2.1.trans a.2.2.2.1, b.2.2.2.2.1.trans a.2.2.2.2.1, fun o f e => (b.2.2.2.2.2.1 o f e).trans (a.2.2.2.2.2.1 o f e), fun o e => (b.2.2.2.2.2.2 o e).trans (a.2.2.2.2.2.2 o e)⟩
theorem FM_wA {g h : av_H} {a j : Nat} {v : Int} (F : FM g h) (e : mA a = true) : FM g (hwA h a j v) := ⟨F.1, F.2.1, F.2.2.1, F.2.2.2.1, F.2.2.2.2.1, F.2.2.2.2.2.1, fun k hk => by
  have hne : k ≠ a := fun z => by rw [z, e] at hk; cases hk
  show av_u2 h.2.2.2.1 a j v k = _
  rw [av_u2_ne hne]
  exact F.2.2.2.2.2.2 k hk⟩
theorem FM_wF {g h : av_H} {o f : Nat} {v : Int} (F : FM g h) (e : mF o f = true) : FM g (hwF h o f v) := ⟨F.1, F.2.1, F.2.2.1, F.2.2.2.1, F.2.2.2.2.1, fun k q hk => by
  show av_u2 h.2.2.2.2.1 o f v k q = _
  have hne : ¬ (k = o ∧ q = f) := fun z => by rw [z.1, z.2, e] at hk; cases hk
  rw [av_u2, if_neg hne]
  exact F.2.2.2.2.2.1 k q hk, F.2.2.2.2.2.2⟩
theorem LY_fm {g h : av_H} (L : LY g) (F : FM g h) : LY h := ⟨fun a ha => by rw [F.2.2.1]; exact L.1 a ha, fun o f q e => by rw [F.2.2.2.2.1]; exact L.2.1 o f q e, fun i hi => by rw [F.2.2.2.1]; exact L.2.2.1 i hi, fun i hi => by rw [F.2.2.2.1]; exact L.2.2.2 i hi⟩
theorem MV_A {g h : av_H} (x : MV g) (e : ∀ a, 78 ≤ a → a ≤ 92 → hA h a = hA g a) : MV h := by
  unfold MV at x ⊢
  rw [e 78 (by omega) (by omega), e 79 (by omega) (by omega), e 80 (by omega) (by omega), e 81 (by omega) (by omega), e 82 (by omega) (by omega), e 85 (by omega) (by omega)]
  exact ⟨fun a h1 h2 j => by rw [e a (by omega) h2]; exact x.1 a h1 h2 j, x.2⟩
/-- a row that nothing is known of -/
theorem mA_in {q : Nat} (h1 : 95 ≤ q) (h2 : q ≤ 121) : mA q = true := by
  simp only [mA, Bool.and_eq_true]
  exact ⟨Nat.ble_eq_true_of_le h1, Nat.ble_eq_true_of_le h2⟩
theorem IL_wA {h : av_H} {a x : Nat} {v : Int} (I : IL h) (ha : a = 95 ∨ (109 ≤ a ∧ a ≤ 121)) : IL (hwA h a x v) := by
  have F : FM h (hwA h a x v) := FM_wA (FM_rf h) (mA_in (by omega) (by omega))
  have E : ∀ q, q ≠ a → hA (hwA h a x v) q = hA h q := fun q hq => av_u2_ne hq
  refine ⟨LY_fm I.1 F, MV_A I.2.1 (fun q h1 h2 => E q (by omega)), ?_, ?_, I.2.2.2.2⟩
  · intro q h1 h2 j
    rw [E q (by omega)]
    exact I.2.2.1 q h1 h2 j
  · have := I.2.2.2.1
    unfold AK at this ⊢
    rw [E 108 (by omega)]
    exact this
/-- one of the rows that are looked at, kept within its bounds -/
theorem IL_wW {h : av_H} {a x : Nat} {v : Int} (I : IL h) (ha : 96 ≤ a ∧ a ≤ 107) (hv : wlo a ≤ v ∧ v ≤ whi a) : IL (hwA h a x v) := by
  have F : FM h (hwA h a x v) := FM_wA (FM_rf h) (mA_in (by omega) (by omega))
  have E : ∀ q, q ≠ a → hA (hwA h a x v) q = hA h q := fun q hq => av_u2_ne hq
  refine ⟨LY_fm I.1 F, MV_A I.2.1 (fun q h1 h2 => E q (by omega)), ?_, ?_, I.2.2.2.2⟩
  · intro q h1 h2 j
    by_cases e : q = a
    · subst e
      show wlo q ≤ av_u2 h.2.2.2.1 q x v q j ∧ av_u2 h.2.2.2.1 q x v q j ≤ whi q
      by_cases e2 : j = x
      · subst e2; rw [av_u2_self]; exact hv
      · rw [av_u2_oth e2]; exact I.2.2.1 q h1 h2 j
    · rw [E q e]
      exact I.2.2.1 q h1 h2 j
  · have := I.2.2.2.1
    unfold AK at this ⊢
    rw [E 108 (by omega)]
    exact this
theorem WR_A {h k : av_H} (x : WR h) (e1 : hA k 96 = hA h 96) (e2 : hA k 100 = hA h 100) : WR k := by
  unfold WR at x ⊢
  rw [e1, e2]
  exact x
theorem IM_wA {h : av_H} {a x : Nat} {v : Int} (I : IM h) (ha : a = 95 ∨ (109 ≤ a ∧ a ≤ 121)) : IM (hwA h a x v) := ⟨IL_wA I.1 ha, WR_A I.2 (av_u2_ne (by omega)) (av_u2_ne (by omega))⟩
theorem IM_wW {h : av_H} {a x : Nat} {v : Int} (I : IM h) (ha : 97 ≤ a ∧ a ≤ 107 ∧ a ≠ 100) (hv : wlo a ≤ v ∧ v ≤ whi a) : IM (hwA h a x v) := ⟨IL_wW I.1 (by omega) hv, WR_A I.2 (av_u2_ne (by omega)) (av_u2_ne (by omega))⟩
/-- fields -/
theorem IL_wF {h : av_H} {f : Nat} {v : Int} (I : IL h) (hf : (f = 27 ∧ 0 ≤ v ∧ v ≤ 12) ∨ (f = 50 ∧ (v = 0 ∨ v = 1)) ∨ (f = 51 ∧ -1 ≤ v ∧ v ≤ 11) ∨ (f = 52 ∧ 0 ≤ v ∧ v ≤ 11) ∨ f = 53 ∨ f = 60 ∨ f = 61) : IL (hwF h 77 f v) := by
  have hm : mF 77 f = true := by
    rcases hf with e | e | e | e | e | e | e
    · rw [e.1]; rfl
    · rw [e.1]; rfl
    · rw [e.1]; rfl
    · rw [e.1]; rfl
    · rw [e]; rfl
    · rw [e]; rfl
    · rw [e]; rfl
  have F : FM h (hwF h 77 f v) := FM_wF (FM_rf h) hm
  have E : ∀ q, q ≠ f → hF (hwF h 77 f v) 77 q = hF h 77 q := fun q hq => av_u2_oth hq
  have E' : hF (hwF h 77 f v) 77 f = v := hF_self
  refine ⟨LY_fm I.1 F, I.2.1, I.2.2.1, ?_, ?_⟩
  · have := I.2.2.2.1
    unfold AK at this ⊢
    rw [E 28 (by omega), E 29 (by omega)]
    exact this
  · obtain ⟨n1, n2, n3, n4⟩ := I.2.2.2.2
    refine ⟨?_, ?_, ?_, ?_⟩
    · by_cases e : f = 27
      · subst e; rw [E']; omega
      · rw [E 27 (Ne.symm e)]; exact n1
    · by_cases e : f = 50
      · subst e; rw [E']; omega
      · rw [E 50 (Ne.symm e)]; exact n2
    · by_cases e : f = 51
      · subst e; rw [E']; omega
      · rw [E 51 (Ne.symm e)]; exact n3
    · by_cases e : f = 52
      · subst e; rw [E']; omega
      · rw [E 52 (Ne.symm e)]; exact n4
theorem IM_wF {h : av_H} {f : Nat} {v : Int} (I : IM h) (hf : (f = 27 ∧ 0 ≤ v ∧ v ≤ 12) ∨ (f = 50 ∧ (v = 0 ∨ v = 1)) ∨ (f = 51 ∧ -1 ≤ v ∧ v ≤ 11) ∨ (f = 52 ∧ 0 ≤ v ∧ v ≤ 11) ∨ f = 53 ∨ f = 60 ∨ f = 61) : IM (hwF h 77 f v) := ⟨IL_wF I.1 hf, I.2⟩
section
variable {h : av_H}
theorem im_n (I : IL h) : 0 ≤ hF h 77 27 ∧ hF h 77 27 ≤ 12 := I.2.2.2.2.1
theorem im_has (I : IL h) : hF h 77 50 = 0 ∨ hF h 77 50 = 1 := I.2.2.2.2.2.1
theorem im_by (I : IL h) : -1 ≤ hF h 77 51 ∧ hF h 77 51 ≤ 11 := I.2.2.2.2.2.2.1
theorem im_of (I : IL h) : 0 ≤ hF h 77 52 ∧ hF h 77 52 ≤ 11 := I.2.2.2.2.2.2.2
theorem im_a (I : IL h) : 0 ≤ hF h 77 28 ∧ hF h 77 28 ≤ 48 := I.2.2.2.1.1
theorem im_cm (I : IL h) : 0 ≤ hF h 77 29 ∧ hF h 77 29 ≤ 1025 := I.2.2.2.1.2.1
theorem im_rx (I : IL h) (j : Nat) (hj : (j : Int) < hF h 77 28) : 2 ≤ hA h 108 j ∧ hA h 108 j ≤ 2000 := I.2.2.2.1.2.2.1 j hj
theorem im_w (I : IL h) (a : Nat) (h1 : 96 ≤ a) (h2 : a ≤ 107) (j : Nat) : wlo a ≤ hA h a j ∧ hA h a j ≤ whi a := I.2.2.1 a h1 h2 j
theorem im_m (I : IL h) (a : Nat) (h1 : 82 ≤ a) (h2 : a ≤ 92) (j : Nat) : mlo a ≤ hA h a j ∧ hA h a j ≤ mhi a := I.2.1.1 a h1 h2 j
theorem im_many (I : IL h) (j : Nat) : 0 ≤ hA h 81 j ∧ hA h 81 j ≤ 12 := I.2.1.2.2.2.2.1 j
theorem im_wr (I : IM h) (k : Nat) (hk : k < 12) (h2 : 2 ≤ hA h 96 k) : 0 ≤ hA h 100 k ∧ hA h 100 k < k := I.2 k hk h2
end
def IMF (n a m : Int) (h : av_H) : Prop := IM h ∧ hF h 77 27 = n ∧ hF h 77 28 = a ∧ hF h 77 29 = m
section
variable {sc : av_Sr} {cd : List (Nat × av_E)} {Q : Option av_V → av_H → Prop} {pc p' : Nat} {lv : av_L} {r' : List av_V} {g h : av_H} {n a m : Int}
theorem im_as {q l : Nat} {x v : Int} (hx : cd.lookup pc = some (av_q (.iastore))) (hp : pc + 1 = p') (I : IMF n a m h) (F : FM g h) (hk : hK h q = (20, l)) (ha : q = 95 ∨ (109 ≤ q ∧ q ≤ 121)) (hi : 0 ≤ x ∧ x < l ∧ (l : Int) < 2147483648) (hw : ∀ h', IMF n a m h' → FM g h' → av_wp sc cd p' lv r' h' Q) : av_wp sc cd pc lv (.inl v :: .inl x :: .inr (.inr (.inl (some q))) :: r') h Q :=
  wq_as hx hp hk hi (hw _ ⟨IM_wA I.1 ha, I.2⟩ (FM_wA F (mA_in (by omega) (by omega))))
theorem im_zs {q l : Nat} {x v : Int} (hx : cd.lookup pc = some (av_q (.bastore))) (hp : pc + 1 = p') (I : IMF n a m h) (F : FM g h) (hk : hK h q = (22, l)) (ha : q = 95 ∨ (109 ≤ q ∧ q ≤ 121)) (hi : 0 ≤ x ∧ x < l ∧ (l : Int) < 2147483648) (hv : v = 0 ∨ v = 1) (hw : ∀ h', IMF n a m h' → FM g h' → av_wp sc cd p' lv r' h' Q) : av_wp sc cd pc lv (.inl v :: .inl x :: .inr (.inr (.inl (some q))) :: r') h Q :=
  wq_zs hx hp hk hi hv (hw _ ⟨IM_wA I.1 ha, I.2⟩ (FM_wA F (mA_in (by omega) (by omega))))
theorem im_ws {q l : Nat} {x v : Int} (hx : cd.lookup pc = some (av_q (.iastore))) (hp : pc + 1 = p') (I : IMF n a m h) (F : FM g h) (hk : hK h q = (20, l)) (ha : 97 ≤ q ∧ q ≤ 107 ∧ q ≠ 100) (hv : wlo q ≤ v ∧ v ≤ whi q) (hi : 0 ≤ x ∧ x < l ∧ (l : Int) < 2147483648) (hw : ∀ h', IMF n a m h' → FM g h' → av_wp sc cd p' lv r' h' Q) : av_wp sc cd pc lv (.inl v :: .inl x :: .inr (.inr (.inl (some q))) :: r') h Q :=
  wq_as hx hp hk hi (hw _ ⟨IM_wW I.1 ha hv, I.2⟩ (FM_wA F (mA_in (by omega) (by omega))))
theorem im_pf {idx f : Nat} {v : Int} (hx : cd.lookup pc = some (av_qf (.putfield idx) 8 f 0)) (hp : pc + 3 = p') (I : IMF n a m h) (F : FM g h) (hf : (f = 51 ∧ -1 ≤ v ∧ v ≤ 11) ∨ (f = 52 ∧ 0 ≤ v ∧ v ≤ 11) ∨ f = 53 ∨ f = 60 ∨ f = 61) (hm : mF 77 f = true) (hw : ∀ h', IMF n a m h' → FM g h' → av_wp sc cd p' lv r' h' Q) : av_wp sc cd pc lv (.inl v :: .inr (.inr (.inl (some 77))) :: r') h Q :=
  wq_pi hx hp (congrArg Prod.fst (ly_k I.1.1.1 77 rfl)) rfl (hw _ ⟨IM_wF I.1 (by omega), (hF_oth (by omega)).trans I.2.1, (hF_oth (by omega)).trans I.2.2.1, (hF_oth (by omega)).trans I.2.2.2⟩ (FM_wF F hm))
theorem im_pb {idx : Nat} {v : Int} (hx : cd.lookup pc = some (av_qf (.putfield idx) 8 50 3)) (hp : pc + 3 = p') (I : IMF n a m h) (F : FM g h) (hv : v = 0 ∨ v = 1) (hw : ∀ h', IMF n a m h' → FM g h' → av_wp sc cd p' lv r' h' Q) : av_wp sc cd pc lv (.inl v :: .inr (.inr (.inl (some 77))) :: r') h Q :=
  wq_pb hx hp (congrArg Prod.fst (ly_k I.1.1.1 77 rfl)) rfl hv (hw _ ⟨IM_wF I.1 (by omega), (hF_oth (by omega)).trans I.2.1, (hF_oth (by omega)).trans I.2.2.1, (hF_oth (by omega)).trans I.2.2.2⟩ (FM_wF F rfl))
end
/-! WHAT IS ASKED IS FOUND -/
/-- by how many the asked one t may be; how many combos the first t make (1025: too many) -/
def cmv (lo hi ls : Nat → Int) (t : Nat) : Int := if t % 4 < 3 then hi (3 * (t / 4) + t % 4) - lo (3 * (t / 4) + t % 4) + 1 else if ls (t / 4) = 1 then 2 else 1
def cmf (lo hi ls : Nat → Int) : Nat → Int
  | 0 => 1
  | t + 1 => if cmv lo hi ls t < 2 then cmf lo hi ls t else if 1024 < cmf lo hi ls t * cmv lo hi ls t then 1025 else cmf lo hi ls t * cmv lo hi ls t
theorem cmv_a {lo hi ls : Nat → Int} {k j x y : Int} (hk : 0 ≤ k) (hj : 0 ≤ j ∧ j < 3) (e1 : hi (((3) * k) + j).toNat = x) (e2 : lo (((3) * k) + j).toNat = y) : cmv lo hi ls (4 * k + j).toNat = ((x - y) + (1)) := by
  unfold cmv
  have h1 : (4 * k + j).toNat % 4 = j.toNat := by omega
  have h2 : (4 * k + j).toNat / 4 = k.toNat := by omega
  rw [h1, h2, if_pos (by omega), show 3 * k.toNat + j.toNat = (((3) * k) + j).toNat by omega, e1, e2]
theorem cmv_b {lo hi ls : Nat → Int} {k j x : Int} (hk : 0 ≤ k) (hj : j = 3) (e1 : ls k.toNat = x) (hx : x = 1) : cmv lo hi ls (4 * k + j).toNat = (2) := by
  unfold cmv
  have h1 : (4 * k + j).toNat % 4 = 3 := by omega
  have h2 : (4 * k + j).toNat / 4 = k.toNat := by omega
  rw [h1, h2, if_neg (by omega), e1, if_pos hx]
theorem cmv_c {lo hi ls : Nat → Int} {k j x : Int} (hk : 0 ≤ k) (hj : j = 3) (e1 : ls k.toNat = x) (hx : x ≠ 1) : cmv lo hi ls (4 * k + j).toNat = (1) := by
  unfold cmv
  have h1 : (4 * k + j).toNat % 4 = 3 := by omega
  have h2 : (4 * k + j).toNat / 4 = k.toNat := by omega
  rw [h1, h2, if_neg (by omega), e1, if_neg hx]
def AJ (n : Int) (lo hi ls : Nat → Int) (t : Nat) (h : av_H) : Prop := IM h ∧ hF h 77 27 = n ∧ hF h 77 28 ≤ t ∧ 1 ≤ hF h 77 29 ∧ hF h 77 29 = cmf lo hi ls t ∧ hA h 105 = lo ∧ hA h 106 = hi ∧ hA h 98 = ls
theorem AJ_eq {n : Int} {lo hi ls : Nat → Int} {t t' : Nat} {h : av_H} (J : AJ n lo hi ls t h) (e : t = t') : AJ n lo hi ls t' h := e ▸ J
theorem AJ_skip {n : Int} {lo hi ls : Nat → Int} {t : Nat} {v : Int} {h : av_H} (J : AJ n lo hi ls t h) (hv : cmv lo hi ls t = v) (h2 : v < 2) : AJ n lo hi ls (t + 1) h := ⟨J.1, J.2.1, Int.le_trans J.2.2.1 (by omega), J.2.2.2.1, by
  rw [J.2.2.2.2.1]
  show _ = (if cmv lo hi ls t < 2 then cmf lo hi ls t else _)
  rw [if_pos (by rw [hv]; exact h2)], J.2.2.2.2.2⟩
theorem AJ_step {n x v m' : Int} {lo hi ls : Nat → Int} {t : Nat} {h : av_H} (J : AJ n lo hi ls t h) (hcv : cmv lo hi ls t = v) (hb : t ≤ 47) (hv : 2 ≤ v ∧ v ≤ 2000) (hx : 0 ≤ x ∧ x ≤ 47) (hm : (1024 < hF h 77 29 * v ∧ m' = 1025) ∨ (hF h 77 29 * v ≤ 1024 ∧ m' = hF h 77 29 * v)) : AJ n lo hi ls (t + 1) (hwF (hwF (hwA (hwA h 107 (hF h 77 28).toNat x) 108 (hF h 77 28).toNat v) 77 28 (hF h 77 28 + 1)) 77 29 m') ∧ FM h (hwF (hwF (hwA (hwA h 107 (hF h 77 28).toNat x) 108 (hF h 77 28).toNat v) 77 28 (hF h 77 28 + 1)) 77 29 m') := by
  obtain ⟨⟨I, W⟩, j1, j2, j3, j4, j5, j6, j7⟩ := J
  have ga := im_a I
  have gm := im_cm I
  obtain ⟨_, _, k3, p, p0, p1, p2⟩ := I.2.2.2.1
  have mv0 : 0 ≤ hF h 77 29 * v := Int.mul_nonneg (by omega) (by omega)
  have mv1 : hF h 77 29 * 1 ≤ hF h 77 29 * v := Int.mul_le_mul_of_nonneg_left (by omega) (by omega)
  generalize hH : hwF (hwF (hwA (hwA h 107 (hF h 77 28).toNat x) 108 (hF h 77 28).toNat v) 77 28 (hF h 77 28 + 1)) 77 29 m' = H
  have Fm : FM h H := by
    rw [← hH]
    exact FM_wF (FM_wF (FM_wA (FM_wA (FM_rf h) rfl) rfl) rfl) rfl
  have E29 : hF H 77 29 = m' := by rw [← hH]; exact hF_self
  have E28 : hF H 77 28 = hF h 77 28 + 1 := by rw [← hH]; exact (hF_oth (by decide)).trans hF_self
  have EF : ∀ q, q ≠ 28 → q ≠ 29 → hF H 77 q = hF h 77 q := fun q h1 h2 => by rw [← hH]; exact (hF_oth h2).trans (hF_oth h1)
  have EA : ∀ q, q ≠ 107 → q ≠ 108 → hA H q = hA h q := fun q h1 h2 => by rw [← hH]; exact (hA_ne h2).trans (hA_ne h1)
  have E107 : ∀ j, hA H 107 j = if j = (hF h 77 28).toNat then x else hA h 107 j := fun j => by
    rw [← hH]
    show av_u2 (av_u2 h.2.2.2.1 107 (hF h 77 28).toNat x) 108 (hF h 77 28).toNat v 107 j = _
    rw [av_u2_ne (by decide)]
    by_cases e : j = (hF h 77 28).toNat
    · rw [if_pos e, e, av_u2_self]
    · rw [if_neg e, av_u2_oth e]
  have E108 : ∀ j, hA H 108 j = if j = (hF h 77 28).toNat then v else hA h 108 j := fun j => by
    rw [← hH]
    show av_u2 (av_u2 h.2.2.2.1 107 (hF h 77 28).toNat x) 108 (hF h 77 28).toNat v 108 j = _
    by_cases e : j = (hF h 77 28).toNat
    · rw [if_pos e, e, av_u2_self]
    · rw [if_neg e, av_u2_oth e, av_u2_ne (by decide)]
  refine ⟨⟨⟨⟨LY_fm I.1 Fm, MV_A I.2.1 (fun q h1 h2 => EA q (by omega) (by omega)), ?_, ?_, ?_⟩, WR_A W (EA 96 (by decide) (by decide)) (EA 100 (by decide) (by decide))⟩, ?_, ?_, ?_, ?_, (EA 105 (by decide) (by decide)).trans j5, (EA 106 (by decide) (by decide)).trans j6, (EA 98 (by decide) (by decide)).trans j7⟩, Fm⟩
  · intro q h1 h2 j
    by_cases e : q = 107
    · subst e
      rw [E107]
      split
      · exact hx
      · exact I.2.2.1 107 h1 h2 j
    · rw [EA q e (by omega)]
      exact I.2.2.1 q h1 h2 j
  · unfold AK
    rw [E28, E29]
    refine ⟨by omega, by omega, ?_, fun j => if j ≤ (hF h 77 28).toNat then p j else p (hF h 77 28).toNat * v, ?_, ?_, ?_⟩
    · intro j hj
      rw [E108]
      by_cases e : j = (hF h 77 28).toNat
      · rw [if_pos e]; exact hv
      · rw [if_neg e]; exact k3 j (by omega)
    · show (if 0 ≤ (hF h 77 28).toNat then p 0 else _) = 1
      rw [if_pos (Nat.zero_le _)]; exact p0
    · intro j hj
      show (if j + 1 ≤ (hF h 77 28).toNat then p (j + 1) else p (hF h 77 28).toNat * v) = (if j ≤ (hF h 77 28).toNat then p j else p (hF h 77 28).toNat * v) * hA H 108 j
      rw [if_pos (show j ≤ (hF h 77 28).toNat by omega), E108]
      by_cases e : j = (hF h 77 28).toNat
      · rw [if_pos e, if_neg (by omega), e]
      · rw [if_neg e, if_pos (by omega)]; exact p1 j (by omega)
    · intro _ h2
      show (if (hF h 77 28 + 1).toNat ≤ (hF h 77 28).toNat then p (hF h 77 28 + 1).toNat else p (hF h 77 28).toNat * v) ≤ m'
      rw [if_neg (by omega)]
      rcases hm with hm | hm
      · omega
      · rw [hm.2]
        exact Int.mul_le_mul_of_nonneg_right (p2 j3 (by omega)) (by omega)
  · unfold NF
    rw [EF 27 (by decide) (by decide), EF 50 (by decide) (by decide), EF 51 (by decide) (by decide), EF 52 (by decide) (by decide)]
    exact I.2.2.2.2
  · rw [EF 27 (by decide) (by decide)]; exact j1
  · rw [E28]; omega
  · rw [E29]; omega
  · rw [E29]
    show m' = (if cmv lo hi ls t < 2 then cmf lo hi ls t else if 1024 < cmf lo hi ls t * cmv lo hi ls t then 1025 else cmf lo hi ls t * cmv lo hi ls t)
    rw [hcv, ← j4, if_neg (by omega)]
    rcases hm with hm | hm
    · rw [if_pos hm.1]; exact hm.2
    · rw [if_neg (by omega)]; exact hm.2
theorem AJ_0 {n : Int} {h : av_H} (I : IM h) (hn : hF h 77 27 = n) : AJ n (hA h 105) (hA h 106) (hA h 98) 0 (hwF (hwF h 77 28 0) 77 29 1) ∧ FM h (hwF (hwF h 77 28 0) 77 29 1) := by
  generalize hH : hwF (hwF h 77 28 0) 77 29 1 = H
  have Fm : FM h H := by
    rw [← hH]
    exact FM_wF (FM_wF (FM_rf h) rfl) rfl
  have E29 : hF H 77 29 = 1 := by rw [← hH]; exact hF_self
  have E28 : hF H 77 28 = 0 := by rw [← hH]; exact (hF_oth (by decide)).trans hF_self
  have EF : ∀ q, q ≠ 28 → q ≠ 29 → hF H 77 q = hF h 77 q := fun q h1 h2 => by rw [← hH]; exact (hF_oth h2).trans (hF_oth h1)
  have EA : hA H = hA h := by rw [← hH]; rfl
  refine ⟨⟨⟨⟨LY_fm I.1.1 Fm, MV_A I.1.2.1 (fun q _ _ => by rw [EA]), ?_, ?_, ?_⟩, WR_A I.2 (by rw [EA]) (by rw [EA])⟩, ?_, ?_, ?_, ?_, by rw [EA], by rw [EA], by rw [EA]⟩, Fm⟩
  · unfold WI
    rw [EA]
    exact I.1.2.2.1
  · unfold AK
    rw [E28, E29]
    exact ⟨by omega, by omega, fun j hj => by omega, fun _ => 1, rfl, fun j hj => by omega, fun _ _ => Int.le_refl 1⟩
  · unfold NF
    rw [EF 27 (by decide) (by decide), EF 50 (by decide) (by decide), EF 51 (by decide) (by decide), EF 52 (by decide) (by decide)]
    exact I.1.2.2.2.2
  · rw [EF 27 (by decide) (by decide)]; exact hn
  · rw [E28]; exact Int.le_refl 0
  · rw [E29]; omega
  · rw [E29]; rfl
/-! what of a case has been brought: e a of the row a -/
def bsrc (a : Nat) : Nat := [82, 86, 89, 87, 85, 83, 84, 0, 90, 91, 92].getD (a - 96) 0
def bmul (a : Nat) : Nat := [1, 1, 1, 1, 1, 1, 1, 0, 5, 3, 3].getD (a - 96) 0
def BC (c : Nat) (e : Nat → Nat) (A : Nat → Nat → Int) (h : av_H) : Prop := ∀ a, 96 ≤ a → a ≤ 106 → ∀ i, i < e a → hA h a i = A (bsrc a) (bmul a * (12 * c) + i)
theorem BC_le {c : Nat} {e e' : Nat → Nat} {A : Nat → Nat → Int} {h : av_H} (B : BC c e A h) (he : ∀ a, 96 ≤ a → a ≤ 106 → e' a ≤ e a) : BC c e' A h := fun a h1 h2 i hi => B a h1 h2 i (Nat.lt_of_lt_of_le hi (he a h1 h2))
theorem BC_w {c : Nat} {e : Nat → Nat} {A : Nat → Nat → Int} {h : av_H} {a j : Nat} {v : Int} (B : BC c e A h) (hj : j = e a) (hv : A (bsrc a) (bmul a * (12 * c) + e a) = v) : BC c (av_u1 e a (e a + 1)) A (hwA h a j v) := by
  intro q h1 h2 i hi
  show av_u2 h.2.2.2.1 a j v q i = _
  unfold av_u1 at hi
  by_cases e1 : q = a
  · subst e1
    rw [if_pos rfl] at hi
    by_cases e2 : i = j
    · rw [e2, av_u2_self, hj, hv]
    · rw [av_u2_oth e2]
      exact B q h1 h2 i (by omega)
  · rw [if_neg e1] at hi
    rw [av_u2_ne e1]
    exact B q h1 h2 i hi
theorem BC_o {c : Nat} {e : Nat → Nat} {A : Nat → Nat → Int} {h : av_H} {j : Nat} {v : Int} (B : BC c e A h) (h3 : e 103 = 0) : BC c e A (hwA h 103 j v) := by
  intro q h1 h2 i hi
  by_cases e1 : q = 103
  · subst e1; omega
  · show av_u2 h.2.2.2.1 103 j v q i = _
    rw [av_u2_ne e1]
    exact B q h1 h2 i hi
/-! A CASE IS BROUGHT: while its row q is copied -/
def IMY (n : Int) (q : Nat) (x y : Int) (h : av_H) : Prop := IL h ∧ hF h 77 27 = n ∧ (∀ j : Nat, j < 12 → j ≠ q → 2 ≤ hA h 96 j → 0 ≤ hA h 100 j ∧ hA h 100 j < j) ∧ hA h 96 q = x ∧ hA h 100 q = y
theorem IMY_of {n : Int} {h : av_H} (I : IM h) (hn : hF h 77 27 = n) (q : Nat) : IMY n q (hA h 96 q) (hA h 100 q) h := ⟨I.1, hn, fun j hj _ => I.2 j hj, rfl, rfl⟩
theorem IM_of {n : Int} {q : Nat} {x y : Int} {h : av_H} (Y : IMY n q x y h) (hr : 2 ≤ x → 0 ≤ y ∧ y < q) : IM h := ⟨Y.1, fun j hj h2 => by
  by_cases e : j = q
  · subst e
    rw [Y.2.2.2.2]
    rw [Y.2.2.2.1] at h2
    exact hr h2
  · exact Y.2.2.1 j hj e h2⟩
theorem IMY_w {n : Int} {q a j : Nat} {x y v : Int} {h : av_H} (Y : IMY n q x y h) (ha : 96 ≤ a ∧ a ≤ 107) (hv : wlo a ≤ v ∧ v ≤ whi a) (hj : (a = 96 ∨ a = 100) → j = q) : IMY n q (if a = 96 then v else x) (if a = 100 then v else y) (hwA h a j v) := by
  refine ⟨IL_wW Y.1 ha hv, Y.2.1, ?_, ?_, ?_⟩
  · intro i hi hq
    have e1 : hA (hwA h a j v) 96 i = hA h 96 i := by
      show av_u2 h.2.2.2.1 a j v 96 i = _
      unfold av_u2
      rw [if_neg (fun z => hq (by rw [z.2]; exact hj (Or.inl z.1.symm)))]
    have e2 : hA (hwA h a j v) 100 i = hA h 100 i := by
      show av_u2 h.2.2.2.1 a j v 100 i = _
      unfold av_u2
      rw [if_neg (fun z => hq (by rw [z.2]; exact hj (Or.inr z.1.symm)))]
    rw [e1, e2]
    exact Y.2.2.1 i hi hq
  · show av_u2 h.2.2.2.1 a j v 96 q = _
    by_cases e : a = 96
    · rw [if_pos e, e, hj (Or.inl e), av_u2_self]
    · rw [if_neg e, av_u2_ne (Ne.symm e)]; exact Y.2.2.2.1
  · show av_u2 h.2.2.2.1 a j v 100 q = _
    by_cases e : a = 100
    · rw [if_pos e, e, hj (Or.inr e), av_u2_self]
    · rw [if_neg e, av_u2_ne (Ne.symm e)]; exact Y.2.2.2.2
/-! how many combos a case of the book has -/
def cmB (A : Nat → Nat → Int) (c : Nat) : Int := cmf (fun i => A 91 (36 * c + i)) (fun i => A 92 (36 * c + i)) (fun i => A 89 (12 * c + i)) (4 * (A 81 c).toNat)
theorem cmf_congr {lo hi ls lo' hi' ls' : Nat → Int} {n : Nat} (h1 : ∀ i, i < 3 * n → lo i = lo' i) (h2 : ∀ i, i < 3 * n → hi i = hi' i) (h3 : ∀ i, i < n → ls i = ls' i) : ∀ t, t ≤ 4 * n → cmf lo hi ls t = cmf lo' hi' ls' t := by
  intro t
  induction t with
  | zero => intro _; rfl
  | succ t ih =>
    intro ht
    have hv : cmv lo hi ls t = cmv lo' hi' ls' t := by
      unfold cmv
      by_cases e : t % 4 < 3
      · rw [if_pos e, if_pos e, h1 _ (by omega), h2 _ (by omega)]
      · rw [if_neg e, if_neg e, h3 _ (by omega)]
    show (if cmv lo hi ls t < 2 then cmf lo hi ls t else if 1024 < cmf lo hi ls t * cmv lo hi ls t then 1025 else cmf lo hi ls t * cmv lo hi ls t) = (if cmv lo' hi' ls' t < 2 then cmf lo' hi' ls' t else if 1024 < cmf lo' hi' ls' t * cmv lo' hi' ls' t then 1025 else cmf lo' hi' ls' t * cmv lo' hi' ls' t)
    rw [hv, ih (by omega)]
theorem cm_of {g h0 h1 : av_H} {c : Nat} {n m : Int} (F0 : FM g h0) (hn : 0 ≤ n) (b : hA h0 81 c = n ∧ BC c (fun a => bmul a * n.toNat) (hA h0) h1) (hm : m = cmf (hA h1 105) (hA h1 106) (hA h1 98) (4 * n).toNat) : m = cmB (hA g) c := by
  have e81 : hA h0 81 = hA g 81 := F0.2.2.2.2.2.2 81 rfl
  have e91 : hA h0 91 = hA g 91 := F0.2.2.2.2.2.2 91 rfl
  have e92 : hA h0 92 = hA g 92 := F0.2.2.2.2.2.2 92 rfl
  have e89 : hA h0 89 = hA g 89 := F0.2.2.2.2.2.2 89 rfl
  rw [hm]
  unfold cmB
  rw [← e81, ← e91, ← e92, ← e89, b.1, show (4 * n).toNat = 4 * n.toNat by omega]
  refine cmf_congr (n := n.toNat) ?_ ?_ ?_ _ (Nat.le_refl _)
  · intro i hi
    have := b.2 105 (by omega) (by omega) i hi
    rw [this]
    show hA h0 91 (3 * (12 * c) + i) = hA h0 91 (36 * c + i)
    rw [show 3 * (12 * c) + i = 36 * c + i by omega]
  · intro i hi
    have := b.2 106 (by omega) (by omega) i hi
    rw [this]
    show hA h0 92 (3 * (12 * c) + i) = hA h0 92 (36 * c + i)
    rw [show 3 * (12 * c) + i = 36 * c + i by omega]
  · intro i hi
    have := b.2 98 (by omega) (by omega) i (show i < 1 * n.toNat by omega)
    rw [this]
    show hA h0 89 (1 * (12 * c) + i) = hA h0 89 (12 * c + i)
    rw [show 1 * (12 * c) + i = 12 * c + i by omega]
/-- the product of what may be, up to each asked one -/
theorem im_p {n a m : Int} {h : av_H} (I : IMF n a m h) (hm : 1 ≤ m ∧ m ≤ 1024) : ∃ p : Nat → Int, p 0 = 1 ∧ (∀ j : Nat, (j : Int) < a → p (j + 1) = p j * hA h 108 j) ∧ ∀ j : Nat, (j : Int) ≤ a → 1 ≤ p j ∧ p j ≤ m := by
  obtain ⟨k1, k2, k3, p, p0, p1, p2⟩ := I.1.1.2.2.2.1
  rw [I.2.2.1] at k1 k3 p1 p2
  rw [I.2.2.2] at k2 p2
  have q1 : ∀ j : Nat, (j : Int) ≤ a → 1 ≤ p j := by
    intro j
    induction j with
    | zero => intro _; rw [p0]; omega
    | succ j ih =>
      intro hj
      have h1 := ih (by omega)
      have h2 := k3 j (by omega)
      rw [p1 j (by omega)]
      have : p j * 1 ≤ p j * hA h 108 j := Int.mul_le_mul_of_nonneg_left (by omega) (by omega)
      omega
  have q2 : ∀ (d j : Nat), (j : Int) + d = a → p j ≤ p a.toNat := by
    intro d
    induction d with
    | zero => intro j hj; rw [show a.toNat = j by omega]; exact Int.le_refl _
    | succ d ih =>
      intro j hj
      have h1 := ih (j + 1) (by omega)
      have h2 := k3 j (by omega)
      have h3 := q1 j (by omega)
      rw [p1 j (by omega)] at h1
      have : p j * 1 ≤ p j * hA h 108 j := Int.mul_le_mul_of_nonneg_left (by omega) (by omega)
      omega
  refine ⟨p, p0, p1, fun j hj => ⟨q1 j hj, ?_⟩⟩
  have h1 := q2 (a - j).toNat j (by omega)
  have h2 := p2 hm.1 hm.2
  omega
end
