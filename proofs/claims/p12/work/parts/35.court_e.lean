set_option maxRecDepth 100000 in
set_option maxHeartbeats 4000000 in
theorem ct_114 {h : av_H} (I : IC h) (l : Int) (ql : -2147483648 ≤ l ∧ l ≤ 2147483647) (x : Int) (qx : -2147483648 ≤ x ∧ x ≤ 2147483647) {Q : Option av_V → av_H → Prop} (hq : ∀ (v : Int) h', IC h' → Fr h h' → Q (some (.inl v)) h') : av_wp none cd_114 0 [some (.inr (.inr (.inl (some (0))))), some (.inl l), some (.inl x), none, none, none, none, none] [] h Q := by
  have F := Fr_rf h
  refine av_wp_seq 1 (pc' := 1) (lv' := [some (.inr (.inr (.inl (some (0))))), some (.inl l), some (.inl x), none, none, none, none, none]) (st' := [.inr (.inr (.inl (some (0))))]) (h' := h) rfl ?_
  refine wq_gr (p' := 4) rfl rfl (congrArg Prod.fst (ly_k I.1 0 rfl)) rfl (ly_g I.1 0 1 3 rfl) ?_
  refine av_wp_seq 1 (pc' := 5) (lv' := [some (.inr (.inr (.inl (some (0))))), some (.inl l), some (.inl x), none, none, none, none, none]) (st' := [.inl l, .inr (.inr (.inl (some (3))))]) (h' := h) rfl ?_
  refine wq_cv (p' := 8) (av_qc (.invokevirtual 153) 70 1 0 5) 2 cd_70 [.inl l] (3) 5 [some (.inr (.inr (.inl (some (3))))), some (.inl l)] rfl rfl rfl pp_70 rfl rfl rfl (congrArg Prod.fst (ly_k I.1 3 rfl)) rfl rfl rfl rfl ?_
  refine ct_70 I (l) (by omega) (fun v1 p2 => ?_)
  show av_wp _ cd_114 8 [some (.inr (.inr (.inl (some (0))))), some (.inl l), some (.inl x), none, none, none, none, none] [.inl v1] h _
  refine wq_k1 (p' := 11) rfl rfl ⟨by omega, by omega⟩ (fun c3 => ?_) (fun c4 => ?_)
  · have c3 : v1 = (0) := c3
    refine av_wp_seq 1 (pc' := 24) (lv' := [some (.inr (.inr (.inl (some (0))))), some (.inl l), some (.inl x), none, none, none, none, none]) (st' := [.inl (-2)]) (h' := h) rfl ?_
    refine av_wp_ret (v := some (.inl (-2))) rfl rfl rfl ?_
    exact hq _ h I F
  · have c4 : v1 ≠ (0) := c4
    refine av_wp_seq 1 (pc' := 12) (lv' := [some (.inr (.inr (.inl (some (0))))), some (.inl l), some (.inl x), none, none, none, none, none]) (st' := [.inr (.inr (.inl (some (0))))]) (h' := h) rfl ?_
    refine wq_gr (p' := 15) rfl rfl (congrArg Prod.fst (ly_k I.1 0 rfl)) rfl (ly_g I.1 0 1 3 rfl) ?_
    refine av_wp_seq 1 (pc' := 16) (lv' := [some (.inr (.inr (.inl (some (0))))), some (.inl l), some (.inl x), none, none, none, none, none]) (st' := [.inl x, .inr (.inr (.inl (some (3))))]) (h' := h) rfl ?_
    refine wq_cv (p' := 19) (av_qc (.invokevirtual 153) 70 1 0 5) 2 cd_70 [.inl x] (3) 5 [some (.inr (.inr (.inl (some (3))))), some (.inl x)] rfl rfl rfl pp_70 rfl rfl rfl (congrArg Prod.fst (ly_k I.1 3 rfl)) rfl rfl rfl rfl ?_
    refine ct_70 I (x) (by omega) (fun v5 p6 => ?_)
    show av_wp _ cd_114 19 [some (.inr (.inr (.inl (some (0))))), some (.inl l), some (.inl x), none, none, none, none, none] [.inl v5] h _
    refine wq_k1 (p' := 22) rfl rfl ⟨by omega, by omega⟩ (fun c7 => ?_) (fun c8 => ?_)
    · have c7 : v5 ≠ (0) := c7
      refine av_wp_seq 6 (pc' := 34) (lv' := [some (.inr (.inr (.inl (some (0))))), some (.inl l), some (.inl x), some (.inl (-1)), some (.inl (13)), some (.inl (0)), none, none]) (st' := []) (h' := h) rfl ?_
      have L18 : ∀ (m17 : Nat) (k9 : Int) (k10 : Int) (k11 : Int) (a12 : Option av_V) (a13 : Option av_V) (h14 : av_H), av_lg a12 = false → av_lg a13 = false → (0 ≤ k11 ∧ k11 ≤ 16) → (0 ≤ k10 ∧ k10 ≤ 13) → IC h14 → Fr h h14 → (16 - k11).toNat = m17 → av_wp none cd_114 34 [some (.inr (.inr (.inl (some (0))))), some (.inl l), some (.inl x), some (.inl k9), some (.inl k10), some (.inl k11), a12, a13] [] h14 Q := by
        intro m17
        induction m17 using Nat.strongRecOn with
        | _ m17 I19 =>
          intro k9 k10 k11 a12 a13 h14 g21 g22 g23 g24 I15 F16 e20
          have la12 := g21
          have la13 := g22
          refine av_wp_seq 2 (pc' := 37) (lv' := [some (.inr (.inr (.inl (some (0))))), some (.inl l), some (.inl x), some (.inl k9), some (.inl k10), some (.inl k11), a12, a13]) (st' := [.inr (.inr (.inl (some (0)))), .inl k11]) (h' := h14) rfl ?_
          refine wq_gr (p' := 40) rfl rfl (congrArg Prod.fst (ly_k I15.1 0 rfl)) rfl (ly_g I15.1 0 1 3 rfl) ?_
          obtain ⟨v25, e26⟩ : ∃ v, hF h14 3 3 = v := ⟨_, rfl⟩
          have g27 := ic_cc I15
          rw [e26] at g27
          refine wq_gi (p' := 43) rfl rfl (congrArg Prod.fst (ly_k I15.1 3 rfl)) rfl (e26) ?_
          refine wq_k2 (p' := 46) rfl rfl ⟨by omega, by omega⟩ ⟨by omega, by omega⟩ (fun c28 => ?_) (fun c29 => ?_)
          · have c28 : v25 ≤ k11 := c28
            refine av_wp_seq 1 (pc' := 126) (lv' := [some (.inr (.inr (.inl (some (0))))), some (.inl l), some (.inl x), some (.inl k9), some (.inl k10), some (.inl k11), a12, a13]) (st' := [.inl k9]) (h' := h14) rfl ?_
            refine av_wp_ret (v := some (.inl k9)) rfl rfl rfl ?_
            exact hq _ h14 I15 F16
          · have c29 : k11 < v25 := c29
            refine av_wp_seq 1 (pc' := 47) (lv' := [some (.inr (.inr (.inl (some (0))))), some (.inl l), some (.inl x), some (.inl k9), some (.inl k10), some (.inl k11), a12, a13]) (st' := [.inr (.inr (.inl (some (0))))]) (h' := h14) rfl ?_
            refine wq_gr (p' := 50) rfl rfl (congrArg Prod.fst (ly_k I15.1 0 rfl)) rfl (ly_g I15.1 0 1 3 rfl) ?_
            refine av_wp_seq 1 (pc' := 52) (lv' := [some (.inr (.inr (.inl (some (0))))), some (.inl l), some (.inl x), some (.inl k9), some (.inl k10), some (.inl k11), a12, a13]) (st' := [.inl k11, .inr (.inr (.inl (some (3))))]) (h' := h14) rfl ?_
            refine wq_cv (p' := 55) (av_qc (.invokevirtual 96) 69 1 0 5) 2 cd_69 [.inl k11] (3) 5 [some (.inr (.inr (.inl (some (3))))), some (.inl k11)] rfl rfl rfl pp_69 rfl rfl rfl (congrArg Prod.fst (ly_k I15.1 3 rfl)) rfl rfl rfl rfl ?_
            refine ct_69 I15 (k11) (by omega) ?_ (fun t30 c31 s32 d33 o34 z35 z36 => ?_)
            · show av_wp _ cd_114 55 [some (.inr (.inr (.inl (some (0))))), some (.inl l), some (.inl x), some (.inl k9), some (.inl k10), some (.inl k11), a12, a13] [.inr (.inr (.inl none))] h14 _
              refine av_wp_seq 9 (pc' := 34) (lv' := [some (.inr (.inr (.inl (some (0))))), some (.inl l), some (.inl x), some (.inl k9), some (.inl k10), some (.inl (k11 + (1))), some (.inr (.inr (.inl none))), some (.inl (0))]) (st' := []) (h' := h14) rfl ?_
              exact I19 _ (by omega) (k9) (k10) ((k11 + (1))) (some (.inr (.inr (.inl none)))) (some (.inl (0))) h14 rfl rfl (by omega) (by omega) I15 F16 rfl
            · have g37 := co_s12 o34
              have g38 := co_cbr o34
              show av_wp _ cd_114 55 [some (.inr (.inr (.inl (some (0))))), some (.inl l), some (.inl x), some (.inl k9), some (.inl k10), some (.inl k11), a12, a13] [.inr (.inr (.inl (some (t30))))] h14 _
              refine av_wp_seq 4 (pc' := 64) (lv' := [some (.inr (.inr (.inl (some (0))))), some (.inl l), some (.inl x), some (.inl k9), some (.inl k10), some (.inl k11), some (.inr (.inr (.inl (some (t30))))), a13]) (st' := [.inr (.inr (.inl (some (t30))))]) (h' := h14) rfl ?_
              refine wq_gi (p' := 67) rfl rfl (congrArg Prod.fst (co_kt o34)) rfl (co_s o34) ?_
              refine av_wp_seq 1 (pc' := 69) (lv' := [some (.inr (.inr (.inl (some (0))))), some (.inl l), some (.inl x), some (.inl k9), some (.inl k10), some (.inl k11), some (.inr (.inr (.inl (some (t30))))), a13]) (st' := [.inl k10, .inl (s32 : Int)]) (h' := h14) rfl ?_
              refine wq_k2 (p' := 72) rfl rfl ⟨by omega, by omega⟩ ⟨by omega, by omega⟩ (fun c39 => ?_) (fun c40 => ?_)
              · have c39 : k10 ≤ (s32 : Int) := c39
                refine av_wp_seq 6 (pc' := 34) (lv' := [some (.inr (.inr (.inl (some (0))))), some (.inl l), some (.inl x), some (.inl k9), some (.inl k10), some (.inl (k11 + (1))), some (.inr (.inr (.inl (some (t30))))), some (.inl (0))]) (st' := []) (h' := h14) rfl ?_
                exact I19 _ (by omega) (k9) (k10) ((k11 + (1))) (some (.inr (.inr (.inl (some (t30)))))) (some (.inl (0))) h14 rfl rfl (by omega) (by omega) I15 F16 rfl
              · have c40 : (s32 : Int) < k10 := c40
                refine av_wp_seq 6 (pc' := 85) (lv' := [some (.inr (.inr (.inl (some (0))))), some (.inl l), some (.inl x), some (.inl k9), some (.inl k10), some (.inl k11), some (.inr (.inr (.inl (some (t30))))), some (.inl (1))]) (st' := [.inr (.inr (.inl (some (0))))]) (h' := h14) rfl ?_
                refine wq_gr (p' := 88) rfl rfl (congrArg Prod.fst (ly_k I15.1 0 rfl)) rfl (ly_g I15.1 0 5 26 rfl) ?_
                refine av_wp_seq 3 (pc' := 92) (lv' := [some (.inr (.inr (.inl (some (0))))), some (.inl l), some (.inl x), some (.inl k9), some (.inl k10), some (.inl k11), some (.inr (.inr (.inl (some (t30))))), some (.inl (1))]) (st' := [.inl x, .inl l, .inl k11, .inr (.inr (.inl (some (26))))]) (h' := h14) rfl ?_
                refine wq_cv (p' := 95) (av_qc (.invokevirtual 222) 50 3 0 3) 5 cd_50 [.inl x, .inl l, .inl k11] (26) 3 [some (.inr (.inr (.inl (some (26))))), some (.inl k11), some (.inl l), some (.inl x), none] rfl rfl rfl pp_50 rfl rfl rfl (congrArg Prod.fst (ly_k I15.1 26 rfl)) rfl rfl rfl rfl ?_
                refine ct_50 I15 (k11) (by omega) (l) (by omega) (x) (by omega) (fun h41 i42 F44 => ?_) (fun h41 t46 c47 s48 r49 r50 d51 i42 i43 z45 F44 => ?_)
                · have F52 := Fr_tr F16 F44
                  have o53 := CO_fr I15.1 o34 F44
                  show av_wp _ cd_114 95 [some (.inr (.inr (.inl (some (0))))), some (.inl l), some (.inl x), some (.inl k9), some (.inl k10), some (.inl k11), some (.inr (.inr (.inl (some (t30))))), some (.inl (1))] [.inl (0)] h41 _
                  refine av_wp_seq 3 (pc' := 34) (lv' := [some (.inr (.inr (.inl (some (0))))), some (.inl l), some (.inl x), some (.inl k9), some (.inl k10), some (.inl (k11 + (1))), some (.inr (.inr (.inl (some (t30))))), some (.inl (1))]) (st' := []) (h' := h41) rfl ?_
                  exact I19 _ (by omega) (k9) (k10) ((k11 + (1))) (some (.inr (.inr (.inl (some (t30)))))) (some (.inl (1))) h41 rfl rfl (by omega) (by omega) i42 F52 rfl
                · have F54 := Fr_tr F16 F44
                  have o55 := CO_fr I15.1 o34 F44
                  have g56 := co_s12 (ib_co i42)
                  have g57 := co_cbr (ib_co i42)
                  show av_wp _ cd_114 95 [some (.inr (.inr (.inl (some (0))))), some (.inl l), some (.inl x), some (.inl k9), some (.inl k10), some (.inl k11), some (.inr (.inr (.inl (some (t30))))), some (.inl (1))] [.inl (1)] h41 _
                  refine av_wp_seq 2 (pc' := 99) (lv' := [some (.inr (.inr (.inl (some (0))))), some (.inl l), some (.inl x), some (.inl k9), some (.inl k10), some (.inl k11), some (.inr (.inr (.inl (some (t30))))), some (.inl (1))]) (st' := [.inr (.inr (.inl (some (0))))]) (h' := h41) rfl ?_
                  refine wq_gr (p' := 102) rfl rfl (congrArg Prod.fst (ly_k (ib_ic i42).1 0 rfl)) rfl (ly_g (ib_ic i42).1 0 5 26 rfl) ?_
                  refine wq_cv (p' := 105) (av_qc (.invokevirtual 228) 61 0 0 3) 2 cd_61 [] (26) 3 [some (.inr (.inr (.inl (some (26))))), none] rfl rfl rfl pp_61 rfl rfl rfl (congrArg Prod.fst (ly_k (ib_ic i42).1 26 rfl)) rfl rfl rfl rfl ?_
                  refine ct_61 i42 i43  (fun v62 h58 i59 i60 F61 => ?_)
                  have F64 := Fr_tr F54 F61.1
                  have i65 := ib_f1 i43 (ib_ic i59) F61
                  have o66 := CO_fr (ib_ic i42).1 o55 F61.1
                  have o67 := CO_fr (ib_ic i42).1 (ib_co i42) F61.1
                  show av_wp _ cd_114 105 [some (.inr (.inr (.inl (some (0))))), some (.inl l), some (.inl x), some (.inl k9), some (.inl k10), some (.inl k11), some (.inr (.inr (.inl (some (t30))))), some (.inl (1))] [.inl v62] h58 _
                  refine av_wp_seq 1 (pc' := 106) (lv' := [some (.inr (.inr (.inl (some (0))))), some (.inl l), some (.inl x), some (.inl k9), some (.inl k10), some (.inl k11), some (.inr (.inr (.inl (some (t30))))), some (.inl (1))]) (st' := [.inl (-1), .inl v62]) (h' := h58) rfl ?_
                  refine wq_c2 (p' := 109) rfl rfl ?_ ?_
                  · refine av_wp_seq 2 (pc' := 34) (lv' := [some (.inr (.inr (.inl (some (0))))), some (.inl l), some (.inl x), some (.inl k9), some (.inl k10), some (.inl (k11 + (1))), some (.inr (.inr (.inl (some (t30))))), some (.inl (1))]) (st' := []) (h' := h58) rfl ?_
                    exact I19 _ (by omega) (k9) (k10) ((k11 + (1))) (some (.inr (.inr (.inl (some (t30)))))) (some (.inl (1))) h58 rfl rfl (by omega) (by omega) (ib_ic i59) F64 rfl
                  · refine av_wp_seq 3 (pc' := 114) (lv' := [some (.inr (.inr (.inl (some (0))))), some (.inl l), some (.inl x), some (.inl k11), some (.inl k10), some (.inl k11), some (.inr (.inr (.inl (some (t30))))), some (.inl (1))]) (st' := [.inr (.inr (.inl (some (t30))))]) (h' := h58) rfl ?_
                    refine wq_gi (p' := 117) rfl rfl (congrArg Prod.fst (co_kt o66)) rfl (co_s o66) ?_
                    refine av_wp_seq 3 (pc' := 34) (lv' := [some (.inr (.inr (.inl (some (0))))), some (.inl l), some (.inl x), some (.inl k11), some (.inl (s32 : Int)), some (.inl (k11 + (1))), some (.inr (.inr (.inl (some (t30))))), some (.inl (1))]) (st' := []) (h' := h58) rfl ?_
                    exact I19 _ (by omega) (k11) ((s32 : Int)) ((k11 + (1))) (some (.inr (.inr (.inl (some (t30)))))) (some (.inl (1))) h58 rfl rfl (by omega) (by omega) (ib_ic i59) F64 rfl
      exact L18 _ ((-1)) ((13)) ((0)) (none) (none) h rfl rfl (by omega) (by omega) I F rfl
    · have c8 : v5 = (0) := c8
      refine av_wp_seq 1 (pc' := 24) (lv' := [some (.inr (.inr (.inl (some (0))))), some (.inl l), some (.inl x), none, none, none, none, none]) (st' := [.inl (-2)]) (h' := h) rfl ?_
      refine av_wp_ret (v := some (.inl (-2))) rfl rfl rfl ?_
      exact hq _ h I F

set_option maxRecDepth 100000 in
set_option maxHeartbeats 4000000 in
theorem ct_116 {h : av_H} (I : IC h) (n : Int) (qn : -2147483648 ≤ n ∧ n ≤ 2147483647) (l : Int) (ql : -2147483648 ≤ l ∧ l ≤ 2147483647) (x : Int) (qx : -2147483648 ≤ x ∧ x ≤ 2147483647) (k : Int) (qk : -2147483648 ≤ k ∧ k ≤ 2147483647) {Q : Option av_V → av_H → Prop} (hq : ∀ (v : Int) h', IC h' → Fr h h' → Q (some (.inl v)) h') : av_wp none cd_116 0 [some (.inr (.inr (.inl (some (0))))), some (.inl n), some (.inl l), some (.inl x), some (.inl k)] [] h Q := by
  have F := Fr_rf h
  refine av_wp_seq 1 (pc' := 1) (lv' := [some (.inr (.inr (.inl (some (0))))), some (.inl n), some (.inl l), some (.inl x), some (.inl k)]) (st' := [.inr (.inr (.inl (some (0))))]) (h' := h) rfl ?_
  refine wq_gr (p' := 4) rfl rfl (congrArg Prod.fst (ly_k I.1 0 rfl)) rfl (ly_g I.1 0 5 26 rfl) ?_
  refine av_wp_seq 3 (pc' := 7) (lv' := [some (.inr (.inr (.inl (some (0))))), some (.inl n), some (.inl l), some (.inl x), some (.inl k)]) (st' := [.inl x, .inl l, .inl n, .inr (.inr (.inl (some (26))))]) (h' := h) rfl ?_
  refine wq_cv (p' := 10) (av_qc (.invokevirtual 160) 48 3 0 3) 5 cd_48 [.inl x, .inl l, .inl n] (26) 3 [some (.inr (.inr (.inl (some (26))))), some (.inl n), some (.inl l), some (.inl x), none] rfl rfl rfl pp_48 rfl rfl rfl (congrArg Prod.fst (ly_k I.1 26 rfl)) rfl rfl rfl rfl ?_
  refine ct_48 I (n) (by omega) (l) (by omega) (x) (by omega) (fun h1 i2 F3 => ?_) (fun h1 t5 c6 s7 r8 d9 i2 z4 F3 => ?_)
  · have F10 := Fr_tr F F3.1
    show av_wp _ cd_116 10 [some (.inr (.inr (.inl (some (0))))), some (.inl n), some (.inl l), some (.inl x), some (.inl k)] [.inl (0)] h1 _
    refine av_wp_seq 2 (pc' := 33) (lv' := [some (.inr (.inr (.inl (some (0))))), some (.inl n), some (.inl l), some (.inl x), some (.inl k)]) (st' := [.inl (-2)]) (h' := h1) rfl ?_
    refine av_wp_ret (v := some (.inl (-2))) rfl rfl rfl ?_
    exact hq _ h1 i2 F10
  · have F11 := Fr_tr F F3.1
    have g12 := co_s12 (ib_co i2)
    have g13 := co_cbr (ib_co i2)
    show av_wp _ cd_116 10 [some (.inr (.inr (.inl (some (0))))), some (.inl n), some (.inl l), some (.inl x), some (.inl k)] [.inl (1)] h1 _
    refine av_wp_seq 2 (pc' := 14) (lv' := [some (.inr (.inr (.inl (some (0))))), some (.inl n), some (.inl l), some (.inl x), some (.inl k)]) (st' := [.inr (.inr (.inl (some (0))))]) (h' := h1) rfl ?_
    refine wq_gr (p' := 17) rfl rfl (congrArg Prod.fst (ly_k (ib_ic i2).1 0 rfl)) rfl (ly_g (ib_ic i2).1 0 5 26 rfl) ?_
    refine wq_gr (p' := 20) rfl rfl (congrArg Prod.fst (ly_k (ib_ic i2).1 26 rfl)) rfl (ly_g (ib_ic i2).1 26 1 35 rfl) ?_
    refine wq_gr (p' := 23) rfl rfl (congrArg Prod.fst (bn_k0 (ib_ic i2).1 (Or.inl rfl))) rfl (ib_t i2) ?_
    refine av_wp_seq 1 (pc' := 25) (lv' := [some (.inr (.inr (.inl (some (0))))), some (.inl n), some (.inl l), some (.inl x), some (.inl k)]) (st' := [.inl k, .inr (.inr (.inl (some (t5))))]) (h' := h1) rfl ?_
    refine wq_cv (p' := 28) (av_qc (.invokevirtual 136) 28 1 0 1) 2 cd_28 [.inl k] (t5) 1 [some (.inr (.inr (.inl (some (t5))))), some (.inl k)] rfl rfl rfl pp_28 rfl rfl rfl (congrArg Prod.fst (co_kt (ib_co i2))) rfl rfl rfl rfl ?_
    refine ct_28 (ib_co i2) (k) (by omega) (fun v14 p15 => ?_)
    show av_wp _ cd_116 28 [some (.inr (.inr (.inl (some (0))))), some (.inl n), some (.inl l), some (.inl x), some (.inl k)] [.inl v14] h1 _
    refine wq_k1 (p' := 31) rfl rfl ⟨by omega, by omega⟩ (fun c16 => ?_) (fun c17 => ?_)
    · have c16 : v14 ≠ (0) := c16
      refine av_wp_seq 1 (pc' := 35) (lv' := [some (.inr (.inr (.inl (some (0))))), some (.inl n), some (.inl l), some (.inl x), some (.inl k)]) (st' := [.inr (.inr (.inl (some (0))))]) (h' := h1) rfl ?_
      refine wq_gr (p' := 38) rfl rfl (congrArg Prod.fst (ly_k (ib_ic i2).1 0 rfl)) rfl (ly_g (ib_ic i2).1 0 5 26 rfl) ?_
      refine wq_gr (p' := 41) rfl rfl (congrArg Prod.fst (ly_k (ib_ic i2).1 26 rfl)) rfl (ly_g (ib_ic i2).1 26 1 35 rfl) ?_
      refine av_wp_seq 1 (pc' := 43) (lv' := [some (.inr (.inr (.inl (some (0))))), some (.inl n), some (.inl l), some (.inl x), some (.inl k)]) (st' := [.inl k, .inr (.inr (.inl (some (35))))]) (h' := h1) rfl ?_
      refine wq_cv (p' := 46) (av_qc (.invokevirtual 240) 21 1 0 0) 4 cd_21 [.inl k] (35) 0 [some (.inr (.inr (.inl (some (35))))), some (.inl k), none, none] rfl rfl rfl pp_21 rfl rfl rfl (congrArg Prod.fst (bn_k0 (ib_ic i2).1 (Or.inl rfl))) rfl rfl rfl rfl ?_
      refine ct_21 i2 (Fr1_rf h1) (k) (by omega) (fun v18 => ?_)
      show av_wp _ cd_116 46 [some (.inr (.inr (.inl (some (0))))), some (.inl n), some (.inl l), some (.inl x), some (.inl k)] [.inl v18] h1 _
      refine av_wp_ret (v := some (.inl v18)) rfl rfl rfl ?_
      exact hq _ h1 (ib_ic i2) F11
    · have c17 : v14 = (0) := c17
      refine av_wp_seq 1 (pc' := 33) (lv' := [some (.inr (.inr (.inl (some (0))))), some (.inl n), some (.inl l), some (.inl x), some (.inl k)]) (st' := [.inl (-2)]) (h' := h1) rfl ?_
      refine av_wp_ret (v := some (.inl (-2))) rfl rfl rfl ?_
      exact hq _ h1 (ib_ic i2) F11

set_option maxRecDepth 100000 in
set_option maxHeartbeats 4000000 in
theorem ct_117 {h : av_H} (I : IC h) (n : Int) (qn : -2147483648 ≤ n ∧ n ≤ 2147483647) (l : Int) (ql : -2147483648 ≤ l ∧ l ≤ 2147483647) (x : Int) (qx : -2147483648 ≤ x ∧ x ≤ 2147483647) (y : Int) (qy : -2147483648 ≤ y ∧ y ≤ 2147483647) (z : Int) (qz : -2147483648 ≤ z ∧ z ≤ 2147483647) {Q : Option av_V → av_H → Prop} (hq : ∀ (v : Int) h', IC h' → Fr h h' → Q (some (.inl v)) h') : av_wp none cd_117 0 [some (.inr (.inr (.inl (some (0))))), some (.inl n), some (.inl l), some (.inl x), some (.inl y), some (.inl z), none] [] h Q := by
  have F := Fr_rf h
  refine av_wp_seq 1 (pc' := 2) (lv' := [some (.inr (.inr (.inl (some (0))))), some (.inl n), some (.inl l), some (.inl x), some (.inl y), some (.inl z), none]) (st' := [.inl y]) (h' := h) rfl ?_
  refine wq_cs (p' := 5) (av_qc (.invokestatic 243) 119 1 2 7) 1 cd_119 [.inl y] [.inl y] [some (.inl y)] rfl rfl rfl pp_119 (fun _ => rfl) rfl rfl ?_
  refine ct_119 (y) (by omega) (fun v1 p2 => ?_)
  show av_wp _ cd_117 5 [some (.inr (.inr (.inl (some (0))))), some (.inl n), some (.inl l), some (.inl x), some (.inl y), some (.inl z), none] [.inl v1] h _
  refine wq_k1 (p' := 8) rfl rfl ⟨by omega, by omega⟩ (fun c3 => ?_) (fun c4 => ?_)
  · have c3 : v1 = (0) := c3
    refine av_wp_seq 1 (pc' := 36) (lv' := [some (.inr (.inr (.inl (some (0))))), some (.inl n), some (.inl l), some (.inl x), some (.inl y), some (.inl z), none]) (st' := [.inl (-2)]) (h' := h) rfl ?_
    refine av_wp_ret (v := some (.inl (-2))) rfl rfl rfl ?_
    exact hq _ h I F
  · have c4 : v1 ≠ (0) := c4
    refine av_wp_seq 1 (pc' := 10) (lv' := [some (.inr (.inr (.inl (some (0))))), some (.inl n), some (.inl l), some (.inl x), some (.inl y), some (.inl z), none]) (st' := [.inl z]) (h' := h) rfl ?_
    refine wq_k1 (p' := 13) rfl rfl ⟨by omega, by omega⟩ (fun c5 => ?_) (fun c6 => ?_)
    · have c5 : z < (0) := c5
      refine av_wp_seq 1 (pc' := 36) (lv' := [some (.inr (.inr (.inl (some (0))))), some (.inl n), some (.inl l), some (.inl x), some (.inl y), some (.inl z), none]) (st' := [.inl (-2)]) (h' := h) rfl ?_
      refine av_wp_ret (v := some (.inl (-2))) rfl rfl rfl ?_
      exact hq _ h I F
    · have c6 : (0) ≤ z := c6
      refine av_wp_seq 2 (pc' := 18) (lv' := [some (.inr (.inr (.inl (some (0))))), some (.inl n), some (.inl l), some (.inl x), some (.inl y), some (.inl z), none]) (st' := [.inl (9999), .inl z]) (h' := h) rfl ?_
      refine wq_k2 (p' := 21) rfl rfl ⟨by omega, by omega⟩ ⟨by omega, by omega⟩ (fun c7 => ?_) (fun c8 => ?_)
      · have c7 : (9999) ≤ z := c7
        refine av_wp_seq 1 (pc' := 36) (lv' := [some (.inr (.inr (.inl (some (0))))), some (.inl n), some (.inl l), some (.inl x), some (.inl y), some (.inl z), none]) (st' := [.inl (-2)]) (h' := h) rfl ?_
        refine av_wp_ret (v := some (.inl (-2))) rfl rfl rfl ?_
        exact hq _ h I F
      · have c8 : z < (9999) := c8
        refine av_wp_seq 1 (pc' := 22) (lv' := [some (.inr (.inr (.inl (some (0))))), some (.inl n), some (.inl l), some (.inl x), some (.inl y), some (.inl z), none]) (st' := [.inr (.inr (.inl (some (0))))]) (h' := h) rfl ?_
        refine wq_gr (p' := 25) rfl rfl (congrArg Prod.fst (ly_k I.1 0 rfl)) rfl (ly_g I.1 0 5 26 rfl) ?_
        refine av_wp_seq 3 (pc' := 28) (lv' := [some (.inr (.inr (.inl (some (0))))), some (.inl n), some (.inl l), some (.inl x), some (.inl y), some (.inl z), none]) (st' := [.inl x, .inl l, .inl n, .inr (.inr (.inl (some (26))))]) (h' := h) rfl ?_
        refine wq_cv (p' := 31) (av_qc (.invokevirtual 160) 48 3 0 3) 5 cd_48 [.inl x, .inl l, .inl n] (26) 3 [some (.inr (.inr (.inl (some (26))))), some (.inl n), some (.inl l), some (.inl x), none] rfl rfl rfl pp_48 rfl rfl rfl (congrArg Prod.fst (ly_k I.1 26 rfl)) rfl rfl rfl rfl ?_
        refine ct_48 I (n) (by omega) (l) (by omega) (x) (by omega) (fun h9 i10 F11 => ?_) (fun h9 t13 c14 s15 r16 d17 i10 z12 F11 => ?_)
        · have F18 := Fr_tr F F11.1
          show av_wp _ cd_117 31 [some (.inr (.inr (.inl (some (0))))), some (.inl n), some (.inl l), some (.inl x), some (.inl y), some (.inl z), none] [.inl (0)] h9 _
          refine av_wp_seq 2 (pc' := 36) (lv' := [some (.inr (.inr (.inl (some (0))))), some (.inl n), some (.inl l), some (.inl x), some (.inl y), some (.inl z), none]) (st' := [.inl (-2)]) (h' := h9) rfl ?_
          refine av_wp_ret (v := some (.inl (-2))) rfl rfl rfl ?_
          exact hq _ h9 i10 F18
        · have F19 := Fr_tr F F11.1
          have g20 := co_s12 (ib_co i10)
          have g21 := co_cbr (ib_co i10)
          show av_wp _ cd_117 31 [some (.inr (.inr (.inl (some (0))))), some (.inl n), some (.inl l), some (.inl x), some (.inl y), some (.inl z), none] [.inl (1)] h9 _
          refine av_wp_seq 2 (pc' := 38) (lv' := [some (.inr (.inr (.inl (some (0))))), some (.inl n), some (.inl l), some (.inl x), some (.inl y), some (.inl z), none]) (st' := [.inr (.inr (.inl (some (0))))]) (h' := h9) rfl ?_
          refine wq_gr (p' := 41) rfl rfl (congrArg Prod.fst (ly_k (ib_ic i10).1 0 rfl)) rfl (ly_g (ib_ic i10).1 0 5 26 rfl) ?_
          refine wq_gr (p' := 44) rfl rfl (congrArg Prod.fst (ly_k (ib_ic i10).1 26 rfl)) rfl (ly_g (ib_ic i10).1 26 1 35 rfl) ?_
          refine av_wp_seq 3 (pc' := 49) (lv' := [some (.inr (.inr (.inl (some (0))))), some (.inl n), some (.inl l), some (.inl x), some (.inl y), some (.inl z), none]) (st' := [.inl z, .inl (1), .inl y, .inr (.inr (.inl (some (35))))]) (h' := h9) rfl ?_
          refine wq_cv (p' := 52) (av_qc (.invokevirtual 246) 23 3 0 0) 5 cd_23 [.inl z, .inl (1), .inl y] (35) 0 [some (.inr (.inr (.inl (some (35))))), some (.inl y), some (.inl (1)), some (.inl z), none] rfl rfl rfl pp_23 rfl rfl rfl (congrArg Prod.fst (bn_k0 (ib_ic i10).1 (Or.inl rfl))) rfl rfl rfl rfl ?_
          refine ct_23 i10 (Fr1_rf h9) (y) ((1)) (z)  (fun v22 p23 => ?_)
          show av_wp _ cd_117 52 [some (.inr (.inr (.inl (some (0))))), some (.inl n), some (.inl l), some (.inl x), some (.inl y), some (.inl z), none] [.inl v22] h9 _
          refine wq_k1 (p' := 55) rfl rfl ⟨by omega, by omega⟩ (fun c24 => ?_) (fun c25 => ?_)
          · have c24 : v22 = (0) := c24
            refine av_wp_seq 3 (pc' := 63) (lv' := [some (.inr (.inr (.inl (some (0))))), some (.inl n), some (.inl l), some (.inl x), some (.inl y), some (.inl z), some (.inl (0))]) (st' := [.inr (.inr (.inl (some (0))))]) (h' := h9) rfl ?_
            refine wq_gr (p' := 66) rfl rfl (congrArg Prod.fst (ly_k (ib_ic i10).1 0 rfl)) rfl (ly_g (ib_ic i10).1 0 5 26 rfl) ?_
            refine wq_gr (p' := 69) rfl rfl (congrArg Prod.fst (ly_k (ib_ic i10).1 26 rfl)) rfl (ly_g (ib_ic i10).1 26 1 35 rfl) ?_
            refine av_wp_seq 3 (pc' := 74) (lv' := [some (.inr (.inr (.inl (some (0))))), some (.inl n), some (.inl l), some (.inl x), some (.inl y), some (.inl z), some (.inl (0))]) (st' := [.inl z, .inl (2), .inl y, .inr (.inr (.inl (some (35))))]) (h' := h9) rfl ?_
            refine wq_cv (p' := 77) (av_qc (.invokevirtual 246) 23 3 0 0) 5 cd_23 [.inl z, .inl (2), .inl y] (35) 0 [some (.inr (.inr (.inl (some (35))))), some (.inl y), some (.inl (2)), some (.inl z), none] rfl rfl rfl pp_23 rfl rfl rfl (congrArg Prod.fst (bn_k0 (ib_ic i10).1 (Or.inl rfl))) rfl rfl rfl rfl ?_
            refine ct_23 i10 (Fr1_rf h9) (y) ((2)) (z)  (fun v26 p27 => ?_)
            show av_wp _ cd_117 77 [some (.inr (.inr (.inl (some (0))))), some (.inl n), some (.inl l), some (.inl x), some (.inl y), some (.inl z), some (.inl (0))] [.inl v26] h9 _
            refine wq_k1 (p' := 80) rfl rfl ⟨by omega, by omega⟩ (fun c28 => ?_) (fun c29 => ?_)
            · have c28 : v26 = (0) := c28
              refine av_wp_seq 1 (pc' := 89) (lv' := [some (.inr (.inr (.inl (some (0))))), some (.inl n), some (.inl l), some (.inl x), some (.inl y), some (.inl z), some (.inl (0))]) (st' := [.inl (0)]) (h' := h9) rfl ?_
              refine av_wp_ret (v := some (.inl (0))) rfl rfl rfl ?_
              exact hq _ h9 (ib_ic i10) F19
            · have c29 : v26 ≠ (0) := c29
              refine av_wp_seq 4 (pc' := 89) (lv' := [some (.inr (.inr (.inl (some (0))))), some (.inl n), some (.inl l), some (.inl x), some (.inl y), some (.inl z), some (.inl (0))]) (st' := [.inl (2)]) (h' := h9) rfl ?_
              refine av_wp_ret (v := some (.inl (2))) rfl rfl rfl ?_
              exact hq _ h9 (ib_ic i10) F19
          · have c25 : v22 ≠ (0) := c25
            refine av_wp_seq 4 (pc' := 63) (lv' := [some (.inr (.inr (.inl (some (0))))), some (.inl n), some (.inl l), some (.inl x), some (.inl y), some (.inl z), some (.inl (1))]) (st' := [.inr (.inr (.inl (some (0))))]) (h' := h9) rfl ?_
            refine wq_gr (p' := 66) rfl rfl (congrArg Prod.fst (ly_k (ib_ic i10).1 0 rfl)) rfl (ly_g (ib_ic i10).1 0 5 26 rfl) ?_
            refine wq_gr (p' := 69) rfl rfl (congrArg Prod.fst (ly_k (ib_ic i10).1 26 rfl)) rfl (ly_g (ib_ic i10).1 26 1 35 rfl) ?_
            refine av_wp_seq 3 (pc' := 74) (lv' := [some (.inr (.inr (.inl (some (0))))), some (.inl n), some (.inl l), some (.inl x), some (.inl y), some (.inl z), some (.inl (1))]) (st' := [.inl z, .inl (2), .inl y, .inr (.inr (.inl (some (35))))]) (h' := h9) rfl ?_
            refine wq_cv (p' := 77) (av_qc (.invokevirtual 246) 23 3 0 0) 5 cd_23 [.inl z, .inl (2), .inl y] (35) 0 [some (.inr (.inr (.inl (some (35))))), some (.inl y), some (.inl (2)), some (.inl z), none] rfl rfl rfl pp_23 rfl rfl rfl (congrArg Prod.fst (bn_k0 (ib_ic i10).1 (Or.inl rfl))) rfl rfl rfl rfl ?_
            refine ct_23 i10 (Fr1_rf h9) (y) ((2)) (z)  (fun v30 p31 => ?_)
            show av_wp _ cd_117 77 [some (.inr (.inr (.inl (some (0))))), some (.inl n), some (.inl l), some (.inl x), some (.inl y), some (.inl z), some (.inl (1))] [.inl v30] h9 _
            refine wq_k1 (p' := 80) rfl rfl ⟨by omega, by omega⟩ (fun c32 => ?_) (fun c33 => ?_)
            · have c32 : v30 = (0) := c32
              refine av_wp_seq 1 (pc' := 89) (lv' := [some (.inr (.inr (.inl (some (0))))), some (.inl n), some (.inl l), some (.inl x), some (.inl y), some (.inl z), some (.inl (1))]) (st' := [.inl (1)]) (h' := h9) rfl ?_
              refine av_wp_ret (v := some (.inl (1))) rfl rfl rfl ?_
              exact hq _ h9 (ib_ic i10) F19
            · have c33 : v30 ≠ (0) := c33
              refine av_wp_seq 4 (pc' := 89) (lv' := [some (.inr (.inr (.inl (some (0))))), some (.inl n), some (.inl l), some (.inl x), some (.inl y), some (.inl z), some (.inl (1))]) (st' := [.inl (3)]) (h' := h9) rfl ?_
              refine av_wp_ret (v := some (.inl (3))) rfl rfl rfl ?_
              exact hq _ h9 (ib_ic i10) F19

set_option maxRecDepth 100000 in
set_option maxHeartbeats 4000000 in
theorem ct_118 {h : av_H} (I : IC h) (n : Int) (qn : -2147483648 ≤ n ∧ n ≤ 2147483647) (l : Int) (ql : -2147483648 ≤ l ∧ l ≤ 2147483647) (x : Int) (qx : -2147483648 ≤ x ∧ x ≤ 2147483647) (y : Int) (qy : -2147483648 ≤ y ∧ y ≤ 2147483647) (w : Int) (qw : -2147483648 ≤ w ∧ w ≤ 2147483647) {Q : Option av_V → av_H → Prop} (hq : ∀ (v : Int) h', IC h' → Fr h h' → Q (some (.inl v)) h') : av_wp none cd_118 0 [some (.inr (.inr (.inl (some (0))))), some (.inl n), some (.inl l), some (.inl x), some (.inl y), some (.inl w)] [] h Q := by
  have F := Fr_rf h
  refine av_wp_seq 1 (pc' := 2) (lv' := [some (.inr (.inr (.inl (some (0))))), some (.inl n), some (.inl l), some (.inl x), some (.inl y), some (.inl w)]) (st' := [.inl y]) (h' := h) rfl ?_
  refine wq_cs (p' := 5) (av_qc (.invokestatic 243) 119 1 2 7) 1 cd_119 [.inl y] [.inl y] [some (.inl y)] rfl rfl rfl pp_119 (fun _ => rfl) rfl rfl ?_
  refine ct_119 (y) (by omega) (fun v1 p2 => ?_)
  show av_wp _ cd_118 5 [some (.inr (.inr (.inl (some (0))))), some (.inl n), some (.inl l), some (.inl x), some (.inl y), some (.inl w)] [.inl v1] h _
  refine wq_k1 (p' := 8) rfl rfl ⟨by omega, by omega⟩ (fun c3 => ?_) (fun c4 => ?_)
  · have c3 : v1 = (0) := c3
    refine av_wp_seq 1 (pc' := 35) (lv' := [some (.inr (.inr (.inl (some (0))))), some (.inl n), some (.inl l), some (.inl x), some (.inl y), some (.inl w)]) (st' := [.inl (-2)]) (h' := h) rfl ?_
    refine av_wp_ret (v := some (.inl (-2))) rfl rfl rfl ?_
    exact hq _ h I F
  · have c4 : v1 ≠ (0) := c4
    refine av_wp_seq 2 (pc' := 11) (lv' := [some (.inr (.inr (.inl (some (0))))), some (.inl n), some (.inl l), some (.inl x), some (.inl y), some (.inl w)]) (st' := [.inl (1), .inl w]) (h' := h) rfl ?_
    refine wq_k2 (p' := 14) rfl rfl ⟨by omega, by omega⟩ ⟨by omega, by omega⟩ (fun c5 => ?_) (fun c6 => ?_)
    · have c5 : w < (1) := c5
      refine av_wp_seq 1 (pc' := 35) (lv' := [some (.inr (.inr (.inl (some (0))))), some (.inl n), some (.inl l), some (.inl x), some (.inl y), some (.inl w)]) (st' := [.inl (-2)]) (h' := h) rfl ?_
      refine av_wp_ret (v := some (.inl (-2))) rfl rfl rfl ?_
      exact hq _ h I F
    · have c6 : (1) ≤ w := c6
      refine av_wp_seq 2 (pc' := 17) (lv' := [some (.inr (.inr (.inl (some (0))))), some (.inl n), some (.inl l), some (.inl x), some (.inl y), some (.inl w)]) (st' := [.inl (2), .inl w]) (h' := h) rfl ?_
      refine wq_k2 (p' := 20) rfl rfl ⟨by omega, by omega⟩ ⟨by omega, by omega⟩ (fun c7 => ?_) (fun c8 => ?_)
      · have c7 : (2) < w := c7
        refine av_wp_seq 1 (pc' := 35) (lv' := [some (.inr (.inr (.inl (some (0))))), some (.inl n), some (.inl l), some (.inl x), some (.inl y), some (.inl w)]) (st' := [.inl (-2)]) (h' := h) rfl ?_
        refine av_wp_ret (v := some (.inl (-2))) rfl rfl rfl ?_
        exact hq _ h I F
      · have c8 : w ≤ (2) := c8
        refine av_wp_seq 1 (pc' := 21) (lv' := [some (.inr (.inr (.inl (some (0))))), some (.inl n), some (.inl l), some (.inl x), some (.inl y), some (.inl w)]) (st' := [.inr (.inr (.inl (some (0))))]) (h' := h) rfl ?_
        refine wq_gr (p' := 24) rfl rfl (congrArg Prod.fst (ly_k I.1 0 rfl)) rfl (ly_g I.1 0 5 26 rfl) ?_
        refine av_wp_seq 3 (pc' := 27) (lv' := [some (.inr (.inr (.inl (some (0))))), some (.inl n), some (.inl l), some (.inl x), some (.inl y), some (.inl w)]) (st' := [.inl x, .inl l, .inl n, .inr (.inr (.inl (some (26))))]) (h' := h) rfl ?_
        refine wq_cv (p' := 30) (av_qc (.invokevirtual 160) 48 3 0 3) 5 cd_48 [.inl x, .inl l, .inl n] (26) 3 [some (.inr (.inr (.inl (some (26))))), some (.inl n), some (.inl l), some (.inl x), none] rfl rfl rfl pp_48 rfl rfl rfl (congrArg Prod.fst (ly_k I.1 26 rfl)) rfl rfl rfl rfl ?_
        refine ct_48 I (n) (by omega) (l) (by omega) (x) (by omega) (fun h9 i10 F11 => ?_) (fun h9 t13 c14 s15 r16 d17 i10 z12 F11 => ?_)
        · have F18 := Fr_tr F F11.1
          show av_wp _ cd_118 30 [some (.inr (.inr (.inl (some (0))))), some (.inl n), some (.inl l), some (.inl x), some (.inl y), some (.inl w)] [.inl (0)] h9 _
          refine av_wp_seq 2 (pc' := 35) (lv' := [some (.inr (.inr (.inl (some (0))))), some (.inl n), some (.inl l), some (.inl x), some (.inl y), some (.inl w)]) (st' := [.inl (-2)]) (h' := h9) rfl ?_
          refine av_wp_ret (v := some (.inl (-2))) rfl rfl rfl ?_
          exact hq _ h9 i10 F18
        · have F19 := Fr_tr F F11.1
          have g20 := co_s12 (ib_co i10)
          have g21 := co_cbr (ib_co i10)
          show av_wp _ cd_118 30 [some (.inr (.inr (.inl (some (0))))), some (.inl n), some (.inl l), some (.inl x), some (.inl y), some (.inl w)] [.inl (1)] h9 _
          refine av_wp_seq 2 (pc' := 37) (lv' := [some (.inr (.inr (.inl (some (0))))), some (.inl n), some (.inl l), some (.inl x), some (.inl y), some (.inl w)]) (st' := [.inr (.inr (.inl (some (0))))]) (h' := h9) rfl ?_
          refine wq_gr (p' := 40) rfl rfl (congrArg Prod.fst (ly_k (ib_ic i10).1 0 rfl)) rfl (ly_g (ib_ic i10).1 0 5 26 rfl) ?_
          refine wq_gr (p' := 43) rfl rfl (congrArg Prod.fst (ly_k (ib_ic i10).1 26 rfl)) rfl (ly_g (ib_ic i10).1 26 1 35 rfl) ?_
          refine av_wp_seq 2 (pc' := 47) (lv' := [some (.inr (.inr (.inl (some (0))))), some (.inl n), some (.inl l), some (.inl x), some (.inl y), some (.inl w)]) (st' := [.inl w, .inl y, .inr (.inr (.inl (some (35))))]) (h' := h9) rfl ?_
          refine wq_cv (p' := 50) (av_qc (.invokevirtual 249) 24 2 0 0) 5 cd_24 [.inl w, .inl y] (35) 0 [some (.inr (.inr (.inl (some (35))))), some (.inl y), some (.inl w), none, none] rfl rfl rfl pp_24 rfl rfl rfl (congrArg Prod.fst (bn_k0 (ib_ic i10).1 (Or.inl rfl))) rfl rfl rfl rfl ?_
          refine ct_24 i10 (Fr1_rf h9) (y) (w)  (fun v22 => ?_)
          show av_wp _ cd_118 50 [some (.inr (.inr (.inl (some (0))))), some (.inl n), some (.inl l), some (.inl x), some (.inl y), some (.inl w)] [.inl v22] h9 _
          refine av_wp_ret (v := some (.inl v22)) rfl rfl rfl ?_
          exact hq _ h9 (ib_ic i10) F19

set_option maxRecDepth 100000 in
set_option maxHeartbeats 4000000 in
theorem ct_115 {h : av_H} (I : IC h) (n : Int) (qn : -2147483648 ≤ n ∧ n ≤ 2147483647) {Q : Option av_V → av_H → Prop} (hq : ∀ (v : Int) h', IC h' → Fr h h' → Q (some (.inl v)) h') : av_wp none cd_115 0 [some (.inr (.inr (.inl (some (0))))), some (.inl n), none, none, none, none] [] h Q := by
  have F := Fr_rf h
  refine av_wp_seq 1 (pc' := 1) (lv' := [some (.inr (.inr (.inl (some (0))))), some (.inl n), none, none, none, none]) (st' := [.inr (.inr (.inl (some (0))))]) (h' := h) rfl ?_
  refine wq_gr (p' := 4) rfl rfl (congrArg Prod.fst (ly_k I.1 0 rfl)) rfl (ly_g I.1 0 1 3 rfl) ?_
  refine av_wp_seq 1 (pc' := 5) (lv' := [some (.inr (.inr (.inl (some (0))))), some (.inl n), none, none, none, none]) (st' := [.inl n, .inr (.inr (.inl (some (3))))]) (h' := h) rfl ?_
  refine wq_cv (p' := 8) (av_qc (.invokevirtual 96) 69 1 0 5) 2 cd_69 [.inl n] (3) 5 [some (.inr (.inr (.inl (some (3))))), some (.inl n)] rfl rfl rfl pp_69 rfl rfl rfl (congrArg Prod.fst (ly_k I.1 3 rfl)) rfl rfl rfl rfl ?_
  refine ct_69 I (n) (by omega) ?_ (fun t1 c2 s3 d4 o5 z6 z7 => ?_)
  · show av_wp _ cd_115 8 [some (.inr (.inr (.inl (some (0))))), some (.inl n), none, none, none, none] [.inr (.inr (.inl none))] h _
    refine av_wp_seq 4 (pc' := 33) (lv' := [some (.inr (.inr (.inl (some (0))))), some (.inl n), some (.inr (.inr (.inl none))), none, none, none]) (st' := [.inl (-2)]) (h' := h) rfl ?_
    refine av_wp_ret (v := some (.inl (-2))) rfl rfl rfl ?_
    exact hq _ h I F
  · have g8 := co_s12 o5
    have g9 := co_cbr o5
    show av_wp _ cd_115 8 [some (.inr (.inr (.inl (some (0))))), some (.inl n), none, none, none, none] [.inr (.inr (.inl (some (t1))))] h _
    refine av_wp_seq 4 (pc' := 14) (lv' := [some (.inr (.inr (.inl (some (0))))), some (.inl n), some (.inr (.inr (.inl (some (t1))))), none, none, none]) (st' := [.inr (.inr (.inl (some (t1))))]) (h' := h) rfl ?_
    refine wq_gi (p' := 17) rfl rfl (congrArg Prod.fst (co_kt o5)) rfl (co_cb o5) ?_
    refine av_wp_seq 1 (pc' := 18) (lv' := [some (.inr (.inr (.inl (some (0))))), some (.inl n), some (.inr (.inr (.inl (some (t1))))), none, none, none]) (st' := [.inl (-1), .inl d4]) (h' := h) rfl ?_
    refine wq_k2 (p' := 21) rfl rfl ⟨by omega, by omega⟩ ⟨by omega, by omega⟩ (fun c10 => ?_) (fun c11 => ?_)
    · have c10 : d4 = (-1) := c10
      refine av_wp_seq 1 (pc' := 33) (lv' := [some (.inr (.inr (.inl (some (0))))), some (.inl n), some (.inr (.inr (.inl (some (t1))))), none, none, none]) (st' := [.inl (-2)]) (h' := h) rfl ?_
      refine av_wp_ret (v := some (.inl (-2))) rfl rfl rfl ?_
      exact hq _ h I F
    · have c11 : d4 ≠ (-1) := c11
      refine av_wp_seq 1 (pc' := 22) (lv' := [some (.inr (.inr (.inl (some (0))))), some (.inl n), some (.inr (.inr (.inl (some (t1))))), none, none, none]) (st' := [.inr (.inr (.inl (some (0))))]) (h' := h) rfl ?_
      refine wq_gr (p' := 25) rfl rfl (congrArg Prod.fst (ly_k I.1 0 rfl)) rfl (ly_g I.1 0 1 3 rfl) ?_
      obtain ⟨v12, e13⟩ : ∃ v, hF h 3 4 = v := ⟨_, rfl⟩
      have g14 := ic_lc I
      rw [e13] at g14
      refine wq_gi (p' := 28) rfl rfl (congrArg Prod.fst (ly_k I.1 3 rfl)) rfl (e13) ?_
      refine wq_k1 (p' := 31) rfl rfl ⟨by omega, by omega⟩ (fun c15 => ?_) (fun c16 => ?_)
      · have c15 : v12 ≠ (0) := c15
        refine av_wp_seq 2 (pc' := 36) (lv' := [some (.inr (.inr (.inl (some (0))))), some (.inl n), some (.inr (.inr (.inl (some (t1))))), none, none, none]) (st' := [.inr (.inr (.inl (some (0)))), .inl (1)]) (h' := h) rfl ?_
        refine wq_gr (p' := 39) rfl rfl (congrArg Prod.fst (ly_k I.1 0 rfl)) rfl (ly_g I.1 0 1 3 rfl) ?_
        obtain ⟨v17, e18⟩ : ∃ v, hF h 3 5 = v := ⟨_, rfl⟩
        have g19 := ic_kc I
        rw [e18] at g19
        refine wq_gi (p' := 42) rfl rfl (congrArg Prod.fst (ly_k I.1 3 rfl)) rfl (e18) ?_
        refine av_wp_seq 1 (pc' := 43) (lv' := [some (.inr (.inr (.inl (some (0))))), some (.inl n), some (.inr (.inr (.inl (some (t1))))), none, none, none]) (st' := [.inl (av_shl (1) v17)]) (h' := h) rfl ?_
        have g22 := shl_le (n := v17) (by omega)
        generalize av_shl (1) v17 = v20 at g22 ⊢
        refine av_wp_seq 3 (pc' := 47) (lv' := [some (.inr (.inr (.inl (some (0))))), some (.inl n), some (.inr (.inr (.inl (some (t1))))), some (.inl v20), some (.inl (0)), none]) (st' := []) (h' := h) rfl ?_
        have L30 : ∀ (m29 : Nat) (k23 : Int) (a24 : Option av_V) (h25 : av_H), av_lg a24 = false → (0 ≤ k23 ∧ k23 ≤ 7) → IC h25 → Fr h h25 → CO h25 t1 c2 s3 d4 → (7 - k23).toNat = m29 → av_wp none cd_115 47 [some (.inr (.inr (.inl (some (0))))), some (.inl n), some (.inr (.inr (.inl (some (t1))))), some (.inl v20), some (.inl k23), a24] [] h25 Q := by
          intro m29
          induction m29 using Nat.strongRecOn with
          | _ m29 I31 =>
            intro k23 a24 h25 g33 g34 I26 F27 o28 e32
            have la24 := g33
            refine av_wp_seq 2 (pc' := 50) (lv' := [some (.inr (.inr (.inl (some (0))))), some (.inl n), some (.inr (.inr (.inl (some (t1))))), some (.inl v20), some (.inl k23), a24]) (st' := [.inr (.inr (.inl (some (0)))), .inl k23]) (h' := h25) rfl ?_
            refine wq_gr (p' := 53) rfl rfl (congrArg Prod.fst (ly_k I26.1 0 rfl)) rfl (ly_g I26.1 0 1 3 rfl) ?_
            obtain ⟨v35, e36⟩ : ∃ v, hF h25 3 5 = v := ⟨_, rfl⟩
            have g37 := ic_kc I26
            rw [e36] at g37
            refine wq_gi (p' := 56) rfl rfl (congrArg Prod.fst (ly_k I26.1 3 rfl)) rfl (e36) ?_
            refine wq_k2 (p' := 59) rfl rfl ⟨by omega, by omega⟩ ⟨by omega, by omega⟩ (fun c38 => ?_) (fun c39 => ?_)
            · have c38 : v35 < k23 := c38
              refine av_wp_seq 1 (pc' := 108) (lv' := [some (.inr (.inr (.inl (some (0))))), some (.inl n), some (.inr (.inr (.inl (some (t1))))), some (.inl v20), some (.inl k23), a24]) (st' := [.inl (-1)]) (h' := h25) rfl ?_
              refine av_wp_ret (v := some (.inl (-1))) rfl rfl rfl ?_
              exact hq _ h25 I26 F27
            · have c39 : k23 ≤ v35 := c39
              refine av_wp_seq 2 (pc' := 62) (lv' := [some (.inr (.inr (.inl (some (0))))), some (.inl n), some (.inr (.inr (.inl (some (t1))))), some (.inl v20), some (.inl k23), some (.inl (0))]) (st' := []) (h' := h25) rfl ?_
              have L46 : ∀ (m45 : Nat) (k40 : Int) (h41 : av_H), (0 ≤ k40 ∧ k40 ≤ 64) → IC h41 → Fr h h41 → CO h41 t1 c2 s3 d4 → (64 - k40).toNat = m45 → av_wp none cd_115 62 [some (.inr (.inr (.inl (some (0))))), some (.inl n), some (.inr (.inr (.inl (some (t1))))), some (.inl v20), some (.inl k23), some (.inl k40)] [] h41 Q := by
                intro m45
                induction m45 using Nat.strongRecOn with
                | _ m45 I47 =>
                  intro k40 h41 g49 I42 F43 o44 e48
                  refine av_wp_seq 2 (pc' := 65) (lv' := [some (.inr (.inr (.inl (some (0))))), some (.inl n), some (.inr (.inr (.inl (some (t1))))), some (.inl v20), some (.inl k23), some (.inl k40)]) (st' := [.inl v20, .inl k40]) (h' := h41) rfl ?_
                  refine wq_k2 (p' := 68) rfl rfl ⟨by omega, by omega⟩ ⟨by omega, by omega⟩ (fun c50 => ?_) (fun c51 => ?_)
                  · have c50 : v20 ≤ k40 := c50
                    refine av_wp_seq 2 (pc' := 47) (lv' := [some (.inr (.inr (.inl (some (0))))), some (.inl n), some (.inr (.inr (.inl (some (t1))))), some (.inl v20), some (.inl (k23 + (1))), some (.inl k40)]) (st' := []) (h' := h41) rfl ?_
                    exact I31 _ (by omega) ((k23 + (1))) (some (.inl k40)) h41 rfl (by omega) I42 F43 o44 rfl
                  · have c51 : k40 < v20 := c51
                    refine av_wp_seq 1 (pc' := 70) (lv' := [some (.inr (.inr (.inl (some (0))))), some (.inl n), some (.inr (.inr (.inl (some (t1))))), some (.inl v20), some (.inl k23), some (.inl k40)]) (st' := [.inl k40]) (h' := h41) rfl ?_
                    refine wq_cs (p' := 73) (av_qc (.invokestatic 231) 218 1 2 11) 1 cd_218 [.inl k40] [.inl k40] [some (.inl k40)] rfl rfl rfl pp_218 (fun _ => rfl) rfl rfl ?_
                    refine ct_218 (k40) (fun v52 => ?_)
                    show av_wp _ cd_115 73 [some (.inr (.inr (.inl (some (0))))), some (.inl n), some (.inr (.inr (.inl (some (t1))))), some (.inl v20), some (.inl k23), some (.inl k40)] [.inl v52] h41 _
                    refine av_wp_seq 1 (pc' := 75) (lv' := [some (.inr (.inr (.inl (some (0))))), some (.inl n), some (.inr (.inr (.inl (some (t1))))), some (.inl v20), some (.inl k23), some (.inl k40)]) (st' := [.inl k23, .inl v52]) (h' := h41) rfl ?_
                    refine wq_c2 (p' := 78) rfl rfl ?_ ?_
                    · refine av_wp_seq 2 (pc' := 62) (lv' := [some (.inr (.inr (.inl (some (0))))), some (.inl n), some (.inr (.inr (.inl (some (t1))))), some (.inl v20), some (.inl k23), some (.inl (k40 + (1)))]) (st' := []) (h' := h41) rfl ?_
                      exact I47 _ (by omega) ((k40 + (1))) h41 (by omega) I42 F43 o44 rfl
                    · refine av_wp_seq 1 (pc' := 79) (lv' := [some (.inr (.inr (.inl (some (0))))), some (.inl n), some (.inr (.inr (.inl (some (t1))))), some (.inl v20), some (.inl k23), some (.inl k40)]) (st' := [.inr (.inr (.inl (some (0))))]) (h' := h41) rfl ?_
                      refine wq_gr (p' := 82) rfl rfl (congrArg Prod.fst (ly_k I42.1 0 rfl)) rfl (ly_g I42.1 0 5 26 rfl) ?_
                      refine av_wp_seq 3 (pc' := 86) (lv' := [some (.inr (.inr (.inl (some (0))))), some (.inl n), some (.inr (.inr (.inl (some (t1))))), some (.inl v20), some (.inl k23), some (.inl k40)]) (st' := [.inl k40, .inl n, .inr (.inr (.inl (some (t1)))), .inr (.inr (.inl (some (26))))]) (h' := h41) rfl ?_
                      refine wq_cv (p' := 89) (av_qc (.invokevirtual 236) 63 3 0 3) 7 cd_63 [.inl k40, .inl n, .inr (.inr (.inl (some (t1))))] (26) 3 [some (.inr (.inr (.inl (some (26))))), some (.inr (.inr (.inl (some (t1))))), some (.inl n), some (.inl k40), none, none, none] rfl rfl rfl pp_63 rfl rfl rfl (congrArg Prod.fst (ly_k I42.1 26 rfl)) rfl rfl rfl rfl ?_
                      refine ct_63 I42 o44 (n) (by omega) (k40) (fun v56 h53 p57 I54 F55 => ?_)
                      have F58 := Fr_tr F43 F55.1
                      have o59 := CO_fr I42.1 o44 F55.1
                      show av_wp _ cd_115 89 [some (.inr (.inr (.inl (some (0))))), some (.inl n), some (.inr (.inr (.inl (some (t1))))), some (.inl v20), some (.inl k23), some (.inl k40)] [.inl v56] h53 _
                      refine wq_k1 (p' := 92) rfl rfl ⟨by omega, by omega⟩ (fun c60 => ?_) (fun c61 => ?_)
                      · have c60 : v56 = (0) := c60
                        refine av_wp_seq 2 (pc' := 62) (lv' := [some (.inr (.inr (.inl (some (0))))), some (.inl n), some (.inr (.inr (.inl (some (t1))))), some (.inl v20), some (.inl k23), some (.inl (k40 + (1)))]) (st' := []) (h' := h53) rfl ?_
                        exact I47 _ (by omega) ((k40 + (1))) h53 (by omega) I54 F58 o59 rfl
                      · have c61 : v56 ≠ (0) := c61
                        refine av_wp_seq 1 (pc' := 94) (lv' := [some (.inr (.inr (.inl (some (0))))), some (.inl n), some (.inr (.inr (.inl (some (t1))))), some (.inl v20), some (.inl k23), some (.inl k40)]) (st' := [.inl k40]) (h' := h53) rfl ?_
                        refine av_wp_ret (v := some (.inl k40)) rfl rfl rfl ?_
                        exact hq _ h53 I54 F58
              exact L46 _ ((0)) h25 (by omega) I26 F27 o28 rfl
        exact L30 _ ((0)) (none) h rfl (by omega) I F o5 rfl
      · have c16 : v12 = (0) := c16
        refine av_wp_seq 1 (pc' := 33) (lv' := [some (.inr (.inr (.inl (some (0))))), some (.inl n), some (.inr (.inr (.inl (some (t1))))), none, none, none]) (st' := [.inl (-2)]) (h' := h) rfl ?_
        refine av_wp_ret (v := some (.inl (-2))) rfl rfl rfl ?_
        exact hq _ h I F

