/-! THE SMALL LOOKS, safety alone -/
set_option maxRecDepth 100000 in
set_option maxHeartbeats 4000000 in
theorem ct_100 {h : av_H} (I : IC h)  {Q : Option av_V → av_H → Prop} (hq : ∀ (v : Int) h', IC h' → Fr h h' → Q (some (.inl v)) h') : av_wp none cd_100 0 [some (.inr (.inr (.inl (some (0)))))] [] h Q := by
  have F := Fr_rf h
  refine av_wp_seq 1 (pc' := 1) (lv' := [some (.inr (.inr (.inl (some (0)))))]) (st' := [.inr (.inr (.inl (some (0))))]) (h' := h) rfl ?_
  obtain ⟨v1, e2⟩ : ∃ v, hF h 0 8 = v := ⟨_, rfl⟩
  refine wq_gi (p' := 4) rfl rfl (congrArg Prod.fst (ly_k I.1 0 rfl)) rfl (e2) ?_
  refine av_wp_ret (v := some (.inl v1)) rfl rfl rfl ?_
  exact hq _ h I F

set_option maxRecDepth 100000 in
set_option maxHeartbeats 4000000 in
theorem ct_101 {h : av_H} (I : IC h) (n : Int) (qn : -2147483648 ≤ n ∧ n ≤ 2147483647) (k : Int) (qk : -2147483648 ≤ k ∧ k ≤ 2147483647) (w : Int) (qw : -2147483648 ≤ w ∧ w ≤ 2147483647) {Q : Option av_V → av_H → Prop} (hq : ∀ (v : Int) h', IC h' → Fr h h' → Q (some (.inl v)) h') : av_wp none cd_101 0 [some (.inr (.inr (.inl (some (0))))), some (.inl n), some (.inl k), some (.inl w), none, none] [] h Q := by
  have F := Fr_rf h
  refine av_wp_seq 1 (pc' := 1) (lv' := [some (.inr (.inr (.inl (some (0))))), some (.inl n), some (.inl k), some (.inl w), none, none]) (st' := [.inr (.inr (.inl (some (0))))]) (h' := h) rfl ?_
  refine wq_gr (p' := 4) rfl rfl (congrArg Prod.fst (ly_k I.1 0 rfl)) rfl (ly_g I.1 0 1 3 rfl) ?_
  refine av_wp_seq 1 (pc' := 5) (lv' := [some (.inr (.inr (.inl (some (0))))), some (.inl n), some (.inl k), some (.inl w), none, none]) (st' := [.inl n, .inr (.inr (.inl (some (3))))]) (h' := h) rfl ?_
  refine wq_cv (p' := 8) (av_qc (.invokevirtual 96) 69 1 0 5) 2 cd_69 [.inl n] (3) 5 [some (.inr (.inr (.inl (some (3))))), some (.inl n)] rfl rfl rfl pp_69 rfl rfl rfl (congrArg Prod.fst (ly_k I.1 3 rfl)) rfl rfl rfl rfl ?_
  refine ct_69 I (n) (by omega) ?_ (fun t1 c2 s3 d4 o5 z6 z7 => ?_)
  · show av_wp _ cd_101 8 [some (.inr (.inr (.inl (some (0))))), some (.inl n), some (.inl k), some (.inl w), none, none] [.inr (.inr (.inl none))] h _
    refine av_wp_seq 2 (pc' := 11) (lv' := [some (.inr (.inr (.inl (some (0))))), some (.inl n), some (.inl k), some (.inl w), some (.inr (.inr (.inl none))), none]) (st' := [.inl w]) (h' := h) rfl ?_
    refine wq_k1 (p' := 14) rfl rfl ⟨by omega, by omega⟩ (fun c10 => ?_) (fun c11 => ?_)
    · have c10 : w < (0) := c10
      refine av_wp_seq 1 (pc' := 21) (lv' := [some (.inr (.inr (.inl (some (0))))), some (.inl n), some (.inl k), some (.inl w), some (.inr (.inr (.inl none))), none]) (st' := [.inl w]) (h' := h) rfl ?_
      refine wq_cs (p' := 24) (av_qc (.invokestatic 133) 102 1 2 7) 1 cd_102 [.inl w] [.inl w] [some (.inl w)] rfl rfl rfl pp_102 (fun _ => rfl) rfl rfl ?_
      refine ct_102 (w) (by omega) (fun v12 p13 => ?_)
      show av_wp _ cd_101 24 [some (.inr (.inr (.inl (some (0))))), some (.inl n), some (.inl k), some (.inl w), some (.inr (.inr (.inl none))), none] [.inl v12] h _
      refine wq_k1 (p' := 27) rfl rfl ⟨by omega, by omega⟩ (fun c14 => ?_) (fun c15 => ?_)
      · have c14 : v12 = (0) := c14
        refine av_wp_seq 5 (pc' := 55) (lv' := [some (.inr (.inr (.inl (some (0))))), some (.inl n), some (.inl k), some (.inl w), some (.inr (.inr (.inl none))), some (.inl (0))]) (st' := [.inl (-2)]) (h' := h) rfl ?_
        refine av_wp_ret (v := some (.inl (-2))) rfl rfl rfl ?_
        exact hq _ h I F
      · have c15 : v12 ≠ (0) := c15
        refine av_wp_seq 6 (pc' := 55) (lv' := [some (.inr (.inr (.inl (some (0))))), some (.inl n), some (.inl k), some (.inl w), some (.inr (.inr (.inl none))), some (.inl (1))]) (st' := [.inl (-2)]) (h' := h) rfl ?_
        refine av_wp_ret (v := some (.inl (-2))) rfl rfl rfl ?_
        exact hq _ h I F
    · have c11 : (0) ≤ w := c11
      refine av_wp_seq 2 (pc' := 17) (lv' := [some (.inr (.inr (.inl (some (0))))), some (.inl n), some (.inl k), some (.inl w), some (.inr (.inr (.inl none))), none]) (st' := [.inl (6), .inl w]) (h' := h) rfl ?_
      refine wq_k2 (p' := 20) rfl rfl ⟨by omega, by omega⟩ ⟨by omega, by omega⟩ (fun c16 => ?_) (fun c17 => ?_)
      · have c16 : w ≤ (6) := c16
        refine av_wp_seq 6 (pc' := 55) (lv' := [some (.inr (.inr (.inl (some (0))))), some (.inl n), some (.inl k), some (.inl w), some (.inr (.inr (.inl none))), some (.inl (1))]) (st' := [.inl (-2)]) (h' := h) rfl ?_
        refine av_wp_ret (v := some (.inl (-2))) rfl rfl rfl ?_
        exact hq _ h I F
      · have c17 : (6) < w := c17
        refine av_wp_seq 1 (pc' := 21) (lv' := [some (.inr (.inr (.inl (some (0))))), some (.inl n), some (.inl k), some (.inl w), some (.inr (.inr (.inl none))), none]) (st' := [.inl w]) (h' := h) rfl ?_
        refine wq_cs (p' := 24) (av_qc (.invokestatic 133) 102 1 2 7) 1 cd_102 [.inl w] [.inl w] [some (.inl w)] rfl rfl rfl pp_102 (fun _ => rfl) rfl rfl ?_
        refine ct_102 (w) (by omega) (fun v18 p19 => ?_)
        show av_wp _ cd_101 24 [some (.inr (.inr (.inl (some (0))))), some (.inl n), some (.inl k), some (.inl w), some (.inr (.inr (.inl none))), none] [.inl v18] h _
        refine wq_k1 (p' := 27) rfl rfl ⟨by omega, by omega⟩ (fun c20 => ?_) (fun c21 => ?_)
        · have c20 : v18 = (0) := c20
          refine av_wp_seq 5 (pc' := 55) (lv' := [some (.inr (.inr (.inl (some (0))))), some (.inl n), some (.inl k), some (.inl w), some (.inr (.inr (.inl none))), some (.inl (0))]) (st' := [.inl (-2)]) (h' := h) rfl ?_
          refine av_wp_ret (v := some (.inl (-2))) rfl rfl rfl ?_
          exact hq _ h I F
        · have c21 : v18 ≠ (0) := c21
          refine av_wp_seq 6 (pc' := 55) (lv' := [some (.inr (.inr (.inl (some (0))))), some (.inl n), some (.inl k), some (.inl w), some (.inr (.inr (.inl none))), some (.inl (1))]) (st' := [.inl (-2)]) (h' := h) rfl ?_
          refine av_wp_ret (v := some (.inl (-2))) rfl rfl rfl ?_
          exact hq _ h I F
  · have g8 := co_s12 o5
    have g9 := co_cbr o5
    show av_wp _ cd_101 8 [some (.inr (.inr (.inl (some (0))))), some (.inl n), some (.inl k), some (.inl w), none, none] [.inr (.inr (.inl (some (t1))))] h _
    refine av_wp_seq 2 (pc' := 11) (lv' := [some (.inr (.inr (.inl (some (0))))), some (.inl n), some (.inl k), some (.inl w), some (.inr (.inr (.inl (some (t1))))), none]) (st' := [.inl w]) (h' := h) rfl ?_
    refine wq_k1 (p' := 14) rfl rfl ⟨by omega, by omega⟩ (fun c22 => ?_) (fun c23 => ?_)
    · have c22 : w < (0) := c22
      refine av_wp_seq 1 (pc' := 21) (lv' := [some (.inr (.inr (.inl (some (0))))), some (.inl n), some (.inl k), some (.inl w), some (.inr (.inr (.inl (some (t1))))), none]) (st' := [.inl w]) (h' := h) rfl ?_
      refine wq_cs (p' := 24) (av_qc (.invokestatic 133) 102 1 2 7) 1 cd_102 [.inl w] [.inl w] [some (.inl w)] rfl rfl rfl pp_102 (fun _ => rfl) rfl rfl ?_
      refine ct_102 (w) (by omega) (fun v24 p25 => ?_)
      show av_wp _ cd_101 24 [some (.inr (.inr (.inl (some (0))))), some (.inl n), some (.inl k), some (.inl w), some (.inr (.inr (.inl (some (t1))))), none] [.inl v24] h _
      refine wq_k1 (p' := 27) rfl rfl ⟨by omega, by omega⟩ (fun c26 => ?_) (fun c27 => ?_)
      · have c26 : v24 = (0) := c26
        refine av_wp_seq 6 (pc' := 42) (lv' := [some (.inr (.inr (.inl (some (0))))), some (.inl n), some (.inl k), some (.inl w), some (.inr (.inr (.inl (some (t1))))), some (.inl (0))]) (st' := [.inl k, .inr (.inr (.inl (some (t1))))]) (h' := h) rfl ?_
        refine wq_cv (p' := 45) (av_qc (.invokevirtual 136) 28 1 0 1) 2 cd_28 [.inl k] (t1) 1 [some (.inr (.inr (.inl (some (t1))))), some (.inl k)] rfl rfl rfl pp_28 rfl rfl rfl (congrArg Prod.fst (co_kt o5)) rfl rfl rfl rfl ?_
        refine ct_28 o5 (k) (by omega) (fun v28 p29 => ?_)
        show av_wp _ cd_101 45 [some (.inr (.inr (.inl (some (0))))), some (.inl n), some (.inl k), some (.inl w), some (.inr (.inr (.inl (some (t1))))), some (.inl (0))] [.inl v28] h _
        refine wq_k1 (p' := 48) rfl rfl ⟨by omega, by omega⟩ (fun c30 => ?_) (fun c31 => ?_)
        · have c30 : v28 = (0) := c30
          refine av_wp_seq 1 (pc' := 55) (lv' := [some (.inr (.inr (.inl (some (0))))), some (.inl n), some (.inl k), some (.inl w), some (.inr (.inr (.inl (some (t1))))), some (.inl (0))]) (st' := [.inl (-2)]) (h' := h) rfl ?_
          refine av_wp_ret (v := some (.inl (-2))) rfl rfl rfl ?_
          exact hq _ h I F
        · have c31 : v28 ≠ (0) := c31
          refine av_wp_seq 3 (pc' := 55) (lv' := [some (.inr (.inr (.inl (some (0))))), some (.inl n), some (.inl k), some (.inl w), some (.inr (.inr (.inl (some (t1))))), some (.inl (0))]) (st' := [.inl (-2)]) (h' := h) rfl ?_
          refine av_wp_ret (v := some (.inl (-2))) rfl rfl rfl ?_
          exact hq _ h I F
      · have c27 : v24 ≠ (0) := c27
        refine av_wp_seq 7 (pc' := 42) (lv' := [some (.inr (.inr (.inl (some (0))))), some (.inl n), some (.inl k), some (.inl w), some (.inr (.inr (.inl (some (t1))))), some (.inl (1))]) (st' := [.inl k, .inr (.inr (.inl (some (t1))))]) (h' := h) rfl ?_
        refine wq_cv (p' := 45) (av_qc (.invokevirtual 136) 28 1 0 1) 2 cd_28 [.inl k] (t1) 1 [some (.inr (.inr (.inl (some (t1))))), some (.inl k)] rfl rfl rfl pp_28 rfl rfl rfl (congrArg Prod.fst (co_kt o5)) rfl rfl rfl rfl ?_
        refine ct_28 o5 (k) (by omega) (fun v32 p33 => ?_)
        show av_wp _ cd_101 45 [some (.inr (.inr (.inl (some (0))))), some (.inl n), some (.inl k), some (.inl w), some (.inr (.inr (.inl (some (t1))))), some (.inl (1))] [.inl v32] h _
        refine wq_k1 (p' := 48) rfl rfl ⟨by omega, by omega⟩ (fun c34 => ?_) (fun c35 => ?_)
        · have c34 : v32 = (0) := c34
          refine av_wp_seq 1 (pc' := 55) (lv' := [some (.inr (.inr (.inl (some (0))))), some (.inl n), some (.inl k), some (.inl w), some (.inr (.inr (.inl (some (t1))))), some (.inl (1))]) (st' := [.inl (-2)]) (h' := h) rfl ?_
          refine av_wp_ret (v := some (.inl (-2))) rfl rfl rfl ?_
          exact hq _ h I F
        · have c35 : v32 ≠ (0) := c35
          refine av_wp_seq 5 (pc' := 60) (lv' := [some (.inr (.inr (.inl (some (0))))), some (.inl n), some (.inl k), some (.inl w), some (.inr (.inr (.inl (some (t1))))), some (.inl (1))]) (st' := [.inl w, .inl k, .inr (.inr (.inl (some (t1))))]) (h' := h) rfl ?_
          refine wq_cv (p' := 63) (av_qc (.invokevirtual 139) 29 2 0 1) 3 cd_29 [.inl w, .inl k] (t1) 1 [some (.inr (.inr (.inl (some (t1))))), some (.inl k), some (.inl w)] rfl rfl rfl pp_29 rfl rfl rfl (congrArg Prod.fst (co_kt o5)) rfl rfl rfl rfl ?_
          refine ct_29 o5 (k) (w) (by omega) (by omega) (fun v36 p37 => ?_)
          show av_wp _ cd_101 63 [some (.inr (.inr (.inl (some (0))))), some (.inl n), some (.inl k), some (.inl w), some (.inr (.inr (.inl (some (t1))))), some (.inl (1))] [.inl v36] h _
          refine av_wp_ret (v := some (.inl v36)) rfl rfl rfl ?_
          exact hq _ h I F
    · have c23 : (0) ≤ w := c23
      refine av_wp_seq 2 (pc' := 17) (lv' := [some (.inr (.inr (.inl (some (0))))), some (.inl n), some (.inl k), some (.inl w), some (.inr (.inr (.inl (some (t1))))), none]) (st' := [.inl (6), .inl w]) (h' := h) rfl ?_
      refine wq_k2 (p' := 20) rfl rfl ⟨by omega, by omega⟩ ⟨by omega, by omega⟩ (fun c38 => ?_) (fun c39 => ?_)
      · have c38 : w ≤ (6) := c38
        refine av_wp_seq 7 (pc' := 42) (lv' := [some (.inr (.inr (.inl (some (0))))), some (.inl n), some (.inl k), some (.inl w), some (.inr (.inr (.inl (some (t1))))), some (.inl (1))]) (st' := [.inl k, .inr (.inr (.inl (some (t1))))]) (h' := h) rfl ?_
        refine wq_cv (p' := 45) (av_qc (.invokevirtual 136) 28 1 0 1) 2 cd_28 [.inl k] (t1) 1 [some (.inr (.inr (.inl (some (t1))))), some (.inl k)] rfl rfl rfl pp_28 rfl rfl rfl (congrArg Prod.fst (co_kt o5)) rfl rfl rfl rfl ?_
        refine ct_28 o5 (k) (by omega) (fun v40 p41 => ?_)
        show av_wp _ cd_101 45 [some (.inr (.inr (.inl (some (0))))), some (.inl n), some (.inl k), some (.inl w), some (.inr (.inr (.inl (some (t1))))), some (.inl (1))] [.inl v40] h _
        refine wq_k1 (p' := 48) rfl rfl ⟨by omega, by omega⟩ (fun c42 => ?_) (fun c43 => ?_)
        · have c42 : v40 = (0) := c42
          refine av_wp_seq 1 (pc' := 55) (lv' := [some (.inr (.inr (.inl (some (0))))), some (.inl n), some (.inl k), some (.inl w), some (.inr (.inr (.inl (some (t1))))), some (.inl (1))]) (st' := [.inl (-2)]) (h' := h) rfl ?_
          refine av_wp_ret (v := some (.inl (-2))) rfl rfl rfl ?_
          exact hq _ h I F
        · have c43 : v40 ≠ (0) := c43
          refine av_wp_seq 5 (pc' := 60) (lv' := [some (.inr (.inr (.inl (some (0))))), some (.inl n), some (.inl k), some (.inl w), some (.inr (.inr (.inl (some (t1))))), some (.inl (1))]) (st' := [.inl w, .inl k, .inr (.inr (.inl (some (t1))))]) (h' := h) rfl ?_
          refine wq_cv (p' := 63) (av_qc (.invokevirtual 139) 29 2 0 1) 3 cd_29 [.inl w, .inl k] (t1) 1 [some (.inr (.inr (.inl (some (t1))))), some (.inl k), some (.inl w)] rfl rfl rfl pp_29 rfl rfl rfl (congrArg Prod.fst (co_kt o5)) rfl rfl rfl rfl ?_
          refine ct_29 o5 (k) (w) (by omega) (by omega) (fun v44 p45 => ?_)
          show av_wp _ cd_101 63 [some (.inr (.inr (.inl (some (0))))), some (.inl n), some (.inl k), some (.inl w), some (.inr (.inr (.inl (some (t1))))), some (.inl (1))] [.inl v44] h _
          refine av_wp_ret (v := some (.inl v44)) rfl rfl rfl ?_
          exact hq _ h I F
      · have c39 : (6) < w := c39
        refine av_wp_seq 1 (pc' := 21) (lv' := [some (.inr (.inr (.inl (some (0))))), some (.inl n), some (.inl k), some (.inl w), some (.inr (.inr (.inl (some (t1))))), none]) (st' := [.inl w]) (h' := h) rfl ?_
        refine wq_cs (p' := 24) (av_qc (.invokestatic 133) 102 1 2 7) 1 cd_102 [.inl w] [.inl w] [some (.inl w)] rfl rfl rfl pp_102 (fun _ => rfl) rfl rfl ?_
        refine ct_102 (w) (by omega) (fun v46 p47 => ?_)
        show av_wp _ cd_101 24 [some (.inr (.inr (.inl (some (0))))), some (.inl n), some (.inl k), some (.inl w), some (.inr (.inr (.inl (some (t1))))), none] [.inl v46] h _
        refine wq_k1 (p' := 27) rfl rfl ⟨by omega, by omega⟩ (fun c48 => ?_) (fun c49 => ?_)
        · have c48 : v46 = (0) := c48
          refine av_wp_seq 6 (pc' := 42) (lv' := [some (.inr (.inr (.inl (some (0))))), some (.inl n), some (.inl k), some (.inl w), some (.inr (.inr (.inl (some (t1))))), some (.inl (0))]) (st' := [.inl k, .inr (.inr (.inl (some (t1))))]) (h' := h) rfl ?_
          refine wq_cv (p' := 45) (av_qc (.invokevirtual 136) 28 1 0 1) 2 cd_28 [.inl k] (t1) 1 [some (.inr (.inr (.inl (some (t1))))), some (.inl k)] rfl rfl rfl pp_28 rfl rfl rfl (congrArg Prod.fst (co_kt o5)) rfl rfl rfl rfl ?_
          refine ct_28 o5 (k) (by omega) (fun v50 p51 => ?_)
          show av_wp _ cd_101 45 [some (.inr (.inr (.inl (some (0))))), some (.inl n), some (.inl k), some (.inl w), some (.inr (.inr (.inl (some (t1))))), some (.inl (0))] [.inl v50] h _
          refine wq_k1 (p' := 48) rfl rfl ⟨by omega, by omega⟩ (fun c52 => ?_) (fun c53 => ?_)
          · have c52 : v50 = (0) := c52
            refine av_wp_seq 1 (pc' := 55) (lv' := [some (.inr (.inr (.inl (some (0))))), some (.inl n), some (.inl k), some (.inl w), some (.inr (.inr (.inl (some (t1))))), some (.inl (0))]) (st' := [.inl (-2)]) (h' := h) rfl ?_
            refine av_wp_ret (v := some (.inl (-2))) rfl rfl rfl ?_
            exact hq _ h I F
          · have c53 : v50 ≠ (0) := c53
            refine av_wp_seq 3 (pc' := 55) (lv' := [some (.inr (.inr (.inl (some (0))))), some (.inl n), some (.inl k), some (.inl w), some (.inr (.inr (.inl (some (t1))))), some (.inl (0))]) (st' := [.inl (-2)]) (h' := h) rfl ?_
            refine av_wp_ret (v := some (.inl (-2))) rfl rfl rfl ?_
            exact hq _ h I F
        · have c49 : v46 ≠ (0) := c49
          refine av_wp_seq 7 (pc' := 42) (lv' := [some (.inr (.inr (.inl (some (0))))), some (.inl n), some (.inl k), some (.inl w), some (.inr (.inr (.inl (some (t1))))), some (.inl (1))]) (st' := [.inl k, .inr (.inr (.inl (some (t1))))]) (h' := h) rfl ?_
          refine wq_cv (p' := 45) (av_qc (.invokevirtual 136) 28 1 0 1) 2 cd_28 [.inl k] (t1) 1 [some (.inr (.inr (.inl (some (t1))))), some (.inl k)] rfl rfl rfl pp_28 rfl rfl rfl (congrArg Prod.fst (co_kt o5)) rfl rfl rfl rfl ?_
          refine ct_28 o5 (k) (by omega) (fun v54 p55 => ?_)
          show av_wp _ cd_101 45 [some (.inr (.inr (.inl (some (0))))), some (.inl n), some (.inl k), some (.inl w), some (.inr (.inr (.inl (some (t1))))), some (.inl (1))] [.inl v54] h _
          refine wq_k1 (p' := 48) rfl rfl ⟨by omega, by omega⟩ (fun c56 => ?_) (fun c57 => ?_)
          · have c56 : v54 = (0) := c56
            refine av_wp_seq 1 (pc' := 55) (lv' := [some (.inr (.inr (.inl (some (0))))), some (.inl n), some (.inl k), some (.inl w), some (.inr (.inr (.inl (some (t1))))), some (.inl (1))]) (st' := [.inl (-2)]) (h' := h) rfl ?_
            refine av_wp_ret (v := some (.inl (-2))) rfl rfl rfl ?_
            exact hq _ h I F
          · have c57 : v54 ≠ (0) := c57
            refine av_wp_seq 5 (pc' := 60) (lv' := [some (.inr (.inr (.inl (some (0))))), some (.inl n), some (.inl k), some (.inl w), some (.inr (.inr (.inl (some (t1))))), some (.inl (1))]) (st' := [.inl w, .inl k, .inr (.inr (.inl (some (t1))))]) (h' := h) rfl ?_
            refine wq_cv (p' := 63) (av_qc (.invokevirtual 139) 29 2 0 1) 3 cd_29 [.inl w, .inl k] (t1) 1 [some (.inr (.inr (.inl (some (t1))))), some (.inl k), some (.inl w)] rfl rfl rfl pp_29 rfl rfl rfl (congrArg Prod.fst (co_kt o5)) rfl rfl rfl rfl ?_
            refine ct_29 o5 (k) (w) (by omega) (by omega) (fun v58 p59 => ?_)
            show av_wp _ cd_101 63 [some (.inr (.inr (.inl (some (0))))), some (.inl n), some (.inl k), some (.inl w), some (.inr (.inr (.inl (some (t1))))), some (.inl (1))] [.inl v58] h _
            refine av_wp_ret (v := some (.inl v58)) rfl rfl rfl ?_
            exact hq _ h I F

set_option maxRecDepth 100000 in
set_option maxHeartbeats 4000000 in
theorem ct_103 {h : av_H} (I : IC h) (n : Int) (qn : -2147483648 ≤ n ∧ n ≤ 2147483647) (w : Int) (qw : -2147483648 ≤ w ∧ w ≤ 2147483647) {Q : Option av_V → av_H → Prop} (hq : ∀ (v : Int) h', IC h' → Fr h h' → Q (some (.inl v)) h') : av_wp none cd_103 0 [some (.inr (.inr (.inl (some (0))))), some (.inl n), some (.inl w), none] [] h Q := by
  have F := Fr_rf h
  refine av_wp_seq 1 (pc' := 1) (lv' := [some (.inr (.inr (.inl (some (0))))), some (.inl n), some (.inl w), none]) (st' := [.inr (.inr (.inl (some (0))))]) (h' := h) rfl ?_
  refine wq_gr (p' := 4) rfl rfl (congrArg Prod.fst (ly_k I.1 0 rfl)) rfl (ly_g I.1 0 1 3 rfl) ?_
  refine av_wp_seq 1 (pc' := 5) (lv' := [some (.inr (.inr (.inl (some (0))))), some (.inl n), some (.inl w), none]) (st' := [.inl n, .inr (.inr (.inl (some (3))))]) (h' := h) rfl ?_
  refine wq_cv (p' := 8) (av_qc (.invokevirtual 96) 69 1 0 5) 2 cd_69 [.inl n] (3) 5 [some (.inr (.inr (.inl (some (3))))), some (.inl n)] rfl rfl rfl pp_69 rfl rfl rfl (congrArg Prod.fst (ly_k I.1 3 rfl)) rfl rfl rfl rfl ?_
  refine ct_69 I (n) (by omega) ?_ (fun t1 c2 s3 d4 o5 z6 z7 => ?_)
  · show av_wp _ cd_103 8 [some (.inr (.inr (.inl (some (0))))), some (.inl n), some (.inl w), none] [.inr (.inr (.inl none))] h _
    refine av_wp_seq 4 (pc' := 15) (lv' := [some (.inr (.inr (.inl (some (0))))), some (.inl n), some (.inl w), some (.inr (.inr (.inl none)))]) (st' := [.inl (-2)]) (h' := h) rfl ?_
    refine av_wp_ret (v := some (.inl (-2))) rfl rfl rfl ?_
    exact hq _ h I F
  · have g8 := co_s12 o5
    have g9 := co_cbr o5
    show av_wp _ cd_103 8 [some (.inr (.inr (.inl (some (0))))), some (.inl n), some (.inl w), none] [.inr (.inr (.inl (some (t1))))] h _
    refine av_wp_seq 4 (pc' := 17) (lv' := [some (.inr (.inr (.inl (some (0))))), some (.inl n), some (.inl w), some (.inr (.inr (.inl (some (t1)))))]) (st' := [.inl w]) (h' := h) rfl ?_
    rcases (show w = 0 ∨ w = 1 ∨ w = 2 ∨ (w < 0 ∨ 2 < w) by omega) with e10 | e10 | e10 | e10
    · refine wq_tc (t := 44) rfl e10 rfl ?_
      refine av_wp_seq 1 (pc' := 45) (lv' := [some (.inr (.inr (.inl (some (0))))), some (.inl n), some (.inl w), some (.inr (.inr (.inl (some (t1)))))]) (st' := [.inr (.inr (.inl (some (t1))))]) (h' := h) rfl ?_
      refine wq_gi (p' := 48) rfl rfl (congrArg Prod.fst (co_kt o5)) rfl (co_s o5) ?_
      refine av_wp_ret (v := some (.inl (s3 : Int))) rfl rfl rfl ?_
      exact hq _ h I F
    · refine wq_tc (t := 49) rfl e10 rfl ?_
      refine av_wp_seq 1 (pc' := 50) (lv' := [some (.inr (.inr (.inl (some (0))))), some (.inl n), some (.inl w), some (.inr (.inr (.inl (some (t1)))))]) (st' := [.inr (.inr (.inl (some (t1))))]) (h' := h) rfl ?_
      obtain ⟨v11, e12⟩ : ∃ v, hF h t1 2 = v := ⟨_, rfl⟩
      refine wq_gi (p' := 53) rfl rfl (congrArg Prod.fst (co_kt o5)) rfl (e12) ?_
      refine av_wp_ret (v := some (.inl v11)) rfl rfl rfl ?_
      exact hq _ h I F
    · refine wq_tc (t := 54) rfl e10 rfl ?_
      refine av_wp_seq 1 (pc' := 55) (lv' := [some (.inr (.inr (.inl (some (0))))), some (.inl n), some (.inl w), some (.inr (.inr (.inl (some (t1)))))]) (st' := [.inr (.inr (.inl (some (t1))))]) (h' := h) rfl ?_
      refine wq_gi (p' := 58) rfl rfl (congrArg Prod.fst (co_kt o5)) rfl (co_cb o5) ?_
      refine av_wp_ret (v := some (.inl d4)) rfl rfl rfl ?_
      exact hq _ h I F
    · refine wq_td (t := 59) rfl ⟨by omega, by omega⟩ e10 rfl ?_
      refine av_wp_seq 1 (pc' := 61) (lv' := [some (.inr (.inr (.inl (some (0))))), some (.inl n), some (.inl w), some (.inr (.inr (.inl (some (t1)))))]) (st' := [.inl (-2)]) (h' := h) rfl ?_
      refine av_wp_ret (v := some (.inl (-2))) rfl rfl rfl ?_
      exact hq _ h I F

set_option maxRecDepth 100000 in
set_option maxHeartbeats 4000000 in
theorem ct_105 {h : av_H} (I : IC h) (l : Int) (ql : -2147483648 ≤ l ∧ l ≤ 2147483647) (w : Int) (qw : -2147483648 ≤ w ∧ w ≤ 2147483647) {Q : Option av_V → av_H → Prop} (hq : ∀ (v : Int) h', IC h' → Fr h h' → Q (some (.inl v)) h') : av_wp none cd_105 0 [some (.inr (.inr (.inl (some (0))))), some (.inl l), some (.inl w)] [] h Q := by
  have F := Fr_rf h
  refine av_wp_seq 1 (pc' := 1) (lv' := [some (.inr (.inr (.inl (some (0))))), some (.inl l), some (.inl w)]) (st' := [.inr (.inr (.inl (some (0))))]) (h' := h) rfl ?_
  refine wq_gr (p' := 4) rfl rfl (congrArg Prod.fst (ly_k I.1 0 rfl)) rfl (ly_g I.1 0 1 3 rfl) ?_
  refine av_wp_seq 1 (pc' := 5) (lv' := [some (.inr (.inr (.inl (some (0))))), some (.inl l), some (.inl w)]) (st' := [.inl l, .inr (.inr (.inl (some (3))))]) (h' := h) rfl ?_
  refine wq_cv (p' := 8) (av_qc (.invokevirtual 153) 70 1 0 5) 2 cd_70 [.inl l] (3) 5 [some (.inr (.inr (.inl (some (3))))), some (.inl l)] rfl rfl rfl pp_70 rfl rfl rfl (congrArg Prod.fst (ly_k I.1 3 rfl)) rfl rfl rfl rfl ?_
  refine ct_70 I (l) (by omega) (fun v1 p2 => ?_)
  show av_wp _ cd_105 8 [some (.inr (.inr (.inl (some (0))))), some (.inl l), some (.inl w)] [.inl v1] h _
  refine wq_k1 (p' := 11) rfl rfl ⟨by omega, by omega⟩ (fun c3 => ?_) (fun c4 => ?_)
  · have c3 : v1 = (0) := c3
    refine av_wp_seq 1 (pc' := 23) (lv' := [some (.inr (.inr (.inl (some (0))))), some (.inl l), some (.inl w)]) (st' := [.inl (-2)]) (h' := h) rfl ?_
    refine av_wp_ret (v := some (.inl (-2))) rfl rfl rfl ?_
    exact hq _ h I F
  · have c4 : v1 ≠ (0) := c4
    refine av_wp_seq 1 (pc' := 12) (lv' := [some (.inr (.inr (.inl (some (0))))), some (.inl l), some (.inl w)]) (st' := [.inl w]) (h' := h) rfl ?_
    refine wq_k1 (p' := 15) rfl rfl ⟨by omega, by omega⟩ (fun c5 => ?_) (fun c6 => ?_)
    · have c5 : w < (0) := c5
      refine av_wp_seq 1 (pc' := 23) (lv' := [some (.inr (.inr (.inl (some (0))))), some (.inl l), some (.inl w)]) (st' := [.inl (-2)]) (h' := h) rfl ?_
      refine av_wp_ret (v := some (.inl (-2))) rfl rfl rfl ?_
      exact hq _ h I F
    · have c6 : (0) ≤ w := c6
      refine av_wp_seq 2 (pc' := 18) (lv' := [some (.inr (.inr (.inl (some (0))))), some (.inl l), some (.inl w)]) (st' := [.inl (14), .inl w]) (h' := h) rfl ?_
      refine wq_k2 (p' := 21) rfl rfl ⟨by omega, by omega⟩ ⟨by omega, by omega⟩ (fun c7 => ?_) (fun c8 => ?_)
      · have c7 : w < (14) := c7
        refine av_wp_seq 1 (pc' := 25) (lv' := [some (.inr (.inr (.inl (some (0))))), some (.inl l), some (.inl w)]) (st' := [.inr (.inr (.inl (some (0))))]) (h' := h) rfl ?_
        refine wq_gr (p' := 28) rfl rfl (congrArg Prod.fst (ly_k I.1 0 rfl)) rfl (ly_g I.1 0 1 3 rfl) ?_
        refine wq_gr (p' := 31) rfl rfl (congrArg Prod.fst (ly_k I.1 3 rfl)) rfl (ly_g I.1 3 1 5 rfl) ?_
        refine av_wp_seq 1 (pc' := 32) (lv' := [some (.inr (.inr (.inl (some (0))))), some (.inl l), some (.inl w)]) (st' := [.inl l, .inr (.inr (.inl (some (5))))]) (h' := h) rfl ?_
        have u9 : (Int.toNat (l)) < 8 := by omega
        refine wq_ar (p' := 33) (n := 8) (k := 32) rfl rfl (ly_k I.1 5 rfl) (by omega) (by omega) (I.1.2.2.1 _ u9) ?_
        refine av_wp_seq 1 (pc' := 34) (lv' := [some (.inr (.inr (.inl (some (0))))), some (.inl l), some (.inl w)]) (st' := [.inl w, .inr (.inr (.inl (some (6 + (Int.toNat (l))))))]) (h' := h) rfl ?_
        obtain ⟨v10, e11⟩ : ∃ v, hA h (6 + (Int.toNat (l))) (Int.toNat (w)) = v := ⟨_, rfl⟩
        have g12 := I.2.1 _ (rwc_l u9) (Int.toNat (w))
        rw [e11] at g12
        refine wq_al (p' := 35) (n := 14) rfl rfl (ly_l I.1 u9) (by omega) (e11) ?_
        refine av_wp_ret (v := some (.inl v10)) rfl rfl rfl ?_
        exact hq _ h I F
      · have c8 : (14) ≤ w := c8
        refine av_wp_seq 1 (pc' := 23) (lv' := [some (.inr (.inr (.inl (some (0))))), some (.inl l), some (.inl w)]) (st' := [.inl (-2)]) (h' := h) rfl ?_
        refine av_wp_ret (v := some (.inl (-2))) rfl rfl rfl ?_
        exact hq _ h I F

set_option maxRecDepth 100000 in
set_option maxHeartbeats 4000000 in
theorem ct_125 {h : av_H} (I : IC h) (w : Int) (qw : -2147483648 ≤ w ∧ w ≤ 2147483647) {Q : Option av_V → av_H → Prop} (hq : ∀ (v : Int) h', IC h' → Fr h h' → Q (some (.inl v)) h') : av_wp none cd_125 0 [some (.inr (.inr (.inl (some (0))))), some (.inl w)] [] h Q := by
  have F := Fr_rf h
  refine av_wp_seq 1 (pc' := 1) (lv' := [some (.inr (.inr (.inl (some (0))))), some (.inl w)]) (st' := [.inl w]) (h' := h) rfl ?_
  rcases (show w = 0 ∨ w = 1 ∨ w = 2 ∨ w = 3 ∨ w = 4 ∨ w = 5 ∨ (w < 0 ∨ 5 < w) by omega) with e1 | e1 | e1 | e1 | e1 | e1 | e1
  · refine wq_tc (t := 40) rfl e1 rfl ?_
    refine av_wp_seq 1 (pc' := 41) (lv' := [some (.inr (.inr (.inl (some (0))))), some (.inl w)]) (st' := [.inr (.inr (.inl (some (0))))]) (h' := h) rfl ?_
    refine wq_gr (p' := 44) rfl rfl (congrArg Prod.fst (ly_k I.1 0 rfl)) rfl (ly_g I.1 0 1 3 rfl) ?_
    obtain ⟨v2, e3⟩ : ∃ v, hF h 3 3 = v := ⟨_, rfl⟩
    have g4 := ic_cc I
    rw [e3] at g4
    refine wq_gi (p' := 47) rfl rfl (congrArg Prod.fst (ly_k I.1 3 rfl)) rfl (e3) ?_
    refine av_wp_ret (v := some (.inl v2)) rfl rfl rfl ?_
    exact hq _ h I F
  · refine wq_tc (t := 48) rfl e1 rfl ?_
    refine av_wp_seq 1 (pc' := 49) (lv' := [some (.inr (.inr (.inl (some (0))))), some (.inl w)]) (st' := [.inr (.inr (.inl (some (0))))]) (h' := h) rfl ?_
    refine wq_gr (p' := 52) rfl rfl (congrArg Prod.fst (ly_k I.1 0 rfl)) rfl (ly_g I.1 0 1 3 rfl) ?_
    obtain ⟨v5, e6⟩ : ∃ v, hF h 3 4 = v := ⟨_, rfl⟩
    have g7 := ic_lc I
    rw [e6] at g7
    refine wq_gi (p' := 55) rfl rfl (congrArg Prod.fst (ly_k I.1 3 rfl)) rfl (e6) ?_
    refine av_wp_ret (v := some (.inl v5)) rfl rfl rfl ?_
    exact hq _ h I F
  · refine wq_tc (t := 56) rfl e1 rfl ?_
    refine av_wp_seq 1 (pc' := 57) (lv' := [some (.inr (.inr (.inl (some (0))))), some (.inl w)]) (st' := [.inr (.inr (.inl (some (0))))]) (h' := h) rfl ?_
    refine wq_gr (p' := 60) rfl rfl (congrArg Prod.fst (ly_k I.1 0 rfl)) rfl (ly_g I.1 0 1 3 rfl) ?_
    obtain ⟨v8, e9⟩ : ∃ v, hF h 3 5 = v := ⟨_, rfl⟩
    have g10 := ic_kc I
    rw [e9] at g10
    refine wq_gi (p' := 63) rfl rfl (congrArg Prod.fst (ly_k I.1 3 rfl)) rfl (e9) ?_
    refine av_wp_ret (v := some (.inl v8)) rfl rfl rfl ?_
    exact hq _ h I F
  · refine wq_tc (t := 64) rfl e1 rfl ?_
    refine av_wp_seq 1 (pc' := 65) (lv' := [some (.inr (.inr (.inl (some (0))))), some (.inl w)]) (st' := [.inr (.inr (.inl (some (0))))]) (h' := h) rfl ?_
    refine wq_gr (p' := 68) rfl rfl (congrArg Prod.fst (ly_k I.1 0 rfl)) rfl (ly_g I.1 0 0 1 rfl) ?_
    obtain ⟨v11, e12⟩ : ∃ v, hF h 1 1 = v := ⟨_, rfl⟩
    refine wq_gi (p' := 71) rfl rfl (congrArg Prod.fst (ly_k I.1 1 rfl)) rfl (e12) ?_
    refine av_wp_ret (v := some (.inl v11)) rfl rfl rfl ?_
    exact hq _ h I F
  · refine wq_tc (t := 72) rfl e1 rfl ?_
    refine av_wp_seq 1 (pc' := 73) (lv' := [some (.inr (.inr (.inl (some (0))))), some (.inl w)]) (st' := [.inr (.inr (.inl (some (0))))]) (h' := h) rfl ?_
    refine wq_gr (p' := 76) rfl rfl (congrArg Prod.fst (ly_k I.1 0 rfl)) rfl (ly_g I.1 0 1 3 rfl) ?_
    refine wq_cv (p' := 79) (av_qc (.invokevirtual 269) 76 0 0 5) 4 cd_76 [] (3) 5 [some (.inr (.inr (.inl (some (3))))), none, none, none] rfl rfl rfl pp_76 rfl rfl rfl (congrArg Prod.fst (ly_k I.1 3 rfl)) rfl rfl rfl rfl ?_
    refine ct_76 I (fun v13 => ?_)
    show av_wp _ cd_125 79 [some (.inr (.inr (.inl (some (0))))), some (.inl w)] [.inl v13] h _
    refine av_wp_ret (v := some (.inl v13)) rfl rfl rfl ?_
    exact hq _ h I F
  · refine wq_tc (t := 80) rfl e1 rfl ?_
    refine av_wp_seq 1 (pc' := 81) (lv' := [some (.inr (.inr (.inl (some (0))))), some (.inl w)]) (st' := [.inr (.inr (.inl (some (0))))]) (h' := h) rfl ?_
    obtain ⟨v14, e15⟩ : ∃ v, hF h 0 7 = v := ⟨_, rfl⟩
    refine wq_gi (p' := 84) rfl rfl (congrArg Prod.fst (ly_k I.1 0 rfl)) rfl (e15) ?_
    refine av_wp_ret (v := some (.inl v14)) rfl rfl rfl ?_
    exact hq _ h I F
  · refine wq_td (t := 85) rfl ⟨by omega, by omega⟩ e1 rfl ?_
    refine av_wp_seq 1 (pc' := 86) (lv' := [some (.inr (.inr (.inl (some (0))))), some (.inl w)]) (st' := [.inl (-1)]) (h' := h) rfl ?_
    refine av_wp_ret (v := some (.inl (-1))) rfl rfl rfl ?_
    exact hq _ h I F

set_option maxRecDepth 100000 in
set_option maxHeartbeats 4000000 in
theorem ct_158 {g h : av_H} {n a m : Int} (I : IMF n a m h) (F : FM g h)  {Q : Option av_V → av_H → Prop} (hq : ∀ (v : Int) n' a' m' h', IMF n' a' m' h' → FM g h' → Q (some (.inl v)) h') : av_wp none cd_158 0 [some (.inr (.inr (.inl (some (77)))))] [] h Q := by
  have gn := im_n I.1.1
  rw [I.2.1] at gn
  have ga := im_a I.1.1
  rw [I.2.2.1] at ga
  have gm := im_cm I.1.1
  rw [I.2.2.2] at gm
  refine av_wp_seq 1 (pc' := 1) (lv' := [some (.inr (.inr (.inl (some (77)))))]) (st' := [.inr (.inr (.inl (some (77))))]) (h' := h) rfl ?_
  obtain ⟨v1, e2⟩ : ∃ v, hF h 77 18 = v := ⟨_, rfl⟩
  refine wq_gi (p' := 4) rfl rfl (congrArg Prod.fst (ly_k I.1.1.1 77 rfl)) rfl (e2) ?_
  refine av_wp_ret (v := some (.inl v1)) rfl rfl rfl ?_
  exact hq _ _ _ _ h I F

set_option maxRecDepth 100000 in
set_option maxHeartbeats 4000000 in
theorem ct_160 {g h : av_H} {n a m : Int} (I : IMF n a m h) (F : FM g h) (l : Int) (ql : -2147483648 ≤ l ∧ l ≤ 2147483647) (w : Int) (qw : -2147483648 ≤ w ∧ w ≤ 2147483647) {Q : Option av_V → av_H → Prop} (hq : ∀ (v : Int) n' a' m' h', IMF n' a' m' h' → FM g h' → Q (some (.inl v)) h') : av_wp none cd_160 0 [some (.inr (.inr (.inl (some (77))))), some (.inl l), some (.inl w)] [] h Q := by
  have gn := im_n I.1.1
  rw [I.2.1] at gn
  have ga := im_a I.1.1
  rw [I.2.2.1] at ga
  have gm := im_cm I.1.1
  rw [I.2.2.2] at gm
  refine av_wp_seq 2 (pc' := 2) (lv' := [some (.inr (.inr (.inl (some (77))))), some (.inl l), some (.inl w)]) (st' := [.inl l, .inr (.inr (.inl (some (77))))]) (h' := h) rfl ?_
  refine wq_cv (p' := 5) (av_qc (.invokevirtual 345) 150 1 0 8) 2 cd_150 [.inl l] (77) 8 [some (.inr (.inr (.inl (some (77))))), some (.inl l)] rfl rfl rfl pp_150 rfl rfl rfl (congrArg Prod.fst (ly_k I.1.1.1 77 rfl)) rfl rfl rfl rfl ?_
  refine ct_150 I.1 F (l) (by omega) (fun v1 p2 => ?_)
  show av_wp _ cd_160 5 [some (.inr (.inr (.inl (some (77))))), some (.inl l), some (.inl w)] [.inl v1] h _
  refine wq_k1 (p' := 8) rfl rfl ⟨by omega, by omega⟩ (fun c3 => ?_) (fun c4 => ?_)
  · have c3 : v1 = (0) := c3
    refine av_wp_seq 1 (pc' := 20) (lv' := [some (.inr (.inr (.inl (some (77))))), some (.inl l), some (.inl w)]) (st' := [.inl (-2)]) (h' := h) rfl ?_
    refine av_wp_ret (v := some (.inl (-2))) rfl rfl rfl ?_
    exact hq _ _ _ _ h I F
  · have c4 : v1 ≠ (0) := c4
    refine av_wp_seq 3 (pc' := 12) (lv' := [some (.inr (.inr (.inl (some (77))))), some (.inl l), some (.inl w)]) (st' := [.inl (13), .inl (0), .inl w]) (h' := h) rfl ?_
    refine wq_cs (p' := 15) (av_qc (.invokestatic 176) 127 3 2 8) 3 cd_127 [.inl w, .inl (0), .inl (13)] [.inl (13), .inl (0), .inl w] [some (.inl w), some (.inl (0)), some (.inl (13))] rfl rfl rfl pp_127 (fun _ => rfl) rfl rfl ?_
    refine ct_127 (g := h) (w) (by omega) ((0)) (by omega) ((13)) (by omega) (fun v5 p6 => ?_)
    show av_wp _ cd_160 15 [some (.inr (.inr (.inl (some (77))))), some (.inl l), some (.inl w)] [.inl v5] h _
    refine wq_k1 (p' := 18) rfl rfl ⟨by omega, by omega⟩ (fun c7 => ?_) (fun c8 => ?_)
    · have c7 : v5 ≠ (0) := c7
      refine av_wp_seq 2 (pc' := 24) (lv' := [some (.inr (.inr (.inl (some (77))))), some (.inl l), some (.inl w)]) (st' := [.inl (13), .inl w]) (h' := h) rfl ?_
      refine wq_k2 (p' := 27) rfl rfl ⟨by omega, by omega⟩ ⟨by omega, by omega⟩ (fun c9 => ?_) (fun c10 => ?_)
      · have c9 : w ≠ (13) := c9
        refine av_wp_seq 3 (pc' := 43) (lv' := [some (.inr (.inr (.inl (some (77))))), some (.inl l), some (.inl w)]) (st' := [.inl (0), .inl l, .inr (.inr (.inl (some (77))))]) (h' := h) rfl ?_
        refine wq_cv (p' := 46) (av_qc (.invokevirtual 348) 159 2 0 8) 5 cd_159 [.inl (0), .inl l] (77) 8 [some (.inr (.inr (.inl (some (77))))), some (.inl l), some (.inl (0)), none, none] rfl rfl rfl pp_159 rfl rfl rfl (congrArg Prod.fst (ly_k I.1.1.1 77 rfl)) rfl rfl rfl rfl ?_
        refine ct_159 I F (l) (by omega) ((0)) (fun h13 I14 F15 => ?_)
        show av_wp _ cd_160 46 [some (.inr (.inr (.inl (some (77))))), some (.inl l), some (.inl w)] [] h13 _
        refine av_wp_seq 1 (pc' := 47) (lv' := [some (.inr (.inr (.inl (some (77))))), some (.inl l), some (.inl w)]) (st' := [.inr (.inr (.inl (some (77))))]) (h' := h13) rfl ?_
        refine wq_gr (p' := 50) rfl rfl (congrArg Prod.fst (ly_k I14.1.1.1 77 rfl)) rfl (ly_g I14.1.1.1 77 26 95 rfl) ?_
        refine av_wp_seq 1 (pc' := 51) (lv' := [some (.inr (.inr (.inl (some (77))))), some (.inl l), some (.inl w)]) (st' := [.inl w, .inr (.inr (.inl (some (95))))]) (h' := h13) rfl ?_
        obtain ⟨v16, e17⟩ : ∃ v, hA h13 95 (Int.toNat (w)) = v := ⟨_, rfl⟩
        refine wq_al (p' := 52) (n := 13) rfl rfl (ly_k I14.1.1.1 95 rfl) (by omega) (e17) ?_
        refine av_wp_ret (v := some (.inl v16)) rfl rfl rfl ?_
        exact hq _ _ _ _ h13 I14 F15
      · have c10 : w = (13) := c10
        refine av_wp_seq 1 (pc' := 28) (lv' := [some (.inr (.inr (.inl (some (77))))), some (.inl l), some (.inl w)]) (st' := [.inr (.inr (.inl (some (77))))]) (h' := h) rfl ?_
        refine wq_gr (p' := 31) rfl rfl (congrArg Prod.fst (ly_k I.1.1.1 77 rfl)) rfl (ly_g I.1.1.1 77 15 93 rfl) ?_
        refine av_wp_seq 5 (pc' := 38) (lv' := [some (.inr (.inr (.inl (some (77))))), some (.inl l), some (.inl w)]) (st' := [.inl (((14) * l) + (13)), .inr (.inr (.inl (some (93))))]) (h' := h) rfl ?_
        obtain ⟨v19, e20⟩ : ∃ v, hA h 93 (Int.toNat ((((14) * l) + (13)))) = v := ⟨_, rfl⟩
        refine wq_al (p' := 39) (n := 980) rfl rfl (ly_k I.1.1.1 93 rfl) (by omega) (e20) ?_
        refine av_wp_ret (v := some (.inl v19)) rfl rfl rfl ?_
        exact hq _ _ _ _ h I F
    · have c8 : v5 = (0) := c8
      refine av_wp_seq 1 (pc' := 20) (lv' := [some (.inr (.inr (.inl (some (77))))), some (.inl l), some (.inl w)]) (st' := [.inl (-2)]) (h' := h) rfl ?_
      refine av_wp_ret (v := some (.inl (-2))) rfl rfl rfl ?_
      exact hq _ _ _ _ h I F

set_option maxRecDepth 100000 in
set_option maxHeartbeats 4000000 in
theorem ct_161 {g h : av_H} {n a m : Int} (I : IMF n a m h) (F : FM g h) (x : Int) (qx : -2147483648 ≤ x ∧ x ≤ 2147483647) (k : Int) (qk : -2147483648 ≤ k ∧ k ≤ 2147483647) (w : Int) (qw : -2147483648 ≤ w ∧ w ≤ 2147483647) {Q : Option av_V → av_H → Prop} (hq : ∀ (v : Int) n' a' m' h', IMF n' a' m' h' → FM g h' → Q (some (.inl v)) h') : av_wp none cd_161 0 [some (.inr (.inr (.inl (some (77))))), some (.inl x), some (.inl k), some (.inl w), none] [] h Q := by
  have gn := im_n I.1.1
  rw [I.2.1] at gn
  have ga := im_a I.1.1
  rw [I.2.2.1] at ga
  have gm := im_cm I.1.1
  rw [I.2.2.2] at gm
  refine av_wp_seq 2 (pc' := 2) (lv' := [some (.inr (.inr (.inl (some (77))))), some (.inl x), some (.inl k), some (.inl w), none]) (st' := [.inl x, .inr (.inr (.inl (some (77))))]) (h' := h) rfl ?_
  refine wq_cv (p' := 5) (av_qc (.invokevirtual 299) 149 1 0 8) 2 cd_149 [.inl x] (77) 8 [some (.inr (.inr (.inl (some (77))))), some (.inl x)] rfl rfl rfl pp_149 rfl rfl rfl (congrArg Prod.fst (ly_k I.1.1.1 77 rfl)) rfl rfl rfl rfl ?_
  refine ct_149 I.1 F (x) (by omega) (fun v1 p2 => ?_)
  show av_wp _ cd_161 5 [some (.inr (.inr (.inl (some (77))))), some (.inl x), some (.inl k), some (.inl w), none] [.inl v1] h _
  refine wq_k1 (p' := 8) rfl rfl ⟨by omega, by omega⟩ (fun c3 => ?_) (fun c4 => ?_)
  · have c3 : v1 = (0) := c3
    refine av_wp_seq 1 (pc' := 24) (lv' := [some (.inr (.inr (.inl (some (77))))), some (.inl x), some (.inl k), some (.inl w), none]) (st' := [.inl (-2)]) (h' := h) rfl ?_
    refine av_wp_ret (v := some (.inl (-2))) rfl rfl rfl ?_
    exact hq _ _ _ _ h I F
  · have c4 : v1 ≠ (0) := c4
    refine av_wp_seq 1 (pc' := 9) (lv' := [some (.inr (.inr (.inl (some (77))))), some (.inl x), some (.inl k), some (.inl w), none]) (st' := [.inl k]) (h' := h) rfl ?_
    refine wq_k1 (p' := 12) rfl rfl ⟨by omega, by omega⟩ (fun c5 => ?_) (fun c6 => ?_)
    · have c5 : k < (0) := c5
      refine av_wp_seq 1 (pc' := 24) (lv' := [some (.inr (.inr (.inl (some (77))))), some (.inl x), some (.inl k), some (.inl w), none]) (st' := [.inl (-2)]) (h' := h) rfl ?_
      refine av_wp_ret (v := some (.inl (-2))) rfl rfl rfl ?_
      exact hq _ _ _ _ h I F
    · have c6 : (0) ≤ k := c6
      refine av_wp_seq 2 (pc' := 14) (lv' := [some (.inr (.inr (.inl (some (77))))), some (.inl x), some (.inl k), some (.inl w), none]) (st' := [.inr (.inr (.inl (some (77)))), .inl k]) (h' := h) rfl ?_
      refine wq_gr (p' := 17) rfl rfl (congrArg Prod.fst (ly_k I.1.1.1 77 rfl)) rfl (ly_g I.1.1.1 77 3 81 rfl) ?_
      refine av_wp_seq 1 (pc' := 18) (lv' := [some (.inr (.inr (.inl (some (77))))), some (.inl x), some (.inl k), some (.inl w), none]) (st' := [.inl x, .inr (.inr (.inl (some (81)))), .inl k]) (h' := h) rfl ?_
      obtain ⟨v7, e8⟩ : ∃ v, hA h 81 (Int.toNat (x)) = v := ⟨_, rfl⟩
      have g9 := im_many I.1.1 (Int.toNat (x))
      rw [e8] at g9
      refine wq_al (p' := 19) (n := 80) rfl rfl (ly_k I.1.1.1 81 rfl) (by omega) (e8) ?_
      refine wq_k2 (p' := 22) rfl rfl ⟨by omega, by omega⟩ ⟨by omega, by omega⟩ (fun c10 => ?_) (fun c11 => ?_)
      · have c10 : k < v7 := c10
        refine av_wp_seq 9 (pc' := 38) (lv' := [some (.inr (.inr (.inl (some (77))))), some (.inl x), some (.inl k), some (.inl w), some (.inl (((12) * x) + k))]) (st' := [.inl (14), .inl (10), .inl w]) (h' := h) rfl ?_
        refine wq_cs (p' := 41) (av_qc (.invokestatic 176) 127 3 2 8) 3 cd_127 [.inl w, .inl (10), .inl (14)] [.inl (14), .inl (10), .inl w] [some (.inl w), some (.inl (10)), some (.inl (14))] rfl rfl rfl pp_127 (fun _ => rfl) rfl rfl ?_
        refine ct_127 (g := h) (w) (by omega) ((10)) (by omega) ((14)) (by omega) (fun v12 p13 => ?_)
        show av_wp _ cd_161 41 [some (.inr (.inr (.inl (some (77))))), some (.inl x), some (.inl k), some (.inl w), some (.inl (((12) * x) + k))] [.inl v12] h _
        refine wq_k1 (p' := 44) rfl rfl ⟨by omega, by omega⟩ (fun c14 => ?_) (fun c15 => ?_)
        · have c14 : v12 = (0) := c14
          refine av_wp_seq 1 (pc' := 60) (lv' := [some (.inr (.inr (.inl (some (77))))), some (.inl x), some (.inl k), some (.inl w), some (.inl (((12) * x) + k))]) (st' := [.inl w]) (h' := h) rfl ?_
          rcases (show w = 0 ∨ w = 1 ∨ w = 2 ∨ w = 3 ∨ w = 4 ∨ w = 5 ∨ w = 6 ∨ (w < 0 ∨ 6 < w) by omega) with e16 | e16 | e16 | e16 | e16 | e16 | e16 | e16
          · refine wq_tc (t := 104) rfl e16 rfl ?_
            refine av_wp_seq 1 (pc' := 105) (lv' := [some (.inr (.inr (.inl (some (77))))), some (.inl x), some (.inl k), some (.inl w), some (.inl (((12) * x) + k))]) (st' := [.inr (.inr (.inl (some (77))))]) (h' := h) rfl ?_
            refine wq_gr (p' := 108) rfl rfl (congrArg Prod.fst (ly_k I.1.1.1 77 rfl)) rfl (ly_g I.1.1.1 77 4 82 rfl) ?_
            refine av_wp_seq 1 (pc' := 110) (lv' := [some (.inr (.inr (.inl (some (77))))), some (.inl x), some (.inl k), some (.inl w), some (.inl (((12) * x) + k))]) (st' := [.inl (((12) * x) + k), .inr (.inr (.inl (some (82))))]) (h' := h) rfl ?_
            obtain ⟨v17, e18⟩ : ∃ v, hA h 82 (Int.toNat ((((12) * x) + k))) = v := ⟨_, rfl⟩
            have g19 : 0 ≤ hA h 82 (Int.toNat ((((12) * x) + k))) ∧ hA h 82 (Int.toNat ((((12) * x) + k))) ≤ 7 := im_m I.1.1 82 (by decide) (by decide) _
            rw [e18] at g19
            refine wq_al (p' := 111) (n := 960) rfl rfl (ly_k I.1.1.1 82 rfl) (by omega) (e18) ?_
            refine av_wp_ret (v := some (.inl v17)) rfl rfl rfl ?_
            exact hq _ _ _ _ h I F
          · refine wq_tc (t := 112) rfl e16 rfl ?_
            refine av_wp_seq 1 (pc' := 113) (lv' := [some (.inr (.inr (.inl (some (77))))), some (.inl x), some (.inl k), some (.inl w), some (.inl (((12) * x) + k))]) (st' := [.inr (.inr (.inl (some (77))))]) (h' := h) rfl ?_
            refine wq_gr (p' := 116) rfl rfl (congrArg Prod.fst (ly_k I.1.1.1 77 rfl)) rfl (ly_g I.1.1.1 77 5 83 rfl) ?_
            refine av_wp_seq 1 (pc' := 118) (lv' := [some (.inr (.inr (.inl (some (77))))), some (.inl x), some (.inl k), some (.inl w), some (.inl (((12) * x) + k))]) (st' := [.inl (((12) * x) + k), .inr (.inr (.inl (some (83))))]) (h' := h) rfl ?_
            obtain ⟨v20, e21⟩ : ∃ v, hA h 83 (Int.toNat ((((12) * x) + k))) = v := ⟨_, rfl⟩
            have g22 : 0 ≤ hA h 83 (Int.toNat ((((12) * x) + k))) ∧ hA h 83 (Int.toNat ((((12) * x) + k))) ≤ 2 := im_m I.1.1 83 (by decide) (by decide) _
            rw [e21] at g22
            refine wq_al (p' := 119) (n := 960) rfl rfl (ly_k I.1.1.1 83 rfl) (by omega) (e21) ?_
            refine av_wp_ret (v := some (.inl v20)) rfl rfl rfl ?_
            exact hq _ _ _ _ h I F
          · refine wq_tc (t := 120) rfl e16 rfl ?_
            refine av_wp_seq 1 (pc' := 121) (lv' := [some (.inr (.inr (.inl (some (77))))), some (.inl x), some (.inl k), some (.inl w), some (.inl (((12) * x) + k))]) (st' := [.inr (.inr (.inl (some (77))))]) (h' := h) rfl ?_
            refine wq_gr (p' := 124) rfl rfl (congrArg Prod.fst (ly_k I.1.1.1 77 rfl)) rfl (ly_g I.1.1.1 77 6 84 rfl) ?_
            refine av_wp_seq 1 (pc' := 126) (lv' := [some (.inr (.inr (.inl (some (77))))), some (.inl x), some (.inl k), some (.inl w), some (.inl (((12) * x) + k))]) (st' := [.inl (((12) * x) + k), .inr (.inr (.inl (some (84))))]) (h' := h) rfl ?_
            obtain ⟨v23, e24⟩ : ∃ v, hA h 84 (Int.toNat ((((12) * x) + k))) = v := ⟨_, rfl⟩
            have g25 : -1 ≤ hA h 84 (Int.toNat ((((12) * x) + k))) ∧ hA h 84 (Int.toNat ((((12) * x) + k))) ≤ 2 := im_m I.1.1 84 (by decide) (by decide) _
            rw [e24] at g25
            refine wq_al (p' := 127) (n := 960) rfl rfl (ly_k I.1.1.1 84 rfl) (by omega) (e24) ?_
            refine av_wp_ret (v := some (.inl v23)) rfl rfl rfl ?_
            exact hq _ _ _ _ h I F
          · refine wq_tc (t := 128) rfl e16 rfl ?_
            refine av_wp_seq 1 (pc' := 129) (lv' := [some (.inr (.inr (.inl (some (77))))), some (.inl x), some (.inl k), some (.inl w), some (.inl (((12) * x) + k))]) (st' := [.inr (.inr (.inl (some (77))))]) (h' := h) rfl ?_
            refine wq_gr (p' := 132) rfl rfl (congrArg Prod.fst (ly_k I.1.1.1 77 rfl)) rfl (ly_g I.1.1.1 77 7 85 rfl) ?_
            refine av_wp_seq 1 (pc' := 134) (lv' := [some (.inr (.inr (.inl (some (77))))), some (.inl x), some (.inl k), some (.inl w), some (.inl (((12) * x) + k))]) (st' := [.inl (((12) * x) + k), .inr (.inr (.inl (some (85))))]) (h' := h) rfl ?_
            obtain ⟨v26, e27⟩ : ∃ v, hA h 85 (Int.toNat ((((12) * x) + k))) = v := ⟨_, rfl⟩
            have g28 : -1 ≤ hA h 85 (Int.toNat ((((12) * x) + k))) ∧ hA h 85 (Int.toNat ((((12) * x) + k))) ≤ 11 := im_m I.1.1 85 (by decide) (by decide) _
            rw [e27] at g28
            refine wq_al (p' := 135) (n := 960) rfl rfl (ly_k I.1.1.1 85 rfl) (by omega) (e27) ?_
            refine av_wp_ret (v := some (.inl v26)) rfl rfl rfl ?_
            exact hq _ _ _ _ h I F
          · refine wq_tc (t := 136) rfl e16 rfl ?_
            refine av_wp_seq 1 (pc' := 137) (lv' := [some (.inr (.inr (.inl (some (77))))), some (.inl x), some (.inl k), some (.inl w), some (.inl (((12) * x) + k))]) (st' := [.inr (.inr (.inl (some (77))))]) (h' := h) rfl ?_
            refine wq_gr (p' := 140) rfl rfl (congrArg Prod.fst (ly_k I.1.1.1 77 rfl)) rfl (ly_g I.1.1.1 77 8 86 rfl) ?_
            refine av_wp_seq 1 (pc' := 142) (lv' := [some (.inr (.inr (.inl (some (77))))), some (.inl x), some (.inl k), some (.inl w), some (.inl (((12) * x) + k))]) (st' := [.inl (((12) * x) + k), .inr (.inr (.inl (some (86))))]) (h' := h) rfl ?_
            obtain ⟨v29, e30⟩ : ∃ v, hA h 86 (Int.toNat ((((12) * x) + k))) = v := ⟨_, rfl⟩
            have g31 : 0 ≤ hA h 86 (Int.toNat ((((12) * x) + k))) ∧ hA h 86 (Int.toNat ((((12) * x) + k))) ≤ 3 := im_m I.1.1 86 (by decide) (by decide) _
            rw [e30] at g31
            refine wq_al (p' := 143) (n := 960) rfl rfl (ly_k I.1.1.1 86 rfl) (by omega) (e30) ?_
            refine av_wp_ret (v := some (.inl v29)) rfl rfl rfl ?_
            exact hq _ _ _ _ h I F
          · refine wq_tc (t := 144) rfl e16 rfl ?_
            refine av_wp_seq 1 (pc' := 145) (lv' := [some (.inr (.inr (.inl (some (77))))), some (.inl x), some (.inl k), some (.inl w), some (.inl (((12) * x) + k))]) (st' := [.inr (.inr (.inl (some (77))))]) (h' := h) rfl ?_
            refine wq_gr (p' := 148) rfl rfl (congrArg Prod.fst (ly_k I.1.1.1 77 rfl)) rfl (ly_g I.1.1.1 77 9 87 rfl) ?_
            refine av_wp_seq 1 (pc' := 150) (lv' := [some (.inr (.inr (.inl (some (77))))), some (.inl x), some (.inl k), some (.inl w), some (.inl (((12) * x) + k))]) (st' := [.inl (((12) * x) + k), .inr (.inr (.inl (some (87))))]) (h' := h) rfl ?_
            obtain ⟨v32, e33⟩ : ∃ v, hA h 87 (Int.toNat ((((12) * x) + k))) = v := ⟨_, rfl⟩
            have g34 : -1 ≤ hA h 87 (Int.toNat ((((12) * x) + k))) ∧ hA h 87 (Int.toNat ((((12) * x) + k))) ≤ 1999 := im_m I.1.1 87 (by decide) (by decide) _
            rw [e33] at g34
            refine wq_al (p' := 151) (n := 960) rfl rfl (ly_k I.1.1.1 87 rfl) (by omega) (e33) ?_
            refine av_wp_ret (v := some (.inl v32)) rfl rfl rfl ?_
            exact hq _ _ _ _ h I F
          · refine wq_tc (t := 152) rfl e16 rfl ?_
            refine av_wp_seq 1 (pc' := 153) (lv' := [some (.inr (.inr (.inl (some (77))))), some (.inl x), some (.inl k), some (.inl w), some (.inl (((12) * x) + k))]) (st' := [.inr (.inr (.inl (some (77))))]) (h' := h) rfl ?_
            refine wq_gr (p' := 156) rfl rfl (congrArg Prod.fst (ly_k I.1.1.1 77 rfl)) rfl (ly_g I.1.1.1 77 10 88 rfl) ?_
            refine av_wp_seq 1 (pc' := 158) (lv' := [some (.inr (.inr (.inl (some (77))))), some (.inl x), some (.inl k), some (.inl w), some (.inl (((12) * x) + k))]) (st' := [.inl (((12) * x) + k), .inr (.inr (.inl (some (88))))]) (h' := h) rfl ?_
            obtain ⟨v35, e36⟩ : ∃ v, hA h 88 (Int.toNat ((((12) * x) + k))) = v := ⟨_, rfl⟩
            have g37 : -1 ≤ hA h 88 (Int.toNat ((((12) * x) + k))) ∧ hA h 88 (Int.toNat ((((12) * x) + k))) ≤ 15 := im_m I.1.1 88 (by decide) (by decide) _
            rw [e36] at g37
            refine wq_al (p' := 159) (n := 960) rfl rfl (ly_k I.1.1.1 88 rfl) (by omega) (e36) ?_
            refine av_wp_ret (v := some (.inl v35)) rfl rfl rfl ?_
            exact hq _ _ _ _ h I F
          · refine wq_td (t := 160) rfl ⟨by omega, by omega⟩ e16 rfl ?_
            refine av_wp_seq 1 (pc' := 162) (lv' := [some (.inr (.inr (.inl (some (77))))), some (.inl x), some (.inl k), some (.inl w), some (.inl (((12) * x) + k))]) (st' := [.inl (-2)]) (h' := h) rfl ?_
            refine av_wp_ret (v := some (.inl (-2))) rfl rfl rfl ?_
            exact hq _ _ _ _ h I F
        · have c15 : v12 ≠ (0) := c15
          refine av_wp_seq 1 (pc' := 45) (lv' := [some (.inr (.inr (.inl (some (77))))), some (.inl x), some (.inl k), some (.inl w), some (.inl (((12) * x) + k))]) (st' := [.inr (.inr (.inl (some (77))))]) (h' := h) rfl ?_
          refine wq_gr (p' := 48) rfl rfl (congrArg Prod.fst (ly_k I.1.1.1 77 rfl)) rfl (ly_g I.1.1.1 77 12 90 rfl) ?_
          refine av_wp_seq 7 (pc' := 57) (lv' := [some (.inr (.inr (.inl (some (77))))), some (.inl x), some (.inl k), some (.inl w), some (.inl (((12) * x) + k))]) (st' := [.inl ((((5) * (((12) * x) + k)) + w) - (10)), .inr (.inr (.inl (some (90))))]) (h' := h) rfl ?_
          obtain ⟨v38, e39⟩ : ∃ v, hA h 90 (Int.toNat (((((5) * (((12) * x) + k)) + w) - (10)))) = v := ⟨_, rfl⟩
          have g40 : -1 ≤ hA h 90 (Int.toNat (((((5) * (((12) * x) + k)) + w) - (10)))) ∧ hA h 90 (Int.toNat (((((5) * (((12) * x) + k)) + w) - (10)))) ≤ 999 := im_m I.1.1 90 (by decide) (by decide) _
          rw [e39] at g40
          refine wq_al (p' := 58) (n := 4800) rfl rfl (ly_k I.1.1.1 90 rfl) (by omega) (e39) ?_
          refine av_wp_ret (v := some (.inl v38)) rfl rfl rfl ?_
          exact hq _ _ _ _ h I F
      · have c11 : v7 ≤ k := c11
        refine av_wp_seq 1 (pc' := 24) (lv' := [some (.inr (.inr (.inl (some (77))))), some (.inl x), some (.inl k), some (.inl w), none]) (st' := [.inl (-2)]) (h' := h) rfl ?_
        refine av_wp_ret (v := some (.inl (-2))) rfl rfl rfl ?_
        exact hq _ _ _ _ h I F

set_option maxRecDepth 100000 in
set_option maxHeartbeats 4000000 in
theorem ct_216 {g h : av_H} {n a m : Int} (I : IMF n a m h) (F : FM g h)  {Q : Option av_V → av_H → Prop} (hq : ∀ (v : Int) n' a' m' h', IMF n' a' m' h' → FM g h' → Q (some (.inl v)) h') : av_wp none cd_216 0 [some (.inr (.inr (.inl (some (77))))), none, none] [] h Q := by
  have gn := im_n I.1.1
  rw [I.2.1] at gn
  have ga := im_a I.1.1
  rw [I.2.2.1] at ga
  have gm := im_cm I.1.1
  rw [I.2.2.2] at gm
  refine av_wp_seq 4 (pc' := 4) (lv' := [some (.inr (.inr (.inl (some (77))))), some (.inl (0)), some (.inl (0))]) (st' := []) (h' := h) rfl ?_
  have L4 : ∀ (m3 : Nat) (k1 : Int) (k2 : Int), (0 ≤ k2 ∧ k2 ≤ 16) → (16 - k2).toNat = m3 → av_wp none cd_216 4 [some (.inr (.inr (.inl (some (77))))), some (.inl k1), some (.inl k2)] [] h Q := by
    intro m3
    induction m3 using Nat.strongRecOn with
    | _ m3 I5 =>
      intro k1 k2 g7 e6
      refine av_wp_seq 2 (pc' := 6) (lv' := [some (.inr (.inr (.inl (some (77))))), some (.inl k1), some (.inl k2)]) (st' := [.inr (.inr (.inl (some (77)))), .inl k2]) (h' := h) rfl ?_
      refine wq_gr (p' := 9) rfl rfl (congrArg Prod.fst (ly_k I.1.1.1 77 rfl)) rfl (ly_g I.1.1.1 77 0 78 rfl) ?_
      refine av_wp_seq 1 (pc' := 10) (lv' := [some (.inr (.inr (.inl (some (77))))), some (.inl k1), some (.inl k2)]) (st' := [.inl (0), .inr (.inr (.inl (some (78)))), .inl k2]) (h' := h) rfl ?_
      obtain ⟨v8, e9⟩ : ∃ v, hA h 78 (Int.toNat ((0))) = v := ⟨_, rfl⟩
      have g10 : 0 ≤ hA h 78 0 ∧ hA h 78 0 ≤ 16 := I.1.1.2.1.2.1
      have e9 : hA h 78 0 = v8 := e9
      rw [e9] at g10
      refine wq_al (p' := 11) (n := 5) rfl rfl (ly_k I.1.1.1 78 rfl) (by omega) (e9) ?_
      refine wq_k2 (p' := 14) rfl rfl ⟨by omega, by omega⟩ ⟨by omega, by omega⟩ (fun c11 => ?_) (fun c12 => ?_)
      · have c11 : v8 ≤ k2 := c11
        refine av_wp_seq 1 (pc' := 30) (lv' := [some (.inr (.inr (.inl (some (77))))), some (.inl k1), some (.inl k2)]) (st' := [.inl k1]) (h' := h) rfl ?_
        refine av_wp_ret (v := some (.inl k1)) rfl rfl rfl ?_
        exact hq _ _ _ _ h I F
      · have c12 : k2 < v8 := c12
        refine av_wp_seq 2 (pc' := 16) (lv' := [some (.inr (.inr (.inl (some (77))))), some (.inl k1), some (.inl k2)]) (st' := [.inr (.inr (.inl (some (77)))), .inl k1]) (h' := h) rfl ?_
        refine wq_gr (p' := 19) rfl rfl (congrArg Prod.fst (ly_k I.1.1.1 77 rfl)) rfl (ly_g I.1.1.1 77 3 81 rfl) ?_
        refine av_wp_seq 1 (pc' := 20) (lv' := [some (.inr (.inr (.inl (some (77))))), some (.inl k1), some (.inl k2)]) (st' := [.inl k2, .inr (.inr (.inl (some (81)))), .inl k1]) (h' := h) rfl ?_
        obtain ⟨v13, e14⟩ : ∃ v, hA h 81 (Int.toNat (k2)) = v := ⟨_, rfl⟩
        have g15 := im_many I.1.1 (Int.toNat (k2))
        rw [e14] at g15
        refine wq_al (p' := 21) (n := 80) rfl rfl (ly_k I.1.1.1 81 rfl) (by omega) (e14) ?_
        refine av_wp_seq 4 (pc' := 4) (lv' := [some (.inr (.inr (.inl (some (77))))), some (.inl (k1 + v13)), some (.inl (k2 + (1)))]) (st' := []) (h' := h) rfl ?_
        exact I5 _ (by omega) ((k1 + v13)) ((k2 + (1))) (by omega) rfl
  exact L4 _ ((0)) ((0)) (by omega) rfl

set_option maxRecDepth 100000 in
set_option maxHeartbeats 4000000 in
theorem ct_217 {g h : av_H} {n a m : Int} (I : IMF n a m h) (F : FM g h) (w : Int) (qw : -2147483648 ≤ w ∧ w ≤ 2147483647) {Q : Option av_V → av_H → Prop} (hq : ∀ (v : Int) n' a' m' h', IMF n' a' m' h' → FM g h' → Q (some (.inl v)) h') : av_wp none cd_217 0 [some (.inr (.inr (.inl (some (77))))), some (.inl w)] [] h Q := by
  have gn := im_n I.1.1
  rw [I.2.1] at gn
  have ga := im_a I.1.1
  rw [I.2.2.1] at ga
  have gm := im_cm I.1.1
  rw [I.2.2.2] at gm
  refine av_wp_seq 1 (pc' := 1) (lv' := [some (.inr (.inr (.inl (some (77))))), some (.inl w)]) (st' := [.inl w]) (h' := h) rfl ?_
  rcases (show w = 0 ∨ w = 1 ∨ w = 2 ∨ w = 3 ∨ w = 4 ∨ w = 5 ∨ (w < 0 ∨ 5 < w) by omega) with e1 | e1 | e1 | e1 | e1 | e1 | e1
  · refine wq_tc (t := 40) rfl e1 rfl ?_
    refine av_wp_seq 1 (pc' := 41) (lv' := [some (.inr (.inr (.inl (some (77))))), some (.inl w)]) (st' := [.inr (.inr (.inl (some (77))))]) (h' := h) rfl ?_
    refine wq_gr (p' := 44) rfl rfl (congrArg Prod.fst (ly_k I.1.1.1 77 rfl)) rfl (ly_g I.1.1.1 77 0 78 rfl) ?_
    refine av_wp_seq 1 (pc' := 45) (lv' := [some (.inr (.inr (.inl (some (77))))), some (.inl w)]) (st' := [.inl (0), .inr (.inr (.inl (some (78))))]) (h' := h) rfl ?_
    obtain ⟨v2, e3⟩ : ∃ v, hA h 78 (Int.toNat ((0))) = v := ⟨_, rfl⟩
    have g4 : 0 ≤ hA h 78 0 ∧ hA h 78 0 ≤ 16 := I.1.1.2.1.2.1
    have e3 : hA h 78 0 = v2 := e3
    rw [e3] at g4
    refine wq_al (p' := 46) (n := 5) rfl rfl (ly_k I.1.1.1 78 rfl) (by omega) (e3) ?_
    refine av_wp_ret (v := some (.inl v2)) rfl rfl rfl ?_
    exact hq _ _ _ _ h I F
  · refine wq_tc (t := 47) rfl e1 rfl ?_
    refine av_wp_seq 1 (pc' := 48) (lv' := [some (.inr (.inr (.inl (some (77))))), some (.inl w)]) (st' := [.inr (.inr (.inl (some (77))))]) (h' := h) rfl ?_
    refine wq_gr (p' := 51) rfl rfl (congrArg Prod.fst (ly_k I.1.1.1 77 rfl)) rfl (ly_g I.1.1.1 77 1 79 rfl) ?_
    refine av_wp_seq 1 (pc' := 52) (lv' := [some (.inr (.inr (.inl (some (77))))), some (.inl w)]) (st' := [.inl (0), .inr (.inr (.inl (some (79))))]) (h' := h) rfl ?_
    obtain ⟨v5, e6⟩ : ∃ v, hA h 79 (Int.toNat ((0))) = v := ⟨_, rfl⟩
    have g7 : 0 ≤ hA h 79 0 ∧ hA h 79 0 ≤ 8 := I.1.1.2.1.2.2.1
    have e6 : hA h 79 0 = v5 := e6
    rw [e6] at g7
    refine wq_al (p' := 53) (n := 5) rfl rfl (ly_k I.1.1.1 79 rfl) (by omega) (e6) ?_
    refine av_wp_ret (v := some (.inl v5)) rfl rfl rfl ?_
    exact hq _ _ _ _ h I F
  · refine wq_tc (t := 54) rfl e1 rfl ?_
    refine av_wp_seq 1 (pc' := 55) (lv' := [some (.inr (.inr (.inl (some (77))))), some (.inl w)]) (st' := [.inr (.inr (.inl (some (77))))]) (h' := h) rfl ?_
    refine wq_gr (p' := 58) rfl rfl (congrArg Prod.fst (ly_k I.1.1.1 77 rfl)) rfl (ly_g I.1.1.1 77 2 80 rfl) ?_
    refine av_wp_seq 1 (pc' := 59) (lv' := [some (.inr (.inr (.inl (some (77))))), some (.inl w)]) (st' := [.inl (0), .inr (.inr (.inl (some (80))))]) (h' := h) rfl ?_
    obtain ⟨v8, e9⟩ : ∃ v, hA h 80 (Int.toNat ((0))) = v := ⟨_, rfl⟩
    have g10 : 0 ≤ hA h 80 0 ∧ hA h 80 0 ≤ 6 := I.1.1.2.1.2.2.2.1
    have e9 : hA h 80 0 = v8 := e9
    rw [e9] at g10
    refine wq_al (p' := 60) (n := 5) rfl rfl (ly_k I.1.1.1 80 rfl) (by omega) (e9) ?_
    refine av_wp_ret (v := some (.inl v8)) rfl rfl rfl ?_
    exact hq _ _ _ _ h I F
  · refine wq_tc (t := 61) rfl e1 rfl ?_
    refine av_wp_seq 1 (pc' := 62) (lv' := [some (.inr (.inr (.inl (some (77))))), some (.inl w)]) (st' := [.inr (.inr (.inl (some (77))))]) (h' := h) rfl ?_
    obtain ⟨v11, e12⟩ : ∃ v, hF h 77 17 = v := ⟨_, rfl⟩
    refine wq_gi (p' := 65) rfl rfl (congrArg Prod.fst (ly_k I.1.1.1 77 rfl)) rfl (e12) ?_
    refine av_wp_ret (v := some (.inl v11)) rfl rfl rfl ?_
    exact hq _ _ _ _ h I F
  · refine wq_tc (t := 66) rfl e1 rfl ?_
    refine av_wp_seq 1 (pc' := 67) (lv' := [some (.inr (.inr (.inl (some (77))))), some (.inl w)]) (st' := [.inr (.inr (.inl (some (77))))]) (h' := h) rfl ?_
    refine wq_cv (p' := 70) (av_qc (.invokevirtual 488) 216 0 0 8) 3 cd_216 [] (77) 8 [some (.inr (.inr (.inl (some (77))))), none, none] rfl rfl rfl pp_216 rfl rfl rfl (congrArg Prod.fst (ly_k I.1.1.1 77 rfl)) rfl rfl rfl rfl ?_
    refine ct_216 I F  (fun v13 n18 a19 m20 h15 I16 F17 => ?_)
    have g21 := im_n I16.1.1
    rw [I16.2.1] at g21
    have g22 := im_a I16.1.1
    rw [I16.2.2.1] at g22
    have g23 := im_cm I16.1.1
    rw [I16.2.2.2] at g23
    show av_wp _ cd_217 70 [some (.inr (.inr (.inl (some (77))))), some (.inl w)] [.inl v13] h15 _
    refine av_wp_ret (v := some (.inl v13)) rfl rfl rfl ?_
    exact hq _ _ _ _ h15 I16 F17
  · refine wq_tc (t := 71) rfl e1 rfl ?_
    refine av_wp_seq 1 (pc' := 72) (lv' := [some (.inr (.inr (.inl (some (77))))), some (.inl w)]) (st' := [.inr (.inr (.inl (some (77))))]) (h' := h) rfl ?_
    obtain ⟨v24, e25⟩ : ∃ v, hF h 77 62 = v := ⟨_, rfl⟩
    refine wq_gi (p' := 75) rfl rfl (congrArg Prod.fst (ly_k I.1.1.1 77 rfl)) rfl (e25) ?_
    refine av_wp_ret (v := some (.inl v24)) rfl rfl rfl ?_
    exact hq _ _ _ _ h I F
  · refine wq_td (t := 76) rfl ⟨by omega, by omega⟩ e1 rfl ?_
    refine av_wp_seq 1 (pc' := 77) (lv' := [some (.inr (.inr (.inl (some (77))))), some (.inl w)]) (st' := [.inl (-1)]) (h' := h) rfl ?_
    refine av_wp_ret (v := some (.inl (-1))) rfl rfl rfl ?_
    exact hq _ _ _ _ h I F

