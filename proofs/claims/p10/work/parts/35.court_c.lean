set_option maxRecDepth 100000 in
set_option maxHeartbeats 4000000 in
theorem ct_59 {h : av_H} {t c s r : Nat} {cb : Int} (i : IB 35 t c s r cb h) (x y : Int) (qy : -2147483648 ≤ y ∧ y ≤ 2147483647) {Q : Option av_V → av_H → Prop} (hq : ∀ v : Int, (v = 0 ∨ v = 1) → Q (some (.inl v)) h) : av_wp none cd_59 0 [some (.inr (.inr (.inl (some (26))))), some (.inl x), some (.inl y), none] [] h Q := by
  have s12 := co_s12 (ib_co i)
  have cbr := co_cbr (ib_co i)
  refine av_wp_sqF ck_59 2 (pc' := 2) (lv' := [some (.inr (.inr (.inl (some (26))))), some (.inl x), some (.inl y), none]) (st' := [.inl (1), .inl x]) (h' := h) rfl ?_
  have fin : ∀ lv, av_wp none cd_59 10 lv [] h Q := fun lv => by
    refine av_wp_sqF ck_59 1 (pc' := 11) (lv' := lv) (st' := [.inl (0)]) (h' := h) rfl ?_
    exact av_wp_ret (v := some (.inl (0))) rfl rfl rfl (hq _ (by omega))
  have fin2 : ∀ lv, av_wp none cd_59 68 lv [] h Q := fun lv => by
    refine av_wp_sqF ck_59 1 (pc' := 69) (lv' := lv) (st' := [.inl (0)]) (h' := h) rfl ?_
    exact av_wp_ret (v := some (.inl (0))) rfl rfl rfl (hq _ (by omega))
  refine wq_w2 (p' := 5) (ck_59 _ _ rfl) rfl (fun _ => fin _) (fun c1 => ?_)
  have c1 : av_w 1 ≤ av_w x := c1
  rw [show av_w 1 = 1 from rfl] at c1
  refine av_wp_sqF ck_59 2 (pc' := 7) (lv' := [some (.inr (.inr (.inl (some (26))))), some (.inl x), some (.inl y), none]) (st' := [.inl (1), .inl y]) (h' := h) rfl ?_
  refine wq_k2 (p' := 10) (ck_59 _ _ rfl) rfl ⟨by omega, by omega⟩ ⟨by omega, by omega⟩ (fun c2 => ?_) (fun _ => fin _)
  have c2 : (1 : Int) ≤ y := c2
  refine av_wp_sqF ck_59 2 (pc' := 14) (lv' := [some (.inr (.inr (.inl (some (26))))), some (.inl x), some (.inl y), some (.inl x)]) (st' := []) (h' := h) rfl ?_
  have lp : ∀ (m : Nat) (k : Int), 0 ≤ k - x → (k = x ∨ av_w x + (k - x) ≤ 1024) → (1025 - (k - x)).toNat = m → av_wp none cd_59 14 [some (.inr (.inr (.inl (some (26))))), some (.inl x), some (.inl y), some (.inl k)] [] h Q := by
    intro m
    induction m using Nat.strongRecOn with
    | _ m ih =>
      intro k g1 g2 em
      have kw : av_w k = av_w x + (k - x) := by
        rcases g2 with g2 | g2
        · rw [g2]; omega
        · have := av_w_add (x := x) (i := k - x) (by omega) (by omega)
          rw [← this]
          congr 1
          omega
      refine av_wp_sqF ck_59 2 (pc' := 16) (lv' := [some (.inr (.inr (.inl (some (26))))), some (.inl x), some (.inl y), some (.inl k)]) (st' := [.inr (.inr (.inl (some (26)))), .inl k]) (h' := h) rfl ?_
      refine wq_gr (p' := 19) (ck_59 _ _ rfl) rfl (congrArg Prod.fst (ly_k (ib_ic i).1 26 rfl)) rfl (ly_g (ib_ic i).1 26 1 35 rfl) ?_
      refine wq_gr (p' := 22) (ck_59 _ _ rfl) rfl (congrArg Prod.fst (ib_k0 i)) rfl (ib_t i) ?_
      refine wq_gi (p' := 25) (ck_59 _ _ rfl) rfl (congrArg Prod.fst (co_kt (ib_co i))) rfl (co_cb (ib_co i)) ?_
      refine wq_w2 (p' := 28) (ck_59 _ _ rfl) rfl (fun _ => fin2 _) (fun c3 => ?_)
      have c3 : av_w k < av_w cb := c3
      rw [av_rgw (x := cb) ⟨by omega, by omega⟩] at c3
      refine av_wp_sqF ck_59 2 (pc' := 32) (lv' := [some (.inr (.inr (.inl (some (26))))), some (.inl x), some (.inl y), some (.inl k)]) (st' := [.inl (1024), .inl k]) (h' := h) rfl ?_
      refine wq_w2 (p' := 35) (ck_59 _ _ rfl) rfl (fun _ => fin2 _) (fun c4 => ?_)
      have c4 : av_w k < av_w 1024 := c4
      rw [show av_w 1024 = 1024 from rfl] at c4
      refine av_wp_sqF ck_59 2 (pc' := 37) (lv' := [some (.inr (.inr (.inl (some (26))))), some (.inl x), some (.inl y), some (.inl k)]) (st' := [.inl x, .inl k]) (h' := h) rfl ?_
      refine wq_dw (p' := 38) (ck_59 _ _ rfl) rfl (by omega) (fun v1 => ?_)
      refine av_wp_sqF ck_59 1 (pc' := 39) (lv' := [some (.inr (.inr (.inl (some (26))))), some (.inl x), some (.inl y), some (.inl k)]) (st' := [.inl y, .inl v1]) (h' := h) rfl ?_
      refine wq_rm (p' := 40) (ck_59 _ _ rfl) rfl ⟨by omega, by omega⟩ (by omega) (fun v2 _ => ?_)
      have nx : av_wp none cd_59 62 [some (.inr (.inr (.inl (some (26))))), some (.inl x), some (.inl y), some (.inl k)] [] h Q := by
        refine av_wp_sqF ck_59 2 (pc' := 14) (lv' := [some (.inr (.inr (.inl (some (26))))), some (.inl x), some (.inl y), some (.inl (k + (1)))]) (st' := []) (h' := h) rfl ?_
        exact ih _ (by omega) (k + (1)) (by omega) (by omega) rfl
      refine wq_c1 (p' := 43) (ck_59 _ _ rfl) rfl nx ?_
      refine av_wp_sqF ck_59 1 (pc' := 44) (lv' := [some (.inr (.inr (.inl (some (26))))), some (.inl x), some (.inl y), some (.inl k)]) (st' := [.inr (.inr (.inl (some (26))))]) (h' := h) rfl ?_
      refine wq_gr (p' := 47) (ck_59 _ _ rfl) rfl (congrArg Prod.fst (ly_k (ib_ic i).1 26 rfl)) rfl (ly_g (ib_ic i).1 26 6 29 rfl) ?_
      refine av_wp_sqF ck_59 1 (pc' := 48) (lv' := [some (.inr (.inr (.inl (some (26))))), some (.inl x), some (.inl y), some (.inl k)]) (st' := [.inl k, .inr (.inr (.inl (some (29))))]) (h' := h) rfl ?_
      refine wq_bw (p' := 49) (n := 1024) (ck_59 _ _ rfl) rfl (Or.inr (ly_k (ib_ic i).1 29 rfl)) (by omega) (fun v3 => ?_)
      refine av_wp_sqF ck_59 1 (pc' := 50) (lv' := [some (.inr (.inr (.inl (some (26))))), some (.inl x), some (.inl y), some (.inl k)]) (st' := [.inr (.inr (.inl (some (26)))), .inl v3]) (h' := h) rfl ?_
      refine wq_gr (p' := 53) (ck_59 _ _ rfl) rfl (congrArg Prod.fst (ly_k (ib_ic i).1 26 rfl)) rfl (ly_g (ib_ic i).1 26 6 29 rfl) ?_
      refine av_wp_sqF ck_59 3 (pc' := 56) (lv' := [some (.inr (.inr (.inl (some (26))))), some (.inl x), some (.inl y), some (.inl k)]) (st' := [.inl (k - x), .inr (.inr (.inl (some (29)))), .inl v3]) (h' := h) rfl ?_
      obtain ⟨v4, e4⟩ : ∃ v, hA h 29 (k - x).toNat = v := ⟨_, rfl⟩
      refine wq_bl (p' := 57) (n := 1024) (ck_59 _ _ rfl) rfl (Or.inr (ly_k (ib_ic i).1 29 rfl)) (by omega) e4 ?_
      refine wq_c2 (p' := 60) (ck_59 _ _ rfl) rfl nx ?_
      refine av_wp_sqF ck_59 1 (pc' := 61) (lv' := [some (.inr (.inr (.inl (some (26))))), some (.inl x), some (.inl y), some (.inl k)]) (st' := [.inl (1)]) (h' := h) rfl ?_
      exact av_wp_ret (v := some (.inl (1))) rfl rfl rfl (hq _ (by omega))
  exact lp _ x (by omega) (by omega) rfl

set_option maxRecDepth 100000 in
set_option maxHeartbeats 4000000 in
theorem ct_58 {h : av_H} {t c s r : Nat} {cb : Int} (i : IB 35 t c s r cb h) {Q : Option av_V → av_H → Prop} (hq : ∀ (v : Int) h',  IB 35 t c s r cb h' → Fr1 h h' → Q (some (.inl v)) h') : av_wp none cd_58 0 [some (.inr (.inr (.inl (some (26))))), none, none, none, none, none, none] [] h Q := by
  have F := Fr1_rf h
  have g1 := co_s12 (ib_co i)
  have g2 := co_cbr (ib_co i)
  refine av_wp_sqF ck_58 1 (pc' := 1) (lv' := [some (.inr (.inr (.inl (some (26))))), none, none, none, none, none, none]) (st' := [.inr (.inr (.inl (some (26))))]) (h' := h) rfl ?_
  refine wq_gr (p' := 4) (ck_58 _ _ rfl) rfl (congrArg Prod.fst (ly_k (ib_ic i).1 26 rfl)) rfl (ly_g (ib_ic i).1 26 1 35 rfl) ?_
  refine wq_gr (p' := 7) (ck_58 _ _ rfl) rfl (congrArg Prod.fst (bn_k0 (ib_ic i).1 (Or.inl rfl))) rfl (ib_t i) ?_
  refine av_wp_sqF ck_58 3 (pc' := 10) (lv' := [some (.inr (.inr (.inl (some (26))))), some (.inr (.inr (.inl (some (t))))), some (.inl (0)), none, none, none, none]) (st' := []) (h' := h) rfl ?_
  have L9 : ∀ (m8 : Nat) (k3 : Int) (h4 : av_H), (0 ≤ k3 ∧ k3 ≤ 1024) → IC h4 → Fr1 h h4 → IB 35 t c s r cb h4 → (1024 - k3).toNat = m8 → av_wp none cd_58 10 [some (.inr (.inr (.inl (some (26))))), some (.inr (.inr (.inl (some (t))))), some (.inl k3), none, none, none, none] [] h4 Q := by
    intro m8
    induction m8 using Nat.strongRecOn with
    | _ m8 I10 =>
      intro k3 h4 g12 I5 F6 i7 e11
      refine av_wp_sqF ck_58 2 (pc' := 12) (lv' := [some (.inr (.inr (.inl (some (26))))), some (.inr (.inr (.inl (some (t))))), some (.inl k3), none, none, none, none]) (st' := [.inr (.inr (.inl (some (t)))), .inl k3]) (h' := h4) rfl ?_
      refine wq_gi (p' := 15) (ck_58 _ _ rfl) rfl (congrArg Prod.fst (co_kt (ib_co i7))) rfl (co_cb (ib_co i7)) ?_
      refine wq_k2 (p' := 18) (ck_58 _ _ rfl) rfl ⟨by omega, by omega⟩ ⟨by omega, by omega⟩ (fun c13 => ?_) (fun c14 => ?_)
      · have c13 : cb ≤ k3 := c13
        refine av_wp_sqF ck_58 8 (pc' := 55) (lv' := [some (.inr (.inr (.inl (some (26))))), some (.inr (.inr (.inl (some (t))))), some (.inl (0)), some (.inl (1)), some (.inl (1)), some (.inl (0)), none]) (st' := []) (h' := h4) rfl ?_
        have L25 : ∀ (m24 : Nat) (k15 : Int) (k16 : Int) (k17 : Int) (k18 : Int) (a19 : Option av_V) (h20 : av_H), av_lg a19 = false → k18 ≤ 4 * (s : Int) → (0 ≤ k18 ∧ k18 ≤ 48) → IC h20 → Fr1 h h20 → IB 35 t c s r cb h20 → (48 - k18).toNat = m24 → av_wp none cd_58 55 [some (.inr (.inr (.inl (some (26))))), some (.inr (.inr (.inl (some (t))))), some (.inl k15), some (.inl k16), some (.inl k17), some (.inl k18), a19] [] h20 Q := by
          intro m24
          induction m24 using Nat.strongRecOn with
          | _ m24 I26 =>
            intro k15 k16 k17 k18 a19 h20 g28 g29 g30 I21 F22 i23 e27
            have la19 := g28
            refine av_wp_sqF ck_58 2 (pc' := 58) (lv' := [some (.inr (.inr (.inl (some (26))))), some (.inr (.inr (.inl (some (t))))), some (.inl k15), some (.inl k16), some (.inl k17), some (.inl k18), a19]) (st' := [.inr (.inr (.inl (some (t)))), .inl k18]) (h' := h20) rfl ?_
            refine wq_gi (p' := 61) (ck_58 _ _ rfl) rfl (congrArg Prod.fst (co_kt (ib_co i23))) rfl (co_s (ib_co i23)) ?_
            refine av_wp_sqF ck_58 2 (pc' := 63) (lv' := [some (.inr (.inr (.inl (some (26))))), some (.inr (.inr (.inl (some (t))))), some (.inl k15), some (.inl k16), some (.inl k17), some (.inl k18), a19]) (st' := [.inl ((s : Int) * (4)), .inl k18]) (h' := h20) rfl ?_
            refine wq_k2 (p' := 66) (ck_58 _ _ rfl) rfl ⟨by omega, by omega⟩ ⟨by omega, by omega⟩ (fun c31 => ?_) (fun c32 => ?_)
            · have c31 : ((s : Int) * (4)) ≤ k18 := c31
              refine av_wp_sqF ck_58 1 (pc' := 125) (lv' := [some (.inr (.inr (.inl (some (26))))), some (.inr (.inr (.inl (some (t))))), some (.inl k15), some (.inl k16), some (.inl k17), some (.inl k18), a19]) (st' := [.inl k15]) (h' := h20) rfl ?_
              refine av_wp_ret (v := some (.inl k15)) (ck_58 _ _ rfl) rfl rfl ?_
              exact hq _ h20 i23 F22
            · have c32 : k18 < ((s : Int) * (4)) := c32
              refine av_wp_sqF ck_58 3 (pc' := 70) (lv' := [some (.inr (.inr (.inl (some (26))))), some (.inr (.inr (.inl (some (t))))), some (.inl k15), some (.inl k16), some (.inl k17), some (.inl k18), a19]) (st' := [.inl (4), .inl k18, .inr (.inr (.inl (some (t))))]) (h' := h20) rfl ?_
              refine wq_dv (p' := 71) (ck_58 _ _ rfl) rfl ⟨by omega, by omega⟩ (by omega) (fun v33 e34 => ?_)
              have e34 := e34 ⟨by omega, by omega⟩
              rw [Int.tdiv_eq_ediv_of_nonneg (by omega)] at e34
              refine av_wp_sqF ck_58 3 (pc' := 76) (lv' := [some (.inr (.inr (.inl (some (26))))), some (.inr (.inr (.inl (some (t))))), some (.inl k15), some (.inl k16), some (.inl k17), some (.inl k18), a19]) (st' := [.inl (4), .inl k18, .inl (15), .inl v33, .inr (.inr (.inl (some (t))))]) (h' := h20) rfl ?_
              refine wq_rm (p' := 77) (ck_58 _ _ rfl) rfl ⟨by omega, by omega⟩ (by omega) (fun v35 e36 => ?_)
              have e36 := e36 ⟨by omega, by omega⟩
              rw [Int.tmod_eq_emod_of_nonneg (by omega)] at e36
              refine av_wp_sqF ck_58 1 (pc' := 78) (lv' := [some (.inr (.inr (.inl (some (26))))), some (.inr (.inr (.inl (some (t))))), some (.inl k15), some (.inl k16), some (.inl k17), some (.inl k18), a19]) (st' := [.inl ((15) + v35), .inl v33, .inr (.inr (.inl (some (t))))]) (h' := h20) rfl ?_
              refine wq_cv (p' := 81) (av_qc (.invokevirtual 119) 29 2 0 1) 3 cd_29 [.inl ((15) + v35), .inl v33] (t) 1 [some (.inr (.inr (.inl (some (t))))), some (.inl v33), some (.inl ((15) + v35))] (ck_58 _ _ rfl) rfl rfl pp_29 rfl rfl rfl (congrArg Prod.fst (co_kt (ib_co i23))) rfl rfl rfl rfl ?_
              refine ct_29 (ib_co i23) (v33) (((15) + v35)) (by omega) (by omega) (fun v37 p38 => ?_)
              show av_wp _ cd_58 81 [some (.inr (.inr (.inl (some (26))))), some (.inr (.inr (.inl (some (t))))), some (.inl k15), some (.inl k16), some (.inl k17), some (.inl k18), a19] [.inl v37] h20 _
              refine av_wp_sqF ck_58 2 (pc' := 85) (lv' := [some (.inr (.inr (.inl (some (26))))), some (.inr (.inr (.inl (some (t))))), some (.inl k15), some (.inl k16), some (.inl k17), some (.inl k18), some (.inl v37)]) (st' := [.inl v37]) (h' := h20) rfl ?_
              have J42 : ∀ (j39 : Int) (j40 : Int) (j41 : Int),  av_wp none cd_58 118 [some (.inr (.inr (.inl (some (26))))), some (.inr (.inr (.inl (some (t))))), some (.inl j39), some (.inl j40), some (.inl j41), some (.inl k18), some (.inl v37)] [] h20 Q := by
                intro j39 j40 j41
                refine av_wp_sqF ck_58 2 (pc' := 55) (lv' := [some (.inr (.inr (.inl (some (26))))), some (.inr (.inr (.inl (some (t))))), some (.inl j39), some (.inl j40), some (.inl j41), some (.inl (k18 + (1))), some (.inl v37)]) (st' := []) (h' := h20) rfl ?_
                exact I26 _ (by omega) (j39) (j40) (j41) ((k18 + (1))) (some (.inl v37)) h20 rfl (by omega) (by omega) I21 F22 i23 rfl
              refine wq_k1 (p' := 88) (ck_58 _ _ rfl) rfl ⟨by omega, by omega⟩ (fun c43 => ?_) (fun c44 => ?_)
              · have c43 : v37 ≤ (0) := c43
                exact J42 (k15) (k16) (k17)
              · have c44 : (0) < v37 := c44
                refine av_wp_sqF ck_58 4 (pc' := 94) (lv' := [some (.inr (.inr (.inl (some (26))))), some (.inr (.inr (.inl (some (t))))), some (.inl k15), some (.inl k16), some (.inl k17), some (.inl k18), some (.inl v37)]) (st' := [.inl v37, .inl k17, .inr (.inr (.inl (some (26)))), .inl k15]) (h' := h20) rfl ?_
                refine wq_cv (p' := 97) (av_qc (.invokevirtual 143) 59 2 0 3) 4 cd_59 [.inl v37, .inl k17] (26) 3 [some (.inr (.inr (.inl (some (26))))), some (.inl k17), some (.inl v37), none] (ck_58 _ _ rfl) rfl rfl pp_59 rfl rfl rfl (congrArg Prod.fst (ly_k I21.1 26 rfl)) rfl rfl rfl rfl ?_
                refine ct_59 i23 (k17) (v37) (by omega) (fun v45 p46 => ?_)
                show av_wp _ cd_58 97 [some (.inr (.inr (.inl (some (26))))), some (.inr (.inr (.inl (some (t))))), some (.inl k15), some (.inl k16), some (.inl k17), some (.inl k18), some (.inl v37)] [.inl v45, .inl k15] h20 _
                have J48 : ∀ (j47 : Int),  av_wp none cd_58 105 [some (.inr (.inr (.inl (some (26))))), some (.inr (.inr (.inl (some (t))))), some (.inl k15), some (.inl k16), some (.inl k17), some (.inl k18), some (.inl v37)] [.inl j47, .inl k15] h20 Q := by
                  intro j47
                  refine av_wp_sqF ck_58 10 (pc' := 118) (lv' := [some (.inr (.inr (.inl (some (26))))), some (.inr (.inr (.inl (some (t))))), some (.inl (av_or k15 j47)), some (.inl (av_shl k16 (1))), some (.inl (k17 * v37)), some (.inl k18), some (.inl v37)]) (st' := []) (h' := h20) rfl ?_
                  exact J42 ((av_or k15 j47)) ((av_shl k16 (1))) ((k17 * v37))
                refine wq_k1 (p' := 100) (ck_58 _ _ rfl) rfl ⟨by omega, by omega⟩ (fun c49 => ?_) (fun c50 => ?_)
                · have c49 : v45 = (0) := c49
                  refine av_wp_sqF ck_58 1 (pc' := 105) (lv' := [some (.inr (.inr (.inl (some (26))))), some (.inr (.inr (.inl (some (t))))), some (.inl k15), some (.inl k16), some (.inl k17), some (.inl k18), some (.inl v37)]) (st' := [.inl (0), .inl k15]) (h' := h20) rfl ?_
                  exact J48 ((0))
                · have c50 : v45 ≠ (0) := c50
                  refine av_wp_sqF ck_58 2 (pc' := 105) (lv' := [some (.inr (.inr (.inl (some (26))))), some (.inr (.inr (.inl (some (t))))), some (.inl k15), some (.inl k16), some (.inl k17), some (.inl k18), some (.inl v37)]) (st' := [.inl k16, .inl k15]) (h' := h20) rfl ?_
                  exact J48 (k16)
        exact L25 _ ((0)) ((1)) ((1)) ((0)) (none) h4 rfl (by omega) (by omega) I5 F6 i7 rfl
      · have c14 : k3 < cb := c14
        refine av_wp_sqF ck_58 2 (pc' := 22) (lv' := [some (.inr (.inr (.inl (some (26))))), some (.inr (.inr (.inl (some (t))))), some (.inl k3), none, none, none, none]) (st' := [.inl (1024), .inl k3]) (h' := h4) rfl ?_
        refine wq_k2 (p' := 25) (ck_58 _ _ rfl) rfl ⟨by omega, by omega⟩ ⟨by omega, by omega⟩ (fun c51 => ?_) (fun c52 => ?_)
        · have c51 : (1024) ≤ k3 := c51
          exfalso; omega
        · have c52 : k3 < (1024) := c52
          refine av_wp_sqF ck_58 1 (pc' := 26) (lv' := [some (.inr (.inr (.inl (some (26))))), some (.inr (.inr (.inl (some (t))))), some (.inl k3), none, none, none, none]) (st' := [.inr (.inr (.inl (some (26))))]) (h' := h4) rfl ?_
          refine wq_gr (p' := 29) (ck_58 _ _ rfl) rfl (congrArg Prod.fst (ly_k I5.1 26 rfl)) rfl (ly_g I5.1 26 6 29 rfl) ?_
          refine av_wp_sqF ck_58 2 (pc' := 31) (lv' := [some (.inr (.inr (.inl (some (26))))), some (.inr (.inr (.inl (some (t))))), some (.inl k3), none, none, none, none]) (st' := [.inr (.inr (.inl (some (26)))), .inl k3, .inr (.inr (.inl (some (29))))]) (h' := h4) rfl ?_
          refine wq_gr (p' := 34) (ck_58 _ _ rfl) rfl (congrArg Prod.fst (ly_k I5.1 26 rfl)) rfl (ly_g I5.1 26 1 35 rfl) ?_
          refine av_wp_sqF ck_58 1 (pc' := 35) (lv' := [some (.inr (.inr (.inl (some (26))))), some (.inr (.inr (.inl (some (t))))), some (.inl k3), none, none, none, none]) (st' := [.inl k3, .inr (.inr (.inl (some (35)))), .inl k3, .inr (.inr (.inl (some (29))))]) (h' := h4) rfl ?_
          refine wq_cv (p' := 38) (av_qc (.invokevirtual 89) 2 1 0 0) 2 cd_2 [.inl k3] (35) 0 [some (.inr (.inr (.inl (some (35))))), some (.inl k3)] (ck_58 _ _ rfl) rfl rfl pp_2 rfl rfl rfl (congrArg Prod.fst (bn_k0 I5.1 (Or.inl rfl))) rfl rfl rfl rfl ?_
          refine ct_2 i7 (Fr1_rf h4) (k3)  (fun v53 h55 p54 i56 F57 => ?_)
          have F58 := Fr1_tr F6 F57
          have o59 := CO_fr I5.1 (ib_co i7) F57.1
          show av_wp _ cd_58 38 [some (.inr (.inr (.inl (some (26))))), some (.inr (.inr (.inl (some (t))))), some (.inl k3), none, none, none, none] [.inl v53, .inl k3, .inr (.inr (.inl (some (29))))] h55 _
          refine ic_zs (p' := 39) (n := 1024) rfl rfl (ib_ic i56) (ly_k (ib_ic i56).1 29 rfl) rfl (fun z => by cases z) (by omega) (by omega) (fun h60 I61 F62 => ?_)
          have F63 := Fr1_tr F58 F62
          have i64 := ib_f1 i56 I61 F62
          have o65 := CO_fr (ib_ic i56).1 o59 F62.1
          refine av_wp_sqF ck_58 2 (pc' := 10) (lv' := [some (.inr (.inr (.inl (some (26))))), some (.inr (.inr (.inl (some (t))))), some (.inl (k3 + (1))), none, none, none, none]) (st' := []) (h' := h60) rfl ?_
          exact I10 _ (by omega) ((k3 + (1))) h60 (by omega) I61 F63 i64 rfl
  exact L9 _ ((0)) h (by omega) (ib_ic i) F i rfl

set_option maxRecDepth 100000 in
set_option maxHeartbeats 4000000 in
theorem ct_62 {h : av_H} {t c s r r2 : Nat} {cb : Int} (i : IB 35 t c s r cb h) (j : IB 48 t c s r2 cb h) (x : Int) {Q : Option av_V → av_H → Prop} (hq : ∀ (v : Int) h', (v = 0 ∨ v = 1) → IB 35 t c s r cb h' → IB 48 t c s r2 cb h' → Fr1 h h' → Q (some (.inl v)) h') : av_wp none cd_62 0 [some (.inr (.inr (.inl (some (26))))), some (.inl x), none] [] h Q := by
  have F := Fr1_rf h
  have g1 := co_s12 (ib_co i)
  have g2 := co_cbr (ib_co i)
  have g3 := co_s12 (ib_co j)
  have g4 := co_cbr (ib_co j)
  refine av_wp_sqF ck_62 1 (pc' := 1) (lv' := [some (.inr (.inr (.inl (some (26))))), some (.inl x), none]) (st' := [.inr (.inr (.inl (some (26))))]) (h' := h) rfl ?_
  refine wq_gr (p' := 4) (ck_62 _ _ rfl) rfl (congrArg Prod.fst (ly_k (ib_ic i).1 26 rfl)) rfl (ly_g (ib_ic i).1 26 1 35 rfl) ?_
  refine av_wp_sqF ck_62 1 (pc' := 5) (lv' := [some (.inr (.inr (.inl (some (26))))), some (.inl x), none]) (st' := [.inl x, .inr (.inr (.inl (some (35))))]) (h' := h) rfl ?_
  refine wq_cv (p' := 8) (av_qc (.invokevirtual 89) 2 1 0 0) 2 cd_2 [.inl x] (35) 0 [some (.inr (.inr (.inl (some (35))))), some (.inl x)] (ck_62 _ _ rfl) rfl rfl pp_2 rfl rfl rfl (congrArg Prod.fst (bn_k0 (ib_ic i).1 (Or.inl rfl))) rfl rfl rfl rfl ?_
  refine ct_2 i (Fr1_rf h) (x)  (fun v5 h7 p6 i8 F9 => ?_)
  have F10 := Fr1_tr F F9
  have i11 := ib_f1 j (ib_ic i8) F9
  have o12 := CO_fr (ib_ic i).1 (ib_co j) F9.1
  show av_wp _ cd_62 8 [some (.inr (.inr (.inl (some (26))))), some (.inl x), none] [.inl v5] h7 _
  refine av_wp_sqF ck_62 2 (pc' := 10) (lv' := [some (.inr (.inr (.inl (some (26))))), some (.inl x), none]) (st' := [.inr (.inr (.inl (some (26))))]) (h' := h7) rfl ?_
  refine wq_gr (p' := 13) (ck_62 _ _ rfl) rfl (congrArg Prod.fst (ly_k (ib_ic i8).1 26 rfl)) rfl (ly_g (ib_ic i8).1 26 2 48 rfl) ?_
  refine av_wp_sqF ck_62 1 (pc' := 14) (lv' := [some (.inr (.inr (.inl (some (26))))), some (.inl x), none]) (st' := [.inl x, .inr (.inr (.inl (some (48))))]) (h' := h7) rfl ?_
  refine wq_cv (p' := 17) (av_qc (.invokevirtual 89) 2 1 0 0) 2 cd_2 [.inl x] (48) 0 [some (.inr (.inr (.inl (some (48))))), some (.inl x)] (ck_62 _ _ rfl) rfl rfl pp_2 rfl rfl rfl (congrArg Prod.fst (bn_k0 (ib_ic i8).1 (Or.inr (Or.inl rfl)))) rfl rfl rfl rfl ?_
  refine ct_2 i11 (Fr1_rf h7) (x)  (fun v13 h15 p14 i16 F17 => ?_)
  have F18 := Fr1_tr F10 F17
  have i19 := ib_f1 i8 (ib_ic i16) F17
  have o20 := CO_fr (ib_ic i8).1 o12 F17.1
  show av_wp _ cd_62 17 [some (.inr (.inr (.inl (some (26))))), some (.inl x), none] [.inl v13] h15 _
  refine av_wp_sqF ck_62 2 (pc' := 19) (lv' := [some (.inr (.inr (.inl (some (26))))), some (.inl x), none]) (st' := [.inr (.inr (.inl (some (26))))]) (h' := h15) rfl ?_
  refine wq_gr (p' := 22) (ck_62 _ _ rfl) rfl (congrArg Prod.fst (ly_k (ib_ic i16).1 26 rfl)) rfl (ly_g (ib_ic i16).1 26 1 35 rfl) ?_
  obtain ⟨v21, e22⟩ : ∃ v, hF h15 35 15 = v := ⟨_, rfl⟩
  refine wq_gi (p' := 25) (ck_62 _ _ rfl) rfl (congrArg Prod.fst (bn_k0 (ib_ic i16).1 (Or.inl rfl))) rfl (e22) ?_
  refine av_wp_sqF ck_62 1 (pc' := 26) (lv' := [some (.inr (.inr (.inl (some (26))))), some (.inl x), none]) (st' := [.inr (.inr (.inl (some (26)))), .inl v21]) (h' := h15) rfl ?_
  refine wq_gr (p' := 29) (ck_62 _ _ rfl) rfl (congrArg Prod.fst (ly_k (ib_ic i16).1 26 rfl)) rfl (ly_g (ib_ic i16).1 26 2 48 rfl) ?_
  obtain ⟨v23, e24⟩ : ∃ v, hF h15 48 15 = v := ⟨_, rfl⟩
  refine wq_gi (p' := 32) (ck_62 _ _ rfl) rfl (congrArg Prod.fst (bn_k0 (ib_ic i16).1 (Or.inr (Or.inl rfl)))) rfl (e24) ?_
  refine wq_c2 (p' := 35) (ck_62 _ _ rfl) rfl ?_ ?_
  · refine av_wp_sqF ck_62 2 (pc' := 39) (lv' := [some (.inr (.inr (.inl (some (26))))), some (.inl x), some (.inl (0))]) (st' := []) (h' := h15) rfl ?_
    have L32 : ∀ (m31 : Nat) (k25 : Int) (h26 : av_H), (0 ≤ k25 ∧ k25 ≤ 5) → IC h26 → Fr1 h h26 → IB 35 t c s r cb h26 → IB 48 t c s r2 cb h26 → ((5 : Int) - k25).toNat = m31 → av_wp none cd_62 39 [some (.inr (.inr (.inl (some (26))))), some (.inl x), some (.inl k25)] [] h26 Q := by
      intro m31
      induction m31 using Nat.strongRecOn with
      | _ m31 I33 =>
        intro k25 h26 g35 I27 F28 i29 i30 e34
        refine av_wp_sqF ck_62 2 (pc' := 41) (lv' := [some (.inr (.inr (.inl (some (26))))), some (.inl x), some (.inl k25)]) (st' := [.inl (5), .inl k25]) (h' := h26) rfl ?_
        refine wq_k2 (p' := 44) (ck_62 _ _ rfl) rfl ⟨by omega, by omega⟩ ⟨by omega, by omega⟩ (fun c36 => ?_) (fun c37 => ?_)
        · have c36 : (5) ≤ k25 := c36
          refine av_wp_sqF ck_62 1 (pc' := 82) (lv' := [some (.inr (.inr (.inl (some (26))))), some (.inl x), some (.inl k25)]) (st' := [.inl (0)]) (h' := h26) rfl ?_
          refine av_wp_ret (v := some (.inl (0))) (ck_62 _ _ rfl) rfl rfl ?_
          exact hq _ h26 (by omega) i29 i30 F28
        · have c37 : k25 < (5) := c37
          refine av_wp_sqF ck_62 1 (pc' := 45) (lv' := [some (.inr (.inr (.inl (some (26))))), some (.inl x), some (.inl k25)]) (st' := [.inr (.inr (.inl (some (26))))]) (h' := h26) rfl ?_
          refine wq_gr (p' := 48) (ck_62 _ _ rfl) rfl (congrArg Prod.fst (ly_k I27.1 26 rfl)) rfl (ly_g I27.1 26 1 35 rfl) ?_
          refine wq_cv (p' := 51) (av_qc (.invokevirtual 150) 3 0 0 0) 1 cd_3 [] (35) 0 [some (.inr (.inr (.inl (some (35)))))] (ck_62 _ _ rfl) rfl rfl pp_3 rfl rfl rfl (congrArg Prod.fst (bn_k0 I27.1 (Or.inl rfl))) rfl rfl rfl rfl ?_
          refine ct_3 i29 (Fr1_rf h26)   (fun v38 p39 => ?_)
          show av_wp _ cd_62 51 [some (.inr (.inr (.inl (some (26))))), some (.inl x), some (.inl k25)] [.inl v38] h26 _
          refine wq_k1 (p' := 54) (ck_62 _ _ rfl) rfl ⟨by omega, by omega⟩ (fun c40 => ?_) (fun c41 => ?_)
          · have c40 : v38 = (0) := c40
            refine av_wp_sqF ck_62 1 (pc' := 82) (lv' := [some (.inr (.inr (.inl (some (26))))), some (.inl x), some (.inl k25)]) (st' := [.inl (0)]) (h' := h26) rfl ?_
            refine av_wp_ret (v := some (.inl (0))) (ck_62 _ _ rfl) rfl rfl ?_
            exact hq _ h26 (by omega) i29 i30 F28
          · have c41 : v38 ≠ (0) := c41
            refine av_wp_sqF ck_62 1 (pc' := 55) (lv' := [some (.inr (.inr (.inl (some (26))))), some (.inl x), some (.inl k25)]) (st' := [.inr (.inr (.inl (some (26))))]) (h' := h26) rfl ?_
            refine wq_gr (p' := 58) (ck_62 _ _ rfl) rfl (congrArg Prod.fst (ly_k I27.1 26 rfl)) rfl (ly_g I27.1 26 1 35 rfl) ?_
            refine av_wp_sqF ck_62 1 (pc' := 59) (lv' := [some (.inr (.inr (.inl (some (26))))), some (.inl x), some (.inl k25)]) (st' := [.inl k25, .inr (.inr (.inl (some (35))))]) (h' := h26) rfl ?_
            refine wq_cv (p' := 62) (av_qc (.invokevirtual 154) 17 1 0 0) 4 cd_17 [.inl k25] (35) 0 [some (.inr (.inr (.inl (some (35))))), some (.inl k25), none, none] (ck_62 _ _ rfl) rfl rfl pp_17 rfl rfl rfl (congrArg Prod.fst (bn_k0 I27.1 (Or.inl rfl))) rfl rfl rfl rfl ?_
            refine ct_17 i29 (Fr1_rf h26) (k25) (by omega) (fun v42 => ?_)
            show av_wp _ cd_62 62 [some (.inr (.inr (.inl (some (26))))), some (.inl x), some (.inl k25)] [.inl v42] h26 _
            refine av_wp_sqF ck_62 1 (pc' := 63) (lv' := [some (.inr (.inr (.inl (some (26))))), some (.inl x), some (.inl k25)]) (st' := [.inr (.inr (.inl (some (26)))), .inl v42]) (h' := h26) rfl ?_
            refine wq_gr (p' := 66) (ck_62 _ _ rfl) rfl (congrArg Prod.fst (ly_k I27.1 26 rfl)) rfl (ly_g I27.1 26 2 48 rfl) ?_
            refine av_wp_sqF ck_62 1 (pc' := 67) (lv' := [some (.inr (.inr (.inl (some (26))))), some (.inl x), some (.inl k25)]) (st' := [.inl k25, .inr (.inr (.inl (some (48)))), .inl v42]) (h' := h26) rfl ?_
            refine wq_cv (p' := 70) (av_qc (.invokevirtual 154) 17 1 0 0) 4 cd_17 [.inl k25] (48) 0 [some (.inr (.inr (.inl (some (48))))), some (.inl k25), none, none] (ck_62 _ _ rfl) rfl rfl pp_17 rfl rfl rfl (congrArg Prod.fst (bn_k0 I27.1 (Or.inr (Or.inl rfl)))) rfl rfl rfl rfl ?_
            refine ct_17 i30 (Fr1_rf h26) (k25) (by omega) (fun v44 => ?_)
            show av_wp _ cd_62 70 [some (.inr (.inr (.inl (some (26))))), some (.inl x), some (.inl k25)] [.inl v44, .inl v42] h26 _
            refine wq_c2 (p' := 73) (ck_62 _ _ rfl) rfl ?_ ?_
            · refine av_wp_sqF ck_62 2 (pc' := 39) (lv' := [some (.inr (.inr (.inl (some (26))))), some (.inl x), some (.inl (k25 + (1)))]) (st' := []) (h' := h26) rfl ?_
              exact I33 _ (by omega) ((k25 + (1))) h26 (by omega) I27 F28 i29 i30 rfl
            · refine av_wp_sqF ck_62 1 (pc' := 74) (lv' := [some (.inr (.inr (.inl (some (26))))), some (.inl x), some (.inl k25)]) (st' := [.inl (1)]) (h' := h26) rfl ?_
              refine av_wp_ret (v := some (.inl (1))) (ck_62 _ _ rfl) rfl rfl ?_
              exact hq _ h26 (by omega) i29 i30 F28
    exact L32 _ ((0)) h15 (by omega) (ib_ic i16) F18 i19 i16 rfl
  · refine av_wp_sqF ck_62 1 (pc' := 36) (lv' := [some (.inr (.inr (.inl (some (26))))), some (.inl x), none]) (st' := [.inl (1)]) (h' := h15) rfl ?_
    refine av_wp_ret (v := some (.inl (1))) (ck_62 _ _ rfl) rfl rfl ?_
    exact hq _ h15 (by omega) i19 i16 F18

set_option maxRecDepth 100000 in
set_option maxHeartbeats 4000000 in
theorem ct_60 {h : av_H} {t c s r r2 : Nat} {cb : Int} (i : IB 35 t c s r cb h) (j : IB 48 t c s r2 cb h) {Q : Option av_V → av_H → Prop} (hq : ∀ (v : Int) h',  IB 35 t c s r cb h' → IB 48 t c s r2 cb h' → Fr1 h h' → Q (some (.inl v)) h') : av_wp none cd_60 0 [some (.inr (.inr (.inl (some (26))))), none, none] [] h Q := by
  have F := Fr1_rf h
  have g1 := co_s12 (ib_co i)
  have g2 := co_cbr (ib_co i)
  have g3 := co_s12 (ib_co j)
  have g4 := co_cbr (ib_co j)
  refine av_wp_sqF ck_60 4 (pc' := 4) (lv' := [some (.inr (.inr (.inl (some (26))))), some (.inl (0)), some (.inl (0))]) (st' := []) (h' := h) rfl ?_
  have L13 : ∀ (m12 : Nat) (k5 : Int) (k6 : Int) (h7 : av_H), (0 ≤ k6 ∧ k6 ≤ 1024) → IC h7 → Fr1 h h7 → IB 35 t c s r cb h7 → IB 48 t c s r2 cb h7 → (1024 - k6).toNat = m12 → av_wp none cd_60 4 [some (.inr (.inr (.inl (some (26))))), some (.inl k5), some (.inl k6)] [] h7 Q := by
    intro m12
    induction m12 using Nat.strongRecOn with
    | _ m12 I14 =>
      intro k5 k6 h7 g16 I8 F9 i10 i11 e15
      refine av_wp_sqF ck_60 2 (pc' := 6) (lv' := [some (.inr (.inr (.inl (some (26))))), some (.inl k5), some (.inl k6)]) (st' := [.inr (.inr (.inl (some (26)))), .inl k6]) (h' := h7) rfl ?_
      refine wq_gr (p' := 9) (ck_60 _ _ rfl) rfl (congrArg Prod.fst (ly_k I8.1 26 rfl)) rfl (ly_g I8.1 26 1 35 rfl) ?_
      refine wq_gr (p' := 12) (ck_60 _ _ rfl) rfl (congrArg Prod.fst (bn_k0 I8.1 (Or.inl rfl))) rfl (ib_t i10) ?_
      refine wq_gi (p' := 15) (ck_60 _ _ rfl) rfl (congrArg Prod.fst (co_kt (ib_co i10))) rfl (co_cb (ib_co i10)) ?_
      refine wq_k2 (p' := 18) (ck_60 _ _ rfl) rfl ⟨by omega, by omega⟩ ⟨by omega, by omega⟩ (fun c17 => ?_) (fun c18 => ?_)
      · have c17 : cb ≤ k6 := c17
        refine av_wp_sqF ck_60 1 (pc' := 41) (lv' := [some (.inr (.inr (.inl (some (26))))), some (.inl k5), some (.inl k6)]) (st' := [.inl k5]) (h' := h7) rfl ?_
        refine av_wp_ret (v := some (.inl k5)) (ck_60 _ _ rfl) rfl rfl ?_
        exact hq _ h7 i10 i11 F9
      · have c18 : k6 < cb := c18
        refine av_wp_sqF ck_60 3 (pc' := 21) (lv' := [some (.inr (.inr (.inl (some (26))))), some (.inl k5), some (.inl k6)]) (st' := [.inl k6, .inr (.inr (.inl (some (26)))), .inl k5]) (h' := h7) rfl ?_
        refine wq_cv (p' := 24) (av_qc (.invokevirtual 147) 62 1 0 3) 3 cd_62 [.inl k6] (26) 3 [some (.inr (.inr (.inl (some (26))))), some (.inl k6), none] (ck_60 _ _ rfl) rfl rfl pp_62 rfl rfl rfl (congrArg Prod.fst (ly_k I8.1 26 rfl)) rfl rfl rfl rfl ?_
        refine ct_62 i10 i11 (k6) (fun v23 h19 p24 i20 i21 F22 => ?_)
        have F25 := Fr1_tr F9 F22
        have i26 := ib_f1 i11 (ib_ic i20) F22
        have o27 := CO_fr I8.1 (ib_co i10) F22.1
        show av_wp _ cd_60 24 [some (.inr (.inr (.inl (some (26))))), some (.inl k5), some (.inl k6)] [.inl v23, .inl k5] h19 _
        have J30 : ∀ (j28 : Int), (0 ≤ j28 ∧ j28 ≤ 1) →  av_wp none cd_60 32 [some (.inr (.inr (.inl (some (26))))), some (.inl k5), some (.inl k6)] [.inl j28, .inl k5] h19 Q := by
          intro j28 g29
          refine av_wp_sqF ck_60 4 (pc' := 4) (lv' := [some (.inr (.inr (.inl (some (26))))), some (.inl (k5 + j28)), some (.inl (k6 + (1)))]) (st' := []) (h' := h19) rfl ?_
          exact I14 _ (by omega) ((k5 + j28)) ((k6 + (1))) h19 (by omega) (ib_ic i20) F25 i20 i21 rfl
        refine wq_k1 (p' := 27) (ck_60 _ _ rfl) rfl ⟨by omega, by omega⟩ (fun c31 => ?_) (fun c32 => ?_)
        · have c31 : v23 = (0) := c31
          refine av_wp_sqF ck_60 1 (pc' := 32) (lv' := [some (.inr (.inr (.inl (some (26))))), some (.inl k5), some (.inl k6)]) (st' := [.inl (0), .inl k5]) (h' := h19) rfl ?_
          exact J30 ((0)) (by omega)
        · have c32 : v23 ≠ (0) := c32
          refine av_wp_sqF ck_60 2 (pc' := 32) (lv' := [some (.inr (.inr (.inl (some (26))))), some (.inl k5), some (.inl k6)]) (st' := [.inl (1), .inl k5]) (h' := h19) rfl ?_
          exact J30 ((1)) (by omega)
  exact L13 _ ((0)) ((0)) h (by omega) (ib_ic i) F i j rfl

set_option maxRecDepth 100000 in
set_option maxHeartbeats 4000000 in
theorem ct_61 {h : av_H} {t c s r r2 : Nat} {cb : Int} (i : IB 35 t c s r cb h) (j : IB 48 t c s r2 cb h) {Q : Option av_V → av_H → Prop} (hq : ∀ (v : Int) h',  IB 35 t c s r cb h' → IB 48 t c s r2 cb h' → Fr1 h h' → Q (some (.inl v)) h') : av_wp none cd_61 0 [some (.inr (.inr (.inl (some (26))))), none] [] h Q := by
  have F := Fr1_rf h
  have g1 := co_s12 (ib_co i)
  have g2 := co_cbr (ib_co i)
  have g3 := co_s12 (ib_co j)
  have g4 := co_cbr (ib_co j)
  refine av_wp_sqF ck_61 2 (pc' := 2) (lv' := [some (.inr (.inr (.inl (some (26))))), some (.inl (0))]) (st' := []) (h' := h) rfl ?_
  have L12 : ∀ (m11 : Nat) (k5 : Int) (h6 : av_H), (0 ≤ k5 ∧ k5 ≤ 1024) → IC h6 → Fr1 h h6 → IB 35 t c s r cb h6 → IB 48 t c s r2 cb h6 → (1024 - k5).toNat = m11 → av_wp none cd_61 2 [some (.inr (.inr (.inl (some (26))))), some (.inl k5)] [] h6 Q := by
    intro m11
    induction m11 using Nat.strongRecOn with
    | _ m11 I13 =>
      intro k5 h6 g15 I7 F8 i9 i10 e14
      refine av_wp_sqF ck_61 2 (pc' := 4) (lv' := [some (.inr (.inr (.inl (some (26))))), some (.inl k5)]) (st' := [.inr (.inr (.inl (some (26)))), .inl k5]) (h' := h6) rfl ?_
      refine wq_gr (p' := 7) (ck_61 _ _ rfl) rfl (congrArg Prod.fst (ly_k I7.1 26 rfl)) rfl (ly_g I7.1 26 1 35 rfl) ?_
      refine wq_gr (p' := 10) (ck_61 _ _ rfl) rfl (congrArg Prod.fst (bn_k0 I7.1 (Or.inl rfl))) rfl (ib_t i9) ?_
      refine wq_gi (p' := 13) (ck_61 _ _ rfl) rfl (congrArg Prod.fst (co_kt (ib_co i9))) rfl (co_cb (ib_co i9)) ?_
      refine wq_k2 (p' := 16) (ck_61 _ _ rfl) rfl ⟨by omega, by omega⟩ ⟨by omega, by omega⟩ (fun c16 => ?_) (fun c17 => ?_)
      · have c16 : cb ≤ k5 := c16
        refine av_wp_sqF ck_61 1 (pc' := 33) (lv' := [some (.inr (.inr (.inl (some (26))))), some (.inl k5)]) (st' := [.inl (-1)]) (h' := h6) rfl ?_
        refine av_wp_ret (v := some (.inl (-1))) (ck_61 _ _ rfl) rfl rfl ?_
        exact hq _ h6 i9 i10 F8
      · have c17 : k5 < cb := c17
        refine av_wp_sqF ck_61 2 (pc' := 18) (lv' := [some (.inr (.inr (.inl (some (26))))), some (.inl k5)]) (st' := [.inl k5, .inr (.inr (.inl (some (26))))]) (h' := h6) rfl ?_
        refine wq_cv (p' := 21) (av_qc (.invokevirtual 147) 62 1 0 3) 3 cd_62 [.inl k5] (26) 3 [some (.inr (.inr (.inl (some (26))))), some (.inl k5), none] (ck_61 _ _ rfl) rfl rfl pp_62 rfl rfl rfl (congrArg Prod.fst (ly_k I7.1 26 rfl)) rfl rfl rfl rfl ?_
        refine ct_62 i9 i10 (k5) (fun v22 h18 p23 i19 i20 F21 => ?_)
        have F24 := Fr1_tr F8 F21
        have i25 := ib_f1 i10 (ib_ic i19) F21
        have o26 := CO_fr I7.1 (ib_co i9) F21.1
        show av_wp _ cd_61 21 [some (.inr (.inr (.inl (some (26))))), some (.inl k5)] [.inl v22] h18 _
        refine wq_k1 (p' := 24) (ck_61 _ _ rfl) rfl ⟨by omega, by omega⟩ (fun c27 => ?_) (fun c28 => ?_)
        · have c27 : v22 = (0) := c27
          refine av_wp_sqF ck_61 2 (pc' := 2) (lv' := [some (.inr (.inr (.inl (some (26))))), some (.inl (k5 + (1)))]) (st' := []) (h' := h18) rfl ?_
          exact I13 _ (by omega) ((k5 + (1))) h18 (by omega) (ib_ic i19) F24 i19 i20 rfl
        · have c28 : v22 ≠ (0) := c28
          refine av_wp_sqF ck_61 1 (pc' := 25) (lv' := [some (.inr (.inr (.inl (some (26))))), some (.inl k5)]) (st' := [.inl k5]) (h' := h18) rfl ?_
          refine av_wp_ret (v := some (.inl k5)) (ck_61 _ _ rfl) rfl rfl ?_
          exact hq _ h18 i19 i20 F24
  exact L12 _ ((0)) h (by omega) (ib_ic i) F i j rfl

set_option maxRecDepth 100000 in
set_option maxHeartbeats 4000000 in
theorem ct_74 {h : av_H} (I : IC h) {q : Nat} (kq : hK h q = (20, 14)) (k2 : rwc q = true) {Q : Option av_V → av_H → Prop} (hq : ∀ h', IC h' → Fr1 h h' → Q none h') : av_wp none cd_74 0 [some (.inr (.inr (.inl (some (30))))), some (.inr (.inr (.inl (some (q))))), none] [] h Q := by
  have F := Fr1_rf h
  refine av_wp_sqF ck_74 2 (pc' := 2) (lv' := [some (.inr (.inr (.inl (some (30))))), some (.inr (.inr (.inl (some (q))))), some (.inl (0))]) (st' := []) (h' := h) rfl ?_
  have L6 : ∀ (m5 : Nat) (k1 : Int) (h2 : av_H), (0 ≤ k1 ∧ k1 ≤ 14) → IC h2 → Fr1 h h2 → ((14 : Int) - k1).toNat = m5 → av_wp none cd_74 2 [some (.inr (.inr (.inl (some (30))))), some (.inr (.inr (.inl (some (q))))), some (.inl k1)] [] h2 Q := by
    intro m5
    induction m5 using Nat.strongRecOn with
    | _ m5 I7 =>
      intro k1 h2 g9 I3 F4 e8
      refine av_wp_sqF ck_74 2 (pc' := 5) (lv' := [some (.inr (.inr (.inl (some (30))))), some (.inr (.inr (.inl (some (q))))), some (.inl k1)]) (st' := [.inl (14), .inl k1]) (h' := h2) rfl ?_
      refine wq_k2 (p' := 8) (ck_74 _ _ rfl) rfl ⟨by omega, by omega⟩ ⟨by omega, by omega⟩ (fun c10 => ?_) (fun c11 => ?_)
      · have c10 : (14) ≤ k1 := c10
        refine av_wp_ret (v := none) (ck_74 _ _ rfl) rfl rfl ?_
        exact hq h2 I3 F4
      · have c11 : k1 < (14) := c11
        refine av_wp_sqF ck_74 2 (pc' := 10) (lv' := [some (.inr (.inr (.inl (some (30))))), some (.inr (.inr (.inl (some (q))))), some (.inl k1)]) (st' := [.inl k1, .inr (.inr (.inl (some (q))))]) (h' := h2) rfl ?_
        obtain ⟨v12, e13⟩ : ∃ v, hA h2 (q) (Int.toNat (k1)) = v := ⟨_, rfl⟩
        have g14 := I3.2.1 _ (k2) (Int.toNat (k1))
        rw [e13] at g14
        refine wq_al (p' := 11) (n := 14) (ck_74 _ _ rfl) rfl ((congrFun F4.1.2.2.1 q).trans kq) (by omega) (e13) ?_
        refine av_wp_sqF ck_74 1 (pc' := 13) (lv' := [some (.inr (.inr (.inl (some (30))))), some (.inr (.inr (.inl (some (q))))), some (.inl k1)]) (st' := [.inl (-2), .inl v12]) (h' := h2) rfl ?_
        have J18 : ∀  (h15 : av_H), IC h15 → Fr1 h h15 →  av_wp none cd_74 22 [some (.inr (.inr (.inl (some (30))))), some (.inr (.inr (.inl (some (q))))), some (.inl k1)] [] h15 Q := by
          intro h15 I16 F17
          refine av_wp_sqF ck_74 2 (pc' := 2) (lv' := [some (.inr (.inr (.inl (some (30))))), some (.inr (.inr (.inl (some (q))))), some (.inl (k1 + (1)))]) (st' := []) (h' := h15) rfl ?_
          exact I7 _ (by omega) ((k1 + (1))) h15 (by omega) I16 F17 rfl
        refine wq_k2 (p' := 16) (ck_74 _ _ rfl) rfl ⟨by omega, by omega⟩ ⟨by omega, by omega⟩ (fun c19 => ?_) (fun c20 => ?_)
        · have c19 : v12 = (-2) := c19
          exact J18 h2 I3 F4
        · have c20 : v12 ≠ (-2) := c20
          refine av_wp_sqF ck_74 4 (pc' := 20) (lv' := [some (.inr (.inr (.inl (some (30))))), some (.inr (.inr (.inl (some (q))))), some (.inl k1)]) (st' := [.inl k1, .inr (.inr (.inl (some (q)))), .inl k1, .inr (.inr (.inl (some (30))))]) (h' := h2) rfl ?_
          obtain ⟨v21, e22⟩ : ∃ v, hA h2 (q) (Int.toNat (k1)) = v := ⟨_, rfl⟩
          have g23 := I3.2.1 _ (k2) (Int.toNat (k1))
          rw [e22] at g23
          refine wq_al (p' := 21) (n := 14) (ck_74 _ _ rfl) rfl ((congrFun F4.1.2.2.1 q).trans kq) (by omega) (e22) ?_
          refine ic_as (p' := 22) (n := 14) rfl rfl I3 (ly_k I3.1 30 rfl) rfl (fun _ => by omega) (by omega) (fun h24 I25 F26 => ?_)
          have F27 := Fr1_tr F4 F26
          exact J18 h24 I25 F27
  exact L6 _ ((0)) h (by omega) I F rfl

set_option maxRecDepth 100000 in
set_option maxHeartbeats 4000000 in
theorem ct_75 {h : av_H} (I : IC h) (l : Int) (ql : -2147483648 ≤ l ∧ l ≤ 2147483647) (x : Int) {Q : Option av_V → av_H → Prop} (hq : ∀ h', IC h' → Fr1 h h' → Q none h') : av_wp none cd_75 0 [some (.inr (.inr (.inl (some (3))))), some (.inr (.inr (.inl (some (30))))), some (.inl l), some (.inl x), none] [] h Q := by
  have F := Fr1_rf h
  refine av_wp_sqF ck_75 2 (pc' := 2) (lv' := [some (.inr (.inr (.inl (some (3))))), some (.inr (.inr (.inl (some (30))))), some (.inl l), some (.inl x), none]) (st' := [.inl l, .inr (.inr (.inl (some (3))))]) (h' := h) rfl ?_
  refine wq_cv (p' := 5) (av_qc (.invokevirtual 49) 70 1 0 5) 2 cd_70 [.inl l] (3) 5 [some (.inr (.inr (.inl (some (3))))), some (.inl l)] (ck_75 _ _ rfl) rfl rfl pp_70 rfl rfl rfl (congrArg Prod.fst (ly_k I.1 3 rfl)) rfl rfl rfl rfl ?_
  refine ct_70 I (l) (by omega) (fun v1 p2 => ?_)
  show av_wp _ cd_75 5 [some (.inr (.inr (.inl (some (3))))), some (.inr (.inr (.inl (some (30))))), some (.inl l), some (.inl x), none] [.inl v1] h _
  refine wq_k1 (p' := 8) (ck_75 _ _ rfl) rfl ⟨by omega, by omega⟩ (fun c3 => ?_) (fun c4 => ?_)
  · have c3 : v1 ≠ (0) := c3
    refine av_wp_sqF ck_75 1 (pc' := 10) (lv' := [some (.inr (.inr (.inl (some (3))))), some (.inr (.inr (.inl (some (30))))), some (.inl l), some (.inl x), none]) (st' := [.inr (.inr (.inl (some (3))))]) (h' := h) rfl ?_
    refine wq_gr (p' := 13) (ck_75 _ _ rfl) rfl (congrArg Prod.fst (ly_k I.1 3 rfl)) rfl (ly_g I.1 3 1 5 rfl) ?_
    refine av_wp_sqF ck_75 1 (pc' := 14) (lv' := [some (.inr (.inr (.inl (some (3))))), some (.inr (.inr (.inl (some (30))))), some (.inl l), some (.inl x), none]) (st' := [.inl l, .inr (.inr (.inl (some (5))))]) (h' := h) rfl ?_
    have u5 : (Int.toNat (l)) < 8 := by omega
    refine wq_ar (p' := 15) (n := 8) (k := 32) (ck_75 _ _ rfl) rfl (ly_k I.1 5 rfl) (by omega) (by omega) (I.1.2.2.1 _ u5) ?_
    refine av_wp_sqF ck_75 4 (pc' := 20) (lv' := [some (.inr (.inr (.inl (some (3))))), some (.inr (.inr (.inl (some (30))))), some (.inl l), some (.inl x), none]) (st' := [.inl (14), .inl (0), .inr (.inr (.inl (some (30)))), .inl (0), .inr (.inr (.inl (some (6 + (Int.toNat (l))))))]) (h' := h) rfl ?_
    refine ic_cp (p' := 23) rfl rfl rfl (fun _ _ => rfl) rfl I (ly_l I.1 u5) (rwc_l u5) (fun h6 I7 F8 => ?_)
    have F9 := Fr1_tr F F8
    refine av_wp_sqF ck_75 2 (pc' := 26) (lv' := [some (.inr (.inr (.inl (some (3))))), some (.inr (.inr (.inl (some (30))))), some (.inl l), some (.inl x), some (.inl (0))]) (st' := []) (h' := h6) rfl ?_
    have L15 : ∀ (m14 : Nat) (k10 : Int) (h11 : av_H), (0 ≤ k10 ∧ k10 ≤ 6) → IC h11 → Fr1 h h11 → ((6 : Int) - k10).toNat = m14 → av_wp none cd_75 26 [some (.inr (.inr (.inl (some (3))))), some (.inr (.inr (.inl (some (30))))), some (.inl l), some (.inl x), some (.inl k10)] [] h11 Q := by
      intro m14
      induction m14 using Nat.strongRecOn with
      | _ m14 I16 =>
        intro k10 h11 g18 I12 F13 e17
        refine av_wp_sqF ck_75 2 (pc' := 29) (lv' := [some (.inr (.inr (.inl (some (3))))), some (.inr (.inr (.inl (some (30))))), some (.inl l), some (.inl x), some (.inl k10)]) (st' := [.inr (.inr (.inl (some (3)))), .inl k10]) (h' := h11) rfl ?_
        obtain ⟨v19, e20⟩ : ∃ v, hF h11 3 5 = v := ⟨_, rfl⟩
        have g21 := ic_kc I12
        rw [e20] at g21
        refine wq_gi (p' := 32) (ck_75 _ _ rfl) rfl (congrArg Prod.fst (ly_k I12.1 3 rfl)) rfl (e20) ?_
        refine wq_k2 (p' := 35) (ck_75 _ _ rfl) rfl ⟨by omega, by omega⟩ ⟨by omega, by omega⟩ (fun c22 => ?_) (fun c23 => ?_)
        · have c22 : v19 ≤ k10 := c22
          refine av_wp_ret (v := none) (ck_75 _ _ rfl) rfl rfl ?_
          exact hq h11 I12 F13
        · have c23 : k10 < v19 := c23
          refine av_wp_sqF ck_75 6 (pc' := 42) (lv' := [some (.inr (.inr (.inl (some (3))))), some (.inr (.inr (.inl (some (30))))), some (.inl l), some (.inl x), some (.inl k10)]) (st' := [.inl (1), .inl (av_and (av_shr x k10) (1))]) (h' := h11) rfl ?_
          have J27 : ∀  (h24 : av_H), IC h24 → Fr1 h h24 →  av_wp none cd_75 56 [some (.inr (.inr (.inl (some (3))))), some (.inr (.inr (.inl (some (30))))), some (.inl l), some (.inl x), some (.inl k10)] [] h24 Q := by
            intro h24 I25 F26
            refine av_wp_sqF ck_75 2 (pc' := 26) (lv' := [some (.inr (.inr (.inl (some (3))))), some (.inr (.inr (.inl (some (30))))), some (.inl l), some (.inl x), some (.inl (k10 + (1)))]) (st' := []) (h' := h24) rfl ?_
            exact I16 _ (by omega) ((k10 + (1))) h24 (by omega) I25 F26 rfl
          refine wq_c2 (p' := 45) (ck_75 _ _ rfl) rfl ?_ ?_
          · exact J27 h11 I12 F13
          · refine av_wp_sqF ck_75 2 (pc' := 47) (lv' := [some (.inr (.inr (.inl (some (3))))), some (.inr (.inr (.inl (some (30))))), some (.inl l), some (.inl x), some (.inl k10)]) (st' := [.inr (.inr (.inl (some (3)))), .inr (.inr (.inl (some (30))))]) (h' := h11) rfl ?_
            refine wq_gr (p' := 50) (ck_75 _ _ rfl) rfl (congrArg Prod.fst (ly_k I12.1 3 rfl)) rfl (ly_g I12.1 3 2 14 rfl) ?_
            refine av_wp_sqF ck_75 1 (pc' := 52) (lv' := [some (.inr (.inr (.inl (some (3))))), some (.inr (.inr (.inl (some (30))))), some (.inl l), some (.inl x), some (.inl k10)]) (st' := [.inl k10, .inr (.inr (.inl (some (14)))), .inr (.inr (.inl (some (30))))]) (h' := h11) rfl ?_
            have u28 : (Int.toNat (k10)) < 6 := by omega
            refine wq_ar (p' := 53) (n := 6) (k := 32) (ck_75 _ _ rfl) rfl (ly_k I12.1 14 rfl) (by omega) (by omega) (I12.1.2.2.2 _ u28) ?_
            refine wq_cs (p' := 56) (av_qc (.invokestatic 45) 74 2 2 5) 3 cd_74 [.inr (.inr (.inl (some (30)))), .inr (.inr (.inl (some (15 + (Int.toNat (k10))))))] [.inr (.inr (.inl (some (15 + (Int.toNat (k10)))))), .inr (.inr (.inl (some (30))))] [some (.inr (.inr (.inl (some (30))))), some (.inr (.inr (.inl (some (15 + (Int.toNat (k10))))))), none] (ck_75 _ _ rfl) rfl rfl pp_74 (fun _ => rfl) rfl rfl ?_
            refine ct_74 I12 (ly_q I12.1 u28) (rwc_q u28) (fun h29 I30 F31 => ?_)
            have F32 := Fr1_tr F13 F31
            show av_wp _ cd_75 56 [some (.inr (.inr (.inl (some (3))))), some (.inr (.inr (.inl (some (30))))), some (.inl l), some (.inl x), some (.inl k10)] [] h29 _
            exact J27 h29 I30 F32
    exact L15 _ ((0)) h6 (by omega) I7 F9 rfl
  · have c4 : v1 = (0) := c4
    refine av_wp_ret (v := none) (ck_75 _ _ rfl) rfl rfl ?_
    exact hq h I F

set_option maxRecDepth 100000 in
set_option maxHeartbeats 4000000 in
theorem ct_63 {h : av_H} (I : IC h) {t c s : Nat} {cb : Int} (o : CO h t c s cb) (n : Int) (qn : 0 ≤ n ∧ n ≤ 15) (x : Int) {Q : Option av_V → av_H → Prop} (hq : ∀ (v : Int) h', (v = 0 ∨ v = 1) → IC h' → FX 35 h h' → Q (some (.inl v)) h') : av_wp none cd_63 0 [some (.inr (.inr (.inl (some (26))))), some (.inr (.inr (.inl (some (t))))), some (.inl n), some (.inl x), none, none, none] [] h Q := by
  have F := FX_rf 35 h
  have g1 := co_s12 o
  have g2 := co_cbr o
  refine av_wp_sqF ck_63 1 (pc' := 1) (lv' := [some (.inr (.inr (.inl (some (26))))), some (.inr (.inr (.inl (some (t))))), some (.inl n), some (.inl x), none, none, none]) (st' := [.inr (.inr (.inl (some (26))))]) (h' := h) rfl ?_
  obtain ⟨v3, e4⟩ : ∃ v, hF h 26 9 = v := ⟨_, rfl⟩
  have g5 := ic_hl I
  rw [e4] at g5
  refine wq_gi (p' := 4) (ck_63 _ _ rfl) rfl (congrArg Prod.fst (ly_k I.1 26 rfl)) rfl (e4) ?_
  refine av_wp_sqF ck_63 3 (pc' := 9) (lv' := [some (.inr (.inr (.inl (some (26))))), some (.inr (.inr (.inl (some (t))))), some (.inl n), some (.inl x), some (.inl v3), some (.inl (0)), none]) (st' := []) (h' := h) rfl ?_
  have L14 : ∀ (m13 : Nat) (k6 : Int) (k7 : Int) (a8 : Option av_V) (h9 : av_H), av_lg a8 = false → (0 ≤ k7 ∧ k7 ≤ 8) → (0 ≤ k6 ∧ k6 ≤ 8) → IC h9 → FX 35 h h9 → CO h9 t c s cb → ((8 : Int) - k7).toNat = m13 → av_wp none cd_63 9 [some (.inr (.inr (.inl (some (26))))), some (.inr (.inr (.inl (some (t))))), some (.inl n), some (.inl x), some (.inl k6), some (.inl k7), a8] [] h9 Q := by
    intro m13
    induction m13 using Nat.strongRecOn with
    | _ m13 I15 =>
      intro k6 k7 a8 h9 g17 g18 g19 I10 F11 o12 e16
      have la8 := g17
      refine av_wp_sqF ck_63 2 (pc' := 12) (lv' := [some (.inr (.inr (.inl (some (26))))), some (.inr (.inr (.inl (some (t))))), some (.inl n), some (.inl x), some (.inl k6), some (.inl k7), a8]) (st' := [.inr (.inr (.inl (some (26)))), .inl k7]) (h' := h9) rfl ?_
      refine wq_gr (p' := 15) (ck_63 _ _ rfl) rfl (congrArg Prod.fst (ly_k I10.1 26 rfl)) rfl (ly_g I10.1 26 0 3 rfl) ?_
      obtain ⟨v20, e21⟩ : ∃ v, hF h9 3 4 = v := ⟨_, rfl⟩
      have g22 := ic_lc I10
      rw [e21] at g22
      refine wq_gi (p' := 18) (ck_63 _ _ rfl) rfl (congrArg Prod.fst (ly_k I10.1 3 rfl)) rfl (e21) ?_
      refine wq_k2 (p' := 21) (ck_63 _ _ rfl) rfl ⟨by omega, by omega⟩ ⟨by omega, by omega⟩ (fun c23 => ?_) (fun c24 => ?_)
      · have c23 : v20 ≤ k7 := c23
        refine av_wp_sqF ck_63 1 (pc' := 144) (lv' := [some (.inr (.inr (.inl (some (26))))), some (.inr (.inr (.inl (some (t))))), some (.inl n), some (.inl x), some (.inl k6), some (.inl k7), a8]) (st' := [.inl (1)]) (h' := h9) rfl ?_
        refine av_wp_ret (v := some (.inl (1))) (ck_63 _ _ rfl) rfl rfl ?_
        exact hq _ h9 (by omega) I10 F11
      · have c24 : k7 < v20 := c24
        refine av_wp_sqF ck_63 1 (pc' := 22) (lv' := [some (.inr (.inr (.inl (some (26))))), some (.inr (.inr (.inl (some (t))))), some (.inl n), some (.inl x), some (.inl k6), some (.inl k7), a8]) (st' := [.inr (.inr (.inl (some (26))))]) (h' := h9) rfl ?_
        refine wq_gr (p' := 25) (ck_63 _ _ rfl) rfl (congrArg Prod.fst (ly_k I10.1 26 rfl)) rfl (ly_g I10.1 26 0 3 rfl) ?_
        refine av_wp_sqF ck_63 1 (pc' := 27) (lv' := [some (.inr (.inr (.inl (some (26))))), some (.inr (.inr (.inl (some (t))))), some (.inl n), some (.inl x), some (.inl k6), some (.inl k7), a8]) (st' := [.inl k6, .inr (.inr (.inl (some (3))))]) (h' := h9) rfl ?_
        refine wq_cv (p' := 30) (av_qc (.invokevirtual 93) 70 1 0 5) 2 cd_70 [.inl k6] (3) 5 [some (.inr (.inr (.inl (some (3))))), some (.inl k6)] (ck_63 _ _ rfl) rfl rfl pp_70 rfl rfl rfl (congrArg Prod.fst (ly_k I10.1 3 rfl)) rfl rfl rfl rfl ?_
        refine ct_70 I10 (k6) (by omega) (fun v25 p26 => ?_)
        show av_wp _ cd_63 30 [some (.inr (.inr (.inl (some (26))))), some (.inr (.inr (.inl (some (t))))), some (.inl n), some (.inl x), some (.inl k6), some (.inl k7), a8] [.inl v25] h9 _
        have J29 : ∀ (j27 : Int), (0 ≤ j27 ∧ j27 ≤ 7) →  av_wp none cd_63 39 [some (.inr (.inr (.inl (some (26))))), some (.inr (.inr (.inl (some (t))))), some (.inl n), some (.inl x), some (.inl k6), some (.inl k7), a8] [.inl j27] h9 Q := by
          intro j27 g28
          refine av_wp_sqF ck_63 2 (pc' := 42) (lv' := [some (.inr (.inr (.inl (some (26))))), some (.inr (.inr (.inl (some (t))))), some (.inl n), some (.inl x), some (.inl j27), some (.inl k7), a8]) (st' := [.inr (.inr (.inl (some (26))))]) (h' := h9) rfl ?_
          refine wq_gr (p' := 45) (ck_63 _ _ rfl) rfl (congrArg Prod.fst (ly_k I10.1 26 rfl)) rfl (ly_g I10.1 26 0 3 rfl) ?_
          refine av_wp_sqF ck_63 1 (pc' := 46) (lv' := [some (.inr (.inr (.inl (some (26))))), some (.inr (.inr (.inl (some (t))))), some (.inl n), some (.inl x), some (.inl j27), some (.inl k7), a8]) (st' := [.inr (.inr (.inl (some (26)))), .inr (.inr (.inl (some (3))))]) (h' := h9) rfl ?_
          refine wq_gr (p' := 49) (ck_63 _ _ rfl) rfl (congrArg Prod.fst (ly_k I10.1 26 rfl)) rfl (ly_g I10.1 26 7 30 rfl) ?_
          refine av_wp_sqF ck_63 2 (pc' := 52) (lv' := [some (.inr (.inr (.inl (some (26))))), some (.inr (.inr (.inl (some (t))))), some (.inl n), some (.inl x), some (.inl j27), some (.inl k7), a8]) (st' := [.inl x, .inl j27, .inr (.inr (.inl (some (30)))), .inr (.inr (.inl (some (3))))]) (h' := h9) rfl ?_
          refine wq_cv (p' := 55) (av_qc (.invokevirtual 161) 75 3 0 5) 5 cd_75 [.inl x, .inl j27, .inr (.inr (.inl (some (30))))] (3) 5 [some (.inr (.inr (.inl (some (3))))), some (.inr (.inr (.inl (some (30))))), some (.inl j27), some (.inl x), none] (ck_63 _ _ rfl) rfl rfl pp_75 rfl rfl rfl (congrArg Prod.fst (ly_k I10.1 3 rfl)) rfl rfl rfl rfl ?_
          refine ct_75 I10 (j27) (by omega) (x) (fun h30 I31 F32 => ?_)
          have F35 := FX_1 F11 F32
          have o36 := CO_fr I10.1 o12 F32.1
          show av_wp _ cd_63 55 [some (.inr (.inr (.inl (some (26))))), some (.inr (.inr (.inl (some (t))))), some (.inl n), some (.inl x), some (.inl j27), some (.inl k7), a8] [] h30 _
          refine av_wp_sqF ck_63 1 (pc' := 56) (lv' := [some (.inr (.inr (.inl (some (26))))), some (.inr (.inr (.inl (some (t))))), some (.inl n), some (.inl x), some (.inl j27), some (.inl k7), a8]) (st' := [.inr (.inr (.inl (some (26))))]) (h' := h30) rfl ?_
          refine wq_gr (p' := 59) (ck_63 _ _ rfl) rfl (congrArg Prod.fst (ly_k I31.1 26 rfl)) rfl (ly_g I31.1 26 4 27 rfl) ?_
          refine av_wp_sqF ck_63 3 (pc' := 66) (lv' := [some (.inr (.inr (.inl (some (26))))), some (.inr (.inr (.inl (some (t))))), some (.inl n), some (.inl x), some (.inl j27), some (.inl k7), a8]) (st' := [.inl (0), .inl (144), .inl (128), .inr (.inr (.inl (some (27))))]) (h' := h30) rfl ?_
          refine wq_cs (p' := 69) (av_qc (.invokestatic 126) 221 4 2 10) 5 cd_221 [.inr (.inr (.inl (some (27)))), .inl (128), .inl (144), .inl (0)] [.inl (0), .inl (144), .inl (128), .inr (.inr (.inl (some (27))))] [some (.inr (.inr (.inl (some (27))))), some (.inl (128)), some (.inl (144)), some (.inl (0)), none] (ck_63 _ _ rfl) rfl rfl pp_221 (fun _ => rfl) rfl rfl ?_
          refine ct_221 (n := 144) 128 144 rfl rfl (ly_k I31.1 27 rfl) (by omega) (by omega) (by omega) ?_
          obtain ⟨I38, F37⟩ := IC_fil (a := 27) (lo := 128) (hi := 144) (v := (0)) I31 rfl (fun z => by cases z) (by omega)
          have F39 := FX_1 F35 F37
          have o40 := CO_fr I31.1 o36 F37.1
          show av_wp _ cd_63 69 [some (.inr (.inr (.inl (some (26))))), some (.inr (.inr (.inl (some (t))))), some (.inl n), some (.inl x), some (.inl j27), some (.inl k7), a8] [] (hfil h30 (27) 128 144 (0)) _
          refine av_wp_sqF ck_63 4 (pc' := 73) (lv' := [some (.inr (.inr (.inl (some (26))))), some (.inr (.inr (.inl (some (t))))), some (.inl n), some (.inl x), some (.inl j27), some (.inl k7), a8]) (st' := [.inr (.inr (.inl (some (26)))), .inl n, .inr (.inr (.inl (some (t)))), .inr (.inr (.inl (some (26))))]) (h' := (hfil h30 (27) 128 144 (0))) rfl ?_
          refine wq_gr (p' := 76) (ck_63 _ _ rfl) rfl (congrArg Prod.fst (ly_k I38.1 26 rfl)) rfl (ly_g I38.1 26 7 30 rfl) ?_
          refine av_wp_sqF ck_63 1 (pc' := 79) (lv' := [some (.inr (.inr (.inl (some (26))))), some (.inr (.inr (.inl (some (t))))), some (.inl n), some (.inl x), some (.inl j27), some (.inl k7), a8]) (st' := [.inl (128), .inr (.inr (.inl (some (30)))), .inl n, .inr (.inr (.inl (some (t)))), .inr (.inr (.inl (some (26))))]) (h' := (hfil h30 (27) 128 144 (0))) rfl ?_
          refine wq_cv (p' := 82) (av_qc (.invokevirtual 100) 52 4 0 3) 8 cd_52 [.inl (128), .inr (.inr (.inl (some (30)))), .inl n, .inr (.inr (.inl (some (t))))] (26) 3 [some (.inr (.inr (.inl (some (26))))), some (.inr (.inr (.inl (some (t))))), some (.inl n), some (.inr (.inr (.inl (some (30))))), some (.inl (128)), none, none, none] (ck_63 _ _ rfl) rfl rfl pp_52 rfl rfl rfl (congrArg Prod.fst (ly_k I38.1 26 rfl)) rfl rfl rfl rfl ?_
          refine ct_52 I38 o40 (n) (by omega) (ly_k I38.1 30 rfl) (rfl) ((128)) (by omega) (fun h41 I42 F43 => ?_)
          have F44 := FX_61 F39 F43
          have o45 := CO_fr I38.1 o40 F43.1
          show av_wp _ cd_63 82 [some (.inr (.inr (.inl (some (26))))), some (.inr (.inr (.inl (some (t))))), some (.inl n), some (.inl x), some (.inl j27), some (.inl k7), a8] [] h41 _
          refine av_wp_sqF ck_63 1 (pc' := 83) (lv' := [some (.inr (.inr (.inl (some (26))))), some (.inr (.inr (.inl (some (t))))), some (.inl n), some (.inl x), some (.inl j27), some (.inl k7), a8]) (st' := [.inr (.inr (.inl (some (26))))]) (h' := h41) rfl ?_
          refine wq_gr (p' := 86) (ck_63 _ _ rfl) rfl (congrArg Prod.fst (ly_k I42.1 26 rfl)) rfl (ly_g I42.1 26 1 35 rfl) ?_
          refine av_wp_sqF ck_63 2 (pc' := 88) (lv' := [some (.inr (.inr (.inl (some (26))))), some (.inr (.inr (.inl (some (t))))), some (.inl n), some (.inl x), some (.inl j27), some (.inl k7), a8]) (st' := [.inr (.inr (.inl (some (26)))), .inr (.inr (.inl (some (t)))), .inr (.inr (.inl (some (35))))]) (h' := h41) rfl ?_
          refine wq_gr (p' := 91) (ck_63 _ _ rfl) rfl (congrArg Prod.fst (ly_k I42.1 26 rfl)) rfl (ly_g I42.1 26 7 30 rfl) ?_
          refine av_wp_sqF ck_63 1 (pc' := 92) (lv' := [some (.inr (.inr (.inl (some (26))))), some (.inr (.inr (.inl (some (t))))), some (.inl n), some (.inl x), some (.inl j27), some (.inl k7), a8]) (st' := [.inr (.inr (.inl (some (26)))), .inr (.inr (.inl (some (30)))), .inr (.inr (.inl (some (t)))), .inr (.inr (.inl (some (35))))]) (h' := h41) rfl ?_
          refine wq_gr (p' := 95) (ck_63 _ _ rfl) rfl (congrArg Prod.fst (ly_k I42.1 26 rfl)) rfl (ly_g I42.1 26 4 27 rfl) ?_
          refine av_wp_sqF ck_63 1 (pc' := 98) (lv' := [some (.inr (.inr (.inl (some (26))))), some (.inr (.inr (.inl (some (t))))), some (.inl n), some (.inl x), some (.inl j27), some (.inl k7), a8]) (st' := [.inl (128), .inr (.inr (.inl (some (27)))), .inr (.inr (.inl (some (30)))), .inr (.inr (.inl (some (t)))), .inr (.inr (.inl (some (35))))]) (h' := h41) rfl ?_
          refine wq_cv (p' := 101) (av_qc (.invokevirtual 64) 1 4 0 0) 9 cd_1 [.inl (128), .inr (.inr (.inl (some (27)))), .inr (.inr (.inl (some (30)))), .inr (.inr (.inl (some (t))))] (35) 0 [some (.inr (.inr (.inl (some (35))))), some (.inr (.inr (.inl (some (t))))), some (.inr (.inr (.inl (some (30))))), some (.inr (.inr (.inl (some (27))))), some (.inl (128)), none, none, none, none] (ck_63 _ _ rfl) rfl rfl pp_1 rfl rfl rfl (congrArg Prod.fst (bn_k0 I42.1 (Or.inl rfl))) rfl rfl rfl rfl ?_
          refine ct_1 I42 (Or.inl rfl) o45 (ly_k I42.1 30 rfl) (rfl) ((128)) (by omega) (fun h46 i47 F48 => ?_)
          have F49 := FX_tr F44 F48
          have o50 := CO_fr I42.1 o45 F48.1
          show av_wp _ cd_63 101 [some (.inr (.inr (.inl (some (26))))), some (.inr (.inr (.inl (some (t))))), some (.inl n), some (.inl x), some (.inl j27), some (.inl k7), a8] [] h46 _
          refine av_wp_sqF ck_63 1 (pc' := 102) (lv' := [some (.inr (.inr (.inl (some (26))))), some (.inr (.inr (.inl (some (t))))), some (.inl n), some (.inl x), some (.inl j27), some (.inl k7), a8]) (st' := [.inr (.inr (.inl (some (26))))]) (h' := h46) rfl ?_
          refine wq_gr (p' := 105) (ck_63 _ _ rfl) rfl (congrArg Prod.fst (ly_k (ib_ic i47).1 26 rfl)) rfl (ly_g (ib_ic i47).1 26 1 35 rfl) ?_
          refine av_wp_sqF ck_63 1 (pc' := 106) (lv' := [some (.inr (.inr (.inl (some (26))))), some (.inr (.inr (.inl (some (t))))), some (.inl n), some (.inl x), some (.inl j27), some (.inl k7), a8]) (st' := [.inr (.inr (.inl (some (26)))), .inr (.inr (.inl (some (35))))]) (h' := h46) rfl ?_
          obtain ⟨v51, e52⟩ : ∃ v, hF h46 26 10 = v := ⟨_, rfl⟩
          have g53 := ic_hc (ib_ic i47)
          rw [e52] at g53
          refine wq_gi (p' := 109) (ck_63 _ _ rfl) rfl (congrArg Prod.fst (ly_k (ib_ic i47).1 26 rfl)) rfl (e52) ?_
          refine wq_cs (p' := 112) (av_qc (.invokestatic 108) 55 2 2 3) 4 cd_55 [.inr (.inr (.inl (some (35)))), .inl v51] [.inl v51, .inr (.inr (.inl (some (35))))] [some (.inr (.inr (.inl (some (35))))), some (.inl v51), none, none] (ck_63 _ _ rfl) rfl rfl pp_55 (fun _ => rfl) rfl rfl ?_
          refine ct_55 i47 (v51) (by omega) (fun v57 h54 p58 i55 F56 => ?_)
          have F59 := FX_1 F49 F56
          have o60 := CO_fr (ib_ic i47).1 o50 F56.1
          show av_wp _ cd_63 112 [some (.inr (.inr (.inl (some (26))))), some (.inr (.inr (.inl (some (t))))), some (.inl n), some (.inl x), some (.inl j27), some (.inl k7), a8] [.inl v57] h54 _
          refine av_wp_sqF ck_63 3 (pc' := 117) (lv' := [some (.inr (.inr (.inl (some (26))))), some (.inr (.inr (.inl (some (t))))), some (.inl n), some (.inl x), some (.inl j27), some (.inl k7), some (.inl v57)]) (st' := [.inl (-1), .inl v57]) (h' := h54) rfl ?_
          refine wq_k2 (p' := 120) (ck_63 _ _ rfl) rfl ⟨by omega, by omega⟩ ⟨by omega, by omega⟩ (fun c61 => ?_) (fun c62 => ?_)
          · have c61 : v57 = (-1) := c61
            refine av_wp_sqF ck_63 3 (pc' := 9) (lv' := [some (.inr (.inr (.inl (some (26))))), some (.inr (.inr (.inl (some (t))))), some (.inl n), some (.inl x), some (.inl (j27 + (1))), some (.inl (k7 + (1))), some (.inl v57)]) (st' := []) (h' := h54) rfl ?_
            exact I15 _ (by omega) ((j27 + (1))) ((k7 + (1))) (some (.inl v57)) h54 rfl (by omega) (by omega) (ib_ic i55) F59 o60 rfl
          · have c62 : v57 ≠ (-1) := c62
            refine av_wp_sqF ck_63 2 (pc' := 123) (lv' := [some (.inr (.inr (.inl (some (26))))), some (.inr (.inr (.inl (some (t))))), some (.inl n), some (.inl x), some (.inl j27), some (.inl k7), some (.inl v57)]) (st' := [.inl j27, .inr (.inr (.inl (some (26))))]) (h' := h54) rfl ?_
            refine ic_ph (p' := 126) rfl rfl (ib_ic i55) (by omega) (fun h63 I64 F65 => ?_)
            have F66 := FX_1 F59 F65
            have i67 := ib_f1 i55 I64 F65
            have o68 := CO_fr (ib_ic i55).1 o60 F65.1
            refine av_wp_sqF ck_63 2 (pc' := 129) (lv' := [some (.inr (.inr (.inl (some (26))))), some (.inr (.inr (.inl (some (t))))), some (.inl n), some (.inl x), some (.inl j27), some (.inl k7), some (.inl v57)]) (st' := [.inl v57, .inr (.inr (.inl (some (26))))]) (h' := h63) rfl ?_
            refine ic_ph (p' := 132) rfl rfl I64 (by omega) (fun h69 I70 F71 => ?_)
            have F72 := FX_1 F66 F71
            have i73 := ib_f1 i67 I70 F71
            have o74 := CO_fr I64.1 o68 F71.1
            refine av_wp_sqF ck_63 1 (pc' := 133) (lv' := [some (.inr (.inr (.inl (some (26))))), some (.inr (.inr (.inl (some (t))))), some (.inl n), some (.inl x), some (.inl j27), some (.inl k7), some (.inl v57)]) (st' := [.inl (0)]) (h' := h69) rfl ?_
            refine av_wp_ret (v := some (.inl (0))) (ck_63 _ _ rfl) rfl rfl ?_
            exact hq _ h69 (by omega) I70 F72
        refine wq_k1 (p' := 33) (ck_63 _ _ rfl) rfl ⟨by omega, by omega⟩ (fun c75 => ?_) (fun c76 => ?_)
        · have c75 : v25 = (0) := c75
          refine av_wp_sqF ck_63 1 (pc' := 39) (lv' := [some (.inr (.inr (.inl (some (26))))), some (.inr (.inr (.inl (some (t))))), some (.inl n), some (.inl x), some (.inl k6), some (.inl k7), a8]) (st' := [.inl (0)]) (h' := h9) rfl ?_
          exact J29 ((0)) (by omega)
        · have c76 : v25 ≠ (0) := c76
          refine av_wp_sqF ck_63 2 (pc' := 39) (lv' := [some (.inr (.inr (.inl (some (26))))), some (.inr (.inr (.inl (some (t))))), some (.inl n), some (.inl x), some (.inl k6), some (.inl k7), a8]) (st' := [.inl k6]) (h' := h9) rfl ?_
          exact J29 (k6) (by omega)
  exact L14 _ (v3) ((0)) (none) h rfl (by omega) (by omega) I F o rfl
