/-! BEARS, exactly -/
set_option maxRecDepth 100000 in
set_option maxHeartbeats 4000000 in
theorem cx_20 {g h : av_H} {b t c s r : Nat} {cb : Int} {u ro : Nat → Int} {a : Nat → Nat → Int} {mb mo ma : Int} (E : EB b t c s r cb u ro a mb mo ma h) (F : FN b g h) (H : HBd s a) (R : RLW ro) (qm : -1 ≤ ma ∧ ma ≤ 9999) {Q : Option av_V → av_H → Prop} (hq : ∀ v : Int, v = rpx u ro a s (mb, mo, ma) → Q (some (.inl v)) h) : av_wp none cd_20 0 [some (.inr (.inr (.inl (some (b))))), none, none, none] [] h Q := by
  have s12 := co_s12 (ib_co E.1)
  have cbr := co_cbr (ib_co E.1)
  have mbr := eb_xr E
  have mor := eb_yr E
  refine av_wp_seq 1 (pc' := 1) (lv' := [some (.inr (.inr (.inl (some (b))))), none, none, none]) (st' := [.inr (.inr (.inl (some (b))))]) (h' := h) rfl ?_
  refine wq_gr (p' := 4) rfl rfl (congrArg Prod.fst (ib_k0 E.1)) rfl (ib_r E.1) ?_
  refine av_wp_seq 1 (pc' := 6) (lv' := [some (.inr (.inr (.inl (some (b))))), none, none, none]) (st' := [.inl (12), .inr (.inr (.inl (some (r))))]) (h' := h) rfl ?_
  obtain ⟨v2, e3⟩ : ∃ v, ro 12 = v := ⟨_, rfl⟩
  have g1 := eb_rv E 12
  rw [e3] at g1
  have g4 := rl_12 R
  rw [e3] at g4
  refine wq_al (p' := 7) (n := 14) rfl rfl (ib_kr E.1) (by omega) ((congrFun (eb_ro E) _).trans e3) ?_
  refine wq_k1 (p' := 10) rfl rfl ⟨by omega, by omega⟩ (fun c5 => ?_) (fun c6 => ?_)
  · have c5 : v2 ≠ (0) := c5
    refine av_wp_seq 4 (pc' := 21) (lv' := [some (.inr (.inr (.inl (some (b))))), some (.inl (9999)), some (.inl (0)), none]) (st' := []) (h' := h) rfl ?_
    have L11 : ∀ (m10 : Nat) (k7 : Int) (k8 : Int) (a9 : Option av_V), av_lg a9 = false → rpv u ro a mo (Int.toNat k8) = k7 → k8 ≤ (s : Int) → (-1 ≤ k7 ∧ k7 ≤ 9999) → (0 ≤ k8 ∧ k8 ≤ 12) → ((s : Int) - k8).toNat = m10 → av_wp none cd_20 21 [some (.inr (.inr (.inl (some (b))))), some (.inl k7), some (.inl k8), a9] [] h Q := by
      intro m10
      induction m10 using Nat.strongRecOn with
      | _ m10 I12 =>
        intro k7 k8 a9 g14 g15 g16 g17 g18 e13
        have la9 := g14
        refine av_wp_seq 2 (pc' := 23) (lv' := [some (.inr (.inr (.inl (some (b))))), some (.inl k7), some (.inl k8), a9]) (st' := [.inr (.inr (.inl (some (b)))), .inl k8]) (h' := h) rfl ?_
        refine wq_gr (p' := 26) rfl rfl (congrArg Prod.fst (ib_k0 E.1)) rfl (ib_t E.1) ?_
        refine wq_gi (p' := 29) rfl rfl (congrArg Prod.fst (co_kt (ib_co E.1))) rfl (co_s (ib_co E.1)) ?_
        refine wq_k2 (p' := 32) rfl rfl ⟨by omega, by omega⟩ ⟨by omega, by omega⟩ (fun c19 => ?_) (fun c20 => ?_)
        · have c19 : (s : Int) ≤ k8 := c19
          refine av_wp_seq 1 (pc' := 99) (lv' := [some (.inr (.inr (.inl (some (b))))), some (.inl k7), some (.inl k8), a9]) (st' := [.inl k7]) (h' := h) rfl ?_
          refine av_wp_ret (v := some (.inl k7)) rfl rfl rfl ?_
          exact hq _ (by show _ = (if ro 12 = 0 then ma else rpv u ro a mo s); rw [if_neg (by rw [e3]; omega), ← g15, show Int.toNat k8 = s by omega])
        · have c20 : k8 < (s : Int) := c20
          refine av_wp_seq 1 (pc' := 33) (lv' := [some (.inr (.inr (.inl (some (b))))), some (.inl k7), some (.inl k8), a9]) (st' := [.inr (.inr (.inl (some (b))))]) (h' := h) rfl ?_
          refine wq_gr (p' := 36) rfl rfl (congrArg Prod.fst (ib_k0 E.1)) rfl (ib_t E.1) ?_
          refine av_wp_seq 2 (pc' := 38) (lv' := [some (.inr (.inr (.inl (some (b))))), some (.inl k7), some (.inl k8), a9]) (st' := [.inl (0), .inl k8, .inr (.inr (.inl (some (t))))]) (h' := h) rfl ?_
          refine wq_cv (p' := 41) (av_qc (.invokevirtual 74) 29 2 0 1) 3 cd_29 [.inl (0), .inl k8] (t) 1 [some (.inr (.inr (.inl (some (t))))), some (.inl k8), some (.inl (0))] rfl rfl rfl pp_29 rfl rfl rfl (congrArg Prod.fst (co_kt (ib_co E.1))) rfl rfl rfl rfl ?_
          obtain ⟨v21, e22⟩ : ∃ v, u (21 * Int.toNat (k8) + 0) = v := ⟨_, rfl⟩
          have g23 := eb_uv E (21 * Int.toNat (k8) + 0)
          rw [e22] at g23
          refine xc_29 (ib_co E.1) (k8) (by omega) 0 (by omega) rfl ((congrFun (eb_u E) _).trans e22) ?_
          show av_wp _ cd_20 41 [some (.inr (.inr (.inl (some (b))))), some (.inl k7), some (.inl k8), a9] [.inl v21] h _
          refine av_wp_seq 1 (pc' := 43) (lv' := [some (.inr (.inr (.inl (some (b))))), some (.inl k7), some (.inl k8), a9]) (st' := [.inl (7), .inl v21]) (h' := h) rfl ?_
          refine wq_k2 (p' := 46) rfl rfl ⟨by omega, by omega⟩ ⟨by omega, by omega⟩ (fun c24 => ?_) (fun c25 => ?_)
          · have c24 : v21 ≠ (7) := c24
            refine av_wp_seq 2 (pc' := 21) (lv' := [some (.inr (.inr (.inl (some (b))))), some (.inl k7), some (.inl (k8 + (1))), a9]) (st' := []) (h' := h) rfl ?_
            exact I12 _ (by omega) (k7) ((k8 + (1))) (a9) la9 (by rw [show Int.toNat ((k8 + (1))) = Int.toNat k8 + 1 by omega, rpv_n e22 (by omega)]; exact g15) (by omega) (by omega) (by omega) rfl
          · have c25 : v21 = (7) := c25
            refine av_wp_seq 1 (pc' := 47) (lv' := [some (.inr (.inr (.inl (some (b))))), some (.inl k7), some (.inl k8), a9]) (st' := [.inr (.inr (.inl (some (b))))]) (h' := h) rfl ?_
            refine wq_gr (p' := 50) rfl rfl (congrArg Prod.fst (ib_k0 E.1)) rfl (ib_t E.1) ?_
            refine av_wp_seq 2 (pc' := 52) (lv' := [some (.inr (.inr (.inl (some (b))))), some (.inl k7), some (.inl k8), a9]) (st' := [.inl (3), .inl k8, .inr (.inr (.inl (some (t))))]) (h' := h) rfl ?_
            refine wq_cv (p' := 55) (av_qc (.invokevirtual 74) 29 2 0 1) 3 cd_29 [.inl (3), .inl k8] (t) 1 [some (.inr (.inr (.inl (some (t))))), some (.inl k8), some (.inl (3))] rfl rfl rfl pp_29 rfl rfl rfl (congrArg Prod.fst (co_kt (ib_co E.1))) rfl rfl rfl rfl ?_
            obtain ⟨v26, e27⟩ : ∃ v, u (21 * Int.toNat (k8) + 3) = v := ⟨_, rfl⟩
            have g28 := eb_uv E (21 * Int.toNat (k8) + 3)
            rw [e27] at g28
            refine xc_29 (ib_co E.1) (k8) (by omega) 3 (by omega) rfl ((congrFun (eb_u E) _).trans e27) ?_
            show av_wp _ cd_20 55 [some (.inr (.inr (.inl (some (b))))), some (.inl k7), some (.inl k8), a9] [.inl v26] h _
            refine av_wp_seq 1 (pc' := 56) (lv' := [some (.inr (.inr (.inl (some (b))))), some (.inl k7), some (.inl k8), a9]) (st' := [.inr (.inr (.inl (some (b)))), .inl v26]) (h' := h) rfl ?_
            refine wq_gi (p' := 59) rfl rfl (congrArg Prod.fst (ib_k0 E.1)) rfl (eb_y E) ?_
            refine wq_k2 (p' := 62) rfl rfl ⟨by omega, by omega⟩ ⟨by omega, by omega⟩ (fun c29 => ?_) (fun c30 => ?_)
            · have c29 : v26 ≠ mo := c29
              refine av_wp_seq 2 (pc' := 21) (lv' := [some (.inr (.inr (.inl (some (b))))), some (.inl k7), some (.inl (k8 + (1))), a9]) (st' := []) (h' := h) rfl ?_
              exact I12 _ (by omega) (k7) ((k8 + (1))) (a9) la9 (by rw [show Int.toNat ((k8 + (1))) = Int.toNat k8 + 1 by omega, rpv_m e27 (by omega)]; exact g15) (by omega) (by omega) (by omega) rfl
            · have c30 : v26 = mo := c30
              refine av_wp_seq 3 (pc' := 65) (lv' := [some (.inr (.inr (.inl (some (b))))), some (.inl k7), some (.inl k8), a9]) (st' := [.inr (.inr (.inl (some (b)))), .inl k8, .inr (.inr (.inl (some (b))))]) (h' := h) rfl ?_
              refine wq_gr (p' := 68) rfl rfl (congrArg Prod.fst (ib_k0 E.1)) rfl (ib_r E.1) ?_
              refine av_wp_seq 1 (pc' := 70) (lv' := [some (.inr (.inr (.inl (some (b))))), some (.inl k7), some (.inl k8), a9]) (st' := [.inl (12), .inr (.inr (.inl (some (r)))), .inl k8, .inr (.inr (.inl (some (b))))]) (h' := h) rfl ?_
              obtain ⟨v32, e33⟩ : ∃ v, ro 12 = v := ⟨_, rfl⟩
              have g31 := eb_rv E 12
              rw [e33] at g31
              have g34 := rl_12 R
              rw [e33] at g34
              refine wq_al (p' := 71) (n := 14) rfl rfl (ib_kr E.1) (by omega) ((congrFun (eb_ro E) _).trans e33) ?_
              refine av_wp_seq 2 (pc' := 73) (lv' := [some (.inr (.inr (.inl (some (b))))), some (.inl k7), some (.inl k8), a9]) (st' := [.inl (v32 - (1)), .inl k8, .inr (.inr (.inl (some (b))))]) (h' := h) rfl ?_
              refine wq_cv (p' := 76) (av_qc (.invokevirtual 115) 6 2 0 0) 3 cd_6 [.inl (v32 - (1)), .inl k8] (b) 0 [some (.inr (.inr (.inl (some (b))))), some (.inl k8), some (.inl (v32 - (1)))] rfl rfl rfl pp_6 rfl rfl rfl (congrArg Prod.fst (ib_k0 E.1)) rfl rfl rfl rfl ?_
              refine cx_6 E F (k8) (by omega) ((v32 - (1))) (by omega) ?_
              rw [hof_c (a := a) rfl (by omega)]
              obtain ⟨v35, e36⟩ : ∃ v, hw a (Int.toNat (k8)) (v32 - (1)) = v := ⟨_, rfl⟩
              have g37 := hw_r H (k := Int.toNat (k8)) (by omega) (v32 - (1))
              rw [e36] at g37
              rw [e36]
              show av_wp _ cd_20 76 [some (.inr (.inr (.inl (some (b))))), some (.inl k7), some (.inl k8), a9] [.inl v35] h _
              refine av_wp_seq 3 (pc' := 79) (lv' := [some (.inr (.inr (.inl (some (b))))), some (.inl k7), some (.inl k8), some (.inl v35)]) (st' := [.inl (-1), .inl v35]) (h' := h) rfl ?_
              refine wq_k2 (p' := 82) rfl rfl ⟨by omega, by omega⟩ ⟨by omega, by omega⟩ (fun c38 => ?_) (fun c39 => ?_)
              · have c38 : v35 ≠ (-1) := c38
                refine av_wp_seq 2 (pc' := 88) (lv' := [some (.inr (.inr (.inl (some (b))))), some (.inl k7), some (.inl k8), some (.inl v35)]) (st' := [.inl v35, .inl k7]) (h' := h) rfl ?_
                refine wq_mn (p' := 91) rfl rfl rfl (fun _ _ => rfl) rfl (fun v40 e41 e42 => ?_)
                have e42 := e42 ⟨by omega, by omega⟩ ⟨by omega, by omega⟩
                refine av_wp_seq 3 (pc' := 21) (lv' := [some (.inr (.inr (.inl (some (b))))), some (.inl v40), some (.inl (k8 + (1))), some (.inl v35)]) (st' := []) (h' := h) rfl ?_
                exact I12 _ (by omega) (v40) ((k8 + (1))) (some (.inl v35)) rfl (by rw [show Int.toNat ((k8 + (1))) = Int.toNat k8 + 1 by omega, rpv_y e22 (by omega) e27 (by omega) (show hw a (Int.toNat k8) (ro 12 - 1) = v35 by rw [e33]; exact e36) (by omega), g15]; unfold mn2; split <;> omega) (by omega) (by omega) (by omega) rfl
              · have c39 : v35 = (-1) := c39
                refine av_wp_seq 5 (pc' := 21) (lv' := [some (.inr (.inr (.inl (some (b))))), some (.inl k7), some (.inl (k8 + (1))), some (.inl v35)]) (st' := []) (h' := h) rfl ?_
                exact I12 _ (by omega) (k7) ((k8 + (1))) (some (.inl v35)) rfl (by rw [show Int.toNat ((k8 + (1))) = Int.toNat k8 + 1 by omega, rpv_h (show hw a (Int.toNat k8) (ro 12 - 1) = v35 by rw [e33]; exact e36) (by omega)]; exact g15) (by omega) (by omega) (by omega) rfl
    exact L11 _ ((9999)) ((0)) (none) rfl rfl (by omega) (by omega) (by omega) rfl
  · have c6 : v2 = (0) := c6
    refine av_wp_seq 1 (pc' := 11) (lv' := [some (.inr (.inr (.inl (some (b))))), none, none, none]) (st' := [.inr (.inr (.inl (some (b))))]) (h' := h) rfl ?_
    refine wq_gi (p' := 14) rfl rfl (congrArg Prod.fst (ib_k0 E.1)) rfl (eb_z E) ?_
    refine av_wp_ret (v := some (.inl ma)) rfl rfl rfl ?_
    exact hq _ (by show ma = (if ro 12 = 0 then ma else _); rw [if_pos (e3.trans (by omega))])

set_option maxRecDepth 100000 in
set_option maxHeartbeats 4000000 in
theorem cx_19 {g h : av_H} {b t c s r : Nat} {cb : Int} {u ro : Nat → Int} {a : Nat → Nat → Int} {mb mo ma : Int} (E : EB b t c s r cb u ro a mb mo ma h) (F : FN b g h) (H : HBd s a) (R : RLW ro) (qm : -1 ≤ ma ∧ ma ≤ 9999) (hm : (ma = 9999 ∧ mo = -1) ∨ (ma ≠ 9999 ∧ (0 ≤ mo ∧ mo < (s : Int)))) (w : Int) (qw : 0 ≤ w ∧ w ≤ 2147483647) {Q : Option av_V → av_H → Prop} (hq : ∀ v : Int, v = bev u ro a s (mb, mo, ma) w → Q (some (.inl v)) h) : av_wp none cd_19 0 [some (.inr (.inr (.inl (some (b))))), some (.inl w), none, none] [] h Q := by
  have s12 := co_s12 (ib_co E.1)
  have cbr := co_cbr (ib_co E.1)
  have mbr := eb_xr E
  have mor := eb_yr E
  refine av_wp_seq 1 (pc' := 1) (lv' := [some (.inr (.inr (.inl (some (b))))), some (.inl w), none, none]) (st' := [.inr (.inr (.inl (some (b))))]) (h' := h) rfl ?_
  refine wq_cv (p' := 4) (av_qc (.invokevirtual 142) 3 0 0 0) 1 cd_3 [] (b) 0 [some (.inr (.inr (.inl (some (b)))))] rfl rfl rfl pp_3 rfl rfl rfl (congrArg Prod.fst (ib_k0 E.1)) rfl rfl rfl rfl ?_
  refine cx_3 E F qm (fun v1 p2 => ?_)
  show av_wp _ cd_19 4 [some (.inr (.inr (.inl (some (b))))), some (.inl w), none, none] [.inl v1] h _
  refine wq_k1 (p' := 7) rfl rfl ⟨by omega, by omega⟩ (fun c3 => ?_) (fun c4 => ?_)
  · have c3 : v1 ≠ (0) := c3
    refine av_wp_seq 1 (pc' := 10) (lv' := [some (.inr (.inr (.inl (some (b))))), some (.inl w), none, none]) (st' := [.inr (.inr (.inl (some (b))))]) (h' := h) rfl ?_
    refine wq_cv (p' := 13) (av_qc (.invokevirtual 146) 20 0 0 0) 4 cd_20 [] (b) 0 [some (.inr (.inr (.inl (some (b))))), none, none, none] rfl rfl rfl pp_20 rfl rfl rfl (congrArg Prod.fst (ib_k0 E.1)) rfl rfl rfl rfl ?_
    refine cx_20 E F H R qm (fun v5 p6 => ?_)
    have g7 := rpx_r (u := u) (ro := ro) (mb := mb) (mo := mo) H qm
    rw [← p6] at g7
    show av_wp _ cd_19 13 [some (.inr (.inr (.inl (some (b))))), some (.inl w), none, none] [.inl v5] h _
    refine av_wp_seq 3 (pc' := 18) (lv' := [some (.inr (.inr (.inl (some (b))))), some (.inl w), some (.inl v5), none]) (st' := [.inl (9999), .inl v5]) (h' := h) rfl ?_
    refine wq_k2 (p' := 21) rfl rfl ⟨by omega, by omega⟩ ⟨by omega, by omega⟩ (fun c8 => ?_) (fun c9 => ?_)
    · have c8 : v5 = (9999) := c8
      refine av_wp_seq 3 (pc' := 40) (lv' := [some (.inr (.inr (.inl (some (b))))), some (.inl w), some (.inl v5), some (.inl (0))]) (st' := [.inr (.inr (.inl (some (b))))]) (h' := h) rfl ?_
      refine wq_gr (p' := 43) rfl rfl (congrArg Prod.fst (ib_k0 E.1)) rfl (ib_t E.1) ?_
      refine av_wp_seq 1 (pc' := 44) (lv' := [some (.inr (.inr (.inl (some (b))))), some (.inl w), some (.inl v5), some (.inl (0))]) (st' := [.inr (.inr (.inl (some (b)))), .inr (.inr (.inl (some (t))))]) (h' := h) rfl ?_
      refine wq_gi (p' := 47) rfl rfl (congrArg Prod.fst (ib_k0 E.1)) rfl (eb_y E) ?_
      refine av_wp_seq 3 (pc' := 56) (lv' := [some (.inr (.inr (.inl (some (b))))), some (.inl w), some (.inl v5), some (.inl (0))]) (st' := [.inl (1), .inl mo, .inr (.inr (.inl (some (t))))]) (h' := h) rfl ?_
      refine wq_cv (p' := 59) (av_qc (.invokevirtual 74) 29 2 0 1) 3 cd_29 [.inl (1), .inl mo] (t) 1 [some (.inr (.inr (.inl (some (t))))), some (.inl mo), some (.inl (1))] rfl rfl rfl pp_29 rfl rfl rfl (congrArg Prod.fst (co_kt (ib_co E.1))) rfl rfl rfl rfl ?_
      refine xc_29b (ib_co E.1) (mo) (by omega) 1 (by omega) rfl (fun z10 => ?_) (fun z11 z12 v13 e14 => ?_)
      · show av_wp _ cd_19 59 [some (.inr (.inr (.inl (some (b))))), some (.inl w), some (.inl v5), some (.inl (0))] [.inl (-1)] h _
        refine av_wp_ret (v := some (.inl (-1))) rfl rfl rfl ?_
        exfalso
        omega
      · rw [eb_u E] at e14
        have g15 := eb_uv E (21 * Int.toNat (mo) + 1)
        rw [e14] at g15
        show av_wp _ cd_19 59 [some (.inr (.inr (.inl (some (b))))), some (.inl w), some (.inl v5), some (.inl (0))] [.inl v13] h _
        refine av_wp_ret (v := some (.inl v13)) rfl rfl rfl ?_
        exact hq _ (by show _ = (if ma = 9999 then -1 else if rpx u ro a s (mb, mo, ma) ≠ 9999 ∧ rpx u ro a s (mb, mo, ma) ≤ w ∧ ma ≤ w then u (21 * Int.toNat mo + 2) else u (21 * Int.toNat mo + 1)); rw [if_neg (by omega), ← p6, if_neg (by omega)]; exact e14.symm)
    · have c9 : v5 ≠ (9999) := c9
      refine av_wp_seq 3 (pc' := 24) (lv' := [some (.inr (.inr (.inl (some (b))))), some (.inl w), some (.inl v5), none]) (st' := [.inr (.inr (.inl (some (b)))), .inl v5, .inl w]) (h' := h) rfl ?_
      refine wq_gi (p' := 27) rfl rfl (congrArg Prod.fst (ib_k0 E.1)) rfl (eb_z E) ?_
      refine wq_mx (p' := 30) rfl rfl rfl (fun _ _ => rfl) rfl (fun v16 e17 e18 => ?_)
      have e18 := e18 ⟨by omega, by omega⟩ ⟨by omega, by omega⟩
      refine wq_k2 (p' := 33) rfl rfl ⟨by omega, by omega⟩ ⟨by omega, by omega⟩ (fun c19 => ?_) (fun c20 => ?_)
      · have c19 : w < v16 := c19
        refine av_wp_seq 3 (pc' := 40) (lv' := [some (.inr (.inr (.inl (some (b))))), some (.inl w), some (.inl v5), some (.inl (0))]) (st' := [.inr (.inr (.inl (some (b))))]) (h' := h) rfl ?_
        refine wq_gr (p' := 43) rfl rfl (congrArg Prod.fst (ib_k0 E.1)) rfl (ib_t E.1) ?_
        refine av_wp_seq 1 (pc' := 44) (lv' := [some (.inr (.inr (.inl (some (b))))), some (.inl w), some (.inl v5), some (.inl (0))]) (st' := [.inr (.inr (.inl (some (b)))), .inr (.inr (.inl (some (t))))]) (h' := h) rfl ?_
        refine wq_gi (p' := 47) rfl rfl (congrArg Prod.fst (ib_k0 E.1)) rfl (eb_y E) ?_
        refine av_wp_seq 3 (pc' := 56) (lv' := [some (.inr (.inr (.inl (some (b))))), some (.inl w), some (.inl v5), some (.inl (0))]) (st' := [.inl (1), .inl mo, .inr (.inr (.inl (some (t))))]) (h' := h) rfl ?_
        refine wq_cv (p' := 59) (av_qc (.invokevirtual 74) 29 2 0 1) 3 cd_29 [.inl (1), .inl mo] (t) 1 [some (.inr (.inr (.inl (some (t))))), some (.inl mo), some (.inl (1))] rfl rfl rfl pp_29 rfl rfl rfl (congrArg Prod.fst (co_kt (ib_co E.1))) rfl rfl rfl rfl ?_
        refine xc_29b (ib_co E.1) (mo) (by omega) 1 (by omega) rfl (fun z21 => ?_) (fun z22 z23 v24 e25 => ?_)
        · show av_wp _ cd_19 59 [some (.inr (.inr (.inl (some (b))))), some (.inl w), some (.inl v5), some (.inl (0))] [.inl (-1)] h _
          refine av_wp_ret (v := some (.inl (-1))) rfl rfl rfl ?_
          exfalso
          omega
        · rw [eb_u E] at e25
          have g26 := eb_uv E (21 * Int.toNat (mo) + 1)
          rw [e25] at g26
          show av_wp _ cd_19 59 [some (.inr (.inr (.inl (some (b))))), some (.inl w), some (.inl v5), some (.inl (0))] [.inl v24] h _
          refine av_wp_ret (v := some (.inl v24)) rfl rfl rfl ?_
          exact hq _ (by show _ = (if ma = 9999 then -1 else if rpx u ro a s (mb, mo, ma) ≠ 9999 ∧ rpx u ro a s (mb, mo, ma) ≤ w ∧ ma ≤ w then u (21 * Int.toNat mo + 2) else u (21 * Int.toNat mo + 1)); rw [if_neg (by omega), ← p6, if_neg (by omega)]; exact e25.symm)
      · have c20 : v16 ≤ w := c20
        refine av_wp_seq 4 (pc' := 40) (lv' := [some (.inr (.inr (.inl (some (b))))), some (.inl w), some (.inl v5), some (.inl (1))]) (st' := [.inr (.inr (.inl (some (b))))]) (h' := h) rfl ?_
        refine wq_gr (p' := 43) rfl rfl (congrArg Prod.fst (ib_k0 E.1)) rfl (ib_t E.1) ?_
        refine av_wp_seq 1 (pc' := 44) (lv' := [some (.inr (.inr (.inl (some (b))))), some (.inl w), some (.inl v5), some (.inl (1))]) (st' := [.inr (.inr (.inl (some (b)))), .inr (.inr (.inl (some (t))))]) (h' := h) rfl ?_
        refine wq_gi (p' := 47) rfl rfl (congrArg Prod.fst (ib_k0 E.1)) rfl (eb_y E) ?_
        refine av_wp_seq 4 (pc' := 56) (lv' := [some (.inr (.inr (.inl (some (b))))), some (.inl w), some (.inl v5), some (.inl (1))]) (st' := [.inl (2), .inl mo, .inr (.inr (.inl (some (t))))]) (h' := h) rfl ?_
        refine wq_cv (p' := 59) (av_qc (.invokevirtual 74) 29 2 0 1) 3 cd_29 [.inl (2), .inl mo] (t) 1 [some (.inr (.inr (.inl (some (t))))), some (.inl mo), some (.inl (2))] rfl rfl rfl pp_29 rfl rfl rfl (congrArg Prod.fst (co_kt (ib_co E.1))) rfl rfl rfl rfl ?_
        refine xc_29b (ib_co E.1) (mo) (by omega) 2 (by omega) rfl (fun z27 => ?_) (fun z28 z29 v30 e31 => ?_)
        · show av_wp _ cd_19 59 [some (.inr (.inr (.inl (some (b))))), some (.inl w), some (.inl v5), some (.inl (1))] [.inl (-1)] h _
          refine av_wp_ret (v := some (.inl (-1))) rfl rfl rfl ?_
          exfalso
          omega
        · rw [eb_u E] at e31
          have g32 := eb_uv E (21 * Int.toNat (mo) + 2)
          rw [e31] at g32
          show av_wp _ cd_19 59 [some (.inr (.inr (.inl (some (b))))), some (.inl w), some (.inl v5), some (.inl (1))] [.inl v30] h _
          refine av_wp_ret (v := some (.inl v30)) rfl rfl rfl ?_
          exact hq _ (by show _ = (if ma = 9999 then -1 else if rpx u ro a s (mb, mo, ma) ≠ 9999 ∧ rpx u ro a s (mb, mo, ma) ≤ w ∧ ma ≤ w then u (21 * Int.toNat mo + 2) else u (21 * Int.toNat mo + 1)); rw [if_neg (by omega), ← p6, if_pos (by omega)]; exact e31.symm)
  · have c4 : v1 = (0) := c4
    refine av_wp_seq 1 (pc' := 8) (lv' := [some (.inr (.inr (.inl (some (b))))), some (.inl w), none, none]) (st' := [.inl (-1)]) (h' := h) rfl ?_
    refine av_wp_ret (v := some (.inl (-1))) rfl rfl rfl ?_
    exact hq _ (by show (-1 : Int) = (if ma = 9999 then -1 else _); rw [if_pos (by omega)])

set_option maxRecDepth 100000 in
set_option maxHeartbeats 4000000 in
theorem cx_111 {h : av_H} {U : Nat → Nat → Int} {S : Nat → Nat} {n : Int} {sr nd : Nat → Int} (C : CJ U S n sr nd h) (k : Int) (qk : -2147483648 ≤ k ∧ k ≤ 2147483647) (l : Int) (ql : -2147483648 ≤ l ∧ l ≤ 2147483647) (x : Int) (qx : -2147483648 ≤ x ∧ x ≤ 2147483647) (w : Int) (qw : -2147483648 ≤ w ∧ w ≤ 2147483647) (CR : CRT U S n (hF h 3 4) (fun k => hA h (6 + k))) (SU : SUA U S n (hF h 3 4) (fun k => hA h (6 + k)) sr) {Q : Option av_V → av_H → Prop} (hq : ∀ (v : Int) h' sr' nd', CJ U S n sr' nd' h' → FP 35 h h' → SUA U S n (hF h 3 4) (fun k => hA h (6 + k)) sr' → RSP (okx U S n (hF h 3 4) k l x ∧ 0 ≤ w) (-2) (bev (U (Int.toNat k)) (hA h (6 + Int.toNat l)) (arr (U (Int.toNat k)) (hA h (6 + Int.toNat l)) (bxx U S (hA h (6 + Int.toNat l)) (Int.toNat k)) x) (S (Int.toNat k)) (bgx U S (fun k => hA h (6 + k)) k l x) w) v → Q (some (.inl v)) h') : av_wp none cd_111 0 [some (.inr (.inr (.inl (some (0))))), some (.inl k), some (.inl l), some (.inl x), some (.inl w)] [] h Q := by
  have F := FP_rf 35 h
  have nr := C.2.1.2.1
  refine av_wp_seq 1 (pc' := 2) (lv' := [some (.inr (.inr (.inl (some (0))))), some (.inl k), some (.inl l), some (.inl x), some (.inl w)]) (st' := [.inl w]) (h' := h) rfl ?_
  refine wq_k1 (p' := 5) rfl rfl ⟨by omega, by omega⟩ (fun c1 => ?_) (fun c2 => ?_)
  · have c1 : w < (0) := c1
    refine av_wp_seq 1 (pc' := 20) (lv' := [some (.inr (.inr (.inl (some (0))))), some (.inl k), some (.inl l), some (.inl x), some (.inl w)]) (st' := [.inl (-2)]) (h' := h) rfl ?_
    refine av_wp_ret (v := some (.inl (-2))) rfl rfl rfl ?_
    exact hq _ h _ _ C F SU (Or.inr ⟨by unfold okx; omega, rfl⟩)
  · have c2 : (0) ≤ w := c2
    refine av_wp_seq 1 (pc' := 6) (lv' := [some (.inr (.inr (.inl (some (0))))), some (.inl k), some (.inl l), some (.inl x), some (.inl w)]) (st' := [.inr (.inr (.inl (some (0))))]) (h' := h) rfl ?_
    refine wq_gr (p' := 9) rfl rfl (congrArg Prod.fst (ly_k C.1.1 0 rfl)) rfl (ly_g C.1.1 0 5 26 rfl) ?_
    refine av_wp_seq 3 (pc' := 12) (lv' := [some (.inr (.inr (.inl (some (0))))), some (.inl k), some (.inl l), some (.inl x), some (.inl w)]) (st' := [.inl x, .inl l, .inl k, .inr (.inr (.inl (some (26))))]) (h' := h) rfl ?_
    refine wq_cv (p' := 15) (av_qc (.invokevirtual 160) 48 3 0 3) 5 cd_48 [.inl x, .inl l, .inl k] (26) 3 [some (.inr (.inr (.inl (some (26))))), some (.inl k), some (.inl l), some (.inl x), none] rfl rfl rfl pp_48 rfl rfl rfl (congrArg Prod.fst (ly_k C.1.1 26 rfl)) rfl rfl rfl rfl ?_
    refine cz_48 C (k) (by omega) (l) (by omega) (x) (by omega) CR SU (fun z3 => ?_) (fun z3 z4 z5 h6 r7 n8 t9 c10 a11 m12 m13 m14 C15 F16 U17 E18 Z19 T20 D21 B22 R23 => ?_)
    · show av_wp _ cd_111 15 [some (.inr (.inr (.inl (some (0))))), some (.inl k), some (.inl l), some (.inl x), some (.inl w)] [.inl (0)] h _
      refine av_wp_seq 2 (pc' := 20) (lv' := [some (.inr (.inr (.inl (some (0))))), some (.inl k), some (.inl l), some (.inl x), some (.inl w)]) (st' := [.inl (-2)]) (h' := h) rfl ?_
      refine av_wp_ret (v := some (.inl (-2))) rfl rfl rfl ?_
      exact hq _ h _ _ C F SU (Or.inr ⟨by unfold okx; omega, rfl⟩)
    · have b26 := bgn_f (u := U (Int.toNat k)) (ro := (hA h (6 + Int.toNat l))) (bar := (brv (U (Int.toNat k)) (srt U S (hA h (6 + Int.toNat l)) (Int.toNat k)))) (s := S (Int.toNat k)) (x := x)
      rw [B22] at b26
      have b26 : (m14 = 9999 ∧ m12 = -1 ∧ m13 = -1) ∨ (m14 < 9999 ∧ (0 ≤ m13 ∧ m13 < (S (Int.toNat k) : Int) ∧ ofv (U (Int.toNat k)) (hA h (6 + Int.toNat l)) (Int.toNat m13) ≠ 0) ∧ (m12 = -1 ∨ (0 ≤ m12 ∧ m12 < (S (Int.toNat k) : Int) ∧ ysv (U (Int.toNat k)) (hA h (6 + Int.toNat l)) (Int.toNat m12) ≠ 0))) := b26
      have g24 : (-1 ≤ m12 ∧ m12 ≤ 11) ∧ (-1 ≤ m13 ∧ m13 ≤ 11) ∧ (-1 ≤ m14 ∧ m14 ≤ 9999) := R23
      have g25 := co_s12 (ib_co E18.1)
      show av_wp _ cd_111 15 [some (.inr (.inr (.inl (some (0))))), some (.inl k), some (.inl l), some (.inl x), some (.inl w)] [.inl (1)] h6 _
      refine av_wp_seq 2 (pc' := 22) (lv' := [some (.inr (.inr (.inl (some (0))))), some (.inl k), some (.inl l), some (.inl x), some (.inl w)]) (st' := [.inr (.inr (.inl (some (0))))]) (h' := h6) rfl ?_
      refine wq_gr (p' := 25) rfl rfl (congrArg Prod.fst (ly_k C15.1.1 0 rfl)) rfl (ly_g C15.1.1 0 5 26 rfl) ?_
      refine wq_gr (p' := 28) rfl rfl (congrArg Prod.fst (ly_k C15.1.1 26 rfl)) rfl (ly_g C15.1.1 26 1 35 rfl) ?_
      refine av_wp_seq 1 (pc' := 30) (lv' := [some (.inr (.inr (.inl (some (0))))), some (.inl k), some (.inl l), some (.inl x), some (.inl w)]) (st' := [.inl w, .inr (.inr (.inl (some (35))))]) (h' := h6) rfl ?_
      refine wq_cv (p' := 33) (av_qc (.invokevirtual 219) 19 1 0 0) 4 cd_19 [.inl w] (35) 0 [some (.inr (.inr (.inl (some (35))))), some (.inl w), none, none] rfl rfl rfl pp_19 rfl rfl rfl (congrArg Prod.fst (bn_k0 C15.1.1 (Or.inl rfl))) rfl rfl rfl rfl ?_
      have g29 := arr_g (u := U (Int.toNat k)) (ro := (hA h (6 + Int.toNat l))) (bar := bxx U S (hA h (6 + Int.toNat l)) (Int.toNat k)) (by omega) D21.1 T20
      have g29h := HBd_g (CR.1 (Int.toNat k) (by omega)).2.2.2.2.2 D21.1 (by have := cbv_d (U (Int.toNat k)) (S (Int.toNat k)); omega)
      refine cx_19 E18 (FN_rf 35 h6) g29h (CR.2.2.2 l (by omega) (by omega)) (by omega) (b26.elim (fun z => Or.inl ⟨z.1, z.2.2⟩) (fun z => Or.inr ⟨by omega, z.2.1.1, z.2.1.2.1⟩)) (w) (by omega) (fun v27 p28 => ?_)
      show av_wp _ cd_111 33 [some (.inr (.inr (.inl (some (0))))), some (.inl k), some (.inl l), some (.inl x), some (.inl w)] [.inl v27] h6 _
      refine av_wp_ret (v := some (.inl v27)) rfl rfl rfl ?_
      exact hq _ h6 _ _ C15 F16 U17 (Or.inl ⟨by unfold okx; omega, by rw [show bgx U S (fun k => hA h (6 + k)) k l x = _ from B22]; exact p28.trans (bev_g g29)⟩)

