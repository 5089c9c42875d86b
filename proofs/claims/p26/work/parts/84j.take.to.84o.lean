section
/-! A BENCH TAKES A CASE, exactly -/
set_option maxRecDepth 100000 in
set_option maxHeartbeats 4000000 in
theorem cx_30 {h : av_H} {t c s : Nat} {cb : Int} (o : CO h t c s cb) (k : Int) (qk : 0 ≤ k ∧ k < (s : Int)) {Q : Option av_V → av_H → Prop} (hq : ∀ v : Int, ((v = 1 ∧ hA h c (21 * Int.toNat k + 10) = -1 ∧ hA h c (21 * Int.toNat k + 11) = -1 ∧ hA h c (21 * Int.toNat k + 12) = -1) ∨ (v = 0 ∧ (hA h c (21 * Int.toNat k + 10) ≠ -1 ∨ hA h c (21 * Int.toNat k + 11) ≠ -1 ∨ hA h c (21 * Int.toNat k + 12) ≠ -1))) → Q (some (.inl v)) h) : av_wp none cd_30 0 [some (.inr (.inr (.inl (some (t))))), some (.inl k), none] [] h Q := by
  have F := Fr1_rf h
  have g1 := co_s12 o
  have g2 := co_cbr o
  refine av_wp_sqF ck_30 10 (pc' := 13) (lv' := [some (.inr (.inr (.inl (some (t))))), some (.inl k), some (.inl (0))]) (st' := [.inl (10), .inl k, .inr (.inr (.inl (some (t))))]) (h' := h) rfl ?_
  refine wq_cv (p' := 16) (av_qc (.invokevirtual 44) 29 2 0 1) 3 cd_29 [.inl (10), .inl k] (t) 1 [some (.inr (.inr (.inl (some (t))))), some (.inl k), some (.inl (10))] (ck_30 _ _ rfl) rfl rfl pp_29 rfl rfl rfl (congrArg Prod.fst (co_kt o)) rfl rfl rfl rfl ?_
  obtain ⟨v3, e4⟩ : ∃ v, hA h c (21 * Int.toNat (k) + 10) = v := ⟨_, rfl⟩
  have g5 := co_v o (21 * Int.toNat (k) + 10)
  rw [e4] at g5
  refine xc_29 o (k) (by omega) 10 (by omega) rfl e4 ?_
  show av_wp _ cd_30 16 [some (.inr (.inr (.inl (some (t))))), some (.inl k), some (.inl (0))] [.inl v3] h _
  refine av_wp_sqF ck_30 1 (pc' := 17) (lv' := [some (.inr (.inr (.inl (some (t))))), some (.inl k), some (.inl (0))]) (st' := [.inl (-1), .inl v3]) (h' := h) rfl ?_
  refine wq_k2 (p' := 20) (ck_30 _ _ rfl) rfl ⟨by omega, by omega⟩ ⟨by omega, by omega⟩ (fun c6 => ?_) (fun c7 => ?_)
  · have c6 : v3 = (-1) := c6
    refine av_wp_sqF ck_30 10 (pc' := 13) (lv' := [some (.inr (.inr (.inl (some (t))))), some (.inl k), some (.inl (1))]) (st' := [.inl (11), .inl k, .inr (.inr (.inl (some (t))))]) (h' := h) rfl ?_
    refine wq_cv (p' := 16) (av_qc (.invokevirtual 44) 29 2 0 1) 3 cd_29 [.inl (11), .inl k] (t) 1 [some (.inr (.inr (.inl (some (t))))), some (.inl k), some (.inl (11))] (ck_30 _ _ rfl) rfl rfl pp_29 rfl rfl rfl (congrArg Prod.fst (co_kt o)) rfl rfl rfl rfl ?_
    obtain ⟨v8, e9⟩ : ∃ v, hA h c (21 * Int.toNat (k) + 11) = v := ⟨_, rfl⟩
    have g10 := co_v o (21 * Int.toNat (k) + 11)
    rw [e9] at g10
    refine xc_29 o (k) (by omega) 11 (by omega) rfl e9 ?_
    show av_wp _ cd_30 16 [some (.inr (.inr (.inl (some (t))))), some (.inl k), some (.inl (1))] [.inl v8] h _
    refine av_wp_sqF ck_30 1 (pc' := 17) (lv' := [some (.inr (.inr (.inl (some (t))))), some (.inl k), some (.inl (1))]) (st' := [.inl (-1), .inl v8]) (h' := h) rfl ?_
    refine wq_k2 (p' := 20) (ck_30 _ _ rfl) rfl ⟨by omega, by omega⟩ ⟨by omega, by omega⟩ (fun c11 => ?_) (fun c12 => ?_)
    · have c11 : v8 = (-1) := c11
      refine av_wp_sqF ck_30 10 (pc' := 13) (lv' := [some (.inr (.inr (.inl (some (t))))), some (.inl k), some (.inl (2))]) (st' := [.inl (12), .inl k, .inr (.inr (.inl (some (t))))]) (h' := h) rfl ?_
      refine wq_cv (p' := 16) (av_qc (.invokevirtual 44) 29 2 0 1) 3 cd_29 [.inl (12), .inl k] (t) 1 [some (.inr (.inr (.inl (some (t))))), some (.inl k), some (.inl (12))] (ck_30 _ _ rfl) rfl rfl pp_29 rfl rfl rfl (congrArg Prod.fst (co_kt o)) rfl rfl rfl rfl ?_
      obtain ⟨v13, e14⟩ : ∃ v, hA h c (21 * Int.toNat (k) + 12) = v := ⟨_, rfl⟩
      have g15 := co_v o (21 * Int.toNat (k) + 12)
      rw [e14] at g15
      refine xc_29 o (k) (by omega) 12 (by omega) rfl e14 ?_
      show av_wp _ cd_30 16 [some (.inr (.inr (.inl (some (t))))), some (.inl k), some (.inl (2))] [.inl v13] h _
      refine av_wp_sqF ck_30 1 (pc' := 17) (lv' := [some (.inr (.inr (.inl (some (t))))), some (.inl k), some (.inl (2))]) (st' := [.inl (-1), .inl v13]) (h' := h) rfl ?_
      refine wq_k2 (p' := 20) (ck_30 _ _ rfl) rfl ⟨by omega, by omega⟩ ⟨by omega, by omega⟩ (fun c16 => ?_) (fun c17 => ?_)
      · have c16 : v13 = (-1) := c16
        refine av_wp_sqF ck_30 6 (pc' := 29) (lv' := [some (.inr (.inr (.inl (some (t))))), some (.inl k), some (.inl (3))]) (st' := [.inl (1)]) (h' := h) rfl ?_
        refine av_wp_ret (v := some (.inl (1))) (ck_30 _ _ rfl) rfl rfl ?_
        exact hq _ (by omega)
      · have c17 : v13 ≠ (-1) := c17
        refine av_wp_sqF ck_30 1 (pc' := 21) (lv' := [some (.inr (.inr (.inl (some (t))))), some (.inl k), some (.inl (2))]) (st' := [.inl (0)]) (h' := h) rfl ?_
        refine av_wp_ret (v := some (.inl (0))) (ck_30 _ _ rfl) rfl rfl ?_
        exact hq _ (by omega)
    · have c12 : v8 ≠ (-1) := c12
      refine av_wp_sqF ck_30 1 (pc' := 21) (lv' := [some (.inr (.inr (.inl (some (t))))), some (.inl k), some (.inl (1))]) (st' := [.inl (0)]) (h' := h) rfl ?_
      refine av_wp_ret (v := some (.inl (0))) (ck_30 _ _ rfl) rfl rfl ?_
      exact hq _ (by omega)
  · have c7 : v3 ≠ (-1) := c7
    refine av_wp_sqF ck_30 1 (pc' := 21) (lv' := [some (.inr (.inr (.inl (some (t))))), some (.inl k), some (.inl (0))]) (st' := [.inl (0)]) (h' := h) rfl ?_
    refine av_wp_ret (v := some (.inl (0))) (ck_30 _ _ rfl) rfl rfl ?_
    exact hq _ (by omega)

set_option maxRecDepth 100000 in
set_option maxHeartbeats 4000000 in
theorem cx_1 {h : av_H} (I : IC h) {b : Nat} (hb : bn b) {t c s r : Nat} {cb : Int} (co : CO h t c s cb) (kr : hK h r = (20, 14)) (k2 : rwc r = true) (y : Int) (qy : 0 ≤ y ∧ y ≤ 128) {Q : Option av_V → av_H → Prop} (hq : ∀ h' a', EB b t c s r cb (hA h c) (hA h r) a' (hF h b 13) (hF h b 14) (hF h b 15) h' → FY b h h' → TKI (hA h c) (hA h r) (hA h 27) y s a' → Q none h') : av_wp none cd_1 0 [some (.inr (.inr (.inl (some (b))))), some (.inr (.inr (.inl (some (t))))), some (.inr (.inr (.inl (some (r))))), some (.inr (.inr (.inl (some (27))))), some (.inl y), none, none, none, none] [] h Q := by
  have s12 := co_s12 co
  have cbr := co_cbr co
  refine av_wp_sqF ck_1 2 (pc' := 2) (lv' := [some (.inr (.inr (.inl (some (b))))), some (.inr (.inr (.inl (some (t))))), some (.inr (.inr (.inl (some (r))))), some (.inr (.inr (.inl (some (27))))), some (.inl y), none, none, none, none]) (st' := [.inr (.inr (.inl (some t))), .inr (.inr (.inl (some b)))]) (h' := h) rfl ?_
  refine wq_pr (p' := 5) (ck_1 _ _ rfl) rfl (congrArg Prod.fst (bn_k0 I.1 hb)) rfl ?_
  refine av_wp_sqF ck_1 2 (pc' := 7) (lv' := [some (.inr (.inr (.inl (some (b))))), some (.inr (.inr (.inl (some (t))))), some (.inr (.inr (.inl (some (r))))), some (.inr (.inr (.inl (some (27))))), some (.inl y), none, none, none, none]) (st' := [.inr (.inr (.inl (some r))), .inr (.inr (.inl (some b)))]) (h' := hwG h b 12 (some t)) rfl ?_
  refine wq_pr (p' := 10) (ck_1 _ _ rfl) rfl (congrArg Prod.fst (bn_k0 I.1 hb)) rfl ?_
  obtain ⟨i2, X2⟩ := IB_set I hb co kr k2
  refine av_wp_sqF ck_1 1 (pc' := 11) (lv' := [some (.inr (.inr (.inl (some (b))))), some (.inr (.inr (.inl (some (t))))), some (.inr (.inr (.inl (some (r))))), some (.inr (.inr (.inl (some (27))))), some (.inl y), none, none, none, none]) (st' := [.inr (.inr (.inl (some b)))]) (h' := hwG (hwG h b 12 (some t)) b 11 (some r)) rfl ?_
  refine wq_gr (p' := 14) (ck_1 _ _ rfl) rfl (congrArg Prod.fst (ib_k0 i2)) rfl (ib_g i2 1 rfl) ?_
  refine av_wp_sqF ck_1 1 (pc' := 15) (lv' := [some (.inr (.inr (.inl (some (b))))), some (.inr (.inr (.inl (some (t))))), some (.inr (.inr (.inl (some (r))))), some (.inr (.inr (.inl (some (27))))), some (.inl y), none, none, none, none]) (st' := [.inl (-1), .inr (.inr (.inl (some (b + 1 + 1))))]) (h' := hwG (hwG h b 12 (some t)) b 11 (some r)) rfl ?_
  refine wq_cs (p' := 18) (av_qc (.invokestatic 63) 220 2 2 10) 4 cd_220 [.inr (.inr (.inl (some (b + 1 + 1)))), .inl (-1)] [.inl (-1), .inr (.inr (.inl (some (b + 1 + 1))))] [some (.inr (.inr (.inl (some (b + 1 + 1))))), some (.inl (-1)), none, none] (ck_1 _ _ rfl) rfl rfl pp_220 (fun _ => rfl) rfl rfl ?_
  refine ct_220 (n := 12) (ib_k i2 1 rfl) (by omega) ?_
  obtain ⟨a, E, Y4, t1⟩ := EB_take i2 X2 rfl rfl
  generalize hfil (hwG (hwG h b 12 (some t)) b 11 (some r)) (b + 1 + 1) 0 12 (-1) = h4 at E Y4 ⊢
  have F := FN_rf b h4
  have es : hA h4 27 = hA h 27 := Y4.2.1 27 (fun j hj => bn_27 hb j hj)
  generalize hA h 27 = sr at es hq
  generalize hA h c = u at E hq
  generalize hA h r = ro at E hq
  generalize hF h b 13 = mb at E hq
  generalize hF h b 14 = mo at E hq
  generalize hF h b 15 = ma at E hq
  show av_wp _ cd_1 18 [some (.inr (.inr (.inl (some (b))))), some (.inr (.inr (.inl (some (t))))), some (.inr (.inr (.inl (some (r))))), some (.inr (.inr (.inl (some (27))))), some (.inl y), none, none, none, none] [] h4 _
  refine av_wp_sqF ck_1 2 (pc' := 21) (lv' := [some (.inr (.inr (.inl (some (b))))), some (.inr (.inr (.inl (some (t))))), some (.inr (.inr (.inl (some (r))))), some (.inr (.inr (.inl (some (27))))), some (.inl y), some (.inl (0)), none, none, none]) (st' := []) (h' := h4) rfl ?_
  have L111 : ∀ (m110 : Nat) (k101 : Int) (a102 : Option av_V) (a103 : Option av_V) (a104 : Option av_V) (h105 : av_H) (a108 : Nat → Nat → Int), av_lg a102 = false → av_lg a103 = false → av_lg a104 = false → k101 ≤ (s : Int) → (0 ≤ k101 ∧ k101 ≤ 12) → EB b t c s r cb u ro a108 mb mo ma h105 → FN b h4 h105 → TKI u ro sr y (Int.toNat k101) a108 → ((s : Int) - k101).toNat = m110 → av_wp none cd_1 21 [some (.inr (.inr (.inl (some (b))))), some (.inr (.inr (.inl (some (t))))), some (.inr (.inr (.inl (some (r))))), some (.inr (.inr (.inl (some (27))))), some (.inl y), some (.inl k101), a102, a103, a104] [] h105 Q := by
    intro m110
    induction m110 using Nat.strongRecOn with
    | _ m110 I112 =>
      intro k101 a102 a103 a104 h105 a108 g114 g115 g116 g117 g118 E106 F107 X109 e113
      have la102 := g114
      have la103 := g115
      have la104 := g116
      refine av_wp_sqF ck_1 2 (pc' := 24) (lv' := [some (.inr (.inr (.inl (some (b))))), some (.inr (.inr (.inl (some (t))))), some (.inr (.inr (.inl (some (r))))), some (.inr (.inr (.inl (some (27))))), some (.inl y), some (.inl k101), a102, a103, a104]) (st' := [.inr (.inr (.inl (some (b)))), .inl k101]) (h' := h105) rfl ?_
      refine wq_gr (p' := 27) (ck_1 _ _ rfl) rfl (congrArg Prod.fst (ib_k0 E106.1)) rfl (ib_t E106.1) ?_
      refine wq_gi (p' := 30) (ck_1 _ _ rfl) rfl (congrArg Prod.fst (co_kt (ib_co E106.1))) rfl (co_s (ib_co E106.1)) ?_
      refine wq_k2 (p' := 33) (ck_1 _ _ rfl) rfl ⟨by omega, by omega⟩ ⟨by omega, by omega⟩ (fun c119 => ?_) (fun c120 => ?_)
      · have c119 : (s : Int) ≤ k101 := c119
        refine av_wp_ret (v := none) (ck_1 _ _ rfl) rfl rfl ?_
        have z121 : Int.toNat k101 = s := by omega
        rw [z121] at X109
        exact hq h105 _ E106 (FY_n Y4 F107) X109
      · have c120 : k101 < (s : Int) := c120
        refine av_wp_sqF ck_1 1 (pc' := 34) (lv' := [some (.inr (.inr (.inl (some (b))))), some (.inr (.inr (.inl (some (t))))), some (.inr (.inr (.inl (some (r))))), some (.inr (.inr (.inl (some (27))))), some (.inl y), some (.inl k101), a102, a103, a104]) (st' := [.inr (.inr (.inl (some (b))))]) (h' := h105) rfl ?_
        refine wq_gr (p' := 37) (ck_1 _ _ rfl) rfl (congrArg Prod.fst (ib_k0 E106.1)) rfl (ib_t E106.1) ?_
        refine av_wp_sqF ck_1 2 (pc' := 40) (lv' := [some (.inr (.inr (.inl (some (b))))), some (.inr (.inr (.inl (some (t))))), some (.inr (.inr (.inl (some (r))))), some (.inr (.inr (.inl (some (27))))), some (.inl y), some (.inl k101), a102, a103, a104]) (st' := [.inl (0), .inl k101, .inr (.inr (.inl (some (t))))]) (h' := h105) rfl ?_
        refine wq_cv (p' := 43) (av_qc (.invokevirtual 74) 29 2 0 1) 3 cd_29 [.inl (0), .inl k101] (t) 1 [some (.inr (.inr (.inl (some (t))))), some (.inl k101), some (.inl (0))] (ck_1 _ _ rfl) rfl rfl pp_29 rfl rfl rfl (congrArg Prod.fst (co_kt (ib_co E106.1))) rfl rfl rfl rfl ?_
        obtain ⟨v122, e123⟩ : ∃ v, u (21 * Int.toNat (k101) + 0) = v := ⟨_, rfl⟩
        have g124 := eb_uv E106 (21 * Int.toNat (k101) + 0)
        rw [e123] at g124
        refine xc_29 (ib_co E106.1) (k101) (by omega) 0 (by omega) rfl ((congrFun (eb_u E106) _).trans e123) ?_
        show av_wp _ cd_1 43 [some (.inr (.inr (.inl (some (b))))), some (.inr (.inr (.inl (some (t))))), some (.inr (.inr (.inl (some (r))))), some (.inr (.inr (.inl (some (27))))), some (.inl y), some (.inl k101), a102, a103, a104] [.inl v122] h105 _
        refine av_wp_sqF ck_1 3 (pc' := 48) (lv' := [some (.inr (.inr (.inl (some (b))))), some (.inr (.inr (.inl (some (t))))), some (.inr (.inr (.inl (some (r))))), some (.inr (.inr (.inl (some (27))))), some (.inl y), some (.inl k101), some (.inl v122), a103, a104]) (st' := [.inl (3), .inl v122]) (h' := h105) rfl ?_
        have J128 : ∀ (j125 : Int), (0 ≤ j125 ∧ j125 ≤ 1) → j125 = smv u ro (Int.toNat k101) →  av_wp none cd_1 79 [some (.inr (.inr (.inl (some (b))))), some (.inr (.inr (.inl (some (t))))), some (.inr (.inr (.inl (some (r))))), some (.inr (.inr (.inl (some (27))))), some (.inl y), some (.inl k101), some (.inl v122), a103, a104] [.inl j125] h105 Q := by
          intro j125 g126 g127
          refine av_wp_sqF ck_1 2 (pc' := 82) (lv' := [some (.inr (.inr (.inl (some (b))))), some (.inr (.inr (.inl (some (t))))), some (.inr (.inr (.inl (some (r))))), some (.inr (.inr (.inl (some (27))))), some (.inl y), some (.inl k101), some (.inl v122), some (.inl j125), a104]) (st' := [.inr (.inr (.inl (some (b))))]) (h' := h105) rfl ?_
          refine wq_gr (p' := 85) (ck_1 _ _ rfl) rfl (congrArg Prod.fst (ib_k0 E106.1)) rfl (ib_g E106.1 2 rfl) ?_
          refine av_wp_sqF ck_1 2 (pc' := 89) (lv' := [some (.inr (.inr (.inl (some (b))))), some (.inr (.inr (.inl (some (t))))), some (.inr (.inr (.inl (some (r))))), some (.inr (.inr (.inl (some (27))))), some (.inl y), some (.inl k101), some (.inl v122), some (.inl j125), a104]) (st' := [.inl v122, .inl k101, .inr (.inr (.inl (some (b + 1 + 2))))]) (h' := h105) rfl ?_
          have J132 : ∀ (j129 : Int), (0 ≤ j129 ∧ j129 ≤ 1) → j129 = ofv u ro (Int.toNat k101) →  av_wp none cd_1 108 [some (.inr (.inr (.inl (some (b))))), some (.inr (.inr (.inl (some (t))))), some (.inr (.inr (.inl (some (r))))), some (.inr (.inr (.inl (some (27))))), some (.inl y), some (.inl k101), some (.inl v122), some (.inl j125), a104] [.inl j129, .inl k101, .inr (.inr (.inl (some (b + 1 + 2))))] h105 Q := by
            intro j129 g130 g131
            refine xb_zs (p' := 109) (n := 12) rfl rfl E106 F107 2 rfl rfl (by omega) (by omega) (fun h133 E134 F135 => ?_)
            refine av_wp_sqF ck_1 1 (pc' := 110) (lv' := [some (.inr (.inr (.inl (some (b))))), some (.inr (.inr (.inl (some (t))))), some (.inr (.inr (.inl (some (r))))), some (.inr (.inr (.inl (some (27))))), some (.inl y), some (.inl k101), some (.inl v122), some (.inl j125), a104]) (st' := [.inr (.inr (.inl (some (b))))]) (h' := h133) rfl ?_
            refine wq_gr (p' := 113) (ck_1 _ _ rfl) rfl (congrArg Prod.fst (ib_k0 E134.1)) rfl (ib_g E134.1 3 rfl) ?_
            refine av_wp_sqF ck_1 3 (pc' := 118) (lv' := [some (.inr (.inr (.inl (some (b))))), some (.inr (.inr (.inl (some (t))))), some (.inr (.inr (.inl (some (r))))), some (.inr (.inr (.inl (some (27))))), some (.inl y), some (.inl k101), some (.inl v122), some (.inl j125), a104]) (st' := [.inl (2), .inl v122, .inl k101, .inr (.inr (.inl (some (b + 1 + 3))))]) (h' := h133) rfl ?_
            have J139 : ∀ (j136 : Int), (0 ≤ j136 ∧ j136 ≤ 1) → j136 = ysv u ro (Int.toNat k101) →  av_wp none cd_1 149 [some (.inr (.inr (.inl (some (b))))), some (.inr (.inr (.inl (some (t))))), some (.inr (.inr (.inl (some (r))))), some (.inr (.inr (.inl (some (27))))), some (.inl y), some (.inl k101), some (.inl v122), some (.inl j125), a104] [.inl j136, .inl k101, .inr (.inr (.inl (some (b + 1 + 3))))] h133 Q := by
              intro j136 g137 g138
              refine xb_zs (p' := 150) (n := 12) rfl rfl E134 F135 3 rfl rfl (by omega) (by omega) (fun h140 E141 F142 => ?_)
              refine av_wp_sqF ck_1 1 (pc' := 151) (lv' := [some (.inr (.inr (.inl (some (b))))), some (.inr (.inr (.inl (some (t))))), some (.inr (.inr (.inl (some (r))))), some (.inr (.inr (.inl (some (27))))), some (.inl y), some (.inl k101), some (.inl v122), some (.inl j125), a104]) (st' := [.inr (.inr (.inl (some (b))))]) (h' := h140) rfl ?_
              refine wq_gr (p' := 154) (ck_1 _ _ rfl) rfl (congrArg Prod.fst (ib_k0 E141.1)) rfl (ib_t E141.1) ?_
              refine av_wp_sqF ck_1 2 (pc' := 158) (lv' := [some (.inr (.inr (.inl (some (b))))), some (.inr (.inr (.inl (some (t))))), some (.inr (.inr (.inl (some (r))))), some (.inr (.inr (.inl (some (27))))), some (.inl y), some (.inl k101), some (.inl v122), some (.inl j125), a104]) (st' := [.inl (6), .inl k101, .inr (.inr (.inl (some (t))))]) (h' := h140) rfl ?_
              refine wq_cv (p' := 161) (av_qc (.invokevirtual 74) 29 2 0 1) 3 cd_29 [.inl (6), .inl k101] (t) 1 [some (.inr (.inr (.inl (some (t))))), some (.inl k101), some (.inl (6))] (ck_1 _ _ rfl) rfl rfl pp_29 rfl rfl rfl (congrArg Prod.fst (co_kt (ib_co E141.1))) rfl rfl rfl rfl ?_
              obtain ⟨v143, e144⟩ : ∃ v, u (21 * Int.toNat (k101) + 6) = v := ⟨_, rfl⟩
              have g145 := eb_uv E141 (21 * Int.toNat (k101) + 6)
              rw [e144] at g145
              refine xc_29 (ib_co E141.1) (k101) (by omega) 6 (by omega) rfl ((congrFun (eb_u E141) _).trans e144) ?_
              show av_wp _ cd_1 161 [some (.inr (.inr (.inl (some (b))))), some (.inr (.inr (.inl (some (t))))), some (.inr (.inr (.inl (some (r))))), some (.inr (.inr (.inl (some (27))))), some (.inl y), some (.inl k101), some (.inl v122), some (.inl j125), a104] [.inl v143] h140 _
              refine av_wp_sqF ck_1 2 (pc' := 164) (lv' := [some (.inr (.inr (.inl (some (b))))), some (.inr (.inr (.inl (some (t))))), some (.inr (.inr (.inl (some (r))))), some (.inr (.inr (.inl (some (27))))), some (.inl y), some (.inl k101), some (.inl v122), some (.inl j125), some (.inl v143)]) (st' := [.inr (.inr (.inl (some (b))))]) (h' := h140) rfl ?_
              refine wq_gr (p' := 167) (ck_1 _ _ rfl) rfl (congrArg Prod.fst (ib_k0 E141.1)) rfl (ib_g E141.1 4 rfl) ?_
              refine av_wp_sqF ck_1 2 (pc' := 171) (lv' := [some (.inr (.inr (.inl (some (b))))), some (.inr (.inr (.inl (some (t))))), some (.inr (.inr (.inl (some (r))))), some (.inr (.inr (.inl (some (27))))), some (.inl y), some (.inl k101), some (.inl v122), some (.inl j125), some (.inl v143)]) (st' := [.inl v143, .inl k101, .inr (.inr (.inl (some (b + 1 + 4))))]) (h' := h140) rfl ?_
              have J149 : ∀ (j146 : Int), (0 ≤ j146 ∧ j146 ≤ 1) → j146 = ivv u sr y (Int.toNat k101) →  av_wp none cd_1 197 [some (.inr (.inr (.inl (some (b))))), some (.inr (.inr (.inl (some (t))))), some (.inr (.inr (.inl (some (r))))), some (.inr (.inr (.inl (some (27))))), some (.inl y), some (.inl k101), some (.inl v122), some (.inl j125), some (.inl v143)] [.inl j146, .inl k101, .inr (.inr (.inl (some (b + 1 + 4))))] h140 Q := by
                intro j146 g147 g148
                refine xb_zs (p' := 198) (n := 12) rfl rfl E141 F142 4 rfl rfl (by omega) (by omega) (fun h150 E151 F152 => ?_)
                refine av_wp_sqF ck_1 2 (pc' := 21) (lv' := [some (.inr (.inr (.inl (some (b))))), some (.inr (.inr (.inl (some (t))))), some (.inr (.inr (.inl (some (r))))), some (.inr (.inr (.inl (some (27))))), some (.inl y), some (.inl (k101 + (1))), some (.inl v122), some (.inl j125), some (.inl v143)]) (st' := []) (h' := h150) rfl ?_
                exact I112 _ (by omega) ((k101 + (1))) (some (.inl v122)) (some (.inl j125)) (some (.inl v143)) h150 (av_u2 (av_u2 (av_u2 a108 2 (Int.toNat (k101)) j129) 3 (Int.toNat (k101)) j136) 4 (Int.toNat (k101)) j146) rfl rfl rfl (by omega) (by omega) E151 F152 (by rw [show Int.toNat (k101 + (1)) = Int.toNat k101 + 1 by omega]; exact TKI_s X109 rfl rfl rfl g131 g138 g148) rfl
              refine wq_k1 (p' := 174) (ck_1 _ _ rfl) rfl ⟨by omega, by omega⟩ (fun c153 => ?_) (fun c154 => ?_)
              · have c153 : v143 < (0) := c153
                refine av_wp_sqF ck_1 1 (pc' := 197) (lv' := [some (.inr (.inr (.inl (some (b))))), some (.inr (.inr (.inl (some (t))))), some (.inr (.inr (.inl (some (r))))), some (.inr (.inr (.inl (some (27))))), some (.inl y), some (.inl k101), some (.inl v122), some (.inl j125), some (.inl v143)]) (st' := [.inl (0), .inl k101, .inr (.inr (.inl (some (b + 1 + 4))))]) (h' := h140) rfl ?_
                exact J149 ((0)) (by omega) (by unfold ivv; rw [e144]; split <;> omega)
              · have c154 : (0) ≤ v143 := c154
                refine av_wp_sqF ck_1 2 (pc' := 178) (lv' := [some (.inr (.inr (.inl (some (b))))), some (.inr (.inr (.inl (some (t))))), some (.inr (.inr (.inl (some (r))))), some (.inr (.inr (.inl (some (27))))), some (.inl y), some (.inl k101), some (.inl v122), some (.inl j125), some (.inl v143)]) (st' := [.inl (16), .inl v143, .inl k101, .inr (.inr (.inl (some (b + 1 + 4))))]) (h' := h140) rfl ?_
                refine wq_k2 (p' := 181) (ck_1 _ _ rfl) rfl ⟨by omega, by omega⟩ ⟨by omega, by omega⟩ (fun c155 => ?_) (fun c156 => ?_)
                · have c155 : (16) ≤ v143 := c155
                  refine av_wp_sqF ck_1 1 (pc' := 197) (lv' := [some (.inr (.inr (.inl (some (b))))), some (.inr (.inr (.inl (some (t))))), some (.inr (.inr (.inl (some (r))))), some (.inr (.inr (.inl (some (27))))), some (.inl y), some (.inl k101), some (.inl v122), some (.inl j125), some (.inl v143)]) (st' := [.inl (0), .inl k101, .inr (.inr (.inl (some (b + 1 + 4))))]) (h' := h140) rfl ?_
                  exact J149 ((0)) (by omega) (by unfold ivv; rw [e144]; split <;> omega)
                · have c156 : v143 < (16) := c156
                  refine av_wp_sqF ck_1 4 (pc' := 187) (lv' := [some (.inr (.inr (.inl (some (b))))), some (.inr (.inr (.inl (some (t))))), some (.inr (.inr (.inl (some (r))))), some (.inr (.inr (.inl (some (27))))), some (.inl y), some (.inl k101), some (.inl v122), some (.inl j125), some (.inl v143)]) (st' := [.inl (y + v143), .inr (.inr (.inl (some (27)))), .inl k101, .inr (.inr (.inl (some (b + 1 + 4))))]) (h' := h140) rfl ?_
                  obtain ⟨v158, e159⟩ : ∃ v, sr (Int.toNat ((y + v143))) = v := ⟨_, rfl⟩
                  refine wq_al (p' := 188) (n := 144) (ck_1 _ _ rfl) rfl (ly_k E141.1.1.1 27 rfl) (by omega) ((congrFun ((F142.2.1 27 (fun j hj => bn_27 hb j hj)).trans es) _).trans e159) ?_
                  refine av_wp_sqF ck_1 1 (pc' := 189) (lv' := [some (.inr (.inr (.inl (some (b))))), some (.inr (.inr (.inl (some (t))))), some (.inr (.inr (.inl (some (r))))), some (.inr (.inr (.inl (some (27))))), some (.inl y), some (.inl k101), some (.inl v122), some (.inl j125), some (.inl v143)]) (st' := [.inl (2), .inl v158, .inl k101, .inr (.inr (.inl (some (b + 1 + 4))))]) (h' := h140) rfl ?_
                  refine wq_w2 (p' := 192) (ck_1 _ _ rfl) rfl (fun c160 => ?_) (fun c161 => ?_)
                  · refine av_wp_sqF ck_1 1 (pc' := 197) (lv' := [some (.inr (.inr (.inl (some (b))))), some (.inr (.inr (.inl (some (t))))), some (.inr (.inr (.inl (some (r))))), some (.inr (.inr (.inl (some (27))))), some (.inl y), some (.inl k101), some (.inl v122), some (.inl j125), some (.inl v143)]) (st' := [.inl (0), .inl k101, .inr (.inr (.inl (some (b + 1 + 4))))]) (h' := h140) rfl ?_
                    exact J149 ((0)) (by omega) (by unfold ivv; rw [e144, e159]; have zz := c160; simp only [av_cP, av_cN, show av_w 2 = 2 from rfl] at zz; split <;> omega)
                  · refine av_wp_sqF ck_1 2 (pc' := 197) (lv' := [some (.inr (.inr (.inl (some (b))))), some (.inr (.inr (.inl (some (t))))), some (.inr (.inr (.inl (some (r))))), some (.inr (.inr (.inl (some (27))))), some (.inl y), some (.inl k101), some (.inl v122), some (.inl j125), some (.inl v143)]) (st' := [.inl (1), .inl k101, .inr (.inr (.inl (some (b + 1 + 4))))]) (h' := h140) rfl ?_
                    exact J149 ((1)) (by omega) (by unfold ivv; rw [e144, e159]; have zz := c161; simp only [av_cP, av_cN, show av_w 2 = 2 from rfl] at zz; split <;> omega)
            refine wq_k2 (p' := 121) (ck_1 _ _ rfl) rfl ⟨by omega, by omega⟩ ⟨by omega, by omega⟩ (fun c162 => ?_) (fun c163 => ?_)
            · have c162 : v122 = (2) := c162
              refine av_wp_sqF ck_1 2 (pc' := 149) (lv' := [some (.inr (.inr (.inl (some (b))))), some (.inr (.inr (.inl (some (t))))), some (.inr (.inr (.inl (some (r))))), some (.inr (.inr (.inl (some (27))))), some (.inl y), some (.inl k101), some (.inl v122), some (.inl j125), a104]) (st' := [.inl (1), .inl k101, .inr (.inr (.inl (some (b + 1 + 3))))]) (h' := h133) rfl ?_
              exact J139 ((1)) (by omega) (by unfold ysv; split <;> omega)
            · have c163 : v122 ≠ (2) := c163
              refine av_wp_sqF ck_1 1 (pc' := 123) (lv' := [some (.inr (.inr (.inl (some (b))))), some (.inr (.inr (.inl (some (t))))), some (.inr (.inr (.inl (some (r))))), some (.inr (.inr (.inl (some (27))))), some (.inl y), some (.inl k101), some (.inl v122), some (.inl j125), a104]) (st' := [.inl j125, .inl k101, .inr (.inr (.inl (some (b + 1 + 3))))]) (h' := h133) rfl ?_
              refine wq_k1 (p' := 126) (ck_1 _ _ rfl) rfl ⟨by omega, by omega⟩ (fun c164 => ?_) (fun c165 => ?_)
              · have c164 : j125 ≠ (0) := c164
                refine av_wp_sqF ck_1 2 (pc' := 149) (lv' := [some (.inr (.inr (.inl (some (b))))), some (.inr (.inr (.inl (some (t))))), some (.inr (.inr (.inl (some (r))))), some (.inr (.inr (.inl (some (27))))), some (.inl y), some (.inl k101), some (.inl v122), some (.inl j125), a104]) (st' := [.inl (1), .inl k101, .inr (.inr (.inl (some (b + 1 + 3))))]) (h' := h133) rfl ?_
                exact J139 ((1)) (by omega) (by unfold ysv; split <;> omega)
              · have c165 : j125 = (0) := c165
                refine av_wp_sqF ck_1 2 (pc' := 130) (lv' := [some (.inr (.inr (.inl (some (b))))), some (.inr (.inr (.inl (some (t))))), some (.inr (.inr (.inl (some (r))))), some (.inr (.inr (.inl (some (27))))), some (.inl y), some (.inl k101), some (.inl v122), some (.inl j125), a104]) (st' := [.inl (6), .inl v122, .inl k101, .inr (.inr (.inl (some (b + 1 + 3))))]) (h' := h133) rfl ?_
                refine wq_k2 (p' := 133) (ck_1 _ _ rfl) rfl ⟨by omega, by omega⟩ ⟨by omega, by omega⟩ (fun c166 => ?_) (fun c167 => ?_)
                · have c166 : v122 ≠ (6) := c166
                  refine av_wp_sqF ck_1 1 (pc' := 149) (lv' := [some (.inr (.inr (.inl (some (b))))), some (.inr (.inr (.inl (some (t))))), some (.inr (.inr (.inl (some (r))))), some (.inr (.inr (.inl (some (27))))), some (.inl y), some (.inl k101), some (.inl v122), some (.inl j125), a104]) (st' := [.inl (0), .inl k101, .inr (.inr (.inl (some (b + 1 + 3))))]) (h' := h133) rfl ?_
                  exact J139 ((0)) (by omega) (by unfold ysv; split <;> omega)
                · have c167 : v122 = (6) := c167
                  refine av_wp_sqF ck_1 1 (pc' := 134) (lv' := [some (.inr (.inr (.inl (some (b))))), some (.inr (.inr (.inl (some (t))))), some (.inr (.inr (.inl (some (r))))), some (.inr (.inr (.inl (some (27))))), some (.inl y), some (.inl k101), some (.inl v122), some (.inl j125), a104]) (st' := [.inr (.inr (.inl (some (b)))), .inl k101, .inr (.inr (.inl (some (b + 1 + 3))))]) (h' := h133) rfl ?_
                  refine wq_gr (p' := 137) (ck_1 _ _ rfl) rfl (congrArg Prod.fst (ib_k0 E134.1)) rfl (ib_r E134.1) ?_
                  refine av_wp_sqF ck_1 1 (pc' := 139) (lv' := [some (.inr (.inr (.inl (some (b))))), some (.inr (.inr (.inl (some (t))))), some (.inr (.inr (.inl (some (r))))), some (.inr (.inr (.inl (some (27))))), some (.inl y), some (.inl k101), some (.inl v122), some (.inl j125), a104]) (st' := [.inl (11), .inr (.inr (.inl (some (r)))), .inl k101, .inr (.inr (.inl (some (b + 1 + 3))))]) (h' := h133) rfl ?_
                  obtain ⟨v169, e170⟩ : ∃ v, ro 11 = v := ⟨_, rfl⟩
                  have g168 := eb_rv E134 11
                  rw [e170] at g168
                  refine wq_al (p' := 140) (n := 14) (ck_1 _ _ rfl) rfl (ib_kr E134.1) (by omega) ((congrFun (eb_ro E134) _).trans e170) ?_
                  refine av_wp_sqF ck_1 1 (pc' := 141) (lv' := [some (.inr (.inr (.inl (some (b))))), some (.inr (.inr (.inl (some (t))))), some (.inr (.inr (.inl (some (r))))), some (.inr (.inr (.inl (some (27))))), some (.inl y), some (.inl k101), some (.inl v122), some (.inl j125), a104]) (st' := [.inl (1), .inl v169, .inl k101, .inr (.inr (.inl (some (b + 1 + 3))))]) (h' := h133) rfl ?_
                  refine wq_k2 (p' := 144) (ck_1 _ _ rfl) rfl ⟨by omega, by omega⟩ ⟨by omega, by omega⟩ (fun c171 => ?_) (fun c172 => ?_)
                  · have c171 : v169 ≠ (1) := c171
                    refine av_wp_sqF ck_1 1 (pc' := 149) (lv' := [some (.inr (.inr (.inl (some (b))))), some (.inr (.inr (.inl (some (t))))), some (.inr (.inr (.inl (some (r))))), some (.inr (.inr (.inl (some (27))))), some (.inl y), some (.inl k101), some (.inl v122), some (.inl j125), a104]) (st' := [.inl (0), .inl k101, .inr (.inr (.inl (some (b + 1 + 3))))]) (h' := h133) rfl ?_
                    exact J139 ((0)) (by omega) (by unfold ysv; split <;> omega)
                  · have c172 : v169 = (1) := c172
                    refine av_wp_sqF ck_1 2 (pc' := 149) (lv' := [some (.inr (.inr (.inl (some (b))))), some (.inr (.inr (.inl (some (t))))), some (.inr (.inr (.inl (some (r))))), some (.inr (.inr (.inl (some (27))))), some (.inl y), some (.inl k101), some (.inl v122), some (.inl j125), a104]) (st' := [.inl (1), .inl k101, .inr (.inr (.inl (some (b + 1 + 3))))]) (h' := h133) rfl ?_
                    exact J139 ((1)) (by omega) (by unfold ysv; split <;> omega)
          refine wq_k1 (p' := 92) (ck_1 _ _ rfl) rfl ⟨by omega, by omega⟩ (fun c173 => ?_) (fun c174 => ?_)
          · have c173 : v122 = (0) := c173
            refine av_wp_sqF ck_1 2 (pc' := 108) (lv' := [some (.inr (.inr (.inl (some (b))))), some (.inr (.inr (.inl (some (t))))), some (.inr (.inr (.inl (some (r))))), some (.inr (.inr (.inl (some (27))))), some (.inl y), some (.inl k101), some (.inl v122), some (.inl j125), a104]) (st' := [.inl (1), .inl k101, .inr (.inr (.inl (some (b + 1 + 2))))]) (h' := h105) rfl ?_
            exact J132 ((1)) (by omega) (by unfold ofv; split <;> omega)
          · have c174 : v122 ≠ (0) := c174
            refine av_wp_sqF ck_1 2 (pc' := 95) (lv' := [some (.inr (.inr (.inl (some (b))))), some (.inr (.inr (.inl (some (t))))), some (.inr (.inr (.inl (some (r))))), some (.inr (.inr (.inl (some (27))))), some (.inl y), some (.inl k101), some (.inl v122), some (.inl j125), a104]) (st' := [.inl (3), .inl v122, .inl k101, .inr (.inr (.inl (some (b + 1 + 2))))]) (h' := h105) rfl ?_
            refine wq_k2 (p' := 98) (ck_1 _ _ rfl) rfl ⟨by omega, by omega⟩ ⟨by omega, by omega⟩ (fun c175 => ?_) (fun c176 => ?_)
            · have c175 : v122 ≠ (3) := c175
              refine av_wp_sqF ck_1 1 (pc' := 108) (lv' := [some (.inr (.inr (.inl (some (b))))), some (.inr (.inr (.inl (some (t))))), some (.inr (.inr (.inl (some (r))))), some (.inr (.inr (.inl (some (27))))), some (.inl y), some (.inl k101), some (.inl v122), some (.inl j125), a104]) (st' := [.inl (0), .inl k101, .inr (.inr (.inl (some (b + 1 + 2))))]) (h' := h105) rfl ?_
              exact J132 ((0)) (by omega) (by unfold ofv; split <;> omega)
            · have c176 : v122 = (3) := c176
              refine av_wp_sqF ck_1 1 (pc' := 100) (lv' := [some (.inr (.inr (.inl (some (b))))), some (.inr (.inr (.inl (some (t))))), some (.inr (.inr (.inl (some (r))))), some (.inr (.inr (.inl (some (27))))), some (.inl y), some (.inl k101), some (.inl v122), some (.inl j125), a104]) (st' := [.inl j125, .inl k101, .inr (.inr (.inl (some (b + 1 + 2))))]) (h' := h105) rfl ?_
              refine wq_k1 (p' := 103) (ck_1 _ _ rfl) rfl ⟨by omega, by omega⟩ (fun c177 => ?_) (fun c178 => ?_)
              · have c177 : j125 ≠ (0) := c177
                refine av_wp_sqF ck_1 1 (pc' := 108) (lv' := [some (.inr (.inr (.inl (some (b))))), some (.inr (.inr (.inl (some (t))))), some (.inr (.inr (.inl (some (r))))), some (.inr (.inr (.inl (some (27))))), some (.inl y), some (.inl k101), some (.inl v122), some (.inl j125), a104]) (st' := [.inl (0), .inl k101, .inr (.inr (.inl (some (b + 1 + 2))))]) (h' := h105) rfl ?_
                exact J132 ((0)) (by omega) (by unfold ofv; split <;> omega)
              · have c178 : j125 = (0) := c178
                refine av_wp_sqF ck_1 2 (pc' := 108) (lv' := [some (.inr (.inr (.inl (some (b))))), some (.inr (.inr (.inl (some (t))))), some (.inr (.inr (.inl (some (r))))), some (.inr (.inr (.inl (some (27))))), some (.inl y), some (.inl k101), some (.inl v122), some (.inl j125), a104]) (st' := [.inl (1), .inl k101, .inr (.inr (.inl (some (b + 1 + 2))))]) (h' := h105) rfl ?_
                exact J132 ((1)) (by omega) (by unfold ofv; split <;> omega)
        refine wq_k2 (p' := 51) (ck_1 _ _ rfl) rfl ⟨by omega, by omega⟩ ⟨by omega, by omega⟩ (fun c179 => ?_) (fun c180 => ?_)
        · have c179 : v122 ≠ (3) := c179
          refine av_wp_sqF ck_1 1 (pc' := 79) (lv' := [some (.inr (.inr (.inl (some (b))))), some (.inr (.inr (.inl (some (t))))), some (.inr (.inr (.inl (some (r))))), some (.inr (.inr (.inl (some (27))))), some (.inl y), some (.inl k101), some (.inl v122), a103, a104]) (st' := [.inl (0)]) (h' := h105) rfl ?_
          exact J128 ((0)) (by omega) (by unfold smv; split <;> omega)
        · have c180 : v122 = (3) := c180
          refine av_wp_sqF ck_1 1 (pc' := 52) (lv' := [some (.inr (.inr (.inl (some (b))))), some (.inr (.inr (.inl (some (t))))), some (.inr (.inr (.inl (some (r))))), some (.inr (.inr (.inl (some (27))))), some (.inl y), some (.inl k101), some (.inl v122), a103, a104]) (st' := [.inr (.inr (.inl (some (b))))]) (h' := h105) rfl ?_
          refine wq_gr (p' := 55) (ck_1 _ _ rfl) rfl (congrArg Prod.fst (ib_k0 E106.1)) rfl (ib_r E106.1) ?_
          refine av_wp_sqF ck_1 1 (pc' := 57) (lv' := [some (.inr (.inr (.inl (some (b))))), some (.inr (.inr (.inl (some (t))))), some (.inr (.inr (.inl (some (r))))), some (.inr (.inr (.inl (some (27))))), some (.inl y), some (.inl k101), some (.inl v122), a103, a104]) (st' := [.inl (9), .inr (.inr (.inl (some (r))))]) (h' := h105) rfl ?_
          obtain ⟨v182, e183⟩ : ∃ v, ro 9 = v := ⟨_, rfl⟩
          have g181 := eb_rv E106 9
          rw [e183] at g181
          refine wq_al (p' := 58) (n := 14) (ck_1 _ _ rfl) rfl (ib_kr E106.1) (by omega) ((congrFun (eb_ro E106) _).trans e183) ?_
          refine av_wp_sqF ck_1 1 (pc' := 59) (lv' := [some (.inr (.inr (.inl (some (b))))), some (.inr (.inr (.inl (some (t))))), some (.inr (.inr (.inl (some (r))))), some (.inr (.inr (.inl (some (27))))), some (.inl y), some (.inl k101), some (.inl v122), a103, a104]) (st' := [.inl (1), .inl v182]) (h' := h105) rfl ?_
          refine wq_k2 (p' := 62) (ck_1 _ _ rfl) rfl ⟨by omega, by omega⟩ ⟨by omega, by omega⟩ (fun c184 => ?_) (fun c185 => ?_)
          · have c184 : v182 ≠ (1) := c184
            refine av_wp_sqF ck_1 1 (pc' := 79) (lv' := [some (.inr (.inr (.inl (some (b))))), some (.inr (.inr (.inl (some (t))))), some (.inr (.inr (.inl (some (r))))), some (.inr (.inr (.inl (some (27))))), some (.inl y), some (.inl k101), some (.inl v122), a103, a104]) (st' := [.inl (0)]) (h' := h105) rfl ?_
            exact J128 ((0)) (by omega) (by unfold smv; split <;> omega)
          · have c185 : v182 = (1) := c185
            refine av_wp_sqF ck_1 1 (pc' := 63) (lv' := [some (.inr (.inr (.inl (some (b))))), some (.inr (.inr (.inl (some (t))))), some (.inr (.inr (.inl (some (r))))), some (.inr (.inr (.inl (some (27))))), some (.inl y), some (.inl k101), some (.inl v122), a103, a104]) (st' := [.inr (.inr (.inl (some (b))))]) (h' := h105) rfl ?_
            refine wq_gr (p' := 66) (ck_1 _ _ rfl) rfl (congrArg Prod.fst (ib_k0 E106.1)) rfl (ib_t E106.1) ?_
            refine av_wp_sqF ck_1 1 (pc' := 68) (lv' := [some (.inr (.inr (.inl (some (b))))), some (.inr (.inr (.inl (some (t))))), some (.inr (.inr (.inl (some (r))))), some (.inr (.inr (.inl (some (27))))), some (.inl y), some (.inl k101), some (.inl v122), a103, a104]) (st' := [.inl k101, .inr (.inr (.inl (some (t))))]) (h' := h105) rfl ?_
            refine wq_cv (p' := 71) (av_qc (.invokevirtual 78) 30 1 0 1) 3 cd_30 [.inl k101] (t) 1 [some (.inr (.inr (.inl (some (t))))), some (.inl k101), none] (ck_1 _ _ rfl) rfl rfl pp_30 rfl rfl rfl (congrArg Prod.fst (co_kt (ib_co E106.1))) rfl rfl rfl rfl ?_
            refine cx_30 (ib_co E106.1) (k101) (by omega) (fun v186 p187 => ?_)
            rw [eb_u E106] at p187
            show av_wp _ cd_1 71 [some (.inr (.inr (.inl (some (b))))), some (.inr (.inr (.inl (some (t))))), some (.inr (.inr (.inl (some (r))))), some (.inr (.inr (.inl (some (27))))), some (.inl y), some (.inl k101), some (.inl v122), a103, a104] [.inl v186] h105 _
            refine wq_k1 (p' := 74) (ck_1 _ _ rfl) rfl ⟨by omega, by omega⟩ (fun c188 => ?_) (fun c189 => ?_)
            · have c188 : v186 = (0) := c188
              refine av_wp_sqF ck_1 1 (pc' := 79) (lv' := [some (.inr (.inr (.inl (some (b))))), some (.inr (.inr (.inl (some (t))))), some (.inr (.inr (.inl (some (r))))), some (.inr (.inr (.inl (some (27))))), some (.inl y), some (.inl k101), some (.inl v122), a103, a104]) (st' := [.inl (0)]) (h' := h105) rfl ?_
              exact J128 ((0)) (by omega) (by unfold smv; split <;> omega)
            · have c189 : v186 ≠ (0) := c189
              refine av_wp_sqF ck_1 2 (pc' := 79) (lv' := [some (.inr (.inr (.inl (some (b))))), some (.inr (.inr (.inl (some (t))))), some (.inr (.inr (.inl (some (r))))), some (.inr (.inr (.inl (some (27))))), some (.inl y), some (.inl k101), some (.inl v122), a103, a104]) (st' := [.inl (1)]) (h' := h105) rfl ?_
              exact J128 ((1)) (by omega) (by unfold smv; split <;> omega)
  exact L111 _ ((0)) (none) (none) (none) h4 a rfl rfl rfl (by omega) (by omega) E F (TKI_0 t1) rfl
end
section
/-! HOURS: class and reference -/
theorem hof_x {u : Nat → Int} {s : Nat} {x k w : Int} {a : Nat → Nat → Int} (H : HX u s x a) (k0 : 0 ≤ k) (ks : k < (s : Int) ∧ (s : Int) ≤ 12) (hw : 0 ≤ w ∧ w ≤ 2) : hof a k w = hrv u x (Int.toNat k) (Int.toNat w) := by
  unfold hof
  rw [if_pos (by omega), show (w * 12 + k).toNat = 12 * w.toNat + k.toNat by omega]
  exact H k.toNat (by omega) w.toNat (by omega)
theorem cc_u {h : av_H} {v : Option Nat} {t c s : Nat} {f : Nat → Int} (x : CC h v t c s f) : hA h c = ctn f s := x.2.1.2.2.2.2.2
theorem tnv_c {f : Nat → Int} {s q : Nat} : tnv (ctn f s) q = tnv f q := by
  unfold tnv
  rw [ctn_o (by omega), ctn_o (by omega), ctn_o (by omega), ctn_o (by omega)]
theorem ctn_t {f : Nat → Int} {s q : Nat} (hq : q < s) : ctn f s (21 * q + 20) = tnv (ctn f s) q := by
  rw [tnv_c]
  unfold ctn
  rw [if_pos (by omega), show (21 * q + 20) / 21 = q by omega]
/-- the reference's rows of a case as the class has them -/
def LH (u : Nat → Int) (s : Nat) (lo hi ls : Nat → Int) : Prop := ∀ k, k < s → (∀ j, j < 3 → lo (3 * k + j) = u (21 * k + 7 + j) ∧ ((u (21 * k + 15 + j) = 0 ∧ hi (3 * k + j) = lo (3 * k + j)) ∨ ((1 ≤ u (21 * k + 15 + j) ∧ u (21 * k + 15 + j) ≤ 16) ∧ hi (3 * k + j) = lo (3 * k + j) + u (21 * k + 15 + j) - 1))) ∧ ((u (21 * k + 18) = 0 ∧ ls k = 0) ∨ (u (21 * k + 18) = 2 ∧ ls k = 1)) ∧ u (21 * k + 19) = 0
theorem LH_v {u : Nat → Int} {s : Nat} {lo hi ls : Nat → Int} (H : LH u s lo hi ls) {t : Nat} (ht : t < 4 * s) : one1 (cmv lo hi ls) t = dvu u t := by
  have hk := H (t / 4) (by omega)
  unfold one1 dvu cmv
  by_cases c : t % 4 < 3
  · have h1 := hk.1 (t % 4) c
    rw [if_pos c]
    unfold mx1
    rcases h1.2 with e | e
    · rw [e.2, e.1, if_pos (by omega), if_pos (by omega)]
    · by_cases d : u (21 * (t / 4) + 15 + t % 4) < 2
      · rw [if_pos (by omega), if_neg (by omega)]
        omega
      · rw [if_neg (by omega), if_neg (by omega)]
        omega
  · have e3 : t % 4 = 3 := by omega
    rw [if_neg c, e3, show 21 * (t / 4) + 15 + 3 = 21 * (t / 4) + 18 by omega]
    unfold mx1
    rcases hk.2.1 with e | e
    · rw [e.1, e.2]
      decide
    · rw [e.1, e.2]
      decide
theorem prd_c {v w : Nat → Int} : ∀ t, (∀ q, q < t → v q = w q) → prd v t = prd w t := by
  intro t
  induction t with
  | zero => intro _; rfl
  | succ t ih =>
    intro h
    show prd v t * v t = prd w t * w t
    rw [ih (fun q hq => h q (by omega)), h t (by omega)]
theorem LH_d {u : Nat → Int} {s : Nat} {lo hi ls : Nat → Int} (H : LH u s lo hi ls) {x : Int} {t : Nat} (ht : t < 4 * s) : dgt (one1 (cmv lo hi ls)) x t = dgt (dvu u) x t := by
  unfold dgt
  rw [prd_c t (fun q hq => LH_v H (by omega)), LH_v H ht]
theorem LH_h {u : Nat → Int} {s : Nat} {lo hi ls : Nat → Int} (H : LH u s lo hi ls) {x : Int} {k i : Nat} (hk : k < s) (hi3 : i < 3) : hrq lo ls (dgt (one1 (cmv lo hi ls)) x) k i = hrv u x k i := by
  have h1 := H k hk
  have e : ∀ n, n ≤ 3 → hsl lo (dgt (one1 (cmv lo hi ls)) x) k n = hsm u (fun j => dgt (dvu u) x (4 * k + j)) k n := by
    intro n
    induction n with
    | zero => intro _; rfl
    | succ n ih =>
      intro hn
      show hsl lo (dgt (one1 (cmv lo hi ls)) x) k n + lo (3 * k + n) + dgt (one1 (cmv lo hi ls)) x (4 * k + n) = hsm u (fun j => dgt (dvu u) x (4 * k + j)) k n + u (21 * k + 7 + n) + dgt (dvu u) x (4 * k + n)
      rw [ih (by omega), (h1.1 n (by omega)).1, LH_d H (by omega)]
  unfold hrq hrv
  rw [LH_d H (show 4 * k + 3 < 4 * s by omega), e (i + 1) (by omega), h1.2.2]
  have l2 : ¬ ls k = 2 := by
    rcases h1.2.1 with z | z <;> omega
  by_cases c : dgt (dvu u) x (4 * k + 3) = 1 ∧ 1 ≤ i
  · rw [if_pos ⟨Or.inr c.1, c.2⟩, if_pos ⟨Or.inr c.1, c.2⟩]
  · rw [if_neg (fun z => z.1.elim l2 (fun y => c ⟨y, z.2⟩)), if_neg (fun z => z.1.elim (fun y => by omega) (fun y => c ⟨y, z.2⟩))]
/-! combos -/
def cap (x : Int) : Int := if 1024 < x then 1025 else x
theorem cap_m {x m : Int} (hx : 1 ≤ x) (hm : 1 ≤ m) : cap (cap x * m) = cap (x * m) := by
  unfold cap
  by_cases c : 1024 < x
  · have h1 : 1025 * 1 ≤ 1025 * m := Int.mul_le_mul_of_nonneg_left hm (by omega)
    have h2 : x * 1 ≤ x * m := Int.mul_le_mul_of_nonneg_left hm (by omega)
    rw [if_pos c, if_pos (by omega), if_pos (by omega)]
  · rw [if_neg c]
theorem cap_r {x : Int} (hx : 1 ≤ x) : 1 ≤ cap x ∧ cap x ≤ 1025 := by
  unfold cap
  split <;> omega
theorem cmf_c {lo hi ls : Nat → Int} : ∀ t, (1 ≤ cmf lo hi ls t ∧ cmf lo hi ls t ≤ 1025) ∧ cmf lo hi ls (t + 1) = cap (cmf lo hi ls t * one1 (cmv lo hi ls) t) := by
  have st : ∀ t, (1 ≤ cmf lo hi ls t ∧ cmf lo hi ls t ≤ 1025) → cmf lo hi ls (t + 1) = cap (cmf lo hi ls t * one1 (cmv lo hi ls) t) := by
    intro t h
    show (if cmv lo hi ls t < 2 then cmf lo hi ls t else if 1024 < cmf lo hi ls t * cmv lo hi ls t then 1025 else cmf lo hi ls t * cmv lo hi ls t) = _
    unfold one1 cap
    by_cases c : cmv lo hi ls t < 2
    · rw [if_pos c, if_pos c, Int.mul_one]
      split <;> omega
    · rw [if_neg c, if_neg c]
  intro t
  induction t with
  | zero =>
    have h : 1 ≤ cmf lo hi ls 0 ∧ cmf lo hi ls 0 ≤ 1025 := by show (1 : Int) ≤ 1 ∧ (1 : Int) ≤ 1025; omega
    exact ⟨h, st 0 h⟩
  | succ t ih =>
    have h : 1 ≤ cmf lo hi ls (t + 1) ∧ cmf lo hi ls (t + 1) ≤ 1025 := by
      rw [ih.2]
      have h1 : 1 * 1 ≤ cmf lo hi ls t * one1 (cmv lo hi ls) t := Int.mul_le_mul ih.1.1 (one1_p _ t) (by omega) (by omega)
      exact cap_r (by omega)
    exact ⟨h, st (t + 1) h⟩
theorem LH_c {u : Nat → Int} {s : Nat} {lo hi ls : Nat → Int} (H : LH u s lo hi ls) : ∀ k, k ≤ s → cmf lo hi ls (4 * k) = cbf u k := by
  intro k
  induction k with
  | zero => intro _; rfl
  | succ k ih =>
    intro hk
    have i1 := ih (by omega)
    have c0 := cmf_c (lo := lo) (hi := hi) (ls := ls) (4 * k)
    have c1 := cmf_c (lo := lo) (hi := hi) (ls := ls) (4 * k + 1)
    have c2 := cmf_c (lo := lo) (hi := hi) (ls := ls) (4 * k + 2)
    have c3 := cmf_c (lo := lo) (hi := hi) (ls := ls) (4 * k + 3)
    have g : ∀ j, j < 4 → one1 (cmv lo hi ls) (4 * k + j) = mvu u k j := fun j hj => (LH_v H (by omega)).trans (dvu_i hj)
    have hm : ∀ j, 1 ≤ mvu u k j := fun j => mx1_p _
    have h0 := hm 0
    have h1 := hm 1
    have h2 := hm 2
    have b0 := c0.1.1
    have p0 : 1 ≤ cmf lo hi ls (4 * k) * mvu u k 0 := by
      have q : 1 * 1 ≤ cmf lo hi ls (4 * k) * mvu u k 0 := Int.mul_le_mul b0 h0 (by omega) (by omega)
      omega
    have p1 : 1 ≤ cmf lo hi ls (4 * k) * mvu u k 0 * mvu u k 1 := by
      have q : 1 * 1 ≤ cmf lo hi ls (4 * k) * mvu u k 0 * mvu u k 1 := Int.mul_le_mul p0 h1 (by omega) (by omega)
      omega
    have p2 : 1 ≤ cmf lo hi ls (4 * k) * mvu u k 0 * mvu u k 1 * mvu u k 2 := by
      have q : 1 * 1 ≤ cmf lo hi ls (4 * k) * mvu u k 0 * mvu u k 1 * mvu u k 2 := Int.mul_le_mul p1 h2 (by omega) (by omega)
      omega
    have e : cmf lo hi ls (4 * (k + 1)) = cap (cmf lo hi ls (4 * k) * mvu u k 0 * mvu u k 1 * mvu u k 2 * mvu u k 3) := by
      rw [show 4 * (k + 1) = 4 * k + 3 + 1 by omega, c3.2, show 4 * k + 3 = 4 * k + 2 + 1 by omega, c2.2, show 4 * k + 2 = 4 * k + 1 + 1 by omega, c1.2, c0.2, show one1 (cmv lo hi ls) (4 * k) = mvu u k 0 from g 0 (by omega), g 1 (by omega), show 4 * k + 1 + 1 = 4 * k + 2 by omega, g 2 (by omega), show 4 * k + 2 + 1 = 4 * k + 3 by omega, g 3 (by omega), cap_m p0 h1, cap_m p1 h2, cap_m p2 (hm 3)]
    rw [e, i1]
    show _ = mn2 (cbf u k * (1 * mvu u k 0 * mvu u k 1 * mvu u k 2 * mvu u k 3)) 1025
    rw [Int.one_mul, ← Int.mul_assoc, ← Int.mul_assoc, ← Int.mul_assoc]
    unfold cap mn2
    split <;> split <;> omega
theorem cbf_ct {f : Nat → Int} {s : Nat} : ∀ k, cbf (ctn f s) k = cbf f k := by
  intro k
  induction k with
  | zero => rfl
  | succ k ih =>
    show mn2 (cbf (ctn f s) k * tnv (ctn f s) k) 1025 = mn2 (cbf f k * tnv f k) 1025
    rw [ih, tnv_c]
/-! the reference's case as it was brought -/
theorem BC_g {c : Nat} {e : Nat → Nat} {g h0 h1 : av_H} (b : BC c e (hA h0) h1) (F : FM g h0) : BC c e (hA g) h1 := fun a h1 h2 i hi => by
  have z : mA (bsrc a) = false := by
    rcases (show a = 96 ∨ a = 97 ∨ a = 98 ∨ a = 99 ∨ a = 100 ∨ a = 101 ∨ a = 102 ∨ a = 103 ∨ a = 104 ∨ a = 105 ∨ a = 106 by omega) with e | e | e | e | e | e | e | e | e | e | e <;> subst e <;> rfl
  rw [b a h1 h2 i hi, F.2.2.2.2.2.2 _ z]
theorem BC_z {c : Nat} {e : Nat → Nat} {A : Nat → Nat → Int} {h1 h2 : av_H} (b : BC c e A h1) (Z : ZE [107, 108] [28, 29] h1 h2) : BC c e A h2 := fun a w1 w2 i hi => by
  have z : [107, 108].elem a = false := by
    rcases (show a = 96 ∨ a = 97 ∨ a = 98 ∨ a = 99 ∨ a = 100 ∨ a = 101 ∨ a = 102 ∨ a = 103 ∨ a = 104 ∨ a = 105 ∨ a = 106 by omega) with e | e | e | e | e | e | e | e | e | e | e <;> subst e <;> rfl
  rw [Z.1 a z]
  exact b a w1 w2 i hi
def BL (A : Nat → Nat → Int) (c : Nat) (lo hi ls : Nat → Int) : Prop := (∀ i, i < 3 * (A 81 c).toNat → lo i = A 91 (36 * c + i)) ∧ (∀ i, i < 3 * (A 81 c).toNat → hi i = A 92 (36 * c + i)) ∧ ∀ i, i < (A 81 c).toNat → ls i = A 89 (12 * c + i)
theorem BL_of {A : Nat → Nat → Int} {c : Nat} {n : Int} {h : av_H} (e : A 81 c = n) (b : BC c (fun a => bmul a * n.toNat) A h) : BL A c (hA h 105) (hA h 106) (hA h 98) := by
  subst e
  refine ⟨fun i hi => ?_, fun i hi => ?_, fun i hi => ?_⟩
  · have := b 105 (by omega) (by omega) i hi
    rw [this]
    show A 91 (3 * (12 * c) + i) = _
    rw [show 3 * (12 * c) + i = 36 * c + i by omega]
  · have := b 106 (by omega) (by omega) i hi
    rw [this]
    show A 92 (3 * (12 * c) + i) = _
    rw [show 3 * (12 * c) + i = 36 * c + i by omega]
  · have := b 98 (by omega) (by omega) i (by show i < 1 * _; omega)
    rw [this]
    show A 89 (1 * (12 * c) + i) = _
    rw [show 1 * (12 * c) + i = 12 * c + i by omega]
theorem hq_w {lo ls d : Nat → Int} {N : Nat} {A : Nat → Nat → Int} {k w v : Int} (H : HQ lo ls d N A) (hk : 0 ≤ k ∧ k < (N : Int)) (hw : 0 ≤ w ∧ w ≤ 2) (p : (w = 0 ∧ v = A 109 (Int.toNat k)) ∨ (w = 1 ∧ v = A 110 (Int.toNat k)) ∨ (w ≠ 0 ∧ w ≠ 1 ∧ v = A 111 (Int.toNat k))) : v = hrq lo ls d (Int.toNat k) (Int.toNat w) := by
  have h := H k.toNat (by omega)
  rcases p with e | e | e
  · rw [e.2, e.1]; exact h.1
  · rw [e.2, e.1]; exact h.2.1
  · rw [e.2.2, show w = 2 by omega]; exact h.2.2
/-- class and reference have the same rows -/
theorem LH_of {A : Nat → Nat → Int} {c s : Nat} {f lo hi ls : Nat → Int} (B : BL A c lo hi ls) (es : A 81 c = (s : Int)) (R : ∀ j, j < s → RY (rwA A (12 * c + j)) f (j * 21)) : LH (ctn f s) s lo hi ls := by
  intro k hk
  have N : (A 81 c).toNat = s := by omega
  unfold BL at B
  rw [N] at B
  have y := R k hk rfl
  have cf : ∀ o, o < 20 → ctn f s (21 * k + o) = f (k * 21 + o) := fun o ho => by rw [ctn_o (by omega), show 21 * k + o = k * 21 + o by omega]
  refine ⟨fun j hj => ?_, ?_, ?_⟩
  · have l1 : lo (3 * k + j) = rwA A (12 * c + k) (7 + j) := by
      rw [B.1 (3 * k + j) (by omega)]
      rcases (show j = 0 ∨ j = 1 ∨ j = 2 by omega) with e | e | e <;> subst e
      · show _ = A 91 (3 * (12 * c + k) + 0)
        congr 1; omega
      · show _ = A 91 (3 * (12 * c + k) + 1)
        congr 1; omega
      · show _ = A 91 (3 * (12 * c + k) + 2)
        congr 1; omega
    have l2 : hi (3 * k + j) = rwA A (12 * c + k) (15 + j) := by
      rw [B.2.1 (3 * k + j) (by omega)]
      rcases (show j = 0 ∨ j = 1 ∨ j = 2 by omega) with e | e | e <;> subst e
      · show _ = A 92 (3 * (12 * c + k) + 0)
        congr 1; omega
      · show _ = A 92 (3 * (12 * c + k) + 1)
        congr 1; omega
      · show _ = A 92 (3 * (12 * c + k) + 2)
        congr 1; omega
    have c7 := cf (7 + j) (by omega)
    have c15 := cf (15 + j) (by omega)
    rw [show 21 * k + (7 + j) = 21 * k + 7 + j by omega, show k * 21 + (7 + j) = k * 21 + 7 + j by omega] at c7
    rw [show 21 * k + (15 + j) = 21 * k + 15 + j by omega, show k * 21 + (15 + j) = k * 21 + 15 + j by omega] at c15
    have y1 := y.1 (7 + j) (by omega) (by omega)
    rw [show k * 21 + (7 + j) = k * 21 + 7 + j by omega] at y1
    rw [l1, l2, c7, c15]
    refine ⟨y1, ?_⟩
    rcases y.2.1 j hj with e | e
    · exact Or.inl e
    · exact Or.inr ⟨⟨e.2.1, e.2.2.1⟩, e.2.2.2⟩
  · have l3 : ls k = rwA A (12 * c + k) 18 := by
      rw [B.2.2 k hk]
      show _ = A 89 (1 * (12 * c + k) + 0)
      congr 1; omega
    rw [l3, cf 18 (by omega)]
    exact y.2.2.1
  · rw [cf 19 (by omega)]
    exact y.2.2.2.1
end
section
/-! THE CLASS'S HOUR, exactly -/
set_option maxRecDepth 100000 in
set_option maxHeartbeats 4000000 in
theorem cx_47 {h : av_H} (I : IC h) {t c s : Nat} {cb : Int} (o : CO h t c s cb) (x : Int) (qx : 0 ≤ x ∧ x ≤ 1023) (k : Int) (qk : 0 ≤ k ∧ k < (s : Int)) (w : Int) (qw : 0 ≤ w ∧ w ≤ 2) (tu : ∀ q, q < s → hA h c (21 * q + 20) = tnv (hA h c) q) {Q : Option av_V → av_H → Prop} (hq : ∀ h', IC h' → FY 35 h h' → Q (some (.inl (hrv (hA h c) x (Int.toNat k) (Int.toNat w)))) h') : av_wp none cd_47 0 [some (.inr (.inr (.inl (some (26))))), some (.inr (.inr (.inl (some (t))))), some (.inl x), some (.inl k), some (.inl w)] [] h Q := by
  have F := FX_rf 35 h
  have g1 := co_s12 o
  have g2 := co_cbr o
  refine av_wp_sqF ck_47 1 (pc' := 1) (lv' := [some (.inr (.inr (.inl (some (26))))), some (.inr (.inr (.inl (some (t))))), some (.inl x), some (.inl k), some (.inl w)]) (st' := [.inr (.inr (.inl (some (26))))]) (h' := h) rfl ?_
  refine wq_gr (p' := 4) (ck_47 _ _ rfl) rfl (congrArg Prod.fst (ly_k I.1 26 rfl)) rfl (ly_g I.1 26 1 35 rfl) ?_
  refine av_wp_sqF ck_47 2 (pc' := 6) (lv' := [some (.inr (.inr (.inl (some (26))))), some (.inr (.inr (.inl (some (t))))), some (.inl x), some (.inl k), some (.inl w)]) (st' := [.inr (.inr (.inl (some (26)))), .inr (.inr (.inl (some (t)))), .inr (.inr (.inl (some (35))))]) (h' := h) rfl ?_
  refine wq_gr (p' := 9) (ck_47 _ _ rfl) rfl (congrArg Prod.fst (ly_k I.1 26 rfl)) rfl (ly_g I.1 26 7 30 rfl) ?_
  refine av_wp_sqF ck_47 1 (pc' := 10) (lv' := [some (.inr (.inr (.inl (some (26))))), some (.inr (.inr (.inl (some (t))))), some (.inl x), some (.inl k), some (.inl w)]) (st' := [.inr (.inr (.inl (some (26)))), .inr (.inr (.inl (some (30)))), .inr (.inr (.inl (some (t)))), .inr (.inr (.inl (some (35))))]) (h' := h) rfl ?_
  refine wq_gr (p' := 13) (ck_47 _ _ rfl) rfl (congrArg Prod.fst (ly_k I.1 26 rfl)) rfl (ly_g I.1 26 4 27 rfl) ?_
  refine av_wp_sqF ck_47 1 (pc' := 16) (lv' := [some (.inr (.inr (.inl (some (26))))), some (.inr (.inr (.inl (some (t))))), some (.inl x), some (.inl k), some (.inl w)]) (st' := [.inl (128), .inr (.inr (.inl (some (27)))), .inr (.inr (.inl (some (30)))), .inr (.inr (.inl (some (t)))), .inr (.inr (.inl (some (35))))]) (h' := h) rfl ?_
  refine wq_cv (p' := 19) (av_qc (.invokevirtual 64) 1 4 0 0) 9 cd_1 [.inl (128), .inr (.inr (.inl (some (27)))), .inr (.inr (.inl (some (30)))), .inr (.inr (.inl (some (t))))] (35) 0 [some (.inr (.inr (.inl (some (35))))), some (.inr (.inr (.inl (some (t))))), some (.inr (.inr (.inl (some (30))))), some (.inr (.inr (.inl (some (27))))), some (.inl (128)), none, none, none, none] (ck_47 _ _ rfl) rfl rfl pp_1 rfl rfl rfl (congrArg Prod.fst (bn_k0 I.1 (Or.inl rfl))) rfl rfl rfl rfl ?_
  refine cx_1 I (Or.inl rfl) o (ly_k I.1 30 rfl) rfl ((128)) (by omega) (fun h3 a4 E5 Y6 T7 => ?_)
  show av_wp _ cd_47 19 [some (.inr (.inr (.inl (some (26))))), some (.inr (.inr (.inl (some (t))))), some (.inl x), some (.inl k), some (.inl w)] [] h3 _
  refine av_wp_sqF ck_47 1 (pc' := 20) (lv' := [some (.inr (.inr (.inl (some (26))))), some (.inr (.inr (.inl (some (t))))), some (.inl x), some (.inl k), some (.inl w)]) (st' := [.inr (.inr (.inl (some (26))))]) (h' := h3) rfl ?_
  refine wq_gr (p' := 23) (ck_47 _ _ rfl) rfl (congrArg Prod.fst (ly_k (ib_ic E5.1).1 26 rfl)) rfl (ly_g (ib_ic E5.1).1 26 1 35 rfl) ?_
  refine av_wp_sqF ck_47 1 (pc' := 24) (lv' := [some (.inr (.inr (.inl (some (26))))), some (.inr (.inr (.inl (some (t))))), some (.inl x), some (.inl k), some (.inl w)]) (st' := [.inl x, .inr (.inr (.inl (some (35))))]) (h' := h3) rfl ?_
  refine wq_cv (p' := 27) (av_qc (.invokevirtual 68) 4 1 0 0) 6 cd_4 [.inl x] (35) 0 [some (.inr (.inr (.inl (some (35))))), some (.inl x), none, none, none, none] (ck_47 _ _ rfl) rfl rfl pp_4 rfl rfl rfl (congrArg Prod.fst (bn_k0 (ib_ic E5.1).1 (Or.inl rfl))) rfl rfl rfl rfl ?_
  refine cx_4 E5 (FN_rf 35 h3) (x) (by omega) tu (fun q hq => Or.inl (T7.1 q hq)) (fun h8 a9 E10 F11 X12 Z13 J14 => ?_)
  have Y15 := FY_n Y6 F11
  show av_wp _ cd_47 27 [some (.inr (.inr (.inl (some (26))))), some (.inr (.inr (.inl (some (t))))), some (.inl x), some (.inl k), some (.inl w)] [] h8 _
  refine av_wp_sqF ck_47 1 (pc' := 28) (lv' := [some (.inr (.inr (.inl (some (26))))), some (.inr (.inr (.inl (some (t))))), some (.inl x), some (.inl k), some (.inl w)]) (st' := [.inr (.inr (.inl (some (26))))]) (h' := h8) rfl ?_
  refine wq_gr (p' := 31) (ck_47 _ _ rfl) rfl (congrArg Prod.fst (ly_k (ib_ic E10.1).1 26 rfl)) rfl (ly_g (ib_ic E10.1).1 26 1 35 rfl) ?_
  refine av_wp_sqF ck_47 2 (pc' := 34) (lv' := [some (.inr (.inr (.inl (some (26))))), some (.inr (.inr (.inl (some (t))))), some (.inl x), some (.inl k), some (.inl w)]) (st' := [.inl w, .inl k, .inr (.inr (.inl (some (35))))]) (h' := h8) rfl ?_
  refine wq_cv (p' := 37) (av_qc (.invokevirtual 72) 6 2 0 0) 3 cd_6 [.inl w, .inl k] (35) 0 [some (.inr (.inr (.inl (some (35))))), some (.inl k), some (.inl w)] (ck_47 _ _ rfl) rfl rfl pp_6 rfl rfl rfl (congrArg Prod.fst (bn_k0 (ib_ic E10.1).1 (Or.inl rfl))) rfl rfl rfl rfl ?_
  refine cx_6 E10 (FN_rf 35 h8) (k) (by omega) (w) (by omega) ?_
  rw [hof_x X12 qk.1 (by omega) qw]
  show av_wp _ cd_47 37 [some (.inr (.inr (.inl (some (26))))), some (.inr (.inr (.inl (some (t))))), some (.inl x), some (.inl k), some (.inl w)] [.inl (hrv (hA h c) x (Int.toNat k) (Int.toNat w))] h8 _
  refine av_wp_ret (v := some (.inl (hrv (hA h c) x (Int.toNat k) (Int.toNat w)))) (ck_47 _ _ rfl) rfl rfl ?_
  exact hq h8 (ib_ic E10.1) Y15

set_option maxRecDepth 100000 in
set_option maxHeartbeats 4000000 in
theorem cx_104 {h : av_H} (I : IC h) {A : Nat → Nat → Int} (SS : SL h A 3 0) (n : Int) (qn : -2147483648 ≤ n ∧ n ≤ 2147483647) (x : Int) (qx : -2147483648 ≤ x ∧ x ≤ 2147483647) (k : Int) (qk : -2147483648 ≤ k ∧ k ≤ 2147483647) (w : Int) (qw : -2147483648 ≤ w ∧ w ≤ 2147483647) {Q : Option av_V → av_H → Prop} (hq00 : (n < 0 ∨ hF h 3 3 ≤ n) → Q (some (.inl (-2))) h) (hq0 : 0 ≤ n → n < hF h 3 3 → n ≤ 15 → ∀ t c s f, CC h (some t) t c s f → A 81 (Int.toNat n) = (s : Int) → (∀ j, j < s → RY (rwA A (12 * Int.toNat n + j)) f (j * 21)) → (k < 0 ∨ (s : Int) ≤ k ∨ x < 0 ∨ cbv f s ≤ x ∨ w < 0 ∨ 2 < w) → Q (some (.inl (-2))) h) (hq1 : 0 ≤ n → n < hF h 3 3 → n ≤ 15 → ∀ t c s f, CC h (some t) t c s f → A 81 (Int.toNat n) = (s : Int) → (∀ j, j < s → RY (rwA A (12 * Int.toNat n + j)) f (j * 21)) → (0 ≤ k ∧ k < (s : Int)) → (0 ≤ x ∧ x < cbv f s) → (0 ≤ w ∧ w ≤ 2) → ∀ h', IC h' → FY 35 h h' → Q (some (.inl (hrv (ctn f s) x (Int.toNat k) (Int.toNat w)))) h') : av_wp none cd_104 0 [some (.inr (.inr (.inl (some (0))))), some (.inl n), some (.inl x), some (.inl k), some (.inl w), none] [] h Q := by
  have F := Fr1_rf h
  refine av_wp_sqF ck_104 1 (pc' := 1) (lv' := [some (.inr (.inr (.inl (some (0))))), some (.inl n), some (.inl x), some (.inl k), some (.inl w), none]) (st' := [.inr (.inr (.inl (some (0))))]) (h' := h) rfl ?_
  refine wq_gr (p' := 4) (ck_104 _ _ rfl) rfl (congrArg Prod.fst (ly_k I.1 0 rfl)) rfl (ly_g I.1 0 1 3 rfl) ?_
  refine av_wp_sqF ck_104 1 (pc' := 5) (lv' := [some (.inr (.inr (.inl (some (0))))), some (.inl n), some (.inl x), some (.inl k), some (.inl w), none]) (st' := [.inl n, .inr (.inr (.inl (some (3))))]) (h' := h) rfl ?_
  refine wq_cv (p' := 8) (av_qc (.invokevirtual 96) 69 1 0 5) 2 cd_69 [.inl n] (3) 5 [some (.inr (.inr (.inl (some (3))))), some (.inl n)] (ck_104 _ _ rfl) rfl rfl pp_69 rfl rfl rfl (congrArg Prod.fst (ly_k I.1 3 rfl)) rfl rfl rfl rfl ?_
  refine cx_69 I SS (n) (by omega) (fun z8 => ?_) (fun z8 z9 z10 t1 c2 s3 f4 x5 x6 x7 => ?_)
  · show av_wp _ cd_104 8 [some (.inr (.inr (.inl (some (0))))), some (.inl n), some (.inl x), some (.inl k), some (.inl w), none] [.inr (.inr (.inl none))] h _
    refine av_wp_sqF ck_104 4 (pc' := 50) (lv' := [some (.inr (.inr (.inl (some (0))))), some (.inl n), some (.inl x), some (.inl k), some (.inl w), some (.inr (.inr (.inl none)))]) (st' := [.inl (-2)]) (h' := h) rfl ?_
    refine av_wp_ret (v := some (.inl (-2))) (ck_104 _ _ rfl) rfl rfl ?_
    exact hq00 (by omega)
  · have g11 := co_s12 (cs_co x5)
    have g12 := co_cbr (cs_co x5)
    show av_wp _ cd_104 8 [some (.inr (.inr (.inl (some (0))))), some (.inl n), some (.inl x), some (.inl k), some (.inl w), none] [.inr (.inr (.inl (some (t1))))] h _
    refine av_wp_sqF ck_104 5 (pc' := 18) (lv' := [some (.inr (.inr (.inl (some (0))))), some (.inl n), some (.inl x), some (.inl k), some (.inl w), some (.inr (.inr (.inl (some (t1)))))]) (st' := [.inl k, .inr (.inr (.inl (some (t1))))]) (h' := h) rfl ?_
    refine wq_cv (p' := 21) (av_qc (.invokevirtual 136) 28 1 0 1) 2 cd_28 [.inl k] (t1) 1 [some (.inr (.inr (.inl (some (t1))))), some (.inl k)] (ck_104 _ _ rfl) rfl rfl pp_28 rfl rfl rfl (congrArg Prod.fst (co_kt (cs_co x5))) rfl rfl rfl rfl ?_
    refine ct_28 (cs_co x5) (k) (by omega) (fun v13 p14 => ?_)
    show av_wp _ cd_104 21 [some (.inr (.inr (.inl (some (0))))), some (.inl n), some (.inl x), some (.inl k), some (.inl w), some (.inr (.inr (.inl (some (t1)))))] [.inl v13] h _
    refine wq_k1 (p' := 24) (ck_104 _ _ rfl) rfl ⟨by omega, by omega⟩ (fun c15 => ?_) (fun c16 => ?_)
    · have c15 : v13 = (0) := c15
      refine av_wp_sqF ck_104 1 (pc' := 50) (lv' := [some (.inr (.inr (.inl (some (0))))), some (.inl n), some (.inl x), some (.inl k), some (.inl w), some (.inr (.inr (.inl (some (t1)))))]) (st' := [.inl (-2)]) (h' := h) rfl ?_
      refine av_wp_ret (v := some (.inl (-2))) (ck_104 _ _ rfl) rfl rfl ?_
      exact hq0 z8 z9 z10 _ _ _ _ x5 x6 x7 (by omega)
    · have c16 : v13 ≠ (0) := c16
      refine av_wp_sqF ck_104 1 (pc' := 25) (lv' := [some (.inr (.inr (.inl (some (0))))), some (.inl n), some (.inl x), some (.inl k), some (.inl w), some (.inr (.inr (.inl (some (t1)))))]) (st' := [.inl x]) (h' := h) rfl ?_
      refine wq_k1 (p' := 28) (ck_104 _ _ rfl) rfl ⟨by omega, by omega⟩ (fun c17 => ?_) (fun c18 => ?_)
      · have c17 : x < (0) := c17
        refine av_wp_sqF ck_104 1 (pc' := 50) (lv' := [some (.inr (.inr (.inl (some (0))))), some (.inl n), some (.inl x), some (.inl k), some (.inl w), some (.inr (.inr (.inl (some (t1)))))]) (st' := [.inl (-2)]) (h' := h) rfl ?_
        refine av_wp_ret (v := some (.inl (-2))) (ck_104 _ _ rfl) rfl rfl ?_
        exact hq0 z8 z9 z10 _ _ _ _ x5 x6 x7 (by omega)
      · have c18 : (0) ≤ x := c18
        refine av_wp_sqF ck_104 2 (pc' := 31) (lv' := [some (.inr (.inr (.inl (some (0))))), some (.inl n), some (.inl x), some (.inl k), some (.inl w), some (.inr (.inr (.inl (some (t1)))))]) (st' := [.inr (.inr (.inl (some (t1)))), .inl x]) (h' := h) rfl ?_
        refine wq_gi (p' := 34) (ck_104 _ _ rfl) rfl (congrArg Prod.fst (co_kt (cs_co x5))) rfl (co_cb (cs_co x5)) ?_
        refine wq_k2 (p' := 37) (ck_104 _ _ rfl) rfl ⟨by omega, by omega⟩ ⟨by omega, by omega⟩ (fun c19 => ?_) (fun c20 => ?_)
        · have c19 : (cbv f4 s3) ≤ x := c19
          refine av_wp_sqF ck_104 1 (pc' := 50) (lv' := [some (.inr (.inr (.inl (some (0))))), some (.inl n), some (.inl x), some (.inl k), some (.inl w), some (.inr (.inr (.inl (some (t1)))))]) (st' := [.inl (-2)]) (h' := h) rfl ?_
          refine av_wp_ret (v := some (.inl (-2))) (ck_104 _ _ rfl) rfl rfl ?_
          exact hq0 z8 z9 z10 _ _ _ _ x5 x6 x7 (by omega)
        · have c20 : x < (cbv f4 s3) := c20
          refine av_wp_sqF ck_104 1 (pc' := 39) (lv' := [some (.inr (.inr (.inl (some (0))))), some (.inl n), some (.inl x), some (.inl k), some (.inl w), some (.inr (.inr (.inl (some (t1)))))]) (st' := [.inl w]) (h' := h) rfl ?_
          refine wq_k1 (p' := 42) (ck_104 _ _ rfl) rfl ⟨by omega, by omega⟩ (fun c21 => ?_) (fun c22 => ?_)
          · have c21 : w < (0) := c21
            refine av_wp_sqF ck_104 1 (pc' := 50) (lv' := [some (.inr (.inr (.inl (some (0))))), some (.inl n), some (.inl x), some (.inl k), some (.inl w), some (.inr (.inr (.inl (some (t1)))))]) (st' := [.inl (-2)]) (h' := h) rfl ?_
            refine av_wp_ret (v := some (.inl (-2))) (ck_104 _ _ rfl) rfl rfl ?_
            exact hq0 z8 z9 z10 _ _ _ _ x5 x6 x7 (by omega)
          · have c22 : (0) ≤ w := c22
            refine av_wp_sqF ck_104 2 (pc' := 45) (lv' := [some (.inr (.inr (.inl (some (0))))), some (.inl n), some (.inl x), some (.inl k), some (.inl w), some (.inr (.inr (.inl (some (t1)))))]) (st' := [.inl (2), .inl w]) (h' := h) rfl ?_
            refine wq_k2 (p' := 48) (ck_104 _ _ rfl) rfl ⟨by omega, by omega⟩ ⟨by omega, by omega⟩ (fun c23 => ?_) (fun c24 => ?_)
            · have c23 : w ≤ (2) := c23
              refine av_wp_sqF ck_104 1 (pc' := 52) (lv' := [some (.inr (.inr (.inl (some (0))))), some (.inl n), some (.inl x), some (.inl k), some (.inl w), some (.inr (.inr (.inl (some (t1)))))]) (st' := [.inr (.inr (.inl (some (0))))]) (h' := h) rfl ?_
              refine wq_gr (p' := 55) (ck_104 _ _ rfl) rfl (congrArg Prod.fst (ly_k I.1 0 rfl)) rfl (ly_g I.1 0 5 26 rfl) ?_
              refine av_wp_sqF ck_104 4 (pc' := 61) (lv' := [some (.inr (.inr (.inl (some (0))))), some (.inl n), some (.inl x), some (.inl k), some (.inl w), some (.inr (.inr (.inl (some (t1)))))]) (st' := [.inl w, .inl k, .inl x, .inr (.inr (.inl (some (t1)))), .inr (.inr (.inl (some (26))))]) (h' := h) rfl ?_
              refine wq_cv (p' := 64) (av_qc (.invokevirtual 149) 47 4 0 3) 5 cd_47 [.inl w, .inl k, .inl x, .inr (.inr (.inl (some (t1))))] (26) 3 [some (.inr (.inr (.inl (some (26))))), some (.inr (.inr (.inl (some (t1))))), some (.inl x), some (.inl k), some (.inl w)] (ck_104 _ _ rfl) rfl rfl pp_47 rfl rfl rfl (congrArg Prod.fst (ly_k I.1 26 rfl)) rfl rfl rfl rfl ?_
              refine cx_47 I (cs_co x5) x (by omega) k (by omega) w (by omega) (by rw [cc_u x5]; exact fun q hq => ctn_t hq) (fun h25 I26 Y27 => ?_)
              rw [cc_u x5]
              show av_wp _ cd_104 64 [some (.inr (.inr (.inl (some (0))))), some (.inl n), some (.inl x), some (.inl k), some (.inl w), some (.inr (.inr (.inl (some (t1)))))] [.inl (hrv (ctn f4 s3) x (Int.toNat k) (Int.toNat w))] h25 _
              refine av_wp_ret (v := some (.inl (hrv (ctn f4 s3) x (Int.toNat k) (Int.toNat w)))) (ck_104 _ _ rfl) rfl rfl ?_
              exact hq1 z8 z9 z10 _ _ _ _ x5 x6 x7 (by omega) (by omega) (by omega) h25 I26 Y27
            · have c24 : (2) < w := c24
              refine av_wp_sqF ck_104 1 (pc' := 50) (lv' := [some (.inr (.inr (.inl (some (0))))), some (.inl n), some (.inl x), some (.inl k), some (.inl w), some (.inr (.inr (.inl (some (t1)))))]) (st' := [.inl (-2)]) (h' := h) rfl ?_
              refine av_wp_ret (v := some (.inl (-2))) (ck_104 _ _ rfl) rfl rfl ?_
              exact hq0 z8 z9 z10 _ _ _ _ x5 x6 x7 (by omega)
end
section
/-! THE REFERENCE'S HOUR, exactly -/
set_option maxRecDepth 100000 in
set_option maxHeartbeats 4000000 in
theorem cx_188 {g h : av_H} {n a m : Int} (I : IMF n a m h) (F : FM g h) (x : Int) (qx : 0 ≤ x ∧ x ≤ 15) (qg : x < hA g 78 0) {Q : Option av_V → av_H → Prop} (hq : ∀ n' a' m' h', hA g 81 (Int.toNat x) = n' → BC (Int.toNat x) (fun a => bmul a * (n').toNat) (hA g) h' → AQL (cmv (hA h' 105) (hA h' 106) (hA h' 98)) (4 * n').toNat h' → 1 ≤ m' → m' = cmf (hA h' 105) (hA h' 106) (hA h' 98) (4 * n').toNat → IMF n' a' m' h' → FM g h' → Q none h') : av_wp none cd_188 0 [some (.inr (.inr (.inl (some (77))))), some (.inl x), none] [] h Q := by
  have gn := im_n I.1.1
  rw [I.2.1] at gn
  have ga := im_a I.1.1
  rw [I.2.2.1] at ga
  have gm := im_cm I.1.1
  rw [I.2.2.2] at gm
  refine av_wp_sqF ck_188 2 (pc' := 2) (lv' := [some (.inr (.inr (.inl (some (77))))), some (.inl x), some (.inl (0))]) (st' := []) (h' := h) rfl ?_
  have L6 : ∀ (m5 : Nat) (k1 : Int) (h2 : av_H), (0 ≤ k1 ∧ k1 ≤ 16) → IMF n a m h2 → FM g h2 → (16 - k1).toNat = m5 → av_wp none cd_188 2 [some (.inr (.inr (.inl (some (77))))), some (.inl x), some (.inl k1)] [] h2 Q := by
    intro m5
    induction m5 using Nat.strongRecOn with
    | _ m5 I7 =>
      intro k1 h2 g9 I3 F4 e8
      refine av_wp_sqF ck_188 2 (pc' := 5) (lv' := [some (.inr (.inr (.inl (some (77))))), some (.inl x), some (.inl k1)]) (st' := [.inl (16), .inl k1]) (h' := h2) rfl ?_
      refine wq_k2 (p' := 8) (ck_188 _ _ rfl) rfl ⟨by omega, by omega⟩ ⟨by omega, by omega⟩ (fun c10 => ?_) (fun c11 => ?_)
      · have c10 : (16) ≤ k1 := c10
        refine av_wp_sqF ck_188 2 (pc' := 23) (lv' := [some (.inr (.inr (.inl (some (77))))), some (.inl x), some (.inl k1)]) (st' := [.inl x, .inr (.inr (.inl (some (77))))]) (h' := h2) rfl ?_
        refine wq_cv (p' := 26) (av_qc (.invokevirtual 434) 162 1 0 8) 5 cd_162 [.inl x] (77) 8 [some (.inr (.inr (.inl (some (77))))), some (.inl x), none, none, none] (ck_188 _ _ rfl) rfl rfl pp_162 rfl rfl rfl (congrArg Prod.fst (ly_k I3.1.1.1 77 rfl)) rfl rfl rfl rfl ?_
        refine ct_162 I3.1 (x) (by have z1 := congrFun (F4.2.2.2.2.2.2 78 rfl) 0; omega) (fun n12 h13 i14 e15 b16 F17 => ?_)
        have B19 := BC_g b16.2 F4
        have B19n : hA g 81 (Int.toNat (x)) = n12 := (congrFun (F4.2.2.2.2.2.2 81 rfl) _).symm.trans b16.1
        have F18 := FM_tr F4 F17
        show av_wp _ cd_188 26 [some (.inr (.inr (.inl (some (77))))), some (.inl x), some (.inl k1)] [] h13 _
        refine av_wp_sqF ck_188 1 (pc' := 27) (lv' := [some (.inr (.inr (.inl (some (77))))), some (.inl x), some (.inl k1)]) (st' := [.inr (.inr (.inl (some (77))))]) (h' := h13) rfl ?_
        refine wq_cv (p' := 30) (av_qc (.invokevirtual 424) 163 0 0 8) 4 cd_163 [] (77) 8 [some (.inr (.inr (.inl (some (77))))), none, none, none] (ck_188 _ _ rfl) rfl rfl pp_163 rfl rfl rfl (congrArg Prod.fst (ly_k i14.1.1 77 rfl)) rfl rfl rfl rfl ?_
        refine cx_163 i14 e15 F18 (fun a20 m21 h22 z23 A24 Z25 I26 F27 => ?_)
        rw [← Z25.1 105 rfl, ← Z25.1 106 rfl, ← Z25.1 98 rfl] at z23 A24
        have B28 := BC_z B19 Z25
        show av_wp _ cd_188 30 [some (.inr (.inr (.inl (some (77))))), some (.inl x), some (.inl k1)] [] h22 _
        refine av_wp_ret (v := none) (ck_188 _ _ rfl) rfl rfl ?_
        exact hq _ _ _ h22 B19n B28 A24 z23.1 z23.2 I26 F27
      · have c11 : k1 < (16) := c11
        refine av_wp_sqF ck_188 1 (pc' := 9) (lv' := [some (.inr (.inr (.inl (some (77))))), some (.inl x), some (.inl k1)]) (st' := [.inr (.inr (.inl (some (77))))]) (h' := h2) rfl ?_
        refine wq_gr (p' := 12) (ck_188 _ _ rfl) rfl (congrArg Prod.fst (ly_k I3.1.1.1 77 rfl)) rfl (ly_g I3.1.1.1 77 54 116 rfl) ?_
        refine av_wp_sqF ck_188 2 (pc' := 14) (lv' := [some (.inr (.inr (.inl (some (77))))), some (.inl x), some (.inl k1)]) (st' := [.inl (0), .inl k1, .inr (.inr (.inl (some (116))))]) (h' := h2) rfl ?_
        refine im_zs (p' := 15) (l := 16) rfl rfl I3 F4 (ly_k I3.1.1.1 116 rfl) (by omega) (by omega) (by omega) (fun h29 I30 F31 => ?_)
        refine av_wp_sqF ck_188 2 (pc' := 2) (lv' := [some (.inr (.inr (.inl (some (77))))), some (.inl x), some (.inl (k1 + (1)))]) (st' := []) (h' := h29) rfl ?_
        exact I7 _ (by omega) ((k1 + (1))) h29 (by omega) I30 F31 rfl
  exact L6 _ ((0)) h (by omega) I F rfl

set_option maxRecDepth 100000 in
set_option maxHeartbeats 4000000 in
theorem cx_189 {g h : av_H} {n a m : Int} (I : IMF n a m h) (F : FM g h) (x : Int) (qx : -2147483648 ≤ x ∧ x ≤ 2147483647) (y : Int) (qy : -2147483648 ≤ y ∧ y ≤ 2147483647) (k : Int) (qk : -2147483648 ≤ k ∧ k ≤ 2147483647) (w : Int) (qw : -2147483648 ≤ w ∧ w ≤ 2147483647) {Q : Option av_V → av_H → Prop} (hq0 : ∀ n' a' m' h', (x < 0 ∨ hA g 78 0 ≤ x ∨ y < 0 ∨ w < 0 ∨ 2 < w) → IMF n' a' m' h' → FM g h' → Q (some (.inl (-2))) h') (hq00 : ∀ n' a' m' h' lo hi ls, ((0 ≤ x ∧ x < hA g 78 0) ∧ 0 ≤ y ∧ 0 ≤ w ∧ w ≤ 2) → BL (hA g) (Int.toNat x) lo hi ls → (1024 < cmf lo hi ls (4 * (hA g 81 (Int.toNat x)).toNat) ∨ cmf lo hi ls (4 * (hA g 81 (Int.toNat x)).toNat) ≤ y ∨ k < 0 ∨ hA g 81 (Int.toNat x) ≤ k) → IMF n' a' m' h' → FM g h' → Q (some (.inl (-2))) h') (hq1 : ∀ (v : Int) n' a' m' h' lo hi ls, (0 ≤ x ∧ x < hA g 78 0) → BL (hA g) (Int.toNat x) lo hi ls → (cmf lo hi ls (4 * (hA g 81 (Int.toNat x)).toNat) ≤ 1024 ∧ 0 ≤ y ∧ y < cmf lo hi ls (4 * (hA g 81 (Int.toNat x)).toNat)) → (0 ≤ k ∧ k < hA g 81 (Int.toNat x)) → (0 ≤ w ∧ w ≤ 2) → v = hrq lo ls (dgt (one1 (cmv lo hi ls)) y) (Int.toNat k) (Int.toNat w) → IMF n' a' m' h' → FM g h' → Q (some (.inl v)) h') : av_wp none cd_189 0 [some (.inr (.inr (.inl (some (77))))), some (.inl x), some (.inl y), some (.inl k), some (.inl w)] [] h Q := by
  have gn := im_n I.1.1
  rw [I.2.1] at gn
  have ga := im_a I.1.1
  rw [I.2.2.1] at ga
  have gm := im_cm I.1.1
  rw [I.2.2.2] at gm
  refine av_wp_sqF ck_189 2 (pc' := 2) (lv' := [some (.inr (.inr (.inl (some (77))))), some (.inl x), some (.inl y), some (.inl k), some (.inl w)]) (st' := [.inl x, .inr (.inr (.inl (some (77))))]) (h' := h) rfl ?_
  refine wq_cv (p' := 5) (av_qc (.invokevirtual 299) 149 1 0 8) 2 cd_149 [.inl x] (77) 8 [some (.inr (.inr (.inl (some (77))))), some (.inl x)] (ck_189 _ _ rfl) rfl rfl pp_149 rfl rfl rfl (congrArg Prod.fst (ly_k I.1.1.1 77 rfl)) rfl rfl rfl rfl ?_
  refine cx_149 I.1 (x) (by omega) (fun v1 p2 => ?_)
  have g3 := I.1.1.2.1.2.1
  have g4 := congrFun (F.2.2.2.2.2.2 78 rfl) 0
  show av_wp _ cd_189 5 [some (.inr (.inr (.inl (some (77))))), some (.inl x), some (.inl y), some (.inl k), some (.inl w)] [.inl v1] h _
  refine wq_k1 (p' := 8) (ck_189 _ _ rfl) rfl ⟨by omega, by omega⟩ (fun c5 => ?_) (fun c6 => ?_)
  · have c5 : v1 = (0) := c5
    refine av_wp_sqF ck_189 1 (pc' := 24) (lv' := [some (.inr (.inr (.inl (some (77))))), some (.inl x), some (.inl y), some (.inl k), some (.inl w)]) (st' := [.inl (-2)]) (h' := h) rfl ?_
    refine av_wp_ret (v := some (.inl (-2))) (ck_189 _ _ rfl) rfl rfl ?_
    exact hq0 _ _ _ h (by omega) I F
  · have c6 : v1 ≠ (0) := c6
    refine av_wp_sqF ck_189 1 (pc' := 9) (lv' := [some (.inr (.inr (.inl (some (77))))), some (.inl x), some (.inl y), some (.inl k), some (.inl w)]) (st' := [.inl y]) (h' := h) rfl ?_
    refine wq_k1 (p' := 12) (ck_189 _ _ rfl) rfl ⟨by omega, by omega⟩ (fun c7 => ?_) (fun c8 => ?_)
    · have c7 : y < (0) := c7
      refine av_wp_sqF ck_189 1 (pc' := 24) (lv' := [some (.inr (.inr (.inl (some (77))))), some (.inl x), some (.inl y), some (.inl k), some (.inl w)]) (st' := [.inl (-2)]) (h' := h) rfl ?_
      refine av_wp_ret (v := some (.inl (-2))) (ck_189 _ _ rfl) rfl rfl ?_
      exact hq0 _ _ _ h (by omega) I F
    · have c8 : (0) ≤ y := c8
      refine av_wp_sqF ck_189 3 (pc' := 16) (lv' := [some (.inr (.inr (.inl (some (77))))), some (.inl x), some (.inl y), some (.inl k), some (.inl w)]) (st' := [.inl (2), .inl (0), .inl w]) (h' := h) rfl ?_
      refine wq_cs (p' := 19) (av_qc (.invokestatic 176) 127 3 2 8) 3 cd_127 [.inl w, .inl (0), .inl (2)] [.inl (2), .inl (0), .inl w] [some (.inl w), some (.inl (0)), some (.inl (2))] (ck_189 _ _ rfl) rfl rfl pp_127 (fun _ => rfl) rfl rfl ?_
      refine ct_127 (g := h) (w) (by omega) ((0)) (by omega) ((2)) (by omega) (fun v9 p10 => ?_)
      show av_wp _ cd_189 19 [some (.inr (.inr (.inl (some (77))))), some (.inl x), some (.inl y), some (.inl k), some (.inl w)] [.inl v9] h _
      refine wq_k1 (p' := 22) (ck_189 _ _ rfl) rfl ⟨by omega, by omega⟩ (fun c11 => ?_) (fun c12 => ?_)
      · have c11 : v9 ≠ (0) := c11
        refine av_wp_sqF ck_189 2 (pc' := 27) (lv' := [some (.inr (.inr (.inl (some (77))))), some (.inl x), some (.inl y), some (.inl k), some (.inl w)]) (st' := [.inl x, .inr (.inr (.inl (some (77))))]) (h' := h) rfl ?_
        refine wq_cv (p' := 30) (av_qc (.invokevirtual 443) 188 1 0 8) 3 cd_188 [.inl x] (77) 8 [some (.inr (.inr (.inl (some (77))))), some (.inl x), none] (ck_189 _ _ rfl) rfl rfl pp_188 rfl rfl rfl (congrArg Prod.fst (ly_k I.1.1.1 77 rfl)) rfl rfl rfl rfl ?_
        refine cx_188 I F (x) (by omega) (by omega) (fun n13 a14 m15 h16 b17 B18 A19 q20 q21 I22 F23 => ?_)
        have g24 := im_n I22.1.1
        rw [I22.2.1] at g24
        have g25 := im_a I22.1.1
        rw [I22.2.2.1] at g25
        have g26 := im_cm I22.1.1
        rw [I22.2.2.2] at g26
        have L27 := BL_of b17 B18
        show av_wp _ cd_189 30 [some (.inr (.inr (.inl (some (77))))), some (.inl x), some (.inl y), some (.inl k), some (.inl w)] [] h16 _
        refine av_wp_sqF ck_189 1 (pc' := 31) (lv' := [some (.inr (.inr (.inl (some (77))))), some (.inl x), some (.inl y), some (.inl k), some (.inl w)]) (st' := [.inr (.inr (.inl (some (77))))]) (h' := h16) rfl ?_
        refine wq_cv (p' := 34) (av_qc (.invokevirtual 427) 164 0 0 8) 1 cd_164 [] (77) 8 [some (.inr (.inr (.inl (some (77)))))] (ck_189 _ _ rfl) rfl rfl pp_164 rfl rfl rfl (congrArg Prod.fst (ly_k I22.1.1.1 77 rfl)) rfl rfl rfl rfl ?_
        refine ct_164 I22 F23 (fun v28 p29 => ?_)
        show av_wp _ cd_189 34 [some (.inr (.inr (.inl (some (77))))), some (.inl x), some (.inl y), some (.inl k), some (.inl w)] [.inl v28] h16 _
        refine wq_k1 (p' := 37) (ck_189 _ _ rfl) rfl ⟨by omega, by omega⟩ (fun c30 => ?_) (fun c31 => ?_)
        · have c30 : v28 = (0) := c30
          refine av_wp_sqF ck_189 1 (pc' := 59) (lv' := [some (.inr (.inr (.inl (some (77))))), some (.inl x), some (.inl y), some (.inl k), some (.inl w)]) (st' := [.inl (-2)]) (h' := h16) rfl ?_
          refine av_wp_ret (v := some (.inl (-2))) (ck_189 _ _ rfl) rfl rfl ?_
          exact hq00 _ _ _ h16 _ _ _ (by omega) L27 (by rw [← show (4 * n13).toNat = 4 * (hA g 81 (Int.toNat x)).toNat by omega, ← q21]; omega) I22 F23
        · have c31 : v28 ≠ (0) := c31
          refine av_wp_sqF ck_189 2 (pc' := 39) (lv' := [some (.inr (.inr (.inl (some (77))))), some (.inl x), some (.inl y), some (.inl k), some (.inl w)]) (st' := [.inr (.inr (.inl (some (77)))), .inl y]) (h' := h16) rfl ?_
          refine wq_gi (p' := 42) (ck_189 _ _ rfl) rfl (congrArg Prod.fst (ly_k I22.1.1.1 77 rfl)) rfl (I22.2.2.2) ?_
          refine wq_k2 (p' := 45) (ck_189 _ _ rfl) rfl ⟨by omega, by omega⟩ ⟨by omega, by omega⟩ (fun c32 => ?_) (fun c33 => ?_)
          · have c32 : m15 ≤ y := c32
            refine av_wp_sqF ck_189 1 (pc' := 59) (lv' := [some (.inr (.inr (.inl (some (77))))), some (.inl x), some (.inl y), some (.inl k), some (.inl w)]) (st' := [.inl (-2)]) (h' := h16) rfl ?_
            refine av_wp_ret (v := some (.inl (-2))) (ck_189 _ _ rfl) rfl rfl ?_
            exact hq00 _ _ _ h16 _ _ _ (by omega) L27 (by rw [← show (4 * n13).toNat = 4 * (hA g 81 (Int.toNat x)).toNat by omega, ← q21]; omega) I22 F23
          · have c33 : y < m15 := c33
            refine av_wp_sqF ck_189 1 (pc' := 46) (lv' := [some (.inr (.inr (.inl (some (77))))), some (.inl x), some (.inl y), some (.inl k), some (.inl w)]) (st' := [.inl k]) (h' := h16) rfl ?_
            refine wq_k1 (p' := 49) (ck_189 _ _ rfl) rfl ⟨by omega, by omega⟩ (fun c34 => ?_) (fun c35 => ?_)
            · have c34 : k < (0) := c34
              refine av_wp_sqF ck_189 1 (pc' := 59) (lv' := [some (.inr (.inr (.inl (some (77))))), some (.inl x), some (.inl y), some (.inl k), some (.inl w)]) (st' := [.inl (-2)]) (h' := h16) rfl ?_
              refine av_wp_ret (v := some (.inl (-2))) (ck_189 _ _ rfl) rfl rfl ?_
              exact hq00 _ _ _ h16 _ _ _ (by omega) L27 (by rw [← show (4 * n13).toNat = 4 * (hA g 81 (Int.toNat x)).toNat by omega, ← q21]; omega) I22 F23
            · have c35 : (0) ≤ k := c35
              refine av_wp_sqF ck_189 2 (pc' := 51) (lv' := [some (.inr (.inr (.inl (some (77))))), some (.inl x), some (.inl y), some (.inl k), some (.inl w)]) (st' := [.inr (.inr (.inl (some (77)))), .inl k]) (h' := h16) rfl ?_
              refine wq_gi (p' := 54) (ck_189 _ _ rfl) rfl (congrArg Prod.fst (ly_k I22.1.1.1 77 rfl)) rfl (I22.2.1) ?_
              refine wq_k2 (p' := 57) (ck_189 _ _ rfl) rfl ⟨by omega, by omega⟩ ⟨by omega, by omega⟩ (fun c36 => ?_) (fun c37 => ?_)
              · have c36 : k < n13 := c36
                refine av_wp_sqF ck_189 2 (pc' := 62) (lv' := [some (.inr (.inr (.inl (some (77))))), some (.inl x), some (.inl y), some (.inl k), some (.inl w)]) (st' := [.inl y, .inr (.inr (.inl (some (77))))]) (h' := h16) rfl ?_
                refine wq_cv (p' := 65) (av_qc (.invokevirtual 412) 165 1 0 8) 5 cd_165 [.inl y] (77) 8 [some (.inr (.inr (.inl (some (77))))), some (.inl y), none, none, none] (ck_189 _ _ rfl) rfl rfl pp_165 rfl rfl rfl (congrArg Prod.fst (ly_k I22.1.1.1 77 rfl)) rfl rfl rfl rfl ?_
                refine cx_165 (v := cmv (hA h16 105) (hA h16 106) (hA h16 98)) I22 F23 (y) (by omega) A19.2 (I22.2.2.1.symm.trans A19.1) (fun h38 I39 F40 Z41 H42 => ?_)
                show av_wp _ cd_189 65 [some (.inr (.inr (.inl (some (77))))), some (.inl x), some (.inl y), some (.inl k), some (.inl w)] [] h38 _
                refine av_wp_sqF ck_189 3 (pc' := 69) (lv' := [some (.inr (.inr (.inl (some (77))))), some (.inl x), some (.inl y), some (.inl k), some (.inl w)]) (st' := [.inl w, .inl k, .inr (.inr (.inl (some (77))))]) (h' := h38) rfl ?_
                refine wq_cv (p' := 72) (av_qc (.invokevirtual 363) 166 2 0 8) 3 cd_166 [.inl w, .inl k] (77) 8 [some (.inr (.inr (.inl (some (77))))), some (.inl k), some (.inl w)] (ck_189 _ _ rfl) rfl rfl pp_166 rfl rfl rfl (congrArg Prod.fst (ly_k I39.1.1.1 77 rfl)) rfl rfl rfl rfl ?_
                refine cx_166 I39 F40 (k) (by omega) (w) (by omega) (fun v43 p44 => ?_)
                show av_wp _ cd_189 72 [some (.inr (.inr (.inl (some (77))))), some (.inl x), some (.inl y), some (.inl k), some (.inl w)] [.inl v43] h38 _
                refine av_wp_ret (v := some (.inl v43)) (ck_189 _ _ rfl) rfl rfl ?_
                exact hq1 _ _ _ _ h38 _ _ _ (by omega) L27 (by rw [← show (4 * n13).toNat = 4 * (hA g 81 (Int.toNat x)).toNat by omega, ← q21]; omega) (by omega) (by omega) (hq_w H42 (by omega) (by omega) p44) I39 F40
              · have c37 : n13 ≤ k := c37
                refine av_wp_sqF ck_189 1 (pc' := 59) (lv' := [some (.inr (.inr (.inl (some (77))))), some (.inl x), some (.inl y), some (.inl k), some (.inl w)]) (st' := [.inl (-2)]) (h' := h16) rfl ?_
                refine av_wp_ret (v := some (.inl (-2))) (ck_189 _ _ rfl) rfl rfl ?_
                exact hq00 _ _ _ h16 _ _ _ (by omega) L27 (by rw [← show (4 * n13).toNat = 4 * (hA g 81 (Int.toNat x)).toNat by omega, ← q21]; omega) I22 F23
      · have c12 : v9 = (0) := c12
        refine av_wp_sqF ck_189 1 (pc' := 24) (lv' := [some (.inr (.inr (.inl (some (77))))), some (.inl x), some (.inl y), some (.inl k), some (.inl w)]) (st' := [.inl (-2)]) (h' := h) rfl ?_
        refine av_wp_ret (v := some (.inl (-2))) (ck_189 _ _ rfl) rfl rfl ?_
        exact hq0 _ _ _ h (by omega) I F
end
section
/-! HOUR: class and reference give the same -/
theorem CM_of {A : Nat → Nat → Int} {c s : Nat} {f lo hi ls : Nat → Int} (B : BL A c lo hi ls) (es : A 81 c = (s : Int)) (R : ∀ j, j < s → RY (rwA A (12 * c + j)) f (j * 21)) : cmf lo hi ls (4 * (A 81 c).toNat) = cbf f s := by
  rw [show (A 81 c).toNat = s by omega, LH_c (LH_of B es R) s (Nat.le_refl s), cbf_ct]
theorem BL_c {A A' : Nat → Nat → Int} {c : Nat} {lo hi ls : Nat → Int} (e : ∀ q, 78 ≤ q → q ≤ 93 → A' q = A q) (B : BL A' c lo hi ls) : BL A c lo hi ls := by
  unfold BL at B ⊢
  rw [e 81 (by omega) (by omega), e 91 (by omega) (by omega), e 92 (by omega) (by omega), e 89 (by omega) (by omega)] at B
  exact B
theorem ox_104 {h : av_H} (B : BK h) (x1 x2 x3 x4 : Int) (q1 : -2147483648 ≤ x1 ∧ x1 ≤ 2147483647) (q2 : -2147483648 ≤ x2 ∧ x2 ≤ 2147483647) (q3 : -2147483648 ≤ x3 ∧ x3 ≤ 2147483647) (q4 : -2147483648 ≤ x4 ∧ x4 ≤ 2147483647) : av_wp none cd_104 0 [some (.inr (.inr (.inl (some (0))))), some (.inl x1), some (.inl x2), some (.inl x3), some (.inl x4), none] [] h (OPr cd_189 [some (.inr (.inr (.inl (some (77))))), some (.inl x1), some (.inl x2), some (.inl x3), some (.inl x4)] h (fun x y => x = y)) := by
  refine gd_of (fun hg => ?_)
  obtain ⟨n, a, m, M⟩ := B.2.2.1
  have S := B.2.2.2.2.1
  have c78 : hF h 3 3 = hA h 78 0 := S.1.1.1
  refine cx_104 B.1 S x1 q1 x2 q2 x3 q3 x4 q4 (fun z => ⟨_, rfl, ly_k B.1.1 77 rfl, ?_⟩) (fun z1 z2 z3 t c s f y1 y2 y3 z4 => ⟨_, rfl, ly_k B.1.1 77 rfl, ?_⟩) (fun z1 z2 z3 t c s f y1 y2 y3 z4 z5 z6 h1 I1 Y1 => ⟨_, rfl, ly_k I1.1 77 rfl, gd_of (fun hg1 => ?_)⟩)
  · exact cx_189 M (FM_rf h) x1 q1 x2 q2 x3 q3 x4 q4 (fun n' a' m' h' _ M2 F2 => ⟨_, rfl, rfl, BK_FM hg B F2 M2, RM_0 F2.1 F2.2.1⟩) (fun n' a' m' h' lo hi ls w _ _ _ _ => by exfalso; omega) (fun v n' a' m' h' lo hi ls w _ _ _ _ _ _ _ => by exfalso; omega)
  · refine cx_189 M (FM_rf h) x1 q1 x2 q2 x3 q3 x4 q4 (fun n' a' m' h' _ M2 F2 => ⟨_, rfl, rfl, BK_FM hg B F2 M2, RM_0 F2.1 F2.2.1⟩) (fun n' a' m' h' lo hi ls _ _ _ M2 F2 => ⟨_, rfl, rfl, BK_FM hg B F2 M2, RM_0 F2.1 F2.2.1⟩) (fun v n' a' m' h' lo hi ls w1 w2 w3 w4 w5 _ _ _ => ?_)
    exfalso
    have e := CM_of w2 y2 y3
    rw [e] at w3
    have ev : cbv f s = cbf f s := if_neg (by omega)
    omega
  · have e78 : ∀ q, 78 ≤ q → q ≤ 93 → hA h1 q = hA h q := fun q w1 w2 => Y1.2.1 q (fun j hj => by omega)
    have B1 := BK_Fr hg B Y1.1.1 I1
    obtain ⟨n1, a1, m1, M1⟩ := B1.2.2.1
    have f78 := congrFun (e78 78 (by omega) (by omega)) 0
    have f81 := congrFun (e78 81 (by omega) (by omega)) (Int.toNat x1)
    have ev : ∀ lo hi ls, BL (hA h1) (Int.toNat x1) lo hi ls → cmf lo hi ls (4 * (hA h1 81 (Int.toNat x1)).toNat) = cbf f s := fun lo hi ls w => by
      rw [f81]
      exact CM_of (BL_c e78 w) y2 y3
    have z5' := z5
    unfold cbv at z5'
    refine cx_189 M1 (FM_rf h1) x1 q1 x2 q2 x3 q3 x4 q4 (fun n' a' m' h' w _ _ => by exfalso; omega) (fun n' a' m' h' lo hi ls w1 w2 w3 _ _ => ?_) (fun v n' a' m' h' lo hi ls w1 w2 w3 w4 w5 w6 M2 F2 => ⟨_, rfl, ?_, BK_FM hg1 B1 F2 M2, RM_0 (F2.1.trans Y1.1.1.1) (F2.2.1.trans Y1.1.1.2.1)⟩)
    · exfalso
      rw [ev lo hi ls w2] at w3
      split at z5' <;> omega
    · rw [w6]
      exact (LH_h (LH_of (BL_c e78 w2) y2 y3) (by omega) (by omega)).symm
end
section
/-! WHAT A BENCH DECIDES: as functions of the cells u, the rules ro, the bench's first rows a -/
abbrev T3 : Type := Int × Int × Int
def hw (a : Nat → Nat → Int) (k : Nat) (w : Int) : Int := hof a (k : Int) w
def ea (t : T3) (o h w b : Int) : T3 := if o ≠ 0 ∧ h ≠ -1 ∧ (h < t.1 ∨ (h = t.1 ∧ w < t.2.1)) then (h, w, b) else t
def o5 (ro : Nat → Int) (a : Nat → Nat → Int) (k : Nat) : Int := if a 2 k ≠ 0 ∧ a 4 k = 0 then hw a k (ro 3) else -1
def e0 (u ro : Nat → Int) (a : Nat → Nat → Int) (k : Nat) : T3 := if u (21 * k + 5) ≠ -1 then ea (9999, 0, -1) (a 2 k) (u (21 * k + 5) + 1) 3 (-1) else if ro 7 ≠ -1 ∧ hw a k 1 ≠ -1 then ea (9999, 0, -1) (a 2 k) (hw a k 1 + ro 7 + 1) 4 (-1) else (9999, 0, -1)
def hB (u ro : Nat → Int) (a : Nat → Nat → Int) (k : Nat) : Int := if u (21 * k + 0) = 5 ∧ 0 ≤ u (21 * k + 3) ∧ u (21 * k + 3) < (k : Int) then hw a k (ro 4) else -1
def fre (u ro : Nat → Int) (q : Nat) : Int := if u (21 * q + 5) ≠ -1 ∧ ro 6 = 1 then u (21 * q + 5) + 1 else 0
def tbv (u ro : Nat → Int) (a : Nat → Nat → Int) (q : Nat) : Nat → Int
  | 0 => 9999
  | k + 1 => if hB u ro a k ≠ -1 ∧ u (21 * k + 3) = (q : Int) then mn2 (tbv u ro a q k) (hB u ro a k) else tbv u ro a q k
def ebv (u ro : Nat → Int) (a : Nat → Nat → Int) (q : Nat) : Nat → T3
  | 0 => e0 u ro a q
  | k + 1 => if hB u ro a k ≠ -1 ∧ u (21 * k + 3) = (q : Int) ∧ fre u ro q ≤ hB u ro a k then ea (ebv u ro a q k) (a 2 q) (hB u ro a k) 1 (k : Int) else ebv u ro a q k
def ans (u : Nat → Int) (k : Nat) : Int := if 0 ≤ u (21 * k + 3) ∧ u (21 * k + 3) < (k : Int) ∧ u (21 * k + 0) ≠ 5 ∧ u (21 * k + 0) ≠ 7 then 1 else 0
def awv (u : Nat → Int) (a : Nat → Nat → Int) (q : Nat) : Nat → Int
  | 0 => 9999
  | k + 1 => if ans u k = 1 ∧ u (21 * k + 3) = (q : Int) then mn2 (awv u a q k) (hw a k 0) else awv u a q k
def eav (u ro : Nat → Int) (a : Nat → Nat → Int) (s q : Nat) : Nat → T3
  | 0 => ebv u ro a q s
  | k + 1 => if ans u k = 1 ∧ u (21 * k + 3) = (q : Int) ∧ (u (21 * k + 0) = 4 ∨ a 2 k ≠ 0) then ea (eav u ro a s q k) (a 2 q) (hw a k (ro 5)) 2 (k : Int) else eav u ro a s q k
def yw (u ro : Nat → Int) (k : Nat) : Int := if u (21 * k + 0) = 6 then 0 else if u (21 * k + 4) < 0 ∨ 2 < u (21 * k + 4) then ro 2 else ro (u (21 * k + 4)).toNat
def opn (fr en h : Int) : Int := if h ≠ -1 ∧ fr ≠ -1 ∧ fr ≤ h ∧ h < en then 1 else 0
/-- the yes k makes a bargain before the hour m -/
def yc (u ro : Nat → Int) (a : Nat → Nat → Int) (s k : Nat) (m : Int) : Int := if a 3 k ≠ 0 ∧ 0 ≤ u (21 * k + 3) ∧ u (21 * k + 3) < (k : Int) ∧ a 2 (u (21 * k + 3)).toNat ≠ 0 ∧ hw a k (yw u ro k) < m ∧ hw a (u (21 * k + 3)).toNat 1 ≠ -1 ∧ hw a (u (21 * k + 3)).toNat 1 ≤ hw a k 0 ∧ hw a k (yw u ro k) ≤ tbv u ro a k s ∧ opn (o5 ro a (u (21 * k + 3)).toNat) (eav u ro a s (u (21 * k + 3)).toNat s).1 (hw a k (yw u ro k)) = 1 then 1 else 0
def yv (u ro : Nat → Int) (a : Nat → Nat → Int) (s : Nat) : Nat → T3
  | 0 => (-1, -1, 9999)
  | k + 1 => if yc u ro a s k (yv u ro a s k).2.2 = 1 then ((k : Int), u (21 * k + 3), hw a k (yw u ro k)) else yv u ro a s k
def slc (u ro : Nat → Int) (a : Nat → Nat → Int) (s k : Nat) (m : Int) : Int := if a 2 k ≠ 0 ∧ hw a k 2 ≠ -1 ∧ hw a k 2 + ro 8 < m ∧ hw a k 2 + ro 8 < awv u a k s ∧ opn (o5 ro a k) (eav u ro a s k s).1 (hw a k 2 + ro 8) = 1 then 1 else 0
def sv (u ro : Nat → Int) (a : Nat → Nat → Int) (s : Nat) : Nat → T3
  | 0 => yv u ro a s s
  | k + 1 => if slc u ro a s k (sv u ro a s k).2.2 = 1 then (-1, (k : Int), hw a k 2 + ro 8) else sv u ro a s k
def brg (u ro : Nat → Int) (a : Nat → Nat → Int) (s : Nat) : T3 := if ro 8 ≠ -1 then sv u ro a s s else yv u ro a s s
/-! ranges -/
def HBd (s : Nat) (a : Nat → Nat → Int) : Prop := ∀ k, k < s → ∀ i, i < 3 → -1 ≤ a 0 (12 * i + k) ∧ a 0 (12 * i + k) ≤ 5000
theorem hw_r {s : Nat} {a : Nat → Nat → Int} (h : HBd s a) {k : Nat} (hk : k < s) (w : Int) : -1 ≤ hw a k w ∧ hw a k w ≤ 5000 := by
  unfold hw hof
  split
  · have := h k hk w.toNat (by omega)
    rw [show (w * 12 + (k : Int)).toNat = 12 * w.toNat + k by omega]
    exact this
  · omega
def TR (t : T3) : Prop := (-1 ≤ t.1 ∧ t.1 ≤ 9999) ∧ (0 ≤ t.2.1 ∧ t.2.1 ≤ 4) ∧ (-1 ≤ t.2.2 ∧ t.2.2 ≤ 12)
theorem ea_r {t : T3} {o h w b : Int} (x : TR t) (hh : -1 ≤ h ∧ h ≤ 9999) (hw' : 0 ≤ w ∧ w ≤ 4) (hb : -1 ≤ b ∧ b ≤ 12) : TR (ea t o h w b) := by
  unfold ea
  split
  · exact ⟨hh, hw', hb⟩
  · exact x
section
variable {u ro : Nat → Int} {a : Nat → Nat → Int} {s : Nat}
theorem e0_r (H : HBd s a) (hu : ∀ j, u j ≤ 2000 ∨ j % 21 = 20) (hu1 : ∀ j, -1 ≤ u j) (hr : ∀ j, -2 ≤ ro j ∧ ro j ≤ 999) {q : Nat} (hq : q < s) : TR (e0 u ro a q) := by
  have b : TR ((9999, 0, -1) : T3) := by
    refine ⟨?_, ?_, ?_⟩
    · show (-1 : Int) ≤ 9999 ∧ (9999 : Int) ≤ 9999; omega
    · show (0 : Int) ≤ 0 ∧ (0 : Int) ≤ 4; omega
    · show (-1 : Int) ≤ -1 ∧ (-1 : Int) ≤ 12; omega
  have h5 := hu (21 * q + 5)
  have h51 := hu1 (21 * q + 5)
  have hc := hw_r H hq 1
  have h7 := hr 7
  unfold e0
  split
  · exact ea_r b (by omega) (by omega) (by omega)
  · split
    · exact ea_r b (by omega) (by omega) (by omega)
    · exact b
theorem hB_r (H : HBd s a) {k : Nat} (hk : k < s) : -1 ≤ hB u ro a k ∧ hB u ro a k ≤ 5000 := by
  unfold hB
  split
  · exact hw_r H hk _
  · omega
theorem tbv_r (H : HBd s a) (q : Nat) : ∀ k, k ≤ s → -1 ≤ tbv u ro a q k ∧ tbv u ro a q k ≤ 9999 := by
  intro k
  induction k with
  | zero => intro _; show (-1 : Int) ≤ 9999 ∧ (9999 : Int) ≤ 9999; omega
  | succ k ih =>
    intro hk
    have i := ih (by omega)
    have b := hB_r (u := u) (ro := ro) H (show k < s by omega)
    show -1 ≤ (if _ then mn2 (tbv u ro a q k) (hB u ro a k) else tbv u ro a q k) ∧ (if _ then mn2 (tbv u ro a q k) (hB u ro a k) else tbv u ro a q k) ≤ 9999
    unfold mn2
    split
    · split <;> omega
    · exact i
theorem ebv_r (H : HBd s a) (hu : ∀ j, u j ≤ 2000 ∨ j % 21 = 20) (hu1 : ∀ j, -1 ≤ u j) (hr : ∀ j, -2 ≤ ro j ∧ ro j ≤ 999) (hs : s ≤ 12) {q : Nat} (hq : q < s) : ∀ k, k ≤ s → TR (ebv u ro a q k) := by
  intro k
  induction k with
  | zero => intro _; exact e0_r H hu hu1 hr hq
  | succ k ih =>
    intro hk
    have i := ih (by omega)
    have b := hB_r (u := u) (ro := ro) H (show k < s by omega)
    show TR (if _ then ea (ebv u ro a q k) (a 2 q) (hB u ro a k) 1 (k : Int) else ebv u ro a q k)
    split
    · exact ea_r i (by omega) (by omega) (by omega)
    · exact i
theorem awv_r (H : HBd s a) (q : Nat) : ∀ k, k ≤ s → -1 ≤ awv u a q k ∧ awv u a q k ≤ 9999 := by
  intro k
  induction k with
  | zero => intro _; show (-1 : Int) ≤ 9999 ∧ (9999 : Int) ≤ 9999; omega
  | succ k ih =>
    intro hk
    have i := ih (by omega)
    have b := hw_r H (show k < s by omega) 0
    show -1 ≤ (if _ then mn2 (awv u a q k) (hw a k 0) else awv u a q k) ∧ (if _ then mn2 (awv u a q k) (hw a k 0) else awv u a q k) ≤ 9999
    unfold mn2
    split
    · split <;> omega
    · exact i
theorem eav_r (H : HBd s a) (hu : ∀ j, u j ≤ 2000 ∨ j % 21 = 20) (hu1 : ∀ j, -1 ≤ u j) (hr : ∀ j, -2 ≤ ro j ∧ ro j ≤ 999) (hs : s ≤ 12) {q : Nat} (hq : q < s) : ∀ k, k ≤ s → TR (eav u ro a s q k) := by
  intro k
  induction k with
  | zero => intro _; exact ebv_r H hu hu1 hr hs hq s (Nat.le_refl s)
  | succ k ih =>
    intro hk
    have i := ih (by omega)
    have b := hw_r H (show k < s by omega) (ro 5)
    show TR (if _ then ea (eav u ro a s q k) (a 2 q) (hw a k (ro 5)) 2 (k : Int) else eav u ro a s q k)
    split
    · exact ea_r i (by omega) (by omega) (by omega)
    · exact i
theorem o5_r (H : HBd s a) {q : Nat} (hq : q < s) : -1 ≤ o5 ro a q ∧ o5 ro a q ≤ 5000 := by
  unfold o5
  split
  · exact hw_r H hq _
  · omega
end
/-! an end is set -/
def ET3 (a : Nat → Nat → Int) (q : Nat) : T3 := (a 6 q, a 7 q, a 8 q)
def EAX (k : Nat) (h w b : Int) (a a' : Nat → Nat → Int) : Prop := ET3 a' k = ea (ET3 a k) (a 2 k) h w b ∧ (∀ q, q ≠ k → ET3 a' q = ET3 a q) ∧ ∀ j, j ≠ 6 → j ≠ 7 → j ≠ 8 → a' j = a j
theorem EAX_n {k : Nat} {h w b : Int} {a : Nat → Nat → Int} (e : ea (ET3 a k) (a 2 k) h w b = ET3 a k) : EAX k h w b a a := ⟨e.symm, fun _ _ => rfl, fun _ _ _ _ => rfl⟩
theorem EAX_y {k i1 i2 i3 : Nat} {h w b : Int} {a : Nat → Nat → Int} (e : ea (ET3 a k) (a 2 k) h w b = (h, w, b)) (h1 : i1 = k) (h2 : i2 = k) (h3 : i3 = k) : EAX k h w b a (av_u2 (av_u2 (av_u2 a 6 i1 h) 7 i2 w) 8 i3 b) := by
  subst h1
  subst h2
  subst h3
  refine ⟨?_, fun q hq => ?_, fun j j6 j7 j8 => ?_⟩
  · rw [e]
    refine Prod.ext ?_ (Prod.ext ?_ ?_)
    · show av_u2 (av_u2 (av_u2 a 6 i3 h) 7 i3 w) 8 i3 b 6 i3 = h
      rw [av_u2_ne (i := 8) (by decide), av_u2_ne (i := 7) (by decide), av_u2_self]
    · show av_u2 (av_u2 (av_u2 a 6 i3 h) 7 i3 w) 8 i3 b 7 i3 = w
      rw [av_u2_ne (i := 8) (by decide), av_u2_self]
    · show av_u2 (av_u2 (av_u2 a 6 i3 h) 7 i3 w) 8 i3 b 8 i3 = b
      rw [av_u2_self]
  · unfold ET3
    rw [av_u2_oth (i := 8) hq, av_u2_ne (i := 8) (a := 7) (by decide), av_u2_oth (i := 7) hq, av_u2_ne (i := 8) (a := 6) (by decide), av_u2_ne (i := 7) (a := 6) (by decide), av_u2_oth (i := 6) hq, av_u2_ne (i := 7) (a := 8) (by decide), av_u2_ne (i := 6) (a := 8) (by decide), av_u2_ne (i := 6) (a := 7) (by decide)]
  · rw [av_u2_ne j8, av_u2_ne j7, av_u2_ne j6]
end
