/-! A BENCH TAKES A CASE, exactly -/
set_option maxRecDepth 100000 in
set_option maxHeartbeats 4000000 in
theorem cx_30 {h : av_H} {t c s : Nat} {cb : Int} (o : CO h t c s cb) (k : Int) (qk : 0 ≤ k ∧ k < (s : Int)) {Q : Option av_V → av_H → Prop} (hq : ∀ v : Int, ((v = 1 ∧ hA h c (21 * Int.toNat k + 10) = -1 ∧ hA h c (21 * Int.toNat k + 11) = -1 ∧ hA h c (21 * Int.toNat k + 12) = -1) ∨ (v = 0 ∧ (hA h c (21 * Int.toNat k + 10) ≠ -1 ∨ hA h c (21 * Int.toNat k + 11) ≠ -1 ∨ hA h c (21 * Int.toNat k + 12) ≠ -1))) → Q (some (.inl v)) h) : av_wp none cd_30 0 [some (.inr (.inr (.inl (some (t))))), some (.inl k), none] [] h Q := by
  have F := Fr1_rf h
  have g1 := co_s12 o
  have g2 := co_cbr o
  refine av_wp_seq 10 (pc' := 13) (lv' := [some (.inr (.inr (.inl (some (t))))), some (.inl k), some (.inl (0))]) (st' := [.inl (10), .inl k, .inr (.inr (.inl (some (t))))]) (h' := h) rfl ?_
  refine wq_cv (p' := 16) (av_qc (.invokevirtual 44) 29 2 0 1) 3 cd_29 [.inl (10), .inl k] (t) 1 [some (.inr (.inr (.inl (some (t))))), some (.inl k), some (.inl (10))] rfl rfl rfl pp_29 rfl rfl rfl (congrArg Prod.fst (co_kt o)) rfl rfl rfl rfl ?_
  obtain ⟨v3, e4⟩ : ∃ v, hA h c (21 * Int.toNat (k) + 10) = v := ⟨_, rfl⟩
  have g5 := co_v o (21 * Int.toNat (k) + 10)
  rw [e4] at g5
  refine xc_29 o (k) (by omega) 10 (by omega) rfl e4 ?_
  show av_wp _ cd_30 16 [some (.inr (.inr (.inl (some (t))))), some (.inl k), some (.inl (0))] [.inl v3] h _
  refine av_wp_seq 1 (pc' := 17) (lv' := [some (.inr (.inr (.inl (some (t))))), some (.inl k), some (.inl (0))]) (st' := [.inl (-1), .inl v3]) (h' := h) rfl ?_
  refine wq_k2 (p' := 20) rfl rfl ⟨by omega, by omega⟩ ⟨by omega, by omega⟩ (fun c6 => ?_) (fun c7 => ?_)
  · have c6 : v3 = (-1) := c6
    refine av_wp_seq 10 (pc' := 13) (lv' := [some (.inr (.inr (.inl (some (t))))), some (.inl k), some (.inl (1))]) (st' := [.inl (11), .inl k, .inr (.inr (.inl (some (t))))]) (h' := h) rfl ?_
    refine wq_cv (p' := 16) (av_qc (.invokevirtual 44) 29 2 0 1) 3 cd_29 [.inl (11), .inl k] (t) 1 [some (.inr (.inr (.inl (some (t))))), some (.inl k), some (.inl (11))] rfl rfl rfl pp_29 rfl rfl rfl (congrArg Prod.fst (co_kt o)) rfl rfl rfl rfl ?_
    obtain ⟨v8, e9⟩ : ∃ v, hA h c (21 * Int.toNat (k) + 11) = v := ⟨_, rfl⟩
    have g10 := co_v o (21 * Int.toNat (k) + 11)
    rw [e9] at g10
    refine xc_29 o (k) (by omega) 11 (by omega) rfl e9 ?_
    show av_wp _ cd_30 16 [some (.inr (.inr (.inl (some (t))))), some (.inl k), some (.inl (1))] [.inl v8] h _
    refine av_wp_seq 1 (pc' := 17) (lv' := [some (.inr (.inr (.inl (some (t))))), some (.inl k), some (.inl (1))]) (st' := [.inl (-1), .inl v8]) (h' := h) rfl ?_
    refine wq_k2 (p' := 20) rfl rfl ⟨by omega, by omega⟩ ⟨by omega, by omega⟩ (fun c11 => ?_) (fun c12 => ?_)
    · have c11 : v8 = (-1) := c11
      refine av_wp_seq 10 (pc' := 13) (lv' := [some (.inr (.inr (.inl (some (t))))), some (.inl k), some (.inl (2))]) (st' := [.inl (12), .inl k, .inr (.inr (.inl (some (t))))]) (h' := h) rfl ?_
      refine wq_cv (p' := 16) (av_qc (.invokevirtual 44) 29 2 0 1) 3 cd_29 [.inl (12), .inl k] (t) 1 [some (.inr (.inr (.inl (some (t))))), some (.inl k), some (.inl (12))] rfl rfl rfl pp_29 rfl rfl rfl (congrArg Prod.fst (co_kt o)) rfl rfl rfl rfl ?_
      obtain ⟨v13, e14⟩ : ∃ v, hA h c (21 * Int.toNat (k) + 12) = v := ⟨_, rfl⟩
      have g15 := co_v o (21 * Int.toNat (k) + 12)
      rw [e14] at g15
      refine xc_29 o (k) (by omega) 12 (by omega) rfl e14 ?_
      show av_wp _ cd_30 16 [some (.inr (.inr (.inl (some (t))))), some (.inl k), some (.inl (2))] [.inl v13] h _
      refine av_wp_seq 1 (pc' := 17) (lv' := [some (.inr (.inr (.inl (some (t))))), some (.inl k), some (.inl (2))]) (st' := [.inl (-1), .inl v13]) (h' := h) rfl ?_
      refine wq_k2 (p' := 20) rfl rfl ⟨by omega, by omega⟩ ⟨by omega, by omega⟩ (fun c16 => ?_) (fun c17 => ?_)
      · have c16 : v13 = (-1) := c16
        refine av_wp_seq 6 (pc' := 29) (lv' := [some (.inr (.inr (.inl (some (t))))), some (.inl k), some (.inl (3))]) (st' := [.inl (1)]) (h' := h) rfl ?_
        refine av_wp_ret (v := some (.inl (1))) rfl rfl rfl ?_
        exact hq _ (by omega)
      · have c17 : v13 ≠ (-1) := c17
        refine av_wp_seq 1 (pc' := 21) (lv' := [some (.inr (.inr (.inl (some (t))))), some (.inl k), some (.inl (2))]) (st' := [.inl (0)]) (h' := h) rfl ?_
        refine av_wp_ret (v := some (.inl (0))) rfl rfl rfl ?_
        exact hq _ (by omega)
    · have c12 : v8 ≠ (-1) := c12
      refine av_wp_seq 1 (pc' := 21) (lv' := [some (.inr (.inr (.inl (some (t))))), some (.inl k), some (.inl (1))]) (st' := [.inl (0)]) (h' := h) rfl ?_
      refine av_wp_ret (v := some (.inl (0))) rfl rfl rfl ?_
      exact hq _ (by omega)
  · have c7 : v3 ≠ (-1) := c7
    refine av_wp_seq 1 (pc' := 21) (lv' := [some (.inr (.inr (.inl (some (t))))), some (.inl k), some (.inl (0))]) (st' := [.inl (0)]) (h' := h) rfl ?_
    refine av_wp_ret (v := some (.inl (0))) rfl rfl rfl ?_
    exact hq _ (by omega)

set_option maxRecDepth 100000 in
set_option maxHeartbeats 4000000 in
theorem cx_1 {h : av_H} (I : IC h) {b : Nat} (hb : bn b) {t c s r : Nat} {cb : Int} (co : CO h t c s cb) (kr : hK h r = (20, 14)) (k2 : rwc r = true) (y : Int) (qy : 0 ≤ y ∧ y ≤ 128) {Q : Option av_V → av_H → Prop} (hq : ∀ h' a', EB b t c s r cb (hA h c) (hA h r) a' (hF h b 13) (hF h b 14) (hF h b 15) h' → FY b h h' → TKI (hA h c) (hA h r) (hA h 27) y s a' → Q none h') : av_wp none cd_1 0 [some (.inr (.inr (.inl (some (b))))), some (.inr (.inr (.inl (some (t))))), some (.inr (.inr (.inl (some (r))))), some (.inr (.inr (.inl (some (27))))), some (.inl y), none, none, none, none] [] h Q := by
  have s12 := co_s12 co
  have cbr := co_cbr co
  refine av_wp_seq 2 (pc' := 2) (lv' := [some (.inr (.inr (.inl (some (b))))), some (.inr (.inr (.inl (some (t))))), some (.inr (.inr (.inl (some (r))))), some (.inr (.inr (.inl (some (27))))), some (.inl y), none, none, none, none]) (st' := [.inr (.inr (.inl (some t))), .inr (.inr (.inl (some b)))]) (h' := h) rfl ?_
  refine wq_pr (p' := 5) rfl rfl (congrArg Prod.fst (bn_k0 I.1 hb)) rfl ?_
  refine av_wp_seq 2 (pc' := 7) (lv' := [some (.inr (.inr (.inl (some (b))))), some (.inr (.inr (.inl (some (t))))), some (.inr (.inr (.inl (some (r))))), some (.inr (.inr (.inl (some (27))))), some (.inl y), none, none, none, none]) (st' := [.inr (.inr (.inl (some r))), .inr (.inr (.inl (some b)))]) (h' := hwG h b 12 (some t)) rfl ?_
  refine wq_pr (p' := 10) rfl rfl (congrArg Prod.fst (bn_k0 I.1 hb)) rfl ?_
  obtain ⟨i2, X2⟩ := IB_set I hb co kr k2
  refine av_wp_seq 1 (pc' := 11) (lv' := [some (.inr (.inr (.inl (some (b))))), some (.inr (.inr (.inl (some (t))))), some (.inr (.inr (.inl (some (r))))), some (.inr (.inr (.inl (some (27))))), some (.inl y), none, none, none, none]) (st' := [.inr (.inr (.inl (some b)))]) (h' := hwG (hwG h b 12 (some t)) b 11 (some r)) rfl ?_
  refine wq_gr (p' := 14) rfl rfl (congrArg Prod.fst (ib_k0 i2)) rfl (ib_g i2 1 rfl) ?_
  refine av_wp_seq 1 (pc' := 15) (lv' := [some (.inr (.inr (.inl (some (b))))), some (.inr (.inr (.inl (some (t))))), some (.inr (.inr (.inl (some (r))))), some (.inr (.inr (.inl (some (27))))), some (.inl y), none, none, none, none]) (st' := [.inl (-1), .inr (.inr (.inl (some (b + 1 + 1))))]) (h' := hwG (hwG h b 12 (some t)) b 11 (some r)) rfl ?_
  refine wq_cs (p' := 18) (av_qc (.invokestatic 63) 220 2 2 10) 4 cd_220 [.inr (.inr (.inl (some (b + 1 + 1)))), .inl (-1)] [.inl (-1), .inr (.inr (.inl (some (b + 1 + 1))))] [some (.inr (.inr (.inl (some (b + 1 + 1))))), some (.inl (-1)), none, none] rfl rfl rfl pp_220 (fun _ => rfl) rfl rfl ?_
  refine ct_220 (n := 12) (ib_k i2 1 rfl) (by omega) ?_
  obtain ⟨a, E, Y4, t1⟩ := EB_take i2 X2 rfl rfl
  generalize hfil (hwG (hwG h b 12 (some t)) b 11 (some r)) (b + 1 + 1) 0 12 (-1) = h4 at E Y4 ⊢
  have F := FN_rf b h4
  have es : hA h4 27 = hA h 27 := Y4.2.1 27 (fun j hj => bn_27 hb j hj)
  generalize hA h 27 = sr at es hq
  generalize hA h c = u at E hq
  generalize hA h r = ro at E hq
  generalize hF h b 13 = mb at E hq
  generalize hF h b 14 = mo at E hq
  generalize hF h b 15 = ma at E hq
  show av_wp _ cd_1 18 [some (.inr (.inr (.inl (some (b))))), some (.inr (.inr (.inl (some (t))))), some (.inr (.inr (.inl (some (r))))), some (.inr (.inr (.inl (some (27))))), some (.inl y), none, none, none, none] [] h4 _
  refine av_wp_seq 2 (pc' := 21) (lv' := [some (.inr (.inr (.inl (some (b))))), some (.inr (.inr (.inl (some (t))))), some (.inr (.inr (.inl (some (r))))), some (.inr (.inr (.inl (some (27))))), some (.inl y), some (.inl (0)), none, none, none]) (st' := []) (h' := h4) rfl ?_
  have L111 : ∀ (m110 : Nat) (k101 : Int) (a102 : Option av_V) (a103 : Option av_V) (a104 : Option av_V) (h105 : av_H) (a108 : Nat → Nat → Int), av_lg a102 = false → av_lg a103 = false → av_lg a104 = false → k101 ≤ (s : Int) → (0 ≤ k101 ∧ k101 ≤ 12) → EB b t c s r cb u ro a108 mb mo ma h105 → FN b h4 h105 → TKI u ro sr y (Int.toNat k101) a108 → ((s : Int) - k101).toNat = m110 → av_wp none cd_1 21 [some (.inr (.inr (.inl (some (b))))), some (.inr (.inr (.inl (some (t))))), some (.inr (.inr (.inl (some (r))))), some (.inr (.inr (.inl (some (27))))), some (.inl y), some (.inl k101), a102, a103, a104] [] h105 Q := by
    intro m110
    induction m110 using Nat.strongRecOn with
    | _ m110 I112 =>
      intro k101 a102 a103 a104 h105 a108 g114 g115 g116 g117 g118 E106 F107 X109 e113
      have la102 := g114
      have la103 := g115
      have la104 := g116
      refine av_wp_seq 2 (pc' := 24) (lv' := [some (.inr (.inr (.inl (some (b))))), some (.inr (.inr (.inl (some (t))))), some (.inr (.inr (.inl (some (r))))), some (.inr (.inr (.inl (some (27))))), some (.inl y), some (.inl k101), a102, a103, a104]) (st' := [.inr (.inr (.inl (some (b)))), .inl k101]) (h' := h105) rfl ?_
      refine wq_gr (p' := 27) rfl rfl (congrArg Prod.fst (ib_k0 E106.1)) rfl (ib_t E106.1) ?_
      refine wq_gi (p' := 30) rfl rfl (congrArg Prod.fst (co_kt (ib_co E106.1))) rfl (co_s (ib_co E106.1)) ?_
      refine wq_k2 (p' := 33) rfl rfl ⟨by omega, by omega⟩ ⟨by omega, by omega⟩ (fun c119 => ?_) (fun c120 => ?_)
      · have c119 : (s : Int) ≤ k101 := c119
        refine av_wp_ret (v := none) rfl rfl rfl ?_
        have z121 : Int.toNat k101 = s := by omega
        rw [z121] at X109
        exact hq h105 _ E106 (FY_n Y4 F107) X109
      · have c120 : k101 < (s : Int) := c120
        refine av_wp_seq 1 (pc' := 34) (lv' := [some (.inr (.inr (.inl (some (b))))), some (.inr (.inr (.inl (some (t))))), some (.inr (.inr (.inl (some (r))))), some (.inr (.inr (.inl (some (27))))), some (.inl y), some (.inl k101), a102, a103, a104]) (st' := [.inr (.inr (.inl (some (b))))]) (h' := h105) rfl ?_
        refine wq_gr (p' := 37) rfl rfl (congrArg Prod.fst (ib_k0 E106.1)) rfl (ib_t E106.1) ?_
        refine av_wp_seq 2 (pc' := 40) (lv' := [some (.inr (.inr (.inl (some (b))))), some (.inr (.inr (.inl (some (t))))), some (.inr (.inr (.inl (some (r))))), some (.inr (.inr (.inl (some (27))))), some (.inl y), some (.inl k101), a102, a103, a104]) (st' := [.inl (0), .inl k101, .inr (.inr (.inl (some (t))))]) (h' := h105) rfl ?_
        refine wq_cv (p' := 43) (av_qc (.invokevirtual 74) 29 2 0 1) 3 cd_29 [.inl (0), .inl k101] (t) 1 [some (.inr (.inr (.inl (some (t))))), some (.inl k101), some (.inl (0))] rfl rfl rfl pp_29 rfl rfl rfl (congrArg Prod.fst (co_kt (ib_co E106.1))) rfl rfl rfl rfl ?_
        obtain ⟨v122, e123⟩ : ∃ v, u (21 * Int.toNat (k101) + 0) = v := ⟨_, rfl⟩
        have g124 := eb_uv E106 (21 * Int.toNat (k101) + 0)
        rw [e123] at g124
        refine xc_29 (ib_co E106.1) (k101) (by omega) 0 (by omega) rfl ((congrFun (eb_u E106) _).trans e123) ?_
        show av_wp _ cd_1 43 [some (.inr (.inr (.inl (some (b))))), some (.inr (.inr (.inl (some (t))))), some (.inr (.inr (.inl (some (r))))), some (.inr (.inr (.inl (some (27))))), some (.inl y), some (.inl k101), a102, a103, a104] [.inl v122] h105 _
        refine av_wp_seq 3 (pc' := 48) (lv' := [some (.inr (.inr (.inl (some (b))))), some (.inr (.inr (.inl (some (t))))), some (.inr (.inr (.inl (some (r))))), some (.inr (.inr (.inl (some (27))))), some (.inl y), some (.inl k101), some (.inl v122), a103, a104]) (st' := [.inl (3), .inl v122]) (h' := h105) rfl ?_
        have J128 : ∀ (j125 : Int), (0 ≤ j125 ∧ j125 ≤ 1) → j125 = smv u ro (Int.toNat k101) →  av_wp none cd_1 79 [some (.inr (.inr (.inl (some (b))))), some (.inr (.inr (.inl (some (t))))), some (.inr (.inr (.inl (some (r))))), some (.inr (.inr (.inl (some (27))))), some (.inl y), some (.inl k101), some (.inl v122), a103, a104] [.inl j125] h105 Q := by
          intro j125 g126 g127
          refine av_wp_seq 2 (pc' := 82) (lv' := [some (.inr (.inr (.inl (some (b))))), some (.inr (.inr (.inl (some (t))))), some (.inr (.inr (.inl (some (r))))), some (.inr (.inr (.inl (some (27))))), some (.inl y), some (.inl k101), some (.inl v122), some (.inl j125), a104]) (st' := [.inr (.inr (.inl (some (b))))]) (h' := h105) rfl ?_
          refine wq_gr (p' := 85) rfl rfl (congrArg Prod.fst (ib_k0 E106.1)) rfl (ib_g E106.1 2 rfl) ?_
          refine av_wp_seq 2 (pc' := 89) (lv' := [some (.inr (.inr (.inl (some (b))))), some (.inr (.inr (.inl (some (t))))), some (.inr (.inr (.inl (some (r))))), some (.inr (.inr (.inl (some (27))))), some (.inl y), some (.inl k101), some (.inl v122), some (.inl j125), a104]) (st' := [.inl v122, .inl k101, .inr (.inr (.inl (some (b + 1 + 2))))]) (h' := h105) rfl ?_
          have J132 : ∀ (j129 : Int), (0 ≤ j129 ∧ j129 ≤ 1) → j129 = ofv u ro (Int.toNat k101) →  av_wp none cd_1 108 [some (.inr (.inr (.inl (some (b))))), some (.inr (.inr (.inl (some (t))))), some (.inr (.inr (.inl (some (r))))), some (.inr (.inr (.inl (some (27))))), some (.inl y), some (.inl k101), some (.inl v122), some (.inl j125), a104] [.inl j129, .inl k101, .inr (.inr (.inl (some (b + 1 + 2))))] h105 Q := by
            intro j129 g130 g131
            refine xb_zs (p' := 109) (n := 12) rfl rfl E106 F107 2 rfl rfl (by omega) (by omega) (fun h133 E134 F135 => ?_)
            refine av_wp_seq 1 (pc' := 110) (lv' := [some (.inr (.inr (.inl (some (b))))), some (.inr (.inr (.inl (some (t))))), some (.inr (.inr (.inl (some (r))))), some (.inr (.inr (.inl (some (27))))), some (.inl y), some (.inl k101), some (.inl v122), some (.inl j125), a104]) (st' := [.inr (.inr (.inl (some (b))))]) (h' := h133) rfl ?_
            refine wq_gr (p' := 113) rfl rfl (congrArg Prod.fst (ib_k0 E134.1)) rfl (ib_g E134.1 3 rfl) ?_
            refine av_wp_seq 3 (pc' := 118) (lv' := [some (.inr (.inr (.inl (some (b))))), some (.inr (.inr (.inl (some (t))))), some (.inr (.inr (.inl (some (r))))), some (.inr (.inr (.inl (some (27))))), some (.inl y), some (.inl k101), some (.inl v122), some (.inl j125), a104]) (st' := [.inl (2), .inl v122, .inl k101, .inr (.inr (.inl (some (b + 1 + 3))))]) (h' := h133) rfl ?_
            have J139 : ∀ (j136 : Int), (0 ≤ j136 ∧ j136 ≤ 1) → j136 = ysv u ro (Int.toNat k101) →  av_wp none cd_1 149 [some (.inr (.inr (.inl (some (b))))), some (.inr (.inr (.inl (some (t))))), some (.inr (.inr (.inl (some (r))))), some (.inr (.inr (.inl (some (27))))), some (.inl y), some (.inl k101), some (.inl v122), some (.inl j125), a104] [.inl j136, .inl k101, .inr (.inr (.inl (some (b + 1 + 3))))] h133 Q := by
              intro j136 g137 g138
              refine xb_zs (p' := 150) (n := 12) rfl rfl E134 F135 3 rfl rfl (by omega) (by omega) (fun h140 E141 F142 => ?_)
              refine av_wp_seq 1 (pc' := 151) (lv' := [some (.inr (.inr (.inl (some (b))))), some (.inr (.inr (.inl (some (t))))), some (.inr (.inr (.inl (some (r))))), some (.inr (.inr (.inl (some (27))))), some (.inl y), some (.inl k101), some (.inl v122), some (.inl j125), a104]) (st' := [.inr (.inr (.inl (some (b))))]) (h' := h140) rfl ?_
              refine wq_gr (p' := 154) rfl rfl (congrArg Prod.fst (ib_k0 E141.1)) rfl (ib_t E141.1) ?_
              refine av_wp_seq 2 (pc' := 158) (lv' := [some (.inr (.inr (.inl (some (b))))), some (.inr (.inr (.inl (some (t))))), some (.inr (.inr (.inl (some (r))))), some (.inr (.inr (.inl (some (27))))), some (.inl y), some (.inl k101), some (.inl v122), some (.inl j125), a104]) (st' := [.inl (6), .inl k101, .inr (.inr (.inl (some (t))))]) (h' := h140) rfl ?_
              refine wq_cv (p' := 161) (av_qc (.invokevirtual 74) 29 2 0 1) 3 cd_29 [.inl (6), .inl k101] (t) 1 [some (.inr (.inr (.inl (some (t))))), some (.inl k101), some (.inl (6))] rfl rfl rfl pp_29 rfl rfl rfl (congrArg Prod.fst (co_kt (ib_co E141.1))) rfl rfl rfl rfl ?_
              obtain ⟨v143, e144⟩ : ∃ v, u (21 * Int.toNat (k101) + 6) = v := ⟨_, rfl⟩
              have g145 := eb_uv E141 (21 * Int.toNat (k101) + 6)
              rw [e144] at g145
              refine xc_29 (ib_co E141.1) (k101) (by omega) 6 (by omega) rfl ((congrFun (eb_u E141) _).trans e144) ?_
              show av_wp _ cd_1 161 [some (.inr (.inr (.inl (some (b))))), some (.inr (.inr (.inl (some (t))))), some (.inr (.inr (.inl (some (r))))), some (.inr (.inr (.inl (some (27))))), some (.inl y), some (.inl k101), some (.inl v122), some (.inl j125), a104] [.inl v143] h140 _
              refine av_wp_seq 2 (pc' := 164) (lv' := [some (.inr (.inr (.inl (some (b))))), some (.inr (.inr (.inl (some (t))))), some (.inr (.inr (.inl (some (r))))), some (.inr (.inr (.inl (some (27))))), some (.inl y), some (.inl k101), some (.inl v122), some (.inl j125), some (.inl v143)]) (st' := [.inr (.inr (.inl (some (b))))]) (h' := h140) rfl ?_
              refine wq_gr (p' := 167) rfl rfl (congrArg Prod.fst (ib_k0 E141.1)) rfl (ib_g E141.1 4 rfl) ?_
              refine av_wp_seq 2 (pc' := 171) (lv' := [some (.inr (.inr (.inl (some (b))))), some (.inr (.inr (.inl (some (t))))), some (.inr (.inr (.inl (some (r))))), some (.inr (.inr (.inl (some (27))))), some (.inl y), some (.inl k101), some (.inl v122), some (.inl j125), some (.inl v143)]) (st' := [.inl v143, .inl k101, .inr (.inr (.inl (some (b + 1 + 4))))]) (h' := h140) rfl ?_
              have J149 : ∀ (j146 : Int), (0 ≤ j146 ∧ j146 ≤ 1) → j146 = ivv u sr y (Int.toNat k101) →  av_wp none cd_1 197 [some (.inr (.inr (.inl (some (b))))), some (.inr (.inr (.inl (some (t))))), some (.inr (.inr (.inl (some (r))))), some (.inr (.inr (.inl (some (27))))), some (.inl y), some (.inl k101), some (.inl v122), some (.inl j125), some (.inl v143)] [.inl j146, .inl k101, .inr (.inr (.inl (some (b + 1 + 4))))] h140 Q := by
                intro j146 g147 g148
                refine xb_zs (p' := 198) (n := 12) rfl rfl E141 F142 4 rfl rfl (by omega) (by omega) (fun h150 E151 F152 => ?_)
                refine av_wp_seq 2 (pc' := 21) (lv' := [some (.inr (.inr (.inl (some (b))))), some (.inr (.inr (.inl (some (t))))), some (.inr (.inr (.inl (some (r))))), some (.inr (.inr (.inl (some (27))))), some (.inl y), some (.inl (k101 + (1))), some (.inl v122), some (.inl j125), some (.inl v143)]) (st' := []) (h' := h150) rfl ?_
                exact I112 _ (by omega) ((k101 + (1))) (some (.inl v122)) (some (.inl j125)) (some (.inl v143)) h150 (av_u2 (av_u2 (av_u2 a108 2 (Int.toNat (k101)) j129) 3 (Int.toNat (k101)) j136) 4 (Int.toNat (k101)) j146) rfl rfl rfl (by omega) (by omega) E151 F152 (by rw [show Int.toNat (k101 + (1)) = Int.toNat k101 + 1 by omega]; exact TKI_s X109 rfl rfl rfl g131 g138 g148) rfl
              refine wq_k1 (p' := 174) rfl rfl ⟨by omega, by omega⟩ (fun c153 => ?_) (fun c154 => ?_)
              · have c153 : v143 < (0) := c153
                refine av_wp_seq 1 (pc' := 197) (lv' := [some (.inr (.inr (.inl (some (b))))), some (.inr (.inr (.inl (some (t))))), some (.inr (.inr (.inl (some (r))))), some (.inr (.inr (.inl (some (27))))), some (.inl y), some (.inl k101), some (.inl v122), some (.inl j125), some (.inl v143)]) (st' := [.inl (0), .inl k101, .inr (.inr (.inl (some (b + 1 + 4))))]) (h' := h140) rfl ?_
                exact J149 ((0)) (by omega) (by unfold ivv; rw [e144]; split <;> omega)
              · have c154 : (0) ≤ v143 := c154
                refine av_wp_seq 2 (pc' := 178) (lv' := [some (.inr (.inr (.inl (some (b))))), some (.inr (.inr (.inl (some (t))))), some (.inr (.inr (.inl (some (r))))), some (.inr (.inr (.inl (some (27))))), some (.inl y), some (.inl k101), some (.inl v122), some (.inl j125), some (.inl v143)]) (st' := [.inl (16), .inl v143, .inl k101, .inr (.inr (.inl (some (b + 1 + 4))))]) (h' := h140) rfl ?_
                refine wq_k2 (p' := 181) rfl rfl ⟨by omega, by omega⟩ ⟨by omega, by omega⟩ (fun c155 => ?_) (fun c156 => ?_)
                · have c155 : (16) ≤ v143 := c155
                  refine av_wp_seq 1 (pc' := 197) (lv' := [some (.inr (.inr (.inl (some (b))))), some (.inr (.inr (.inl (some (t))))), some (.inr (.inr (.inl (some (r))))), some (.inr (.inr (.inl (some (27))))), some (.inl y), some (.inl k101), some (.inl v122), some (.inl j125), some (.inl v143)]) (st' := [.inl (0), .inl k101, .inr (.inr (.inl (some (b + 1 + 4))))]) (h' := h140) rfl ?_
                  exact J149 ((0)) (by omega) (by unfold ivv; rw [e144]; split <;> omega)
                · have c156 : v143 < (16) := c156
                  refine av_wp_seq 4 (pc' := 187) (lv' := [some (.inr (.inr (.inl (some (b))))), some (.inr (.inr (.inl (some (t))))), some (.inr (.inr (.inl (some (r))))), some (.inr (.inr (.inl (some (27))))), some (.inl y), some (.inl k101), some (.inl v122), some (.inl j125), some (.inl v143)]) (st' := [.inl (y + v143), .inr (.inr (.inl (some (27)))), .inl k101, .inr (.inr (.inl (some (b + 1 + 4))))]) (h' := h140) rfl ?_
                  obtain ⟨v158, e159⟩ : ∃ v, sr (Int.toNat ((y + v143))) = v := ⟨_, rfl⟩
                  refine wq_al (p' := 188) (n := 144) rfl rfl (ly_k E141.1.1.1 27 rfl) (by omega) ((congrFun ((F142.2.1 27 (fun j hj => bn_27 hb j hj)).trans es) _).trans e159) ?_
                  refine av_wp_seq 1 (pc' := 189) (lv' := [some (.inr (.inr (.inl (some (b))))), some (.inr (.inr (.inl (some (t))))), some (.inr (.inr (.inl (some (r))))), some (.inr (.inr (.inl (some (27))))), some (.inl y), some (.inl k101), some (.inl v122), some (.inl j125), some (.inl v143)]) (st' := [.inl (2), .inl v158, .inl k101, .inr (.inr (.inl (some (b + 1 + 4))))]) (h' := h140) rfl ?_
                  refine wq_w2 (p' := 192) rfl rfl (fun c160 => ?_) (fun c161 => ?_)
                  · refine av_wp_seq 1 (pc' := 197) (lv' := [some (.inr (.inr (.inl (some (b))))), some (.inr (.inr (.inl (some (t))))), some (.inr (.inr (.inl (some (r))))), some (.inr (.inr (.inl (some (27))))), some (.inl y), some (.inl k101), some (.inl v122), some (.inl j125), some (.inl v143)]) (st' := [.inl (0), .inl k101, .inr (.inr (.inl (some (b + 1 + 4))))]) (h' := h140) rfl ?_
                    exact J149 ((0)) (by omega) (by unfold ivv; rw [e144, e159]; have zz := c160; simp only [av_cP, av_cN, show av_w 2 = 2 from rfl] at zz; split <;> omega)
                  · refine av_wp_seq 2 (pc' := 197) (lv' := [some (.inr (.inr (.inl (some (b))))), some (.inr (.inr (.inl (some (t))))), some (.inr (.inr (.inl (some (r))))), some (.inr (.inr (.inl (some (27))))), some (.inl y), some (.inl k101), some (.inl v122), some (.inl j125), some (.inl v143)]) (st' := [.inl (1), .inl k101, .inr (.inr (.inl (some (b + 1 + 4))))]) (h' := h140) rfl ?_
                    exact J149 ((1)) (by omega) (by unfold ivv; rw [e144, e159]; have zz := c161; simp only [av_cP, av_cN, show av_w 2 = 2 from rfl] at zz; split <;> omega)
            refine wq_k2 (p' := 121) rfl rfl ⟨by omega, by omega⟩ ⟨by omega, by omega⟩ (fun c162 => ?_) (fun c163 => ?_)
            · have c162 : v122 = (2) := c162
              refine av_wp_seq 2 (pc' := 149) (lv' := [some (.inr (.inr (.inl (some (b))))), some (.inr (.inr (.inl (some (t))))), some (.inr (.inr (.inl (some (r))))), some (.inr (.inr (.inl (some (27))))), some (.inl y), some (.inl k101), some (.inl v122), some (.inl j125), a104]) (st' := [.inl (1), .inl k101, .inr (.inr (.inl (some (b + 1 + 3))))]) (h' := h133) rfl ?_
              exact J139 ((1)) (by omega) (by unfold ysv; split <;> omega)
            · have c163 : v122 ≠ (2) := c163
              refine av_wp_seq 1 (pc' := 123) (lv' := [some (.inr (.inr (.inl (some (b))))), some (.inr (.inr (.inl (some (t))))), some (.inr (.inr (.inl (some (r))))), some (.inr (.inr (.inl (some (27))))), some (.inl y), some (.inl k101), some (.inl v122), some (.inl j125), a104]) (st' := [.inl j125, .inl k101, .inr (.inr (.inl (some (b + 1 + 3))))]) (h' := h133) rfl ?_
              refine wq_k1 (p' := 126) rfl rfl ⟨by omega, by omega⟩ (fun c164 => ?_) (fun c165 => ?_)
              · have c164 : j125 ≠ (0) := c164
                refine av_wp_seq 2 (pc' := 149) (lv' := [some (.inr (.inr (.inl (some (b))))), some (.inr (.inr (.inl (some (t))))), some (.inr (.inr (.inl (some (r))))), some (.inr (.inr (.inl (some (27))))), some (.inl y), some (.inl k101), some (.inl v122), some (.inl j125), a104]) (st' := [.inl (1), .inl k101, .inr (.inr (.inl (some (b + 1 + 3))))]) (h' := h133) rfl ?_
                exact J139 ((1)) (by omega) (by unfold ysv; split <;> omega)
              · have c165 : j125 = (0) := c165
                refine av_wp_seq 2 (pc' := 130) (lv' := [some (.inr (.inr (.inl (some (b))))), some (.inr (.inr (.inl (some (t))))), some (.inr (.inr (.inl (some (r))))), some (.inr (.inr (.inl (some (27))))), some (.inl y), some (.inl k101), some (.inl v122), some (.inl j125), a104]) (st' := [.inl (6), .inl v122, .inl k101, .inr (.inr (.inl (some (b + 1 + 3))))]) (h' := h133) rfl ?_
                refine wq_k2 (p' := 133) rfl rfl ⟨by omega, by omega⟩ ⟨by omega, by omega⟩ (fun c166 => ?_) (fun c167 => ?_)
                · have c166 : v122 ≠ (6) := c166
                  refine av_wp_seq 1 (pc' := 149) (lv' := [some (.inr (.inr (.inl (some (b))))), some (.inr (.inr (.inl (some (t))))), some (.inr (.inr (.inl (some (r))))), some (.inr (.inr (.inl (some (27))))), some (.inl y), some (.inl k101), some (.inl v122), some (.inl j125), a104]) (st' := [.inl (0), .inl k101, .inr (.inr (.inl (some (b + 1 + 3))))]) (h' := h133) rfl ?_
                  exact J139 ((0)) (by omega) (by unfold ysv; split <;> omega)
                · have c167 : v122 = (6) := c167
                  refine av_wp_seq 1 (pc' := 134) (lv' := [some (.inr (.inr (.inl (some (b))))), some (.inr (.inr (.inl (some (t))))), some (.inr (.inr (.inl (some (r))))), some (.inr (.inr (.inl (some (27))))), some (.inl y), some (.inl k101), some (.inl v122), some (.inl j125), a104]) (st' := [.inr (.inr (.inl (some (b)))), .inl k101, .inr (.inr (.inl (some (b + 1 + 3))))]) (h' := h133) rfl ?_
                  refine wq_gr (p' := 137) rfl rfl (congrArg Prod.fst (ib_k0 E134.1)) rfl (ib_r E134.1) ?_
                  refine av_wp_seq 1 (pc' := 139) (lv' := [some (.inr (.inr (.inl (some (b))))), some (.inr (.inr (.inl (some (t))))), some (.inr (.inr (.inl (some (r))))), some (.inr (.inr (.inl (some (27))))), some (.inl y), some (.inl k101), some (.inl v122), some (.inl j125), a104]) (st' := [.inl (11), .inr (.inr (.inl (some (r)))), .inl k101, .inr (.inr (.inl (some (b + 1 + 3))))]) (h' := h133) rfl ?_
                  obtain ⟨v169, e170⟩ : ∃ v, ro 11 = v := ⟨_, rfl⟩
                  have g168 := eb_rv E134 11
                  rw [e170] at g168
                  refine wq_al (p' := 140) (n := 14) rfl rfl (ib_kr E134.1) (by omega) ((congrFun (eb_ro E134) _).trans e170) ?_
                  refine av_wp_seq 1 (pc' := 141) (lv' := [some (.inr (.inr (.inl (some (b))))), some (.inr (.inr (.inl (some (t))))), some (.inr (.inr (.inl (some (r))))), some (.inr (.inr (.inl (some (27))))), some (.inl y), some (.inl k101), some (.inl v122), some (.inl j125), a104]) (st' := [.inl (1), .inl v169, .inl k101, .inr (.inr (.inl (some (b + 1 + 3))))]) (h' := h133) rfl ?_
                  refine wq_k2 (p' := 144) rfl rfl ⟨by omega, by omega⟩ ⟨by omega, by omega⟩ (fun c171 => ?_) (fun c172 => ?_)
                  · have c171 : v169 ≠ (1) := c171
                    refine av_wp_seq 1 (pc' := 149) (lv' := [some (.inr (.inr (.inl (some (b))))), some (.inr (.inr (.inl (some (t))))), some (.inr (.inr (.inl (some (r))))), some (.inr (.inr (.inl (some (27))))), some (.inl y), some (.inl k101), some (.inl v122), some (.inl j125), a104]) (st' := [.inl (0), .inl k101, .inr (.inr (.inl (some (b + 1 + 3))))]) (h' := h133) rfl ?_
                    exact J139 ((0)) (by omega) (by unfold ysv; split <;> omega)
                  · have c172 : v169 = (1) := c172
                    refine av_wp_seq 2 (pc' := 149) (lv' := [some (.inr (.inr (.inl (some (b))))), some (.inr (.inr (.inl (some (t))))), some (.inr (.inr (.inl (some (r))))), some (.inr (.inr (.inl (some (27))))), some (.inl y), some (.inl k101), some (.inl v122), some (.inl j125), a104]) (st' := [.inl (1), .inl k101, .inr (.inr (.inl (some (b + 1 + 3))))]) (h' := h133) rfl ?_
                    exact J139 ((1)) (by omega) (by unfold ysv; split <;> omega)
          refine wq_k1 (p' := 92) rfl rfl ⟨by omega, by omega⟩ (fun c173 => ?_) (fun c174 => ?_)
          · have c173 : v122 = (0) := c173
            refine av_wp_seq 2 (pc' := 108) (lv' := [some (.inr (.inr (.inl (some (b))))), some (.inr (.inr (.inl (some (t))))), some (.inr (.inr (.inl (some (r))))), some (.inr (.inr (.inl (some (27))))), some (.inl y), some (.inl k101), some (.inl v122), some (.inl j125), a104]) (st' := [.inl (1), .inl k101, .inr (.inr (.inl (some (b + 1 + 2))))]) (h' := h105) rfl ?_
            exact J132 ((1)) (by omega) (by unfold ofv; split <;> omega)
          · have c174 : v122 ≠ (0) := c174
            refine av_wp_seq 2 (pc' := 95) (lv' := [some (.inr (.inr (.inl (some (b))))), some (.inr (.inr (.inl (some (t))))), some (.inr (.inr (.inl (some (r))))), some (.inr (.inr (.inl (some (27))))), some (.inl y), some (.inl k101), some (.inl v122), some (.inl j125), a104]) (st' := [.inl (3), .inl v122, .inl k101, .inr (.inr (.inl (some (b + 1 + 2))))]) (h' := h105) rfl ?_
            refine wq_k2 (p' := 98) rfl rfl ⟨by omega, by omega⟩ ⟨by omega, by omega⟩ (fun c175 => ?_) (fun c176 => ?_)
            · have c175 : v122 ≠ (3) := c175
              refine av_wp_seq 1 (pc' := 108) (lv' := [some (.inr (.inr (.inl (some (b))))), some (.inr (.inr (.inl (some (t))))), some (.inr (.inr (.inl (some (r))))), some (.inr (.inr (.inl (some (27))))), some (.inl y), some (.inl k101), some (.inl v122), some (.inl j125), a104]) (st' := [.inl (0), .inl k101, .inr (.inr (.inl (some (b + 1 + 2))))]) (h' := h105) rfl ?_
              exact J132 ((0)) (by omega) (by unfold ofv; split <;> omega)
            · have c176 : v122 = (3) := c176
              refine av_wp_seq 1 (pc' := 100) (lv' := [some (.inr (.inr (.inl (some (b))))), some (.inr (.inr (.inl (some (t))))), some (.inr (.inr (.inl (some (r))))), some (.inr (.inr (.inl (some (27))))), some (.inl y), some (.inl k101), some (.inl v122), some (.inl j125), a104]) (st' := [.inl j125, .inl k101, .inr (.inr (.inl (some (b + 1 + 2))))]) (h' := h105) rfl ?_
              refine wq_k1 (p' := 103) rfl rfl ⟨by omega, by omega⟩ (fun c177 => ?_) (fun c178 => ?_)
              · have c177 : j125 ≠ (0) := c177
                refine av_wp_seq 1 (pc' := 108) (lv' := [some (.inr (.inr (.inl (some (b))))), some (.inr (.inr (.inl (some (t))))), some (.inr (.inr (.inl (some (r))))), some (.inr (.inr (.inl (some (27))))), some (.inl y), some (.inl k101), some (.inl v122), some (.inl j125), a104]) (st' := [.inl (0), .inl k101, .inr (.inr (.inl (some (b + 1 + 2))))]) (h' := h105) rfl ?_
                exact J132 ((0)) (by omega) (by unfold ofv; split <;> omega)
              · have c178 : j125 = (0) := c178
                refine av_wp_seq 2 (pc' := 108) (lv' := [some (.inr (.inr (.inl (some (b))))), some (.inr (.inr (.inl (some (t))))), some (.inr (.inr (.inl (some (r))))), some (.inr (.inr (.inl (some (27))))), some (.inl y), some (.inl k101), some (.inl v122), some (.inl j125), a104]) (st' := [.inl (1), .inl k101, .inr (.inr (.inl (some (b + 1 + 2))))]) (h' := h105) rfl ?_
                exact J132 ((1)) (by omega) (by unfold ofv; split <;> omega)
        refine wq_k2 (p' := 51) rfl rfl ⟨by omega, by omega⟩ ⟨by omega, by omega⟩ (fun c179 => ?_) (fun c180 => ?_)
        · have c179 : v122 ≠ (3) := c179
          refine av_wp_seq 1 (pc' := 79) (lv' := [some (.inr (.inr (.inl (some (b))))), some (.inr (.inr (.inl (some (t))))), some (.inr (.inr (.inl (some (r))))), some (.inr (.inr (.inl (some (27))))), some (.inl y), some (.inl k101), some (.inl v122), a103, a104]) (st' := [.inl (0)]) (h' := h105) rfl ?_
          exact J128 ((0)) (by omega) (by unfold smv; split <;> omega)
        · have c180 : v122 = (3) := c180
          refine av_wp_seq 1 (pc' := 52) (lv' := [some (.inr (.inr (.inl (some (b))))), some (.inr (.inr (.inl (some (t))))), some (.inr (.inr (.inl (some (r))))), some (.inr (.inr (.inl (some (27))))), some (.inl y), some (.inl k101), some (.inl v122), a103, a104]) (st' := [.inr (.inr (.inl (some (b))))]) (h' := h105) rfl ?_
          refine wq_gr (p' := 55) rfl rfl (congrArg Prod.fst (ib_k0 E106.1)) rfl (ib_r E106.1) ?_
          refine av_wp_seq 1 (pc' := 57) (lv' := [some (.inr (.inr (.inl (some (b))))), some (.inr (.inr (.inl (some (t))))), some (.inr (.inr (.inl (some (r))))), some (.inr (.inr (.inl (some (27))))), some (.inl y), some (.inl k101), some (.inl v122), a103, a104]) (st' := [.inl (9), .inr (.inr (.inl (some (r))))]) (h' := h105) rfl ?_
          obtain ⟨v182, e183⟩ : ∃ v, ro 9 = v := ⟨_, rfl⟩
          have g181 := eb_rv E106 9
          rw [e183] at g181
          refine wq_al (p' := 58) (n := 14) rfl rfl (ib_kr E106.1) (by omega) ((congrFun (eb_ro E106) _).trans e183) ?_
          refine av_wp_seq 1 (pc' := 59) (lv' := [some (.inr (.inr (.inl (some (b))))), some (.inr (.inr (.inl (some (t))))), some (.inr (.inr (.inl (some (r))))), some (.inr (.inr (.inl (some (27))))), some (.inl y), some (.inl k101), some (.inl v122), a103, a104]) (st' := [.inl (1), .inl v182]) (h' := h105) rfl ?_
          refine wq_k2 (p' := 62) rfl rfl ⟨by omega, by omega⟩ ⟨by omega, by omega⟩ (fun c184 => ?_) (fun c185 => ?_)
          · have c184 : v182 ≠ (1) := c184
            refine av_wp_seq 1 (pc' := 79) (lv' := [some (.inr (.inr (.inl (some (b))))), some (.inr (.inr (.inl (some (t))))), some (.inr (.inr (.inl (some (r))))), some (.inr (.inr (.inl (some (27))))), some (.inl y), some (.inl k101), some (.inl v122), a103, a104]) (st' := [.inl (0)]) (h' := h105) rfl ?_
            exact J128 ((0)) (by omega) (by unfold smv; split <;> omega)
          · have c185 : v182 = (1) := c185
            refine av_wp_seq 1 (pc' := 63) (lv' := [some (.inr (.inr (.inl (some (b))))), some (.inr (.inr (.inl (some (t))))), some (.inr (.inr (.inl (some (r))))), some (.inr (.inr (.inl (some (27))))), some (.inl y), some (.inl k101), some (.inl v122), a103, a104]) (st' := [.inr (.inr (.inl (some (b))))]) (h' := h105) rfl ?_
            refine wq_gr (p' := 66) rfl rfl (congrArg Prod.fst (ib_k0 E106.1)) rfl (ib_t E106.1) ?_
            refine av_wp_seq 1 (pc' := 68) (lv' := [some (.inr (.inr (.inl (some (b))))), some (.inr (.inr (.inl (some (t))))), some (.inr (.inr (.inl (some (r))))), some (.inr (.inr (.inl (some (27))))), some (.inl y), some (.inl k101), some (.inl v122), a103, a104]) (st' := [.inl k101, .inr (.inr (.inl (some (t))))]) (h' := h105) rfl ?_
            refine wq_cv (p' := 71) (av_qc (.invokevirtual 78) 30 1 0 1) 3 cd_30 [.inl k101] (t) 1 [some (.inr (.inr (.inl (some (t))))), some (.inl k101), none] rfl rfl rfl pp_30 rfl rfl rfl (congrArg Prod.fst (co_kt (ib_co E106.1))) rfl rfl rfl rfl ?_
            refine cx_30 (ib_co E106.1) (k101) (by omega) (fun v186 p187 => ?_)
            rw [eb_u E106] at p187
            show av_wp _ cd_1 71 [some (.inr (.inr (.inl (some (b))))), some (.inr (.inr (.inl (some (t))))), some (.inr (.inr (.inl (some (r))))), some (.inr (.inr (.inl (some (27))))), some (.inl y), some (.inl k101), some (.inl v122), a103, a104] [.inl v186] h105 _
            refine wq_k1 (p' := 74) rfl rfl ⟨by omega, by omega⟩ (fun c188 => ?_) (fun c189 => ?_)
            · have c188 : v186 = (0) := c188
              refine av_wp_seq 1 (pc' := 79) (lv' := [some (.inr (.inr (.inl (some (b))))), some (.inr (.inr (.inl (some (t))))), some (.inr (.inr (.inl (some (r))))), some (.inr (.inr (.inl (some (27))))), some (.inl y), some (.inl k101), some (.inl v122), a103, a104]) (st' := [.inl (0)]) (h' := h105) rfl ?_
              exact J128 ((0)) (by omega) (by unfold smv; split <;> omega)
            · have c189 : v186 ≠ (0) := c189
              refine av_wp_seq 2 (pc' := 79) (lv' := [some (.inr (.inr (.inl (some (b))))), some (.inr (.inr (.inl (some (t))))), some (.inr (.inr (.inl (some (r))))), some (.inr (.inr (.inl (some (27))))), some (.inl y), some (.inl k101), some (.inl v122), a103, a104]) (st' := [.inl (1)]) (h' := h105) rfl ?_
              exact J128 ((1)) (by omega) (by unfold smv; split <;> omega)
  exact L111 _ ((0)) (none) (none) (none) h4 a rfl rfl rfl (by omega) (by omega) E F (TKI_0 t1) rfl

