section
set_option maxRecDepth 100000 in
set_option maxHeartbeats 4000000 in
theorem cx_21 {g h : av_H} {b t c s r : Nat} {cb : Int} {u ro : Nat → Int} {a : Nat → Nat → Int} {mb mo ma : Int} (E : EB b t c s r cb u ro a mb mo ma h) (F : FN b g h) (H : HBd s a) (R : RLW ro) (b3 : ∀ q, q < s → 0 ≤ a 3 q ∧ a 3 q ≤ 1) (b5 : ∀ q, q < s → -1 ≤ a 5 q ∧ a 5 q ≤ 9999) (b8 : ∀ q, q < s → -1 ≤ a 8 q ∧ a 8 q ≤ 11) (qm : -1 ≤ ma ∧ ma ≤ 9999) (k : Int) (qk : 0 ≤ k ∧ k < (s : Int)) (q : Int) (qq : -1 ≤ q ∧ q ≤ 11) (e3 : u (21 * Int.toNat k + 3) = q) {Q : Option av_V → av_H → Prop} (hq : ∀ v : Int, BT4 v (a 5 (Int.toNat k) ≠ -1) ((0 ≤ q ∧ q < (s : Int)) ∧ a 8 (Int.toNat q) = k) (ma ≠ 9999 ∧ mb = k) (u (21 * (Int.toNat k) + 0) = 5 ∧ (0 ≤ q ∧ q < (s : Int)) ∧ a 3 (Int.toNat q) ≠ 0 ∧ hw a (Int.toNat k) (ro 4) ≠ -1 ∧ hw a (Int.toNat q) (yw u ro (Int.toNat q)) ≠ -1 ∧ hw a (Int.toNat k) (ro 4) < hw a (Int.toNat q) (yw u ro (Int.toNat q))) → Q (some (.inl v)) h) : av_wp none cd_21 0 [some (.inr (.inr (.inl (some (b))))), some (.inl k), none, none] [] h Q := by
  have s12 := co_s12 (ib_co E.1)
  have cbr := co_cbr (ib_co E.1)
  have mbr := eb_xr E
  have mor := eb_yr E
  refine av_wp_sqF ck_21 1 (pc' := 1) (lv' := [some (.inr (.inr (.inl (some (b))))), some (.inl k), none, none]) (st' := [.inr (.inr (.inl (some (b))))]) (h' := h) rfl ?_
  refine wq_gr (p' := 4) (ck_21 _ _ rfl) rfl (congrArg Prod.fst (ib_k0 E.1)) rfl (ib_t E.1) ?_
  refine av_wp_sqF ck_21 1 (pc' := 5) (lv' := [some (.inr (.inr (.inl (some (b))))), some (.inl k), none, none]) (st' := [.inl k, .inr (.inr (.inl (some (t))))]) (h' := h) rfl ?_
  refine wq_cv (p' := 8) (av_qc (.invokevirtual 136) 28 1 0 1) 2 cd_28 [.inl k] (t) 1 [some (.inr (.inr (.inl (some (t))))), some (.inl k)] (ck_21 _ _ rfl) rfl rfl pp_28 rfl rfl rfl (congrArg Prod.fst (co_kt (ib_co E.1))) rfl rfl rfl rfl ?_
  refine ct_28 (ib_co E.1) (k) (by omega) (fun v1 p2 => ?_)
  show av_wp _ cd_21 8 [some (.inr (.inr (.inl (some (b))))), some (.inl k), none, none] [.inl v1] h _
  refine wq_k1 (p' := 11) (ck_21 _ _ rfl) rfl ⟨by omega, by omega⟩ (fun c3 => ?_) (fun c4 => ?_)
  · have c3 : v1 ≠ (0) := c3
    refine av_wp_sqF ck_21 1 (pc' := 14) (lv' := [some (.inr (.inr (.inl (some (b))))), some (.inl k), none, none]) (st' := [.inr (.inr (.inl (some (b))))]) (h' := h) rfl ?_
    refine wq_gr (p' := 17) (ck_21 _ _ rfl) rfl (congrArg Prod.fst (ib_k0 E.1)) rfl (ib_t E.1) ?_
    refine av_wp_sqF ck_21 2 (pc' := 19) (lv' := [some (.inr (.inr (.inl (some (b))))), some (.inl k), none, none]) (st' := [.inl (3), .inl k, .inr (.inr (.inl (some (t))))]) (h' := h) rfl ?_
    refine wq_cv (p' := 22) (av_qc (.invokevirtual 74) 29 2 0 1) 3 cd_29 [.inl (3), .inl k] (t) 1 [some (.inr (.inr (.inl (some (t))))), some (.inl k), some (.inl (3))] (ck_21 _ _ rfl) rfl rfl pp_29 rfl rfl rfl (congrArg Prod.fst (co_kt (ib_co E.1))) rfl rfl rfl rfl ?_
    refine xc_29 (ib_co E.1) (k) (by omega) 3 (by omega) rfl ((congrFun (eb_u E) _).trans e3) ?_
    show av_wp _ cd_21 22 [some (.inr (.inr (.inl (some (b))))), some (.inl k), none, none] [.inl q] h _
    refine av_wp_sqF ck_21 2 (pc' := 24) (lv' := [some (.inr (.inr (.inl (some (b))))), some (.inl k), some (.inl q), none]) (st' := [.inr (.inr (.inl (some (b))))]) (h' := h) rfl ?_
    refine wq_gr (p' := 27) (ck_21 _ _ rfl) rfl (congrArg Prod.fst (ib_k0 E.1)) rfl (ib_g E.1 5 rfl) ?_
    refine av_wp_sqF ck_21 1 (pc' := 28) (lv' := [some (.inr (.inr (.inl (some (b))))), some (.inl k), some (.inl q), none]) (st' := [.inl k, .inr (.inr (.inl (some (b + 1 + 5))))]) (h' := h) rfl ?_
    obtain ⟨v6, e7⟩ : ∃ v, a 5 (Int.toNat (k)) = v := ⟨_, rfl⟩
    have g8 := b5 (Int.toNat (k)) (by omega)
    rw [e7] at g8
    refine wq_al (p' := 29) (n := 12) (ck_21 _ _ rfl) rfl (ib_k E.1 5 rfl) (by omega) ((congrFun (eb_a E 5 rfl) _).trans e7) ?_
    refine av_wp_sqF ck_21 1 (pc' := 30) (lv' := [some (.inr (.inr (.inl (some (b))))), some (.inl k), some (.inl q), none]) (st' := [.inl (-1), .inl v6]) (h' := h) rfl ?_
    refine wq_k2 (p' := 33) (ck_21 _ _ rfl) rfl ⟨by omega, by omega⟩ ⟨by omega, by omega⟩ (fun c9 => ?_) (fun c10 => ?_)
    · have c9 : v6 = (-1) := c9
      refine av_wp_sqF ck_21 3 (pc' := 40) (lv' := [some (.inr (.inr (.inl (some (b))))), some (.inl k), some (.inl q), some (.inl (0))]) (st' := [.inr (.inr (.inl (some (b))))]) (h' := h) rfl ?_
      refine wq_gr (p' := 43) (ck_21 _ _ rfl) rfl (congrArg Prod.fst (ib_k0 E.1)) rfl (ib_t E.1) ?_
      refine av_wp_sqF ck_21 1 (pc' := 44) (lv' := [some (.inr (.inr (.inl (some (b))))), some (.inl k), some (.inl q), some (.inl (0))]) (st' := [.inl q, .inr (.inr (.inl (some (t))))]) (h' := h) rfl ?_
      refine wq_cv (p' := 47) (av_qc (.invokevirtual 136) 28 1 0 1) 2 cd_28 [.inl q] (t) 1 [some (.inr (.inr (.inl (some (t))))), some (.inl q)] (ck_21 _ _ rfl) rfl rfl pp_28 rfl rfl rfl (congrArg Prod.fst (co_kt (ib_co E.1))) rfl rfl rfl rfl ?_
      refine ct_28 (ib_co E.1) (q) (by omega) (fun v11 p12 => ?_)
      show av_wp _ cd_21 47 [some (.inr (.inr (.inl (some (b))))), some (.inl k), some (.inl q), some (.inl (0))] [.inl v11] h _
      refine wq_k1 (p' := 50) (ck_21 _ _ rfl) rfl ⟨by omega, by omega⟩ (fun c13 => ?_) (fun c14 => ?_)
      · have c13 : v11 = (0) := c13
        refine av_wp_sqF ck_21 1 (pc' := 65) (lv' := [some (.inr (.inr (.inl (some (b))))), some (.inl k), some (.inl q), some (.inl (0))]) (st' := [.inr (.inr (.inl (some (b))))]) (h' := h) rfl ?_
        refine wq_cv (p' := 68) (av_qc (.invokevirtual 142) 3 0 0 0) 1 cd_3 [] (b) 0 [some (.inr (.inr (.inl (some (b)))))] (ck_21 _ _ rfl) rfl rfl pp_3 rfl rfl rfl (congrArg Prod.fst (ib_k0 E.1)) rfl rfl rfl rfl ?_
        refine cx_3 E F qm (fun v15 p16 => ?_)
        show av_wp _ cd_21 68 [some (.inr (.inr (.inl (some (b))))), some (.inl k), some (.inl q), some (.inl (0))] [.inl v15] h _
        refine wq_k1 (p' := 71) (ck_21 _ _ rfl) rfl ⟨by omega, by omega⟩ (fun c17 => ?_) (fun c18 => ?_)
        · have c17 : v15 = (0) := c17
          refine av_wp_sqF ck_21 1 (pc' := 84) (lv' := [some (.inr (.inr (.inl (some (b))))), some (.inl k), some (.inl q), some (.inl (0))]) (st' := [.inr (.inr (.inl (some (b))))]) (h' := h) rfl ?_
          refine wq_gr (p' := 87) (ck_21 _ _ rfl) rfl (congrArg Prod.fst (ib_k0 E.1)) rfl (ib_t E.1) ?_
          refine av_wp_sqF ck_21 2 (pc' := 89) (lv' := [some (.inr (.inr (.inl (some (b))))), some (.inl k), some (.inl q), some (.inl (0))]) (st' := [.inl (0), .inl k, .inr (.inr (.inl (some (t))))]) (h' := h) rfl ?_
          refine wq_cv (p' := 92) (av_qc (.invokevirtual 74) 29 2 0 1) 3 cd_29 [.inl (0), .inl k] (t) 1 [some (.inr (.inr (.inl (some (t))))), some (.inl k), some (.inl (0))] (ck_21 _ _ rfl) rfl rfl pp_29 rfl rfl rfl (congrArg Prod.fst (co_kt (ib_co E.1))) rfl rfl rfl rfl ?_
          obtain ⟨v19, e20⟩ : ∃ v, u (21 * Int.toNat (k) + 0) = v := ⟨_, rfl⟩
          have g21 := eb_uv E (21 * Int.toNat (k) + 0)
          rw [e20] at g21
          refine xc_29 (ib_co E.1) (k) (by omega) 0 (by omega) rfl ((congrFun (eb_u E) _).trans e20) ?_
          show av_wp _ cd_21 92 [some (.inr (.inr (.inl (some (b))))), some (.inl k), some (.inl q), some (.inl (0))] [.inl v19] h _
          refine av_wp_sqF ck_21 1 (pc' := 93) (lv' := [some (.inr (.inr (.inl (some (b))))), some (.inl k), some (.inl q), some (.inl (0))]) (st' := [.inl (5), .inl v19]) (h' := h) rfl ?_
          refine wq_k2 (p' := 96) (ck_21 _ _ rfl) rfl ⟨by omega, by omega⟩ ⟨by omega, by omega⟩ (fun c22 => ?_) (fun c23 => ?_)
          · have c22 : v19 ≠ (5) := c22
            refine av_wp_sqF ck_21 1 (pc' := 113) (lv' := [some (.inr (.inr (.inl (some (b))))), some (.inl k), some (.inl q), some (.inl (0))]) (st' := [.inl (0)]) (h' := h) rfl ?_
            refine av_wp_ret (v := some (.inl (0))) (ck_21 _ _ rfl) rfl rfl ?_
            exact hq _ ⟨0, 0, 0, 0, Or.inr ⟨rfl, by omega⟩, Or.inr ⟨rfl, by omega⟩, Or.inr ⟨rfl, by omega⟩, Or.inr ⟨rfl, fun y => by have := y.1; omega⟩, by omega⟩
          · have c23 : v19 = (5) := c23
            refine av_wp_sqF ck_21 3 (pc' := 99) (lv' := [some (.inr (.inr (.inl (some (b))))), some (.inl k), some (.inl q), some (.inl (0))]) (st' := [.inl q, .inl k, .inr (.inr (.inl (some (b))))]) (h' := h) rfl ?_
            refine wq_cv (p' := 102) (av_qc (.invokevirtual 150) 22 2 0 0) 5 cd_22 [.inl q, .inl k] (b) 0 [some (.inr (.inr (.inl (some (b))))), some (.inl k), some (.inl q), none, none] (ck_21 _ _ rfl) rfl rfl pp_22 rfl rfl rfl (congrArg Prod.fst (ib_k0 E.1)) rfl rfl rfl rfl ?_
            refine cx_22 E F H R b3 b5 b8 qm k qk q qq (fun v24 p25 => ?_)
            have g26 : v24 = 0 ∨ v24 = 1 := p25.elim (fun z => Or.inr z.1) (fun z => Or.inl z.1)
            show av_wp _ cd_21 102 [some (.inr (.inr (.inl (some (b))))), some (.inl k), some (.inl q), some (.inl (0))] [.inl v24] h _
            refine wq_k1 (p' := 105) (ck_21 _ _ rfl) rfl ⟨by omega, by omega⟩ (fun c27 => ?_) (fun c28 => ?_)
            · have c27 : v24 = (0) := c27
              refine av_wp_sqF ck_21 1 (pc' := 113) (lv' := [some (.inr (.inr (.inl (some (b))))), some (.inl k), some (.inl q), some (.inl (0))]) (st' := [.inl (0)]) (h' := h) rfl ?_
              refine av_wp_ret (v := some (.inl (0))) (ck_21 _ _ rfl) rfl rfl ?_
              exact hq _ ⟨0, 0, 0, 0, Or.inr ⟨rfl, by omega⟩, Or.inr ⟨rfl, by omega⟩, Or.inr ⟨rfl, by omega⟩, p25.elim (fun z => absurd z.1 (by omega)) (fun z => Or.inr ⟨rfl, fun y => z.2 y.2⟩), by omega⟩
            · have c28 : v24 ≠ (0) := c28
              refine av_wp_sqF ck_21 4 (pc' := 113) (lv' := [some (.inr (.inr (.inl (some (b))))), some (.inl k), some (.inl q), some (.inl (0))]) (st' := [.inl (8)]) (h' := h) rfl ?_
              refine av_wp_ret (v := some (.inl (8))) (ck_21 _ _ rfl) rfl rfl ?_
              exact hq _ ⟨0, 0, 0, 1, Or.inr ⟨rfl, by omega⟩, Or.inr ⟨rfl, by omega⟩, Or.inr ⟨rfl, by omega⟩, p25.elim (fun z => Or.inl ⟨rfl, e20.trans (by omega), z.2⟩) (fun z => absurd z.1 (by omega)), by omega⟩
        · have c18 : v15 ≠ (0) := c18
          refine av_wp_sqF ck_21 1 (pc' := 72) (lv' := [some (.inr (.inr (.inl (some (b))))), some (.inl k), some (.inl q), some (.inl (0))]) (st' := [.inr (.inr (.inl (some (b))))]) (h' := h) rfl ?_
          refine wq_gi (p' := 75) (ck_21 _ _ rfl) rfl (congrArg Prod.fst (ib_k0 E.1)) rfl (eb_x E) ?_
          refine av_wp_sqF ck_21 1 (pc' := 76) (lv' := [some (.inr (.inr (.inl (some (b))))), some (.inl k), some (.inl q), some (.inl (0))]) (st' := [.inl k, .inl mb]) (h' := h) rfl ?_
          refine wq_k2 (p' := 79) (ck_21 _ _ rfl) rfl ⟨by omega, by omega⟩ ⟨by omega, by omega⟩ (fun c29 => ?_) (fun c30 => ?_)
          · have c29 : mb ≠ k := c29
            refine av_wp_sqF ck_21 1 (pc' := 84) (lv' := [some (.inr (.inr (.inl (some (b))))), some (.inl k), some (.inl q), some (.inl (0))]) (st' := [.inr (.inr (.inl (some (b))))]) (h' := h) rfl ?_
            refine wq_gr (p' := 87) (ck_21 _ _ rfl) rfl (congrArg Prod.fst (ib_k0 E.1)) rfl (ib_t E.1) ?_
            refine av_wp_sqF ck_21 2 (pc' := 89) (lv' := [some (.inr (.inr (.inl (some (b))))), some (.inl k), some (.inl q), some (.inl (0))]) (st' := [.inl (0), .inl k, .inr (.inr (.inl (some (t))))]) (h' := h) rfl ?_
            refine wq_cv (p' := 92) (av_qc (.invokevirtual 74) 29 2 0 1) 3 cd_29 [.inl (0), .inl k] (t) 1 [some (.inr (.inr (.inl (some (t))))), some (.inl k), some (.inl (0))] (ck_21 _ _ rfl) rfl rfl pp_29 rfl rfl rfl (congrArg Prod.fst (co_kt (ib_co E.1))) rfl rfl rfl rfl ?_
            obtain ⟨v31, e32⟩ : ∃ v, u (21 * Int.toNat (k) + 0) = v := ⟨_, rfl⟩
            have g33 := eb_uv E (21 * Int.toNat (k) + 0)
            rw [e32] at g33
            refine xc_29 (ib_co E.1) (k) (by omega) 0 (by omega) rfl ((congrFun (eb_u E) _).trans e32) ?_
            show av_wp _ cd_21 92 [some (.inr (.inr (.inl (some (b))))), some (.inl k), some (.inl q), some (.inl (0))] [.inl v31] h _
            refine av_wp_sqF ck_21 1 (pc' := 93) (lv' := [some (.inr (.inr (.inl (some (b))))), some (.inl k), some (.inl q), some (.inl (0))]) (st' := [.inl (5), .inl v31]) (h' := h) rfl ?_
            refine wq_k2 (p' := 96) (ck_21 _ _ rfl) rfl ⟨by omega, by omega⟩ ⟨by omega, by omega⟩ (fun c34 => ?_) (fun c35 => ?_)
            · have c34 : v31 ≠ (5) := c34
              refine av_wp_sqF ck_21 1 (pc' := 113) (lv' := [some (.inr (.inr (.inl (some (b))))), some (.inl k), some (.inl q), some (.inl (0))]) (st' := [.inl (0)]) (h' := h) rfl ?_
              refine av_wp_ret (v := some (.inl (0))) (ck_21 _ _ rfl) rfl rfl ?_
              exact hq _ ⟨0, 0, 0, 0, Or.inr ⟨rfl, by omega⟩, Or.inr ⟨rfl, by omega⟩, Or.inr ⟨rfl, by omega⟩, Or.inr ⟨rfl, fun y => by have := y.1; omega⟩, by omega⟩
            · have c35 : v31 = (5) := c35
              refine av_wp_sqF ck_21 3 (pc' := 99) (lv' := [some (.inr (.inr (.inl (some (b))))), some (.inl k), some (.inl q), some (.inl (0))]) (st' := [.inl q, .inl k, .inr (.inr (.inl (some (b))))]) (h' := h) rfl ?_
              refine wq_cv (p' := 102) (av_qc (.invokevirtual 150) 22 2 0 0) 5 cd_22 [.inl q, .inl k] (b) 0 [some (.inr (.inr (.inl (some (b))))), some (.inl k), some (.inl q), none, none] (ck_21 _ _ rfl) rfl rfl pp_22 rfl rfl rfl (congrArg Prod.fst (ib_k0 E.1)) rfl rfl rfl rfl ?_
              refine cx_22 E F H R b3 b5 b8 qm k qk q qq (fun v36 p37 => ?_)
              have g38 : v36 = 0 ∨ v36 = 1 := p37.elim (fun z => Or.inr z.1) (fun z => Or.inl z.1)
              show av_wp _ cd_21 102 [some (.inr (.inr (.inl (some (b))))), some (.inl k), some (.inl q), some (.inl (0))] [.inl v36] h _
              refine wq_k1 (p' := 105) (ck_21 _ _ rfl) rfl ⟨by omega, by omega⟩ (fun c39 => ?_) (fun c40 => ?_)
              · have c39 : v36 = (0) := c39
                refine av_wp_sqF ck_21 1 (pc' := 113) (lv' := [some (.inr (.inr (.inl (some (b))))), some (.inl k), some (.inl q), some (.inl (0))]) (st' := [.inl (0)]) (h' := h) rfl ?_
                refine av_wp_ret (v := some (.inl (0))) (ck_21 _ _ rfl) rfl rfl ?_
                exact hq _ ⟨0, 0, 0, 0, Or.inr ⟨rfl, by omega⟩, Or.inr ⟨rfl, by omega⟩, Or.inr ⟨rfl, by omega⟩, p37.elim (fun z => absurd z.1 (by omega)) (fun z => Or.inr ⟨rfl, fun y => z.2 y.2⟩), by omega⟩
              · have c40 : v36 ≠ (0) := c40
                refine av_wp_sqF ck_21 4 (pc' := 113) (lv' := [some (.inr (.inr (.inl (some (b))))), some (.inl k), some (.inl q), some (.inl (0))]) (st' := [.inl (8)]) (h' := h) rfl ?_
                refine av_wp_ret (v := some (.inl (8))) (ck_21 _ _ rfl) rfl rfl ?_
                exact hq _ ⟨0, 0, 0, 1, Or.inr ⟨rfl, by omega⟩, Or.inr ⟨rfl, by omega⟩, Or.inr ⟨rfl, by omega⟩, p37.elim (fun z => Or.inl ⟨rfl, e32.trans (by omega), z.2⟩) (fun z => absurd z.1 (by omega)), by omega⟩
          · have c30 : mb = k := c30
            refine av_wp_sqF ck_21 5 (pc' := 84) (lv' := [some (.inr (.inr (.inl (some (b))))), some (.inl k), some (.inl q), some (.inl (4))]) (st' := [.inr (.inr (.inl (some (b))))]) (h' := h) rfl ?_
            refine wq_gr (p' := 87) (ck_21 _ _ rfl) rfl (congrArg Prod.fst (ib_k0 E.1)) rfl (ib_t E.1) ?_
            refine av_wp_sqF ck_21 2 (pc' := 89) (lv' := [some (.inr (.inr (.inl (some (b))))), some (.inl k), some (.inl q), some (.inl (4))]) (st' := [.inl (0), .inl k, .inr (.inr (.inl (some (t))))]) (h' := h) rfl ?_
            refine wq_cv (p' := 92) (av_qc (.invokevirtual 74) 29 2 0 1) 3 cd_29 [.inl (0), .inl k] (t) 1 [some (.inr (.inr (.inl (some (t))))), some (.inl k), some (.inl (0))] (ck_21 _ _ rfl) rfl rfl pp_29 rfl rfl rfl (congrArg Prod.fst (co_kt (ib_co E.1))) rfl rfl rfl rfl ?_
            obtain ⟨v41, e42⟩ : ∃ v, u (21 * Int.toNat (k) + 0) = v := ⟨_, rfl⟩
            have g43 := eb_uv E (21 * Int.toNat (k) + 0)
            rw [e42] at g43
            refine xc_29 (ib_co E.1) (k) (by omega) 0 (by omega) rfl ((congrFun (eb_u E) _).trans e42) ?_
            show av_wp _ cd_21 92 [some (.inr (.inr (.inl (some (b))))), some (.inl k), some (.inl q), some (.inl (4))] [.inl v41] h _
            refine av_wp_sqF ck_21 1 (pc' := 93) (lv' := [some (.inr (.inr (.inl (some (b))))), some (.inl k), some (.inl q), some (.inl (4))]) (st' := [.inl (5), .inl v41]) (h' := h) rfl ?_
            refine wq_k2 (p' := 96) (ck_21 _ _ rfl) rfl ⟨by omega, by omega⟩ ⟨by omega, by omega⟩ (fun c44 => ?_) (fun c45 => ?_)
            · have c44 : v41 ≠ (5) := c44
              refine av_wp_sqF ck_21 1 (pc' := 113) (lv' := [some (.inr (.inr (.inl (some (b))))), some (.inl k), some (.inl q), some (.inl (4))]) (st' := [.inl (4)]) (h' := h) rfl ?_
              refine av_wp_ret (v := some (.inl (4))) (ck_21 _ _ rfl) rfl rfl ?_
              exact hq _ ⟨0, 0, 1, 0, Or.inr ⟨rfl, by omega⟩, Or.inr ⟨rfl, by omega⟩, Or.inl ⟨rfl, by omega⟩, Or.inr ⟨rfl, fun y => by have := y.1; omega⟩, by omega⟩
            · have c45 : v41 = (5) := c45
              refine av_wp_sqF ck_21 3 (pc' := 99) (lv' := [some (.inr (.inr (.inl (some (b))))), some (.inl k), some (.inl q), some (.inl (4))]) (st' := [.inl q, .inl k, .inr (.inr (.inl (some (b))))]) (h' := h) rfl ?_
              refine wq_cv (p' := 102) (av_qc (.invokevirtual 150) 22 2 0 0) 5 cd_22 [.inl q, .inl k] (b) 0 [some (.inr (.inr (.inl (some (b))))), some (.inl k), some (.inl q), none, none] (ck_21 _ _ rfl) rfl rfl pp_22 rfl rfl rfl (congrArg Prod.fst (ib_k0 E.1)) rfl rfl rfl rfl ?_
              refine cx_22 E F H R b3 b5 b8 qm k qk q qq (fun v46 p47 => ?_)
              have g48 : v46 = 0 ∨ v46 = 1 := p47.elim (fun z => Or.inr z.1) (fun z => Or.inl z.1)
              show av_wp _ cd_21 102 [some (.inr (.inr (.inl (some (b))))), some (.inl k), some (.inl q), some (.inl (4))] [.inl v46] h _
              refine wq_k1 (p' := 105) (ck_21 _ _ rfl) rfl ⟨by omega, by omega⟩ (fun c49 => ?_) (fun c50 => ?_)
              · have c49 : v46 = (0) := c49
                refine av_wp_sqF ck_21 1 (pc' := 113) (lv' := [some (.inr (.inr (.inl (some (b))))), some (.inl k), some (.inl q), some (.inl (4))]) (st' := [.inl (4)]) (h' := h) rfl ?_
                refine av_wp_ret (v := some (.inl (4))) (ck_21 _ _ rfl) rfl rfl ?_
                exact hq _ ⟨0, 0, 1, 0, Or.inr ⟨rfl, by omega⟩, Or.inr ⟨rfl, by omega⟩, Or.inl ⟨rfl, by omega⟩, p47.elim (fun z => absurd z.1 (by omega)) (fun z => Or.inr ⟨rfl, fun y => z.2 y.2⟩), by omega⟩
              · have c50 : v46 ≠ (0) := c50
                refine av_wp_sqF ck_21 4 (pc' := 113) (lv' := [some (.inr (.inr (.inl (some (b))))), some (.inl k), some (.inl q), some (.inl (4))]) (st' := [.inl (12)]) (h' := h) rfl ?_
                refine av_wp_ret (v := some (.inl (12))) (ck_21 _ _ rfl) rfl rfl ?_
                exact hq _ ⟨0, 0, 1, 1, Or.inr ⟨rfl, by omega⟩, Or.inr ⟨rfl, by omega⟩, Or.inl ⟨rfl, by omega⟩, p47.elim (fun z => Or.inl ⟨rfl, e42.trans (by omega), z.2⟩) (fun z => absurd z.1 (by omega)), by omega⟩
      · have c14 : v11 ≠ (0) := c14
        refine av_wp_sqF ck_21 1 (pc' := 51) (lv' := [some (.inr (.inr (.inl (some (b))))), some (.inl k), some (.inl q), some (.inl (0))]) (st' := [.inr (.inr (.inl (some (b))))]) (h' := h) rfl ?_
        refine wq_gr (p' := 54) (ck_21 _ _ rfl) rfl (congrArg Prod.fst (ib_k0 E.1)) rfl (ib_g E.1 8 rfl) ?_
        refine av_wp_sqF ck_21 1 (pc' := 55) (lv' := [some (.inr (.inr (.inl (some (b))))), some (.inl k), some (.inl q), some (.inl (0))]) (st' := [.inl q, .inr (.inr (.inl (some (b + 1 + 8))))]) (h' := h) rfl ?_
        obtain ⟨v52, e53⟩ : ∃ v, a 8 (Int.toNat (q)) = v := ⟨_, rfl⟩
        have g54 := b8 (Int.toNat (q)) (by omega)
        rw [e53] at g54
        refine wq_al (p' := 56) (n := 12) (ck_21 _ _ rfl) rfl (ib_k E.1 8 rfl) (by omega) ((congrFun (eb_a E 8 rfl) _).trans e53) ?_
        refine av_wp_sqF ck_21 1 (pc' := 57) (lv' := [some (.inr (.inr (.inl (some (b))))), some (.inl k), some (.inl q), some (.inl (0))]) (st' := [.inl k, .inl v52]) (h' := h) rfl ?_
        refine wq_k2 (p' := 60) (ck_21 _ _ rfl) rfl ⟨by omega, by omega⟩ ⟨by omega, by omega⟩ (fun c55 => ?_) (fun c56 => ?_)
        · have c55 : v52 ≠ k := c55
          refine av_wp_sqF ck_21 1 (pc' := 65) (lv' := [some (.inr (.inr (.inl (some (b))))), some (.inl k), some (.inl q), some (.inl (0))]) (st' := [.inr (.inr (.inl (some (b))))]) (h' := h) rfl ?_
          refine wq_cv (p' := 68) (av_qc (.invokevirtual 142) 3 0 0 0) 1 cd_3 [] (b) 0 [some (.inr (.inr (.inl (some (b)))))] (ck_21 _ _ rfl) rfl rfl pp_3 rfl rfl rfl (congrArg Prod.fst (ib_k0 E.1)) rfl rfl rfl rfl ?_
          refine cx_3 E F qm (fun v57 p58 => ?_)
          show av_wp _ cd_21 68 [some (.inr (.inr (.inl (some (b))))), some (.inl k), some (.inl q), some (.inl (0))] [.inl v57] h _
          refine wq_k1 (p' := 71) (ck_21 _ _ rfl) rfl ⟨by omega, by omega⟩ (fun c59 => ?_) (fun c60 => ?_)
          · have c59 : v57 = (0) := c59
            refine av_wp_sqF ck_21 1 (pc' := 84) (lv' := [some (.inr (.inr (.inl (some (b))))), some (.inl k), some (.inl q), some (.inl (0))]) (st' := [.inr (.inr (.inl (some (b))))]) (h' := h) rfl ?_
            refine wq_gr (p' := 87) (ck_21 _ _ rfl) rfl (congrArg Prod.fst (ib_k0 E.1)) rfl (ib_t E.1) ?_
            refine av_wp_sqF ck_21 2 (pc' := 89) (lv' := [some (.inr (.inr (.inl (some (b))))), some (.inl k), some (.inl q), some (.inl (0))]) (st' := [.inl (0), .inl k, .inr (.inr (.inl (some (t))))]) (h' := h) rfl ?_
            refine wq_cv (p' := 92) (av_qc (.invokevirtual 74) 29 2 0 1) 3 cd_29 [.inl (0), .inl k] (t) 1 [some (.inr (.inr (.inl (some (t))))), some (.inl k), some (.inl (0))] (ck_21 _ _ rfl) rfl rfl pp_29 rfl rfl rfl (congrArg Prod.fst (co_kt (ib_co E.1))) rfl rfl rfl rfl ?_
            obtain ⟨v61, e62⟩ : ∃ v, u (21 * Int.toNat (k) + 0) = v := ⟨_, rfl⟩
            have g63 := eb_uv E (21 * Int.toNat (k) + 0)
            rw [e62] at g63
            refine xc_29 (ib_co E.1) (k) (by omega) 0 (by omega) rfl ((congrFun (eb_u E) _).trans e62) ?_
            show av_wp _ cd_21 92 [some (.inr (.inr (.inl (some (b))))), some (.inl k), some (.inl q), some (.inl (0))] [.inl v61] h _
            refine av_wp_sqF ck_21 1 (pc' := 93) (lv' := [some (.inr (.inr (.inl (some (b))))), some (.inl k), some (.inl q), some (.inl (0))]) (st' := [.inl (5), .inl v61]) (h' := h) rfl ?_
            refine wq_k2 (p' := 96) (ck_21 _ _ rfl) rfl ⟨by omega, by omega⟩ ⟨by omega, by omega⟩ (fun c64 => ?_) (fun c65 => ?_)
            · have c64 : v61 ≠ (5) := c64
              refine av_wp_sqF ck_21 1 (pc' := 113) (lv' := [some (.inr (.inr (.inl (some (b))))), some (.inl k), some (.inl q), some (.inl (0))]) (st' := [.inl (0)]) (h' := h) rfl ?_
              refine av_wp_ret (v := some (.inl (0))) (ck_21 _ _ rfl) rfl rfl ?_
              exact hq _ ⟨0, 0, 0, 0, Or.inr ⟨rfl, by omega⟩, Or.inr ⟨rfl, by omega⟩, Or.inr ⟨rfl, by omega⟩, Or.inr ⟨rfl, fun y => by have := y.1; omega⟩, by omega⟩
            · have c65 : v61 = (5) := c65
              refine av_wp_sqF ck_21 3 (pc' := 99) (lv' := [some (.inr (.inr (.inl (some (b))))), some (.inl k), some (.inl q), some (.inl (0))]) (st' := [.inl q, .inl k, .inr (.inr (.inl (some (b))))]) (h' := h) rfl ?_
              refine wq_cv (p' := 102) (av_qc (.invokevirtual 150) 22 2 0 0) 5 cd_22 [.inl q, .inl k] (b) 0 [some (.inr (.inr (.inl (some (b))))), some (.inl k), some (.inl q), none, none] (ck_21 _ _ rfl) rfl rfl pp_22 rfl rfl rfl (congrArg Prod.fst (ib_k0 E.1)) rfl rfl rfl rfl ?_
              refine cx_22 E F H R b3 b5 b8 qm k qk q qq (fun v66 p67 => ?_)
              have g68 : v66 = 0 ∨ v66 = 1 := p67.elim (fun z => Or.inr z.1) (fun z => Or.inl z.1)
              show av_wp _ cd_21 102 [some (.inr (.inr (.inl (some (b))))), some (.inl k), some (.inl q), some (.inl (0))] [.inl v66] h _
              refine wq_k1 (p' := 105) (ck_21 _ _ rfl) rfl ⟨by omega, by omega⟩ (fun c69 => ?_) (fun c70 => ?_)
              · have c69 : v66 = (0) := c69
                refine av_wp_sqF ck_21 1 (pc' := 113) (lv' := [some (.inr (.inr (.inl (some (b))))), some (.inl k), some (.inl q), some (.inl (0))]) (st' := [.inl (0)]) (h' := h) rfl ?_
                refine av_wp_ret (v := some (.inl (0))) (ck_21 _ _ rfl) rfl rfl ?_
                exact hq _ ⟨0, 0, 0, 0, Or.inr ⟨rfl, by omega⟩, Or.inr ⟨rfl, by omega⟩, Or.inr ⟨rfl, by omega⟩, p67.elim (fun z => absurd z.1 (by omega)) (fun z => Or.inr ⟨rfl, fun y => z.2 y.2⟩), by omega⟩
              · have c70 : v66 ≠ (0) := c70
                refine av_wp_sqF ck_21 4 (pc' := 113) (lv' := [some (.inr (.inr (.inl (some (b))))), some (.inl k), some (.inl q), some (.inl (0))]) (st' := [.inl (8)]) (h' := h) rfl ?_
                refine av_wp_ret (v := some (.inl (8))) (ck_21 _ _ rfl) rfl rfl ?_
                exact hq _ ⟨0, 0, 0, 1, Or.inr ⟨rfl, by omega⟩, Or.inr ⟨rfl, by omega⟩, Or.inr ⟨rfl, by omega⟩, p67.elim (fun z => Or.inl ⟨rfl, e62.trans (by omega), z.2⟩) (fun z => absurd z.1 (by omega)), by omega⟩
          · have c60 : v57 ≠ (0) := c60
            refine av_wp_sqF ck_21 1 (pc' := 72) (lv' := [some (.inr (.inr (.inl (some (b))))), some (.inl k), some (.inl q), some (.inl (0))]) (st' := [.inr (.inr (.inl (some (b))))]) (h' := h) rfl ?_
            refine wq_gi (p' := 75) (ck_21 _ _ rfl) rfl (congrArg Prod.fst (ib_k0 E.1)) rfl (eb_x E) ?_
            refine av_wp_sqF ck_21 1 (pc' := 76) (lv' := [some (.inr (.inr (.inl (some (b))))), some (.inl k), some (.inl q), some (.inl (0))]) (st' := [.inl k, .inl mb]) (h' := h) rfl ?_
            refine wq_k2 (p' := 79) (ck_21 _ _ rfl) rfl ⟨by omega, by omega⟩ ⟨by omega, by omega⟩ (fun c71 => ?_) (fun c72 => ?_)
            · have c71 : mb ≠ k := c71
              refine av_wp_sqF ck_21 1 (pc' := 84) (lv' := [some (.inr (.inr (.inl (some (b))))), some (.inl k), some (.inl q), some (.inl (0))]) (st' := [.inr (.inr (.inl (some (b))))]) (h' := h) rfl ?_
              refine wq_gr (p' := 87) (ck_21 _ _ rfl) rfl (congrArg Prod.fst (ib_k0 E.1)) rfl (ib_t E.1) ?_
              refine av_wp_sqF ck_21 2 (pc' := 89) (lv' := [some (.inr (.inr (.inl (some (b))))), some (.inl k), some (.inl q), some (.inl (0))]) (st' := [.inl (0), .inl k, .inr (.inr (.inl (some (t))))]) (h' := h) rfl ?_
              refine wq_cv (p' := 92) (av_qc (.invokevirtual 74) 29 2 0 1) 3 cd_29 [.inl (0), .inl k] (t) 1 [some (.inr (.inr (.inl (some (t))))), some (.inl k), some (.inl (0))] (ck_21 _ _ rfl) rfl rfl pp_29 rfl rfl rfl (congrArg Prod.fst (co_kt (ib_co E.1))) rfl rfl rfl rfl ?_
              obtain ⟨v73, e74⟩ : ∃ v, u (21 * Int.toNat (k) + 0) = v := ⟨_, rfl⟩
              have g75 := eb_uv E (21 * Int.toNat (k) + 0)
              rw [e74] at g75
              refine xc_29 (ib_co E.1) (k) (by omega) 0 (by omega) rfl ((congrFun (eb_u E) _).trans e74) ?_
              show av_wp _ cd_21 92 [some (.inr (.inr (.inl (some (b))))), some (.inl k), some (.inl q), some (.inl (0))] [.inl v73] h _
              refine av_wp_sqF ck_21 1 (pc' := 93) (lv' := [some (.inr (.inr (.inl (some (b))))), some (.inl k), some (.inl q), some (.inl (0))]) (st' := [.inl (5), .inl v73]) (h' := h) rfl ?_
              refine wq_k2 (p' := 96) (ck_21 _ _ rfl) rfl ⟨by omega, by omega⟩ ⟨by omega, by omega⟩ (fun c76 => ?_) (fun c77 => ?_)
              · have c76 : v73 ≠ (5) := c76
                refine av_wp_sqF ck_21 1 (pc' := 113) (lv' := [some (.inr (.inr (.inl (some (b))))), some (.inl k), some (.inl q), some (.inl (0))]) (st' := [.inl (0)]) (h' := h) rfl ?_
                refine av_wp_ret (v := some (.inl (0))) (ck_21 _ _ rfl) rfl rfl ?_
                exact hq _ ⟨0, 0, 0, 0, Or.inr ⟨rfl, by omega⟩, Or.inr ⟨rfl, by omega⟩, Or.inr ⟨rfl, by omega⟩, Or.inr ⟨rfl, fun y => by have := y.1; omega⟩, by omega⟩
              · have c77 : v73 = (5) := c77
                refine av_wp_sqF ck_21 3 (pc' := 99) (lv' := [some (.inr (.inr (.inl (some (b))))), some (.inl k), some (.inl q), some (.inl (0))]) (st' := [.inl q, .inl k, .inr (.inr (.inl (some (b))))]) (h' := h) rfl ?_
                refine wq_cv (p' := 102) (av_qc (.invokevirtual 150) 22 2 0 0) 5 cd_22 [.inl q, .inl k] (b) 0 [some (.inr (.inr (.inl (some (b))))), some (.inl k), some (.inl q), none, none] (ck_21 _ _ rfl) rfl rfl pp_22 rfl rfl rfl (congrArg Prod.fst (ib_k0 E.1)) rfl rfl rfl rfl ?_
                refine cx_22 E F H R b3 b5 b8 qm k qk q qq (fun v78 p79 => ?_)
                have g80 : v78 = 0 ∨ v78 = 1 := p79.elim (fun z => Or.inr z.1) (fun z => Or.inl z.1)
                show av_wp _ cd_21 102 [some (.inr (.inr (.inl (some (b))))), some (.inl k), some (.inl q), some (.inl (0))] [.inl v78] h _
                refine wq_k1 (p' := 105) (ck_21 _ _ rfl) rfl ⟨by omega, by omega⟩ (fun c81 => ?_) (fun c82 => ?_)
                · have c81 : v78 = (0) := c81
                  refine av_wp_sqF ck_21 1 (pc' := 113) (lv' := [some (.inr (.inr (.inl (some (b))))), some (.inl k), some (.inl q), some (.inl (0))]) (st' := [.inl (0)]) (h' := h) rfl ?_
                  refine av_wp_ret (v := some (.inl (0))) (ck_21 _ _ rfl) rfl rfl ?_
                  exact hq _ ⟨0, 0, 0, 0, Or.inr ⟨rfl, by omega⟩, Or.inr ⟨rfl, by omega⟩, Or.inr ⟨rfl, by omega⟩, p79.elim (fun z => absurd z.1 (by omega)) (fun z => Or.inr ⟨rfl, fun y => z.2 y.2⟩), by omega⟩
                · have c82 : v78 ≠ (0) := c82
                  refine av_wp_sqF ck_21 4 (pc' := 113) (lv' := [some (.inr (.inr (.inl (some (b))))), some (.inl k), some (.inl q), some (.inl (0))]) (st' := [.inl (8)]) (h' := h) rfl ?_
                  refine av_wp_ret (v := some (.inl (8))) (ck_21 _ _ rfl) rfl rfl ?_
                  exact hq _ ⟨0, 0, 0, 1, Or.inr ⟨rfl, by omega⟩, Or.inr ⟨rfl, by omega⟩, Or.inr ⟨rfl, by omega⟩, p79.elim (fun z => Or.inl ⟨rfl, e74.trans (by omega), z.2⟩) (fun z => absurd z.1 (by omega)), by omega⟩
            · have c72 : mb = k := c72
              refine av_wp_sqF ck_21 5 (pc' := 84) (lv' := [some (.inr (.inr (.inl (some (b))))), some (.inl k), some (.inl q), some (.inl (4))]) (st' := [.inr (.inr (.inl (some (b))))]) (h' := h) rfl ?_
              refine wq_gr (p' := 87) (ck_21 _ _ rfl) rfl (congrArg Prod.fst (ib_k0 E.1)) rfl (ib_t E.1) ?_
              refine av_wp_sqF ck_21 2 (pc' := 89) (lv' := [some (.inr (.inr (.inl (some (b))))), some (.inl k), some (.inl q), some (.inl (4))]) (st' := [.inl (0), .inl k, .inr (.inr (.inl (some (t))))]) (h' := h) rfl ?_
              refine wq_cv (p' := 92) (av_qc (.invokevirtual 74) 29 2 0 1) 3 cd_29 [.inl (0), .inl k] (t) 1 [some (.inr (.inr (.inl (some (t))))), some (.inl k), some (.inl (0))] (ck_21 _ _ rfl) rfl rfl pp_29 rfl rfl rfl (congrArg Prod.fst (co_kt (ib_co E.1))) rfl rfl rfl rfl ?_
              obtain ⟨v83, e84⟩ : ∃ v, u (21 * Int.toNat (k) + 0) = v := ⟨_, rfl⟩
              have g85 := eb_uv E (21 * Int.toNat (k) + 0)
              rw [e84] at g85
              refine xc_29 (ib_co E.1) (k) (by omega) 0 (by omega) rfl ((congrFun (eb_u E) _).trans e84) ?_
              show av_wp _ cd_21 92 [some (.inr (.inr (.inl (some (b))))), some (.inl k), some (.inl q), some (.inl (4))] [.inl v83] h _
              refine av_wp_sqF ck_21 1 (pc' := 93) (lv' := [some (.inr (.inr (.inl (some (b))))), some (.inl k), some (.inl q), some (.inl (4))]) (st' := [.inl (5), .inl v83]) (h' := h) rfl ?_
              refine wq_k2 (p' := 96) (ck_21 _ _ rfl) rfl ⟨by omega, by omega⟩ ⟨by omega, by omega⟩ (fun c86 => ?_) (fun c87 => ?_)
              · have c86 : v83 ≠ (5) := c86
                refine av_wp_sqF ck_21 1 (pc' := 113) (lv' := [some (.inr (.inr (.inl (some (b))))), some (.inl k), some (.inl q), some (.inl (4))]) (st' := [.inl (4)]) (h' := h) rfl ?_
                refine av_wp_ret (v := some (.inl (4))) (ck_21 _ _ rfl) rfl rfl ?_
                exact hq _ ⟨0, 0, 1, 0, Or.inr ⟨rfl, by omega⟩, Or.inr ⟨rfl, by omega⟩, Or.inl ⟨rfl, by omega⟩, Or.inr ⟨rfl, fun y => by have := y.1; omega⟩, by omega⟩
              · have c87 : v83 = (5) := c87
                refine av_wp_sqF ck_21 3 (pc' := 99) (lv' := [some (.inr (.inr (.inl (some (b))))), some (.inl k), some (.inl q), some (.inl (4))]) (st' := [.inl q, .inl k, .inr (.inr (.inl (some (b))))]) (h' := h) rfl ?_
                refine wq_cv (p' := 102) (av_qc (.invokevirtual 150) 22 2 0 0) 5 cd_22 [.inl q, .inl k] (b) 0 [some (.inr (.inr (.inl (some (b))))), some (.inl k), some (.inl q), none, none] (ck_21 _ _ rfl) rfl rfl pp_22 rfl rfl rfl (congrArg Prod.fst (ib_k0 E.1)) rfl rfl rfl rfl ?_
                refine cx_22 E F H R b3 b5 b8 qm k qk q qq (fun v88 p89 => ?_)
                have g90 : v88 = 0 ∨ v88 = 1 := p89.elim (fun z => Or.inr z.1) (fun z => Or.inl z.1)
                show av_wp _ cd_21 102 [some (.inr (.inr (.inl (some (b))))), some (.inl k), some (.inl q), some (.inl (4))] [.inl v88] h _
                refine wq_k1 (p' := 105) (ck_21 _ _ rfl) rfl ⟨by omega, by omega⟩ (fun c91 => ?_) (fun c92 => ?_)
                · have c91 : v88 = (0) := c91
                  refine av_wp_sqF ck_21 1 (pc' := 113) (lv' := [some (.inr (.inr (.inl (some (b))))), some (.inl k), some (.inl q), some (.inl (4))]) (st' := [.inl (4)]) (h' := h) rfl ?_
                  refine av_wp_ret (v := some (.inl (4))) (ck_21 _ _ rfl) rfl rfl ?_
                  exact hq _ ⟨0, 0, 1, 0, Or.inr ⟨rfl, by omega⟩, Or.inr ⟨rfl, by omega⟩, Or.inl ⟨rfl, by omega⟩, p89.elim (fun z => absurd z.1 (by omega)) (fun z => Or.inr ⟨rfl, fun y => z.2 y.2⟩), by omega⟩
                · have c92 : v88 ≠ (0) := c92
                  refine av_wp_sqF ck_21 4 (pc' := 113) (lv' := [some (.inr (.inr (.inl (some (b))))), some (.inl k), some (.inl q), some (.inl (4))]) (st' := [.inl (12)]) (h' := h) rfl ?_
                  refine av_wp_ret (v := some (.inl (12))) (ck_21 _ _ rfl) rfl rfl ?_
                  exact hq _ ⟨0, 0, 1, 1, Or.inr ⟨rfl, by omega⟩, Or.inr ⟨rfl, by omega⟩, Or.inl ⟨rfl, by omega⟩, p89.elim (fun z => Or.inl ⟨rfl, e84.trans (by omega), z.2⟩) (fun z => absurd z.1 (by omega)), by omega⟩
        · have c56 : v52 = k := c56
          refine av_wp_sqF ck_21 5 (pc' := 65) (lv' := [some (.inr (.inr (.inl (some (b))))), some (.inl k), some (.inl q), some (.inl (2))]) (st' := [.inr (.inr (.inl (some (b))))]) (h' := h) rfl ?_
          refine wq_cv (p' := 68) (av_qc (.invokevirtual 142) 3 0 0 0) 1 cd_3 [] (b) 0 [some (.inr (.inr (.inl (some (b)))))] (ck_21 _ _ rfl) rfl rfl pp_3 rfl rfl rfl (congrArg Prod.fst (ib_k0 E.1)) rfl rfl rfl rfl ?_
          refine cx_3 E F qm (fun v93 p94 => ?_)
          show av_wp _ cd_21 68 [some (.inr (.inr (.inl (some (b))))), some (.inl k), some (.inl q), some (.inl (2))] [.inl v93] h _
          refine wq_k1 (p' := 71) (ck_21 _ _ rfl) rfl ⟨by omega, by omega⟩ (fun c95 => ?_) (fun c96 => ?_)
          · have c95 : v93 = (0) := c95
            refine av_wp_sqF ck_21 1 (pc' := 84) (lv' := [some (.inr (.inr (.inl (some (b))))), some (.inl k), some (.inl q), some (.inl (2))]) (st' := [.inr (.inr (.inl (some (b))))]) (h' := h) rfl ?_
            refine wq_gr (p' := 87) (ck_21 _ _ rfl) rfl (congrArg Prod.fst (ib_k0 E.1)) rfl (ib_t E.1) ?_
            refine av_wp_sqF ck_21 2 (pc' := 89) (lv' := [some (.inr (.inr (.inl (some (b))))), some (.inl k), some (.inl q), some (.inl (2))]) (st' := [.inl (0), .inl k, .inr (.inr (.inl (some (t))))]) (h' := h) rfl ?_
            refine wq_cv (p' := 92) (av_qc (.invokevirtual 74) 29 2 0 1) 3 cd_29 [.inl (0), .inl k] (t) 1 [some (.inr (.inr (.inl (some (t))))), some (.inl k), some (.inl (0))] (ck_21 _ _ rfl) rfl rfl pp_29 rfl rfl rfl (congrArg Prod.fst (co_kt (ib_co E.1))) rfl rfl rfl rfl ?_
            obtain ⟨v97, e98⟩ : ∃ v, u (21 * Int.toNat (k) + 0) = v := ⟨_, rfl⟩
            have g99 := eb_uv E (21 * Int.toNat (k) + 0)
            rw [e98] at g99
            refine xc_29 (ib_co E.1) (k) (by omega) 0 (by omega) rfl ((congrFun (eb_u E) _).trans e98) ?_
            show av_wp _ cd_21 92 [some (.inr (.inr (.inl (some (b))))), some (.inl k), some (.inl q), some (.inl (2))] [.inl v97] h _
            refine av_wp_sqF ck_21 1 (pc' := 93) (lv' := [some (.inr (.inr (.inl (some (b))))), some (.inl k), some (.inl q), some (.inl (2))]) (st' := [.inl (5), .inl v97]) (h' := h) rfl ?_
            refine wq_k2 (p' := 96) (ck_21 _ _ rfl) rfl ⟨by omega, by omega⟩ ⟨by omega, by omega⟩ (fun c100 => ?_) (fun c101 => ?_)
            · have c100 : v97 ≠ (5) := c100
              refine av_wp_sqF ck_21 1 (pc' := 113) (lv' := [some (.inr (.inr (.inl (some (b))))), some (.inl k), some (.inl q), some (.inl (2))]) (st' := [.inl (2)]) (h' := h) rfl ?_
              refine av_wp_ret (v := some (.inl (2))) (ck_21 _ _ rfl) rfl rfl ?_
              exact hq _ ⟨0, 1, 0, 0, Or.inr ⟨rfl, by omega⟩, Or.inl ⟨rfl, by omega⟩, Or.inr ⟨rfl, by omega⟩, Or.inr ⟨rfl, fun y => by have := y.1; omega⟩, by omega⟩
            · have c101 : v97 = (5) := c101
              refine av_wp_sqF ck_21 3 (pc' := 99) (lv' := [some (.inr (.inr (.inl (some (b))))), some (.inl k), some (.inl q), some (.inl (2))]) (st' := [.inl q, .inl k, .inr (.inr (.inl (some (b))))]) (h' := h) rfl ?_
              refine wq_cv (p' := 102) (av_qc (.invokevirtual 150) 22 2 0 0) 5 cd_22 [.inl q, .inl k] (b) 0 [some (.inr (.inr (.inl (some (b))))), some (.inl k), some (.inl q), none, none] (ck_21 _ _ rfl) rfl rfl pp_22 rfl rfl rfl (congrArg Prod.fst (ib_k0 E.1)) rfl rfl rfl rfl ?_
              refine cx_22 E F H R b3 b5 b8 qm k qk q qq (fun v102 p103 => ?_)
              have g104 : v102 = 0 ∨ v102 = 1 := p103.elim (fun z => Or.inr z.1) (fun z => Or.inl z.1)
              show av_wp _ cd_21 102 [some (.inr (.inr (.inl (some (b))))), some (.inl k), some (.inl q), some (.inl (2))] [.inl v102] h _
              refine wq_k1 (p' := 105) (ck_21 _ _ rfl) rfl ⟨by omega, by omega⟩ (fun c105 => ?_) (fun c106 => ?_)
              · have c105 : v102 = (0) := c105
                refine av_wp_sqF ck_21 1 (pc' := 113) (lv' := [some (.inr (.inr (.inl (some (b))))), some (.inl k), some (.inl q), some (.inl (2))]) (st' := [.inl (2)]) (h' := h) rfl ?_
                refine av_wp_ret (v := some (.inl (2))) (ck_21 _ _ rfl) rfl rfl ?_
                exact hq _ ⟨0, 1, 0, 0, Or.inr ⟨rfl, by omega⟩, Or.inl ⟨rfl, by omega⟩, Or.inr ⟨rfl, by omega⟩, p103.elim (fun z => absurd z.1 (by omega)) (fun z => Or.inr ⟨rfl, fun y => z.2 y.2⟩), by omega⟩
              · have c106 : v102 ≠ (0) := c106
                refine av_wp_sqF ck_21 4 (pc' := 113) (lv' := [some (.inr (.inr (.inl (some (b))))), some (.inl k), some (.inl q), some (.inl (2))]) (st' := [.inl (10)]) (h' := h) rfl ?_
                refine av_wp_ret (v := some (.inl (10))) (ck_21 _ _ rfl) rfl rfl ?_
                exact hq _ ⟨0, 1, 0, 1, Or.inr ⟨rfl, by omega⟩, Or.inl ⟨rfl, by omega⟩, Or.inr ⟨rfl, by omega⟩, p103.elim (fun z => Or.inl ⟨rfl, e98.trans (by omega), z.2⟩) (fun z => absurd z.1 (by omega)), by omega⟩
          · have c96 : v93 ≠ (0) := c96
            refine av_wp_sqF ck_21 1 (pc' := 72) (lv' := [some (.inr (.inr (.inl (some (b))))), some (.inl k), some (.inl q), some (.inl (2))]) (st' := [.inr (.inr (.inl (some (b))))]) (h' := h) rfl ?_
            refine wq_gi (p' := 75) (ck_21 _ _ rfl) rfl (congrArg Prod.fst (ib_k0 E.1)) rfl (eb_x E) ?_
            refine av_wp_sqF ck_21 1 (pc' := 76) (lv' := [some (.inr (.inr (.inl (some (b))))), some (.inl k), some (.inl q), some (.inl (2))]) (st' := [.inl k, .inl mb]) (h' := h) rfl ?_
            refine wq_k2 (p' := 79) (ck_21 _ _ rfl) rfl ⟨by omega, by omega⟩ ⟨by omega, by omega⟩ (fun c107 => ?_) (fun c108 => ?_)
            · have c107 : mb ≠ k := c107
              refine av_wp_sqF ck_21 1 (pc' := 84) (lv' := [some (.inr (.inr (.inl (some (b))))), some (.inl k), some (.inl q), some (.inl (2))]) (st' := [.inr (.inr (.inl (some (b))))]) (h' := h) rfl ?_
              refine wq_gr (p' := 87) (ck_21 _ _ rfl) rfl (congrArg Prod.fst (ib_k0 E.1)) rfl (ib_t E.1) ?_
              refine av_wp_sqF ck_21 2 (pc' := 89) (lv' := [some (.inr (.inr (.inl (some (b))))), some (.inl k), some (.inl q), some (.inl (2))]) (st' := [.inl (0), .inl k, .inr (.inr (.inl (some (t))))]) (h' := h) rfl ?_
              refine wq_cv (p' := 92) (av_qc (.invokevirtual 74) 29 2 0 1) 3 cd_29 [.inl (0), .inl k] (t) 1 [some (.inr (.inr (.inl (some (t))))), some (.inl k), some (.inl (0))] (ck_21 _ _ rfl) rfl rfl pp_29 rfl rfl rfl (congrArg Prod.fst (co_kt (ib_co E.1))) rfl rfl rfl rfl ?_
              obtain ⟨v109, e110⟩ : ∃ v, u (21 * Int.toNat (k) + 0) = v := ⟨_, rfl⟩
              have g111 := eb_uv E (21 * Int.toNat (k) + 0)
              rw [e110] at g111
              refine xc_29 (ib_co E.1) (k) (by omega) 0 (by omega) rfl ((congrFun (eb_u E) _).trans e110) ?_
              show av_wp _ cd_21 92 [some (.inr (.inr (.inl (some (b))))), some (.inl k), some (.inl q), some (.inl (2))] [.inl v109] h _
              refine av_wp_sqF ck_21 1 (pc' := 93) (lv' := [some (.inr (.inr (.inl (some (b))))), some (.inl k), some (.inl q), some (.inl (2))]) (st' := [.inl (5), .inl v109]) (h' := h) rfl ?_
              refine wq_k2 (p' := 96) (ck_21 _ _ rfl) rfl ⟨by omega, by omega⟩ ⟨by omega, by omega⟩ (fun c112 => ?_) (fun c113 => ?_)
              · have c112 : v109 ≠ (5) := c112
                refine av_wp_sqF ck_21 1 (pc' := 113) (lv' := [some (.inr (.inr (.inl (some (b))))), some (.inl k), some (.inl q), some (.inl (2))]) (st' := [.inl (2)]) (h' := h) rfl ?_
                refine av_wp_ret (v := some (.inl (2))) (ck_21 _ _ rfl) rfl rfl ?_
                exact hq _ ⟨0, 1, 0, 0, Or.inr ⟨rfl, by omega⟩, Or.inl ⟨rfl, by omega⟩, Or.inr ⟨rfl, by omega⟩, Or.inr ⟨rfl, fun y => by have := y.1; omega⟩, by omega⟩
              · have c113 : v109 = (5) := c113
                refine av_wp_sqF ck_21 3 (pc' := 99) (lv' := [some (.inr (.inr (.inl (some (b))))), some (.inl k), some (.inl q), some (.inl (2))]) (st' := [.inl q, .inl k, .inr (.inr (.inl (some (b))))]) (h' := h) rfl ?_
                refine wq_cv (p' := 102) (av_qc (.invokevirtual 150) 22 2 0 0) 5 cd_22 [.inl q, .inl k] (b) 0 [some (.inr (.inr (.inl (some (b))))), some (.inl k), some (.inl q), none, none] (ck_21 _ _ rfl) rfl rfl pp_22 rfl rfl rfl (congrArg Prod.fst (ib_k0 E.1)) rfl rfl rfl rfl ?_
                refine cx_22 E F H R b3 b5 b8 qm k qk q qq (fun v114 p115 => ?_)
                have g116 : v114 = 0 ∨ v114 = 1 := p115.elim (fun z => Or.inr z.1) (fun z => Or.inl z.1)
                show av_wp _ cd_21 102 [some (.inr (.inr (.inl (some (b))))), some (.inl k), some (.inl q), some (.inl (2))] [.inl v114] h _
                refine wq_k1 (p' := 105) (ck_21 _ _ rfl) rfl ⟨by omega, by omega⟩ (fun c117 => ?_) (fun c118 => ?_)
                · have c117 : v114 = (0) := c117
                  refine av_wp_sqF ck_21 1 (pc' := 113) (lv' := [some (.inr (.inr (.inl (some (b))))), some (.inl k), some (.inl q), some (.inl (2))]) (st' := [.inl (2)]) (h' := h) rfl ?_
                  refine av_wp_ret (v := some (.inl (2))) (ck_21 _ _ rfl) rfl rfl ?_
                  exact hq _ ⟨0, 1, 0, 0, Or.inr ⟨rfl, by omega⟩, Or.inl ⟨rfl, by omega⟩, Or.inr ⟨rfl, by omega⟩, p115.elim (fun z => absurd z.1 (by omega)) (fun z => Or.inr ⟨rfl, fun y => z.2 y.2⟩), by omega⟩
                · have c118 : v114 ≠ (0) := c118
                  refine av_wp_sqF ck_21 4 (pc' := 113) (lv' := [some (.inr (.inr (.inl (some (b))))), some (.inl k), some (.inl q), some (.inl (2))]) (st' := [.inl (10)]) (h' := h) rfl ?_
                  refine av_wp_ret (v := some (.inl (10))) (ck_21 _ _ rfl) rfl rfl ?_
                  exact hq _ ⟨0, 1, 0, 1, Or.inr ⟨rfl, by omega⟩, Or.inl ⟨rfl, by omega⟩, Or.inr ⟨rfl, by omega⟩, p115.elim (fun z => Or.inl ⟨rfl, e110.trans (by omega), z.2⟩) (fun z => absurd z.1 (by omega)), by omega⟩
            · have c108 : mb = k := c108
              refine av_wp_sqF ck_21 5 (pc' := 84) (lv' := [some (.inr (.inr (.inl (some (b))))), some (.inl k), some (.inl q), some (.inl (6))]) (st' := [.inr (.inr (.inl (some (b))))]) (h' := h) rfl ?_
              refine wq_gr (p' := 87) (ck_21 _ _ rfl) rfl (congrArg Prod.fst (ib_k0 E.1)) rfl (ib_t E.1) ?_
              refine av_wp_sqF ck_21 2 (pc' := 89) (lv' := [some (.inr (.inr (.inl (some (b))))), some (.inl k), some (.inl q), some (.inl (6))]) (st' := [.inl (0), .inl k, .inr (.inr (.inl (some (t))))]) (h' := h) rfl ?_
              refine wq_cv (p' := 92) (av_qc (.invokevirtual 74) 29 2 0 1) 3 cd_29 [.inl (0), .inl k] (t) 1 [some (.inr (.inr (.inl (some (t))))), some (.inl k), some (.inl (0))] (ck_21 _ _ rfl) rfl rfl pp_29 rfl rfl rfl (congrArg Prod.fst (co_kt (ib_co E.1))) rfl rfl rfl rfl ?_
              obtain ⟨v119, e120⟩ : ∃ v, u (21 * Int.toNat (k) + 0) = v := ⟨_, rfl⟩
              have g121 := eb_uv E (21 * Int.toNat (k) + 0)
              rw [e120] at g121
              refine xc_29 (ib_co E.1) (k) (by omega) 0 (by omega) rfl ((congrFun (eb_u E) _).trans e120) ?_
              show av_wp _ cd_21 92 [some (.inr (.inr (.inl (some (b))))), some (.inl k), some (.inl q), some (.inl (6))] [.inl v119] h _
              refine av_wp_sqF ck_21 1 (pc' := 93) (lv' := [some (.inr (.inr (.inl (some (b))))), some (.inl k), some (.inl q), some (.inl (6))]) (st' := [.inl (5), .inl v119]) (h' := h) rfl ?_
              refine wq_k2 (p' := 96) (ck_21 _ _ rfl) rfl ⟨by omega, by omega⟩ ⟨by omega, by omega⟩ (fun c122 => ?_) (fun c123 => ?_)
              · have c122 : v119 ≠ (5) := c122
                refine av_wp_sqF ck_21 1 (pc' := 113) (lv' := [some (.inr (.inr (.inl (some (b))))), some (.inl k), some (.inl q), some (.inl (6))]) (st' := [.inl (6)]) (h' := h) rfl ?_
                refine av_wp_ret (v := some (.inl (6))) (ck_21 _ _ rfl) rfl rfl ?_
                exact hq _ ⟨0, 1, 1, 0, Or.inr ⟨rfl, by omega⟩, Or.inl ⟨rfl, by omega⟩, Or.inl ⟨rfl, by omega⟩, Or.inr ⟨rfl, fun y => by have := y.1; omega⟩, by omega⟩
              · have c123 : v119 = (5) := c123
                refine av_wp_sqF ck_21 3 (pc' := 99) (lv' := [some (.inr (.inr (.inl (some (b))))), some (.inl k), some (.inl q), some (.inl (6))]) (st' := [.inl q, .inl k, .inr (.inr (.inl (some (b))))]) (h' := h) rfl ?_
                refine wq_cv (p' := 102) (av_qc (.invokevirtual 150) 22 2 0 0) 5 cd_22 [.inl q, .inl k] (b) 0 [some (.inr (.inr (.inl (some (b))))), some (.inl k), some (.inl q), none, none] (ck_21 _ _ rfl) rfl rfl pp_22 rfl rfl rfl (congrArg Prod.fst (ib_k0 E.1)) rfl rfl rfl rfl ?_
                refine cx_22 E F H R b3 b5 b8 qm k qk q qq (fun v124 p125 => ?_)
                have g126 : v124 = 0 ∨ v124 = 1 := p125.elim (fun z => Or.inr z.1) (fun z => Or.inl z.1)
                show av_wp _ cd_21 102 [some (.inr (.inr (.inl (some (b))))), some (.inl k), some (.inl q), some (.inl (6))] [.inl v124] h _
                refine wq_k1 (p' := 105) (ck_21 _ _ rfl) rfl ⟨by omega, by omega⟩ (fun c127 => ?_) (fun c128 => ?_)
                · have c127 : v124 = (0) := c127
                  refine av_wp_sqF ck_21 1 (pc' := 113) (lv' := [some (.inr (.inr (.inl (some (b))))), some (.inl k), some (.inl q), some (.inl (6))]) (st' := [.inl (6)]) (h' := h) rfl ?_
                  refine av_wp_ret (v := some (.inl (6))) (ck_21 _ _ rfl) rfl rfl ?_
                  exact hq _ ⟨0, 1, 1, 0, Or.inr ⟨rfl, by omega⟩, Or.inl ⟨rfl, by omega⟩, Or.inl ⟨rfl, by omega⟩, p125.elim (fun z => absurd z.1 (by omega)) (fun z => Or.inr ⟨rfl, fun y => z.2 y.2⟩), by omega⟩
                · have c128 : v124 ≠ (0) := c128
                  refine av_wp_sqF ck_21 4 (pc' := 113) (lv' := [some (.inr (.inr (.inl (some (b))))), some (.inl k), some (.inl q), some (.inl (6))]) (st' := [.inl (14)]) (h' := h) rfl ?_
                  refine av_wp_ret (v := some (.inl (14))) (ck_21 _ _ rfl) rfl rfl ?_
                  exact hq _ ⟨0, 1, 1, 1, Or.inr ⟨rfl, by omega⟩, Or.inl ⟨rfl, by omega⟩, Or.inl ⟨rfl, by omega⟩, p125.elim (fun z => Or.inl ⟨rfl, e120.trans (by omega), z.2⟩) (fun z => absurd z.1 (by omega)), by omega⟩
    · have c10 : v6 ≠ (-1) := c10
      refine av_wp_sqF ck_21 4 (pc' := 40) (lv' := [some (.inr (.inr (.inl (some (b))))), some (.inl k), some (.inl q), some (.inl (1))]) (st' := [.inr (.inr (.inl (some (b))))]) (h' := h) rfl ?_
      refine wq_gr (p' := 43) (ck_21 _ _ rfl) rfl (congrArg Prod.fst (ib_k0 E.1)) rfl (ib_t E.1) ?_
      refine av_wp_sqF ck_21 1 (pc' := 44) (lv' := [some (.inr (.inr (.inl (some (b))))), some (.inl k), some (.inl q), some (.inl (1))]) (st' := [.inl q, .inr (.inr (.inl (some (t))))]) (h' := h) rfl ?_
      refine wq_cv (p' := 47) (av_qc (.invokevirtual 136) 28 1 0 1) 2 cd_28 [.inl q] (t) 1 [some (.inr (.inr (.inl (some (t))))), some (.inl q)] (ck_21 _ _ rfl) rfl rfl pp_28 rfl rfl rfl (congrArg Prod.fst (co_kt (ib_co E.1))) rfl rfl rfl rfl ?_
      refine ct_28 (ib_co E.1) (q) (by omega) (fun v129 p130 => ?_)
      show av_wp _ cd_21 47 [some (.inr (.inr (.inl (some (b))))), some (.inl k), some (.inl q), some (.inl (1))] [.inl v129] h _
      refine wq_k1 (p' := 50) (ck_21 _ _ rfl) rfl ⟨by omega, by omega⟩ (fun c131 => ?_) (fun c132 => ?_)
      · have c131 : v129 = (0) := c131
        refine av_wp_sqF ck_21 1 (pc' := 65) (lv' := [some (.inr (.inr (.inl (some (b))))), some (.inl k), some (.inl q), some (.inl (1))]) (st' := [.inr (.inr (.inl (some (b))))]) (h' := h) rfl ?_
        refine wq_cv (p' := 68) (av_qc (.invokevirtual 142) 3 0 0 0) 1 cd_3 [] (b) 0 [some (.inr (.inr (.inl (some (b)))))] (ck_21 _ _ rfl) rfl rfl pp_3 rfl rfl rfl (congrArg Prod.fst (ib_k0 E.1)) rfl rfl rfl rfl ?_
        refine cx_3 E F qm (fun v133 p134 => ?_)
        show av_wp _ cd_21 68 [some (.inr (.inr (.inl (some (b))))), some (.inl k), some (.inl q), some (.inl (1))] [.inl v133] h _
        refine wq_k1 (p' := 71) (ck_21 _ _ rfl) rfl ⟨by omega, by omega⟩ (fun c135 => ?_) (fun c136 => ?_)
        · have c135 : v133 = (0) := c135
          refine av_wp_sqF ck_21 1 (pc' := 84) (lv' := [some (.inr (.inr (.inl (some (b))))), some (.inl k), some (.inl q), some (.inl (1))]) (st' := [.inr (.inr (.inl (some (b))))]) (h' := h) rfl ?_
          refine wq_gr (p' := 87) (ck_21 _ _ rfl) rfl (congrArg Prod.fst (ib_k0 E.1)) rfl (ib_t E.1) ?_
          refine av_wp_sqF ck_21 2 (pc' := 89) (lv' := [some (.inr (.inr (.inl (some (b))))), some (.inl k), some (.inl q), some (.inl (1))]) (st' := [.inl (0), .inl k, .inr (.inr (.inl (some (t))))]) (h' := h) rfl ?_
          refine wq_cv (p' := 92) (av_qc (.invokevirtual 74) 29 2 0 1) 3 cd_29 [.inl (0), .inl k] (t) 1 [some (.inr (.inr (.inl (some (t))))), some (.inl k), some (.inl (0))] (ck_21 _ _ rfl) rfl rfl pp_29 rfl rfl rfl (congrArg Prod.fst (co_kt (ib_co E.1))) rfl rfl rfl rfl ?_
          obtain ⟨v137, e138⟩ : ∃ v, u (21 * Int.toNat (k) + 0) = v := ⟨_, rfl⟩
          have g139 := eb_uv E (21 * Int.toNat (k) + 0)
          rw [e138] at g139
          refine xc_29 (ib_co E.1) (k) (by omega) 0 (by omega) rfl ((congrFun (eb_u E) _).trans e138) ?_
          show av_wp _ cd_21 92 [some (.inr (.inr (.inl (some (b))))), some (.inl k), some (.inl q), some (.inl (1))] [.inl v137] h _
          refine av_wp_sqF ck_21 1 (pc' := 93) (lv' := [some (.inr (.inr (.inl (some (b))))), some (.inl k), some (.inl q), some (.inl (1))]) (st' := [.inl (5), .inl v137]) (h' := h) rfl ?_
          refine wq_k2 (p' := 96) (ck_21 _ _ rfl) rfl ⟨by omega, by omega⟩ ⟨by omega, by omega⟩ (fun c140 => ?_) (fun c141 => ?_)
          · have c140 : v137 ≠ (5) := c140
            refine av_wp_sqF ck_21 1 (pc' := 113) (lv' := [some (.inr (.inr (.inl (some (b))))), some (.inl k), some (.inl q), some (.inl (1))]) (st' := [.inl (1)]) (h' := h) rfl ?_
            refine av_wp_ret (v := some (.inl (1))) (ck_21 _ _ rfl) rfl rfl ?_
            exact hq _ ⟨1, 0, 0, 0, Or.inl ⟨rfl, by omega⟩, Or.inr ⟨rfl, by omega⟩, Or.inr ⟨rfl, by omega⟩, Or.inr ⟨rfl, fun y => by have := y.1; omega⟩, by omega⟩
          · have c141 : v137 = (5) := c141
            refine av_wp_sqF ck_21 3 (pc' := 99) (lv' := [some (.inr (.inr (.inl (some (b))))), some (.inl k), some (.inl q), some (.inl (1))]) (st' := [.inl q, .inl k, .inr (.inr (.inl (some (b))))]) (h' := h) rfl ?_
            refine wq_cv (p' := 102) (av_qc (.invokevirtual 150) 22 2 0 0) 5 cd_22 [.inl q, .inl k] (b) 0 [some (.inr (.inr (.inl (some (b))))), some (.inl k), some (.inl q), none, none] (ck_21 _ _ rfl) rfl rfl pp_22 rfl rfl rfl (congrArg Prod.fst (ib_k0 E.1)) rfl rfl rfl rfl ?_
            refine cx_22 E F H R b3 b5 b8 qm k qk q qq (fun v142 p143 => ?_)
            have g144 : v142 = 0 ∨ v142 = 1 := p143.elim (fun z => Or.inr z.1) (fun z => Or.inl z.1)
            show av_wp _ cd_21 102 [some (.inr (.inr (.inl (some (b))))), some (.inl k), some (.inl q), some (.inl (1))] [.inl v142] h _
            refine wq_k1 (p' := 105) (ck_21 _ _ rfl) rfl ⟨by omega, by omega⟩ (fun c145 => ?_) (fun c146 => ?_)
            · have c145 : v142 = (0) := c145
              refine av_wp_sqF ck_21 1 (pc' := 113) (lv' := [some (.inr (.inr (.inl (some (b))))), some (.inl k), some (.inl q), some (.inl (1))]) (st' := [.inl (1)]) (h' := h) rfl ?_
              refine av_wp_ret (v := some (.inl (1))) (ck_21 _ _ rfl) rfl rfl ?_
              exact hq _ ⟨1, 0, 0, 0, Or.inl ⟨rfl, by omega⟩, Or.inr ⟨rfl, by omega⟩, Or.inr ⟨rfl, by omega⟩, p143.elim (fun z => absurd z.1 (by omega)) (fun z => Or.inr ⟨rfl, fun y => z.2 y.2⟩), by omega⟩
            · have c146 : v142 ≠ (0) := c146
              refine av_wp_sqF ck_21 4 (pc' := 113) (lv' := [some (.inr (.inr (.inl (some (b))))), some (.inl k), some (.inl q), some (.inl (1))]) (st' := [.inl (9)]) (h' := h) rfl ?_
              refine av_wp_ret (v := some (.inl (9))) (ck_21 _ _ rfl) rfl rfl ?_
              exact hq _ ⟨1, 0, 0, 1, Or.inl ⟨rfl, by omega⟩, Or.inr ⟨rfl, by omega⟩, Or.inr ⟨rfl, by omega⟩, p143.elim (fun z => Or.inl ⟨rfl, e138.trans (by omega), z.2⟩) (fun z => absurd z.1 (by omega)), by omega⟩
        · have c136 : v133 ≠ (0) := c136
          refine av_wp_sqF ck_21 1 (pc' := 72) (lv' := [some (.inr (.inr (.inl (some (b))))), some (.inl k), some (.inl q), some (.inl (1))]) (st' := [.inr (.inr (.inl (some (b))))]) (h' := h) rfl ?_
          refine wq_gi (p' := 75) (ck_21 _ _ rfl) rfl (congrArg Prod.fst (ib_k0 E.1)) rfl (eb_x E) ?_
          refine av_wp_sqF ck_21 1 (pc' := 76) (lv' := [some (.inr (.inr (.inl (some (b))))), some (.inl k), some (.inl q), some (.inl (1))]) (st' := [.inl k, .inl mb]) (h' := h) rfl ?_
          refine wq_k2 (p' := 79) (ck_21 _ _ rfl) rfl ⟨by omega, by omega⟩ ⟨by omega, by omega⟩ (fun c147 => ?_) (fun c148 => ?_)
          · have c147 : mb ≠ k := c147
            refine av_wp_sqF ck_21 1 (pc' := 84) (lv' := [some (.inr (.inr (.inl (some (b))))), some (.inl k), some (.inl q), some (.inl (1))]) (st' := [.inr (.inr (.inl (some (b))))]) (h' := h) rfl ?_
            refine wq_gr (p' := 87) (ck_21 _ _ rfl) rfl (congrArg Prod.fst (ib_k0 E.1)) rfl (ib_t E.1) ?_
            refine av_wp_sqF ck_21 2 (pc' := 89) (lv' := [some (.inr (.inr (.inl (some (b))))), some (.inl k), some (.inl q), some (.inl (1))]) (st' := [.inl (0), .inl k, .inr (.inr (.inl (some (t))))]) (h' := h) rfl ?_
            refine wq_cv (p' := 92) (av_qc (.invokevirtual 74) 29 2 0 1) 3 cd_29 [.inl (0), .inl k] (t) 1 [some (.inr (.inr (.inl (some (t))))), some (.inl k), some (.inl (0))] (ck_21 _ _ rfl) rfl rfl pp_29 rfl rfl rfl (congrArg Prod.fst (co_kt (ib_co E.1))) rfl rfl rfl rfl ?_
            obtain ⟨v149, e150⟩ : ∃ v, u (21 * Int.toNat (k) + 0) = v := ⟨_, rfl⟩
            have g151 := eb_uv E (21 * Int.toNat (k) + 0)
            rw [e150] at g151
            refine xc_29 (ib_co E.1) (k) (by omega) 0 (by omega) rfl ((congrFun (eb_u E) _).trans e150) ?_
            show av_wp _ cd_21 92 [some (.inr (.inr (.inl (some (b))))), some (.inl k), some (.inl q), some (.inl (1))] [.inl v149] h _
            refine av_wp_sqF ck_21 1 (pc' := 93) (lv' := [some (.inr (.inr (.inl (some (b))))), some (.inl k), some (.inl q), some (.inl (1))]) (st' := [.inl (5), .inl v149]) (h' := h) rfl ?_
            refine wq_k2 (p' := 96) (ck_21 _ _ rfl) rfl ⟨by omega, by omega⟩ ⟨by omega, by omega⟩ (fun c152 => ?_) (fun c153 => ?_)
            · have c152 : v149 ≠ (5) := c152
              refine av_wp_sqF ck_21 1 (pc' := 113) (lv' := [some (.inr (.inr (.inl (some (b))))), some (.inl k), some (.inl q), some (.inl (1))]) (st' := [.inl (1)]) (h' := h) rfl ?_
              refine av_wp_ret (v := some (.inl (1))) (ck_21 _ _ rfl) rfl rfl ?_
              exact hq _ ⟨1, 0, 0, 0, Or.inl ⟨rfl, by omega⟩, Or.inr ⟨rfl, by omega⟩, Or.inr ⟨rfl, by omega⟩, Or.inr ⟨rfl, fun y => by have := y.1; omega⟩, by omega⟩
            · have c153 : v149 = (5) := c153
              refine av_wp_sqF ck_21 3 (pc' := 99) (lv' := [some (.inr (.inr (.inl (some (b))))), some (.inl k), some (.inl q), some (.inl (1))]) (st' := [.inl q, .inl k, .inr (.inr (.inl (some (b))))]) (h' := h) rfl ?_
              refine wq_cv (p' := 102) (av_qc (.invokevirtual 150) 22 2 0 0) 5 cd_22 [.inl q, .inl k] (b) 0 [some (.inr (.inr (.inl (some (b))))), some (.inl k), some (.inl q), none, none] (ck_21 _ _ rfl) rfl rfl pp_22 rfl rfl rfl (congrArg Prod.fst (ib_k0 E.1)) rfl rfl rfl rfl ?_
              refine cx_22 E F H R b3 b5 b8 qm k qk q qq (fun v154 p155 => ?_)
              have g156 : v154 = 0 ∨ v154 = 1 := p155.elim (fun z => Or.inr z.1) (fun z => Or.inl z.1)
              show av_wp _ cd_21 102 [some (.inr (.inr (.inl (some (b))))), some (.inl k), some (.inl q), some (.inl (1))] [.inl v154] h _
              refine wq_k1 (p' := 105) (ck_21 _ _ rfl) rfl ⟨by omega, by omega⟩ (fun c157 => ?_) (fun c158 => ?_)
              · have c157 : v154 = (0) := c157
                refine av_wp_sqF ck_21 1 (pc' := 113) (lv' := [some (.inr (.inr (.inl (some (b))))), some (.inl k), some (.inl q), some (.inl (1))]) (st' := [.inl (1)]) (h' := h) rfl ?_
                refine av_wp_ret (v := some (.inl (1))) (ck_21 _ _ rfl) rfl rfl ?_
                exact hq _ ⟨1, 0, 0, 0, Or.inl ⟨rfl, by omega⟩, Or.inr ⟨rfl, by omega⟩, Or.inr ⟨rfl, by omega⟩, p155.elim (fun z => absurd z.1 (by omega)) (fun z => Or.inr ⟨rfl, fun y => z.2 y.2⟩), by omega⟩
              · have c158 : v154 ≠ (0) := c158
                refine av_wp_sqF ck_21 4 (pc' := 113) (lv' := [some (.inr (.inr (.inl (some (b))))), some (.inl k), some (.inl q), some (.inl (1))]) (st' := [.inl (9)]) (h' := h) rfl ?_
                refine av_wp_ret (v := some (.inl (9))) (ck_21 _ _ rfl) rfl rfl ?_
                exact hq _ ⟨1, 0, 0, 1, Or.inl ⟨rfl, by omega⟩, Or.inr ⟨rfl, by omega⟩, Or.inr ⟨rfl, by omega⟩, p155.elim (fun z => Or.inl ⟨rfl, e150.trans (by omega), z.2⟩) (fun z => absurd z.1 (by omega)), by omega⟩
          · have c148 : mb = k := c148
            refine av_wp_sqF ck_21 5 (pc' := 84) (lv' := [some (.inr (.inr (.inl (some (b))))), some (.inl k), some (.inl q), some (.inl (5))]) (st' := [.inr (.inr (.inl (some (b))))]) (h' := h) rfl ?_
            refine wq_gr (p' := 87) (ck_21 _ _ rfl) rfl (congrArg Prod.fst (ib_k0 E.1)) rfl (ib_t E.1) ?_
            refine av_wp_sqF ck_21 2 (pc' := 89) (lv' := [some (.inr (.inr (.inl (some (b))))), some (.inl k), some (.inl q), some (.inl (5))]) (st' := [.inl (0), .inl k, .inr (.inr (.inl (some (t))))]) (h' := h) rfl ?_
            refine wq_cv (p' := 92) (av_qc (.invokevirtual 74) 29 2 0 1) 3 cd_29 [.inl (0), .inl k] (t) 1 [some (.inr (.inr (.inl (some (t))))), some (.inl k), some (.inl (0))] (ck_21 _ _ rfl) rfl rfl pp_29 rfl rfl rfl (congrArg Prod.fst (co_kt (ib_co E.1))) rfl rfl rfl rfl ?_
            obtain ⟨v159, e160⟩ : ∃ v, u (21 * Int.toNat (k) + 0) = v := ⟨_, rfl⟩
            have g161 := eb_uv E (21 * Int.toNat (k) + 0)
            rw [e160] at g161
            refine xc_29 (ib_co E.1) (k) (by omega) 0 (by omega) rfl ((congrFun (eb_u E) _).trans e160) ?_
            show av_wp _ cd_21 92 [some (.inr (.inr (.inl (some (b))))), some (.inl k), some (.inl q), some (.inl (5))] [.inl v159] h _
            refine av_wp_sqF ck_21 1 (pc' := 93) (lv' := [some (.inr (.inr (.inl (some (b))))), some (.inl k), some (.inl q), some (.inl (5))]) (st' := [.inl (5), .inl v159]) (h' := h) rfl ?_
            refine wq_k2 (p' := 96) (ck_21 _ _ rfl) rfl ⟨by omega, by omega⟩ ⟨by omega, by omega⟩ (fun c162 => ?_) (fun c163 => ?_)
            · have c162 : v159 ≠ (5) := c162
              refine av_wp_sqF ck_21 1 (pc' := 113) (lv' := [some (.inr (.inr (.inl (some (b))))), some (.inl k), some (.inl q), some (.inl (5))]) (st' := [.inl (5)]) (h' := h) rfl ?_
              refine av_wp_ret (v := some (.inl (5))) (ck_21 _ _ rfl) rfl rfl ?_
              exact hq _ ⟨1, 0, 1, 0, Or.inl ⟨rfl, by omega⟩, Or.inr ⟨rfl, by omega⟩, Or.inl ⟨rfl, by omega⟩, Or.inr ⟨rfl, fun y => by have := y.1; omega⟩, by omega⟩
            · have c163 : v159 = (5) := c163
              refine av_wp_sqF ck_21 3 (pc' := 99) (lv' := [some (.inr (.inr (.inl (some (b))))), some (.inl k), some (.inl q), some (.inl (5))]) (st' := [.inl q, .inl k, .inr (.inr (.inl (some (b))))]) (h' := h) rfl ?_
              refine wq_cv (p' := 102) (av_qc (.invokevirtual 150) 22 2 0 0) 5 cd_22 [.inl q, .inl k] (b) 0 [some (.inr (.inr (.inl (some (b))))), some (.inl k), some (.inl q), none, none] (ck_21 _ _ rfl) rfl rfl pp_22 rfl rfl rfl (congrArg Prod.fst (ib_k0 E.1)) rfl rfl rfl rfl ?_
              refine cx_22 E F H R b3 b5 b8 qm k qk q qq (fun v164 p165 => ?_)
              have g166 : v164 = 0 ∨ v164 = 1 := p165.elim (fun z => Or.inr z.1) (fun z => Or.inl z.1)
              show av_wp _ cd_21 102 [some (.inr (.inr (.inl (some (b))))), some (.inl k), some (.inl q), some (.inl (5))] [.inl v164] h _
              refine wq_k1 (p' := 105) (ck_21 _ _ rfl) rfl ⟨by omega, by omega⟩ (fun c167 => ?_) (fun c168 => ?_)
              · have c167 : v164 = (0) := c167
                refine av_wp_sqF ck_21 1 (pc' := 113) (lv' := [some (.inr (.inr (.inl (some (b))))), some (.inl k), some (.inl q), some (.inl (5))]) (st' := [.inl (5)]) (h' := h) rfl ?_
                refine av_wp_ret (v := some (.inl (5))) (ck_21 _ _ rfl) rfl rfl ?_
                exact hq _ ⟨1, 0, 1, 0, Or.inl ⟨rfl, by omega⟩, Or.inr ⟨rfl, by omega⟩, Or.inl ⟨rfl, by omega⟩, p165.elim (fun z => absurd z.1 (by omega)) (fun z => Or.inr ⟨rfl, fun y => z.2 y.2⟩), by omega⟩
              · have c168 : v164 ≠ (0) := c168
                refine av_wp_sqF ck_21 4 (pc' := 113) (lv' := [some (.inr (.inr (.inl (some (b))))), some (.inl k), some (.inl q), some (.inl (5))]) (st' := [.inl (13)]) (h' := h) rfl ?_
                refine av_wp_ret (v := some (.inl (13))) (ck_21 _ _ rfl) rfl rfl ?_
                exact hq _ ⟨1, 0, 1, 1, Or.inl ⟨rfl, by omega⟩, Or.inr ⟨rfl, by omega⟩, Or.inl ⟨rfl, by omega⟩, p165.elim (fun z => Or.inl ⟨rfl, e160.trans (by omega), z.2⟩) (fun z => absurd z.1 (by omega)), by omega⟩
      · have c132 : v129 ≠ (0) := c132
        refine av_wp_sqF ck_21 1 (pc' := 51) (lv' := [some (.inr (.inr (.inl (some (b))))), some (.inl k), some (.inl q), some (.inl (1))]) (st' := [.inr (.inr (.inl (some (b))))]) (h' := h) rfl ?_
        refine wq_gr (p' := 54) (ck_21 _ _ rfl) rfl (congrArg Prod.fst (ib_k0 E.1)) rfl (ib_g E.1 8 rfl) ?_
        refine av_wp_sqF ck_21 1 (pc' := 55) (lv' := [some (.inr (.inr (.inl (some (b))))), some (.inl k), some (.inl q), some (.inl (1))]) (st' := [.inl q, .inr (.inr (.inl (some (b + 1 + 8))))]) (h' := h) rfl ?_
        obtain ⟨v170, e171⟩ : ∃ v, a 8 (Int.toNat (q)) = v := ⟨_, rfl⟩
        have g172 := b8 (Int.toNat (q)) (by omega)
        rw [e171] at g172
        refine wq_al (p' := 56) (n := 12) (ck_21 _ _ rfl) rfl (ib_k E.1 8 rfl) (by omega) ((congrFun (eb_a E 8 rfl) _).trans e171) ?_
        refine av_wp_sqF ck_21 1 (pc' := 57) (lv' := [some (.inr (.inr (.inl (some (b))))), some (.inl k), some (.inl q), some (.inl (1))]) (st' := [.inl k, .inl v170]) (h' := h) rfl ?_
        refine wq_k2 (p' := 60) (ck_21 _ _ rfl) rfl ⟨by omega, by omega⟩ ⟨by omega, by omega⟩ (fun c173 => ?_) (fun c174 => ?_)
        · have c173 : v170 ≠ k := c173
          refine av_wp_sqF ck_21 1 (pc' := 65) (lv' := [some (.inr (.inr (.inl (some (b))))), some (.inl k), some (.inl q), some (.inl (1))]) (st' := [.inr (.inr (.inl (some (b))))]) (h' := h) rfl ?_
          refine wq_cv (p' := 68) (av_qc (.invokevirtual 142) 3 0 0 0) 1 cd_3 [] (b) 0 [some (.inr (.inr (.inl (some (b)))))] (ck_21 _ _ rfl) rfl rfl pp_3 rfl rfl rfl (congrArg Prod.fst (ib_k0 E.1)) rfl rfl rfl rfl ?_
          refine cx_3 E F qm (fun v175 p176 => ?_)
          show av_wp _ cd_21 68 [some (.inr (.inr (.inl (some (b))))), some (.inl k), some (.inl q), some (.inl (1))] [.inl v175] h _
          refine wq_k1 (p' := 71) (ck_21 _ _ rfl) rfl ⟨by omega, by omega⟩ (fun c177 => ?_) (fun c178 => ?_)
          · have c177 : v175 = (0) := c177
            refine av_wp_sqF ck_21 1 (pc' := 84) (lv' := [some (.inr (.inr (.inl (some (b))))), some (.inl k), some (.inl q), some (.inl (1))]) (st' := [.inr (.inr (.inl (some (b))))]) (h' := h) rfl ?_
            refine wq_gr (p' := 87) (ck_21 _ _ rfl) rfl (congrArg Prod.fst (ib_k0 E.1)) rfl (ib_t E.1) ?_
            refine av_wp_sqF ck_21 2 (pc' := 89) (lv' := [some (.inr (.inr (.inl (some (b))))), some (.inl k), some (.inl q), some (.inl (1))]) (st' := [.inl (0), .inl k, .inr (.inr (.inl (some (t))))]) (h' := h) rfl ?_
            refine wq_cv (p' := 92) (av_qc (.invokevirtual 74) 29 2 0 1) 3 cd_29 [.inl (0), .inl k] (t) 1 [some (.inr (.inr (.inl (some (t))))), some (.inl k), some (.inl (0))] (ck_21 _ _ rfl) rfl rfl pp_29 rfl rfl rfl (congrArg Prod.fst (co_kt (ib_co E.1))) rfl rfl rfl rfl ?_
            obtain ⟨v179, e180⟩ : ∃ v, u (21 * Int.toNat (k) + 0) = v := ⟨_, rfl⟩
            have g181 := eb_uv E (21 * Int.toNat (k) + 0)
            rw [e180] at g181
            refine xc_29 (ib_co E.1) (k) (by omega) 0 (by omega) rfl ((congrFun (eb_u E) _).trans e180) ?_
            show av_wp _ cd_21 92 [some (.inr (.inr (.inl (some (b))))), some (.inl k), some (.inl q), some (.inl (1))] [.inl v179] h _
            refine av_wp_sqF ck_21 1 (pc' := 93) (lv' := [some (.inr (.inr (.inl (some (b))))), some (.inl k), some (.inl q), some (.inl (1))]) (st' := [.inl (5), .inl v179]) (h' := h) rfl ?_
            refine wq_k2 (p' := 96) (ck_21 _ _ rfl) rfl ⟨by omega, by omega⟩ ⟨by omega, by omega⟩ (fun c182 => ?_) (fun c183 => ?_)
            · have c182 : v179 ≠ (5) := c182
              refine av_wp_sqF ck_21 1 (pc' := 113) (lv' := [some (.inr (.inr (.inl (some (b))))), some (.inl k), some (.inl q), some (.inl (1))]) (st' := [.inl (1)]) (h' := h) rfl ?_
              refine av_wp_ret (v := some (.inl (1))) (ck_21 _ _ rfl) rfl rfl ?_
              exact hq _ ⟨1, 0, 0, 0, Or.inl ⟨rfl, by omega⟩, Or.inr ⟨rfl, by omega⟩, Or.inr ⟨rfl, by omega⟩, Or.inr ⟨rfl, fun y => by have := y.1; omega⟩, by omega⟩
            · have c183 : v179 = (5) := c183
              refine av_wp_sqF ck_21 3 (pc' := 99) (lv' := [some (.inr (.inr (.inl (some (b))))), some (.inl k), some (.inl q), some (.inl (1))]) (st' := [.inl q, .inl k, .inr (.inr (.inl (some (b))))]) (h' := h) rfl ?_
              refine wq_cv (p' := 102) (av_qc (.invokevirtual 150) 22 2 0 0) 5 cd_22 [.inl q, .inl k] (b) 0 [some (.inr (.inr (.inl (some (b))))), some (.inl k), some (.inl q), none, none] (ck_21 _ _ rfl) rfl rfl pp_22 rfl rfl rfl (congrArg Prod.fst (ib_k0 E.1)) rfl rfl rfl rfl ?_
              refine cx_22 E F H R b3 b5 b8 qm k qk q qq (fun v184 p185 => ?_)
              have g186 : v184 = 0 ∨ v184 = 1 := p185.elim (fun z => Or.inr z.1) (fun z => Or.inl z.1)
              show av_wp _ cd_21 102 [some (.inr (.inr (.inl (some (b))))), some (.inl k), some (.inl q), some (.inl (1))] [.inl v184] h _
              refine wq_k1 (p' := 105) (ck_21 _ _ rfl) rfl ⟨by omega, by omega⟩ (fun c187 => ?_) (fun c188 => ?_)
              · have c187 : v184 = (0) := c187
                refine av_wp_sqF ck_21 1 (pc' := 113) (lv' := [some (.inr (.inr (.inl (some (b))))), some (.inl k), some (.inl q), some (.inl (1))]) (st' := [.inl (1)]) (h' := h) rfl ?_
                refine av_wp_ret (v := some (.inl (1))) (ck_21 _ _ rfl) rfl rfl ?_
                exact hq _ ⟨1, 0, 0, 0, Or.inl ⟨rfl, by omega⟩, Or.inr ⟨rfl, by omega⟩, Or.inr ⟨rfl, by omega⟩, p185.elim (fun z => absurd z.1 (by omega)) (fun z => Or.inr ⟨rfl, fun y => z.2 y.2⟩), by omega⟩
              · have c188 : v184 ≠ (0) := c188
                refine av_wp_sqF ck_21 4 (pc' := 113) (lv' := [some (.inr (.inr (.inl (some (b))))), some (.inl k), some (.inl q), some (.inl (1))]) (st' := [.inl (9)]) (h' := h) rfl ?_
                refine av_wp_ret (v := some (.inl (9))) (ck_21 _ _ rfl) rfl rfl ?_
                exact hq _ ⟨1, 0, 0, 1, Or.inl ⟨rfl, by omega⟩, Or.inr ⟨rfl, by omega⟩, Or.inr ⟨rfl, by omega⟩, p185.elim (fun z => Or.inl ⟨rfl, e180.trans (by omega), z.2⟩) (fun z => absurd z.1 (by omega)), by omega⟩
          · have c178 : v175 ≠ (0) := c178
            refine av_wp_sqF ck_21 1 (pc' := 72) (lv' := [some (.inr (.inr (.inl (some (b))))), some (.inl k), some (.inl q), some (.inl (1))]) (st' := [.inr (.inr (.inl (some (b))))]) (h' := h) rfl ?_
            refine wq_gi (p' := 75) (ck_21 _ _ rfl) rfl (congrArg Prod.fst (ib_k0 E.1)) rfl (eb_x E) ?_
            refine av_wp_sqF ck_21 1 (pc' := 76) (lv' := [some (.inr (.inr (.inl (some (b))))), some (.inl k), some (.inl q), some (.inl (1))]) (st' := [.inl k, .inl mb]) (h' := h) rfl ?_
            refine wq_k2 (p' := 79) (ck_21 _ _ rfl) rfl ⟨by omega, by omega⟩ ⟨by omega, by omega⟩ (fun c189 => ?_) (fun c190 => ?_)
            · have c189 : mb ≠ k := c189
              refine av_wp_sqF ck_21 1 (pc' := 84) (lv' := [some (.inr (.inr (.inl (some (b))))), some (.inl k), some (.inl q), some (.inl (1))]) (st' := [.inr (.inr (.inl (some (b))))]) (h' := h) rfl ?_
              refine wq_gr (p' := 87) (ck_21 _ _ rfl) rfl (congrArg Prod.fst (ib_k0 E.1)) rfl (ib_t E.1) ?_
              refine av_wp_sqF ck_21 2 (pc' := 89) (lv' := [some (.inr (.inr (.inl (some (b))))), some (.inl k), some (.inl q), some (.inl (1))]) (st' := [.inl (0), .inl k, .inr (.inr (.inl (some (t))))]) (h' := h) rfl ?_
              refine wq_cv (p' := 92) (av_qc (.invokevirtual 74) 29 2 0 1) 3 cd_29 [.inl (0), .inl k] (t) 1 [some (.inr (.inr (.inl (some (t))))), some (.inl k), some (.inl (0))] (ck_21 _ _ rfl) rfl rfl pp_29 rfl rfl rfl (congrArg Prod.fst (co_kt (ib_co E.1))) rfl rfl rfl rfl ?_
              obtain ⟨v191, e192⟩ : ∃ v, u (21 * Int.toNat (k) + 0) = v := ⟨_, rfl⟩
              have g193 := eb_uv E (21 * Int.toNat (k) + 0)
              rw [e192] at g193
              refine xc_29 (ib_co E.1) (k) (by omega) 0 (by omega) rfl ((congrFun (eb_u E) _).trans e192) ?_
              show av_wp _ cd_21 92 [some (.inr (.inr (.inl (some (b))))), some (.inl k), some (.inl q), some (.inl (1))] [.inl v191] h _
              refine av_wp_sqF ck_21 1 (pc' := 93) (lv' := [some (.inr (.inr (.inl (some (b))))), some (.inl k), some (.inl q), some (.inl (1))]) (st' := [.inl (5), .inl v191]) (h' := h) rfl ?_
              refine wq_k2 (p' := 96) (ck_21 _ _ rfl) rfl ⟨by omega, by omega⟩ ⟨by omega, by omega⟩ (fun c194 => ?_) (fun c195 => ?_)
              · have c194 : v191 ≠ (5) := c194
                refine av_wp_sqF ck_21 1 (pc' := 113) (lv' := [some (.inr (.inr (.inl (some (b))))), some (.inl k), some (.inl q), some (.inl (1))]) (st' := [.inl (1)]) (h' := h) rfl ?_
                refine av_wp_ret (v := some (.inl (1))) (ck_21 _ _ rfl) rfl rfl ?_
                exact hq _ ⟨1, 0, 0, 0, Or.inl ⟨rfl, by omega⟩, Or.inr ⟨rfl, by omega⟩, Or.inr ⟨rfl, by omega⟩, Or.inr ⟨rfl, fun y => by have := y.1; omega⟩, by omega⟩
              · have c195 : v191 = (5) := c195
                refine av_wp_sqF ck_21 3 (pc' := 99) (lv' := [some (.inr (.inr (.inl (some (b))))), some (.inl k), some (.inl q), some (.inl (1))]) (st' := [.inl q, .inl k, .inr (.inr (.inl (some (b))))]) (h' := h) rfl ?_
                refine wq_cv (p' := 102) (av_qc (.invokevirtual 150) 22 2 0 0) 5 cd_22 [.inl q, .inl k] (b) 0 [some (.inr (.inr (.inl (some (b))))), some (.inl k), some (.inl q), none, none] (ck_21 _ _ rfl) rfl rfl pp_22 rfl rfl rfl (congrArg Prod.fst (ib_k0 E.1)) rfl rfl rfl rfl ?_
                refine cx_22 E F H R b3 b5 b8 qm k qk q qq (fun v196 p197 => ?_)
                have g198 : v196 = 0 ∨ v196 = 1 := p197.elim (fun z => Or.inr z.1) (fun z => Or.inl z.1)
                show av_wp _ cd_21 102 [some (.inr (.inr (.inl (some (b))))), some (.inl k), some (.inl q), some (.inl (1))] [.inl v196] h _
                refine wq_k1 (p' := 105) (ck_21 _ _ rfl) rfl ⟨by omega, by omega⟩ (fun c199 => ?_) (fun c200 => ?_)
                · have c199 : v196 = (0) := c199
                  refine av_wp_sqF ck_21 1 (pc' := 113) (lv' := [some (.inr (.inr (.inl (some (b))))), some (.inl k), some (.inl q), some (.inl (1))]) (st' := [.inl (1)]) (h' := h) rfl ?_
                  refine av_wp_ret (v := some (.inl (1))) (ck_21 _ _ rfl) rfl rfl ?_
                  exact hq _ ⟨1, 0, 0, 0, Or.inl ⟨rfl, by omega⟩, Or.inr ⟨rfl, by omega⟩, Or.inr ⟨rfl, by omega⟩, p197.elim (fun z => absurd z.1 (by omega)) (fun z => Or.inr ⟨rfl, fun y => z.2 y.2⟩), by omega⟩
                · have c200 : v196 ≠ (0) := c200
                  refine av_wp_sqF ck_21 4 (pc' := 113) (lv' := [some (.inr (.inr (.inl (some (b))))), some (.inl k), some (.inl q), some (.inl (1))]) (st' := [.inl (9)]) (h' := h) rfl ?_
                  refine av_wp_ret (v := some (.inl (9))) (ck_21 _ _ rfl) rfl rfl ?_
                  exact hq _ ⟨1, 0, 0, 1, Or.inl ⟨rfl, by omega⟩, Or.inr ⟨rfl, by omega⟩, Or.inr ⟨rfl, by omega⟩, p197.elim (fun z => Or.inl ⟨rfl, e192.trans (by omega), z.2⟩) (fun z => absurd z.1 (by omega)), by omega⟩
            · have c190 : mb = k := c190
              refine av_wp_sqF ck_21 5 (pc' := 84) (lv' := [some (.inr (.inr (.inl (some (b))))), some (.inl k), some (.inl q), some (.inl (5))]) (st' := [.inr (.inr (.inl (some (b))))]) (h' := h) rfl ?_
              refine wq_gr (p' := 87) (ck_21 _ _ rfl) rfl (congrArg Prod.fst (ib_k0 E.1)) rfl (ib_t E.1) ?_
              refine av_wp_sqF ck_21 2 (pc' := 89) (lv' := [some (.inr (.inr (.inl (some (b))))), some (.inl k), some (.inl q), some (.inl (5))]) (st' := [.inl (0), .inl k, .inr (.inr (.inl (some (t))))]) (h' := h) rfl ?_
              refine wq_cv (p' := 92) (av_qc (.invokevirtual 74) 29 2 0 1) 3 cd_29 [.inl (0), .inl k] (t) 1 [some (.inr (.inr (.inl (some (t))))), some (.inl k), some (.inl (0))] (ck_21 _ _ rfl) rfl rfl pp_29 rfl rfl rfl (congrArg Prod.fst (co_kt (ib_co E.1))) rfl rfl rfl rfl ?_
              obtain ⟨v201, e202⟩ : ∃ v, u (21 * Int.toNat (k) + 0) = v := ⟨_, rfl⟩
              have g203 := eb_uv E (21 * Int.toNat (k) + 0)
              rw [e202] at g203
              refine xc_29 (ib_co E.1) (k) (by omega) 0 (by omega) rfl ((congrFun (eb_u E) _).trans e202) ?_
              show av_wp _ cd_21 92 [some (.inr (.inr (.inl (some (b))))), some (.inl k), some (.inl q), some (.inl (5))] [.inl v201] h _
              refine av_wp_sqF ck_21 1 (pc' := 93) (lv' := [some (.inr (.inr (.inl (some (b))))), some (.inl k), some (.inl q), some (.inl (5))]) (st' := [.inl (5), .inl v201]) (h' := h) rfl ?_
              refine wq_k2 (p' := 96) (ck_21 _ _ rfl) rfl ⟨by omega, by omega⟩ ⟨by omega, by omega⟩ (fun c204 => ?_) (fun c205 => ?_)
              · have c204 : v201 ≠ (5) := c204
                refine av_wp_sqF ck_21 1 (pc' := 113) (lv' := [some (.inr (.inr (.inl (some (b))))), some (.inl k), some (.inl q), some (.inl (5))]) (st' := [.inl (5)]) (h' := h) rfl ?_
                refine av_wp_ret (v := some (.inl (5))) (ck_21 _ _ rfl) rfl rfl ?_
                exact hq _ ⟨1, 0, 1, 0, Or.inl ⟨rfl, by omega⟩, Or.inr ⟨rfl, by omega⟩, Or.inl ⟨rfl, by omega⟩, Or.inr ⟨rfl, fun y => by have := y.1; omega⟩, by omega⟩
              · have c205 : v201 = (5) := c205
                refine av_wp_sqF ck_21 3 (pc' := 99) (lv' := [some (.inr (.inr (.inl (some (b))))), some (.inl k), some (.inl q), some (.inl (5))]) (st' := [.inl q, .inl k, .inr (.inr (.inl (some (b))))]) (h' := h) rfl ?_
                refine wq_cv (p' := 102) (av_qc (.invokevirtual 150) 22 2 0 0) 5 cd_22 [.inl q, .inl k] (b) 0 [some (.inr (.inr (.inl (some (b))))), some (.inl k), some (.inl q), none, none] (ck_21 _ _ rfl) rfl rfl pp_22 rfl rfl rfl (congrArg Prod.fst (ib_k0 E.1)) rfl rfl rfl rfl ?_
                refine cx_22 E F H R b3 b5 b8 qm k qk q qq (fun v206 p207 => ?_)
                have g208 : v206 = 0 ∨ v206 = 1 := p207.elim (fun z => Or.inr z.1) (fun z => Or.inl z.1)
                show av_wp _ cd_21 102 [some (.inr (.inr (.inl (some (b))))), some (.inl k), some (.inl q), some (.inl (5))] [.inl v206] h _
                refine wq_k1 (p' := 105) (ck_21 _ _ rfl) rfl ⟨by omega, by omega⟩ (fun c209 => ?_) (fun c210 => ?_)
                · have c209 : v206 = (0) := c209
                  refine av_wp_sqF ck_21 1 (pc' := 113) (lv' := [some (.inr (.inr (.inl (some (b))))), some (.inl k), some (.inl q), some (.inl (5))]) (st' := [.inl (5)]) (h' := h) rfl ?_
                  refine av_wp_ret (v := some (.inl (5))) (ck_21 _ _ rfl) rfl rfl ?_
                  exact hq _ ⟨1, 0, 1, 0, Or.inl ⟨rfl, by omega⟩, Or.inr ⟨rfl, by omega⟩, Or.inl ⟨rfl, by omega⟩, p207.elim (fun z => absurd z.1 (by omega)) (fun z => Or.inr ⟨rfl, fun y => z.2 y.2⟩), by omega⟩
                · have c210 : v206 ≠ (0) := c210
                  refine av_wp_sqF ck_21 4 (pc' := 113) (lv' := [some (.inr (.inr (.inl (some (b))))), some (.inl k), some (.inl q), some (.inl (5))]) (st' := [.inl (13)]) (h' := h) rfl ?_
                  refine av_wp_ret (v := some (.inl (13))) (ck_21 _ _ rfl) rfl rfl ?_
                  exact hq _ ⟨1, 0, 1, 1, Or.inl ⟨rfl, by omega⟩, Or.inr ⟨rfl, by omega⟩, Or.inl ⟨rfl, by omega⟩, p207.elim (fun z => Or.inl ⟨rfl, e202.trans (by omega), z.2⟩) (fun z => absurd z.1 (by omega)), by omega⟩
        · have c174 : v170 = k := c174
          refine av_wp_sqF ck_21 5 (pc' := 65) (lv' := [some (.inr (.inr (.inl (some (b))))), some (.inl k), some (.inl q), some (.inl (3))]) (st' := [.inr (.inr (.inl (some (b))))]) (h' := h) rfl ?_
          refine wq_cv (p' := 68) (av_qc (.invokevirtual 142) 3 0 0 0) 1 cd_3 [] (b) 0 [some (.inr (.inr (.inl (some (b)))))] (ck_21 _ _ rfl) rfl rfl pp_3 rfl rfl rfl (congrArg Prod.fst (ib_k0 E.1)) rfl rfl rfl rfl ?_
          refine cx_3 E F qm (fun v211 p212 => ?_)
          show av_wp _ cd_21 68 [some (.inr (.inr (.inl (some (b))))), some (.inl k), some (.inl q), some (.inl (3))] [.inl v211] h _
          refine wq_k1 (p' := 71) (ck_21 _ _ rfl) rfl ⟨by omega, by omega⟩ (fun c213 => ?_) (fun c214 => ?_)
          · have c213 : v211 = (0) := c213
            refine av_wp_sqF ck_21 1 (pc' := 84) (lv' := [some (.inr (.inr (.inl (some (b))))), some (.inl k), some (.inl q), some (.inl (3))]) (st' := [.inr (.inr (.inl (some (b))))]) (h' := h) rfl ?_
            refine wq_gr (p' := 87) (ck_21 _ _ rfl) rfl (congrArg Prod.fst (ib_k0 E.1)) rfl (ib_t E.1) ?_
            refine av_wp_sqF ck_21 2 (pc' := 89) (lv' := [some (.inr (.inr (.inl (some (b))))), some (.inl k), some (.inl q), some (.inl (3))]) (st' := [.inl (0), .inl k, .inr (.inr (.inl (some (t))))]) (h' := h) rfl ?_
            refine wq_cv (p' := 92) (av_qc (.invokevirtual 74) 29 2 0 1) 3 cd_29 [.inl (0), .inl k] (t) 1 [some (.inr (.inr (.inl (some (t))))), some (.inl k), some (.inl (0))] (ck_21 _ _ rfl) rfl rfl pp_29 rfl rfl rfl (congrArg Prod.fst (co_kt (ib_co E.1))) rfl rfl rfl rfl ?_
            obtain ⟨v215, e216⟩ : ∃ v, u (21 * Int.toNat (k) + 0) = v := ⟨_, rfl⟩
            have g217 := eb_uv E (21 * Int.toNat (k) + 0)
            rw [e216] at g217
            refine xc_29 (ib_co E.1) (k) (by omega) 0 (by omega) rfl ((congrFun (eb_u E) _).trans e216) ?_
            show av_wp _ cd_21 92 [some (.inr (.inr (.inl (some (b))))), some (.inl k), some (.inl q), some (.inl (3))] [.inl v215] h _
            refine av_wp_sqF ck_21 1 (pc' := 93) (lv' := [some (.inr (.inr (.inl (some (b))))), some (.inl k), some (.inl q), some (.inl (3))]) (st' := [.inl (5), .inl v215]) (h' := h) rfl ?_
            refine wq_k2 (p' := 96) (ck_21 _ _ rfl) rfl ⟨by omega, by omega⟩ ⟨by omega, by omega⟩ (fun c218 => ?_) (fun c219 => ?_)
            · have c218 : v215 ≠ (5) := c218
              refine av_wp_sqF ck_21 1 (pc' := 113) (lv' := [some (.inr (.inr (.inl (some (b))))), some (.inl k), some (.inl q), some (.inl (3))]) (st' := [.inl (3)]) (h' := h) rfl ?_
              refine av_wp_ret (v := some (.inl (3))) (ck_21 _ _ rfl) rfl rfl ?_
              exact hq _ ⟨1, 1, 0, 0, Or.inl ⟨rfl, by omega⟩, Or.inl ⟨rfl, by omega⟩, Or.inr ⟨rfl, by omega⟩, Or.inr ⟨rfl, fun y => by have := y.1; omega⟩, by omega⟩
            · have c219 : v215 = (5) := c219
              refine av_wp_sqF ck_21 3 (pc' := 99) (lv' := [some (.inr (.inr (.inl (some (b))))), some (.inl k), some (.inl q), some (.inl (3))]) (st' := [.inl q, .inl k, .inr (.inr (.inl (some (b))))]) (h' := h) rfl ?_
              refine wq_cv (p' := 102) (av_qc (.invokevirtual 150) 22 2 0 0) 5 cd_22 [.inl q, .inl k] (b) 0 [some (.inr (.inr (.inl (some (b))))), some (.inl k), some (.inl q), none, none] (ck_21 _ _ rfl) rfl rfl pp_22 rfl rfl rfl (congrArg Prod.fst (ib_k0 E.1)) rfl rfl rfl rfl ?_
              refine cx_22 E F H R b3 b5 b8 qm k qk q qq (fun v220 p221 => ?_)
              have g222 : v220 = 0 ∨ v220 = 1 := p221.elim (fun z => Or.inr z.1) (fun z => Or.inl z.1)
              show av_wp _ cd_21 102 [some (.inr (.inr (.inl (some (b))))), some (.inl k), some (.inl q), some (.inl (3))] [.inl v220] h _
              refine wq_k1 (p' := 105) (ck_21 _ _ rfl) rfl ⟨by omega, by omega⟩ (fun c223 => ?_) (fun c224 => ?_)
              · have c223 : v220 = (0) := c223
                refine av_wp_sqF ck_21 1 (pc' := 113) (lv' := [some (.inr (.inr (.inl (some (b))))), some (.inl k), some (.inl q), some (.inl (3))]) (st' := [.inl (3)]) (h' := h) rfl ?_
                refine av_wp_ret (v := some (.inl (3))) (ck_21 _ _ rfl) rfl rfl ?_
                exact hq _ ⟨1, 1, 0, 0, Or.inl ⟨rfl, by omega⟩, Or.inl ⟨rfl, by omega⟩, Or.inr ⟨rfl, by omega⟩, p221.elim (fun z => absurd z.1 (by omega)) (fun z => Or.inr ⟨rfl, fun y => z.2 y.2⟩), by omega⟩
              · have c224 : v220 ≠ (0) := c224
                refine av_wp_sqF ck_21 4 (pc' := 113) (lv' := [some (.inr (.inr (.inl (some (b))))), some (.inl k), some (.inl q), some (.inl (3))]) (st' := [.inl (11)]) (h' := h) rfl ?_
                refine av_wp_ret (v := some (.inl (11))) (ck_21 _ _ rfl) rfl rfl ?_
                exact hq _ ⟨1, 1, 0, 1, Or.inl ⟨rfl, by omega⟩, Or.inl ⟨rfl, by omega⟩, Or.inr ⟨rfl, by omega⟩, p221.elim (fun z => Or.inl ⟨rfl, e216.trans (by omega), z.2⟩) (fun z => absurd z.1 (by omega)), by omega⟩
          · have c214 : v211 ≠ (0) := c214
            refine av_wp_sqF ck_21 1 (pc' := 72) (lv' := [some (.inr (.inr (.inl (some (b))))), some (.inl k), some (.inl q), some (.inl (3))]) (st' := [.inr (.inr (.inl (some (b))))]) (h' := h) rfl ?_
            refine wq_gi (p' := 75) (ck_21 _ _ rfl) rfl (congrArg Prod.fst (ib_k0 E.1)) rfl (eb_x E) ?_
            refine av_wp_sqF ck_21 1 (pc' := 76) (lv' := [some (.inr (.inr (.inl (some (b))))), some (.inl k), some (.inl q), some (.inl (3))]) (st' := [.inl k, .inl mb]) (h' := h) rfl ?_
            refine wq_k2 (p' := 79) (ck_21 _ _ rfl) rfl ⟨by omega, by omega⟩ ⟨by omega, by omega⟩ (fun c225 => ?_) (fun c226 => ?_)
            · have c225 : mb ≠ k := c225
              refine av_wp_sqF ck_21 1 (pc' := 84) (lv' := [some (.inr (.inr (.inl (some (b))))), some (.inl k), some (.inl q), some (.inl (3))]) (st' := [.inr (.inr (.inl (some (b))))]) (h' := h) rfl ?_
              refine wq_gr (p' := 87) (ck_21 _ _ rfl) rfl (congrArg Prod.fst (ib_k0 E.1)) rfl (ib_t E.1) ?_
              refine av_wp_sqF ck_21 2 (pc' := 89) (lv' := [some (.inr (.inr (.inl (some (b))))), some (.inl k), some (.inl q), some (.inl (3))]) (st' := [.inl (0), .inl k, .inr (.inr (.inl (some (t))))]) (h' := h) rfl ?_
              refine wq_cv (p' := 92) (av_qc (.invokevirtual 74) 29 2 0 1) 3 cd_29 [.inl (0), .inl k] (t) 1 [some (.inr (.inr (.inl (some (t))))), some (.inl k), some (.inl (0))] (ck_21 _ _ rfl) rfl rfl pp_29 rfl rfl rfl (congrArg Prod.fst (co_kt (ib_co E.1))) rfl rfl rfl rfl ?_
              obtain ⟨v227, e228⟩ : ∃ v, u (21 * Int.toNat (k) + 0) = v := ⟨_, rfl⟩
              have g229 := eb_uv E (21 * Int.toNat (k) + 0)
              rw [e228] at g229
              refine xc_29 (ib_co E.1) (k) (by omega) 0 (by omega) rfl ((congrFun (eb_u E) _).trans e228) ?_
              show av_wp _ cd_21 92 [some (.inr (.inr (.inl (some (b))))), some (.inl k), some (.inl q), some (.inl (3))] [.inl v227] h _
              refine av_wp_sqF ck_21 1 (pc' := 93) (lv' := [some (.inr (.inr (.inl (some (b))))), some (.inl k), some (.inl q), some (.inl (3))]) (st' := [.inl (5), .inl v227]) (h' := h) rfl ?_
              refine wq_k2 (p' := 96) (ck_21 _ _ rfl) rfl ⟨by omega, by omega⟩ ⟨by omega, by omega⟩ (fun c230 => ?_) (fun c231 => ?_)
              · have c230 : v227 ≠ (5) := c230
                refine av_wp_sqF ck_21 1 (pc' := 113) (lv' := [some (.inr (.inr (.inl (some (b))))), some (.inl k), some (.inl q), some (.inl (3))]) (st' := [.inl (3)]) (h' := h) rfl ?_
                refine av_wp_ret (v := some (.inl (3))) (ck_21 _ _ rfl) rfl rfl ?_
                exact hq _ ⟨1, 1, 0, 0, Or.inl ⟨rfl, by omega⟩, Or.inl ⟨rfl, by omega⟩, Or.inr ⟨rfl, by omega⟩, Or.inr ⟨rfl, fun y => by have := y.1; omega⟩, by omega⟩
              · have c231 : v227 = (5) := c231
                refine av_wp_sqF ck_21 3 (pc' := 99) (lv' := [some (.inr (.inr (.inl (some (b))))), some (.inl k), some (.inl q), some (.inl (3))]) (st' := [.inl q, .inl k, .inr (.inr (.inl (some (b))))]) (h' := h) rfl ?_
                refine wq_cv (p' := 102) (av_qc (.invokevirtual 150) 22 2 0 0) 5 cd_22 [.inl q, .inl k] (b) 0 [some (.inr (.inr (.inl (some (b))))), some (.inl k), some (.inl q), none, none] (ck_21 _ _ rfl) rfl rfl pp_22 rfl rfl rfl (congrArg Prod.fst (ib_k0 E.1)) rfl rfl rfl rfl ?_
                refine cx_22 E F H R b3 b5 b8 qm k qk q qq (fun v232 p233 => ?_)
                have g234 : v232 = 0 ∨ v232 = 1 := p233.elim (fun z => Or.inr z.1) (fun z => Or.inl z.1)
                show av_wp _ cd_21 102 [some (.inr (.inr (.inl (some (b))))), some (.inl k), some (.inl q), some (.inl (3))] [.inl v232] h _
                refine wq_k1 (p' := 105) (ck_21 _ _ rfl) rfl ⟨by omega, by omega⟩ (fun c235 => ?_) (fun c236 => ?_)
                · have c235 : v232 = (0) := c235
                  refine av_wp_sqF ck_21 1 (pc' := 113) (lv' := [some (.inr (.inr (.inl (some (b))))), some (.inl k), some (.inl q), some (.inl (3))]) (st' := [.inl (3)]) (h' := h) rfl ?_
                  refine av_wp_ret (v := some (.inl (3))) (ck_21 _ _ rfl) rfl rfl ?_
                  exact hq _ ⟨1, 1, 0, 0, Or.inl ⟨rfl, by omega⟩, Or.inl ⟨rfl, by omega⟩, Or.inr ⟨rfl, by omega⟩, p233.elim (fun z => absurd z.1 (by omega)) (fun z => Or.inr ⟨rfl, fun y => z.2 y.2⟩), by omega⟩
                · have c236 : v232 ≠ (0) := c236
                  refine av_wp_sqF ck_21 4 (pc' := 113) (lv' := [some (.inr (.inr (.inl (some (b))))), some (.inl k), some (.inl q), some (.inl (3))]) (st' := [.inl (11)]) (h' := h) rfl ?_
                  refine av_wp_ret (v := some (.inl (11))) (ck_21 _ _ rfl) rfl rfl ?_
                  exact hq _ ⟨1, 1, 0, 1, Or.inl ⟨rfl, by omega⟩, Or.inl ⟨rfl, by omega⟩, Or.inr ⟨rfl, by omega⟩, p233.elim (fun z => Or.inl ⟨rfl, e228.trans (by omega), z.2⟩) (fun z => absurd z.1 (by omega)), by omega⟩
            · have c226 : mb = k := c226
              refine av_wp_sqF ck_21 5 (pc' := 84) (lv' := [some (.inr (.inr (.inl (some (b))))), some (.inl k), some (.inl q), some (.inl (7))]) (st' := [.inr (.inr (.inl (some (b))))]) (h' := h) rfl ?_
              refine wq_gr (p' := 87) (ck_21 _ _ rfl) rfl (congrArg Prod.fst (ib_k0 E.1)) rfl (ib_t E.1) ?_
              refine av_wp_sqF ck_21 2 (pc' := 89) (lv' := [some (.inr (.inr (.inl (some (b))))), some (.inl k), some (.inl q), some (.inl (7))]) (st' := [.inl (0), .inl k, .inr (.inr (.inl (some (t))))]) (h' := h) rfl ?_
              refine wq_cv (p' := 92) (av_qc (.invokevirtual 74) 29 2 0 1) 3 cd_29 [.inl (0), .inl k] (t) 1 [some (.inr (.inr (.inl (some (t))))), some (.inl k), some (.inl (0))] (ck_21 _ _ rfl) rfl rfl pp_29 rfl rfl rfl (congrArg Prod.fst (co_kt (ib_co E.1))) rfl rfl rfl rfl ?_
              obtain ⟨v237, e238⟩ : ∃ v, u (21 * Int.toNat (k) + 0) = v := ⟨_, rfl⟩
              have g239 := eb_uv E (21 * Int.toNat (k) + 0)
              rw [e238] at g239
              refine xc_29 (ib_co E.1) (k) (by omega) 0 (by omega) rfl ((congrFun (eb_u E) _).trans e238) ?_
              show av_wp _ cd_21 92 [some (.inr (.inr (.inl (some (b))))), some (.inl k), some (.inl q), some (.inl (7))] [.inl v237] h _
              refine av_wp_sqF ck_21 1 (pc' := 93) (lv' := [some (.inr (.inr (.inl (some (b))))), some (.inl k), some (.inl q), some (.inl (7))]) (st' := [.inl (5), .inl v237]) (h' := h) rfl ?_
              refine wq_k2 (p' := 96) (ck_21 _ _ rfl) rfl ⟨by omega, by omega⟩ ⟨by omega, by omega⟩ (fun c240 => ?_) (fun c241 => ?_)
              · have c240 : v237 ≠ (5) := c240
                refine av_wp_sqF ck_21 1 (pc' := 113) (lv' := [some (.inr (.inr (.inl (some (b))))), some (.inl k), some (.inl q), some (.inl (7))]) (st' := [.inl (7)]) (h' := h) rfl ?_
                refine av_wp_ret (v := some (.inl (7))) (ck_21 _ _ rfl) rfl rfl ?_
                exact hq _ ⟨1, 1, 1, 0, Or.inl ⟨rfl, by omega⟩, Or.inl ⟨rfl, by omega⟩, Or.inl ⟨rfl, by omega⟩, Or.inr ⟨rfl, fun y => by have := y.1; omega⟩, by omega⟩
              · have c241 : v237 = (5) := c241
                refine av_wp_sqF ck_21 3 (pc' := 99) (lv' := [some (.inr (.inr (.inl (some (b))))), some (.inl k), some (.inl q), some (.inl (7))]) (st' := [.inl q, .inl k, .inr (.inr (.inl (some (b))))]) (h' := h) rfl ?_
                refine wq_cv (p' := 102) (av_qc (.invokevirtual 150) 22 2 0 0) 5 cd_22 [.inl q, .inl k] (b) 0 [some (.inr (.inr (.inl (some (b))))), some (.inl k), some (.inl q), none, none] (ck_21 _ _ rfl) rfl rfl pp_22 rfl rfl rfl (congrArg Prod.fst (ib_k0 E.1)) rfl rfl rfl rfl ?_
                refine cx_22 E F H R b3 b5 b8 qm k qk q qq (fun v242 p243 => ?_)
                have g244 : v242 = 0 ∨ v242 = 1 := p243.elim (fun z => Or.inr z.1) (fun z => Or.inl z.1)
                show av_wp _ cd_21 102 [some (.inr (.inr (.inl (some (b))))), some (.inl k), some (.inl q), some (.inl (7))] [.inl v242] h _
                refine wq_k1 (p' := 105) (ck_21 _ _ rfl) rfl ⟨by omega, by omega⟩ (fun c245 => ?_) (fun c246 => ?_)
                · have c245 : v242 = (0) := c245
                  refine av_wp_sqF ck_21 1 (pc' := 113) (lv' := [some (.inr (.inr (.inl (some (b))))), some (.inl k), some (.inl q), some (.inl (7))]) (st' := [.inl (7)]) (h' := h) rfl ?_
                  refine av_wp_ret (v := some (.inl (7))) (ck_21 _ _ rfl) rfl rfl ?_
                  exact hq _ ⟨1, 1, 1, 0, Or.inl ⟨rfl, by omega⟩, Or.inl ⟨rfl, by omega⟩, Or.inl ⟨rfl, by omega⟩, p243.elim (fun z => absurd z.1 (by omega)) (fun z => Or.inr ⟨rfl, fun y => z.2 y.2⟩), by omega⟩
                · have c246 : v242 ≠ (0) := c246
                  refine av_wp_sqF ck_21 4 (pc' := 113) (lv' := [some (.inr (.inr (.inl (some (b))))), some (.inl k), some (.inl q), some (.inl (7))]) (st' := [.inl (15)]) (h' := h) rfl ?_
                  refine av_wp_ret (v := some (.inl (15))) (ck_21 _ _ rfl) rfl rfl ?_
                  exact hq _ ⟨1, 1, 1, 1, Or.inl ⟨rfl, by omega⟩, Or.inl ⟨rfl, by omega⟩, Or.inl ⟨rfl, by omega⟩, p243.elim (fun z => Or.inl ⟨rfl, e238.trans (by omega), z.2⟩) (fun z => absurd z.1 (by omega)), by omega⟩
  · have c4 : v1 = (0) := c4
    refine av_wp_sqF ck_21 1 (pc' := 12) (lv' := [some (.inr (.inr (.inl (some (b))))), some (.inl k), none, none]) (st' := [.inl (0)]) (h' := h) rfl ?_
    refine av_wp_ret (v := some (.inl (0))) (ck_21 _ _ rfl) rfl rfl ?_
    exfalso
    omega
end
section
set_option maxRecDepth 100000 in
set_option maxHeartbeats 4000000 in
theorem cx_116 {h : av_H} {U : Nat → Nat → Int} {S : Nat → Nat} {n : Int} {sr nd : Nat → Int} (C : CJ U S n sr nd h) (k : Int) (qk : -2147483648 ≤ k ∧ k ≤ 2147483647) (l : Int) (ql : -2147483648 ≤ l ∧ l ≤ 2147483647) (x : Int) (qx : -2147483648 ≤ x ∧ x ≤ 2147483647) (q : Int) (qq : -2147483648 ≤ q ∧ q ≤ 2147483647) (CR : CRT U S n (hF h 3 4) (fun k => hA h (6 + k))) (SU : SUA U S n (hF h 3 4) (fun k => hA h (6 + k)) sr) {Q : Option av_V → av_H → Prop} (hq : ∀ (v : Int) h' sr' nd', CJ U S n sr' nd' h' → FP 35 h h' → SUA U S n (hF h 3 4) (fun k => hA h (6 + k)) sr' → RSR (okx U S n (hF h 3 4) k l x ∧ (0 ≤ q ∧ q < (S (Int.toNat k) : Int))) (-2) (DOV (U (Int.toNat k)) (hA h (6 + Int.toNat l)) (arr (U (Int.toNat k)) (hA h (6 + Int.toNat l)) (bxx U S (hA h (6 + Int.toNat l)) (Int.toNat k)) x) (S (Int.toNat k)) (bgx U S (fun k => hA h (6 + k)) k l x) (Int.toNat q)) v → Q (some (.inl v)) h') : av_wp none cd_116 0 [some (.inr (.inr (.inl (some (0))))), some (.inl k), some (.inl l), some (.inl x), some (.inl q)] [] h Q := by
  have F := FP_rf 35 h
  have nr := C.2.1.2.1
  refine av_wp_sqF ck_116 1 (pc' := 1) (lv' := [some (.inr (.inr (.inl (some (0))))), some (.inl k), some (.inl l), some (.inl x), some (.inl q)]) (st' := [.inr (.inr (.inl (some (0))))]) (h' := h) rfl ?_
  refine wq_gr (p' := 4) (ck_116 _ _ rfl) rfl (congrArg Prod.fst (ly_k C.1.1 0 rfl)) rfl (ly_g C.1.1 0 5 26 rfl) ?_
  refine av_wp_sqF ck_116 3 (pc' := 7) (lv' := [some (.inr (.inr (.inl (some (0))))), some (.inl k), some (.inl l), some (.inl x), some (.inl q)]) (st' := [.inl x, .inl l, .inl k, .inr (.inr (.inl (some (26))))]) (h' := h) rfl ?_
  refine wq_cv (p' := 10) (av_qc (.invokevirtual 160) 48 3 0 3) 5 cd_48 [.inl x, .inl l, .inl k] (26) 3 [some (.inr (.inr (.inl (some (26))))), some (.inl k), some (.inl l), some (.inl x), none] (ck_116 _ _ rfl) rfl rfl pp_48 rfl rfl rfl (congrArg Prod.fst (ly_k C.1.1 26 rfl)) rfl rfl rfl rfl ?_
  refine cz_48 C (k) (by omega) (l) (by omega) (x) (by omega) CR SU (fun z1 => ?_) (fun z1 z2 z3 h4 r5 n6 t7 c8 a9 m10 m11 m12 C13 F14 U15 E16 Z17 T18 D19 B20 R21 => ?_)
  · show av_wp _ cd_116 10 [some (.inr (.inr (.inl (some (0))))), some (.inl k), some (.inl l), some (.inl x), some (.inl q)] [.inl (0)] h _
    refine av_wp_sqF ck_116 2 (pc' := 33) (lv' := [some (.inr (.inr (.inl (some (0))))), some (.inl k), some (.inl l), some (.inl x), some (.inl q)]) (st' := [.inl (-2)]) (h' := h) rfl ?_
    refine av_wp_ret (v := some (.inl (-2))) (ck_116 _ _ rfl) rfl rfl ?_
    exact hq _ h _ _ C F SU (Or.inr ⟨by unfold okx; omega, rfl⟩)
  · have g22 : (-1 ≤ m10 ∧ m10 ≤ 11) ∧ (-1 ≤ m11 ∧ m11 ≤ 11) ∧ (-1 ≤ m12 ∧ m12 ≤ 9999) := R21
    have g23 := co_s12 (ib_co E16.1)
    show av_wp _ cd_116 10 [some (.inr (.inr (.inl (some (0))))), some (.inl k), some (.inl l), some (.inl x), some (.inl q)] [.inl (1)] h4 _
    refine av_wp_sqF ck_116 2 (pc' := 14) (lv' := [some (.inr (.inr (.inl (some (0))))), some (.inl k), some (.inl l), some (.inl x), some (.inl q)]) (st' := [.inr (.inr (.inl (some (0))))]) (h' := h4) rfl ?_
    refine wq_gr (p' := 17) (ck_116 _ _ rfl) rfl (congrArg Prod.fst (ly_k C13.1.1 0 rfl)) rfl (ly_g C13.1.1 0 5 26 rfl) ?_
    refine wq_gr (p' := 20) (ck_116 _ _ rfl) rfl (congrArg Prod.fst (ly_k C13.1.1 26 rfl)) rfl (ly_g C13.1.1 26 1 35 rfl) ?_
    refine wq_gr (p' := 23) (ck_116 _ _ rfl) rfl (congrArg Prod.fst (bn_k0 C13.1.1 (Or.inl rfl))) rfl (ib_t E16.1) ?_
    refine av_wp_sqF ck_116 1 (pc' := 25) (lv' := [some (.inr (.inr (.inl (some (0))))), some (.inl k), some (.inl l), some (.inl x), some (.inl q)]) (st' := [.inl q, .inr (.inr (.inl (some (t7))))]) (h' := h4) rfl ?_
    refine wq_cv (p' := 28) (av_qc (.invokevirtual 136) 28 1 0 1) 2 cd_28 [.inl q] (t7) 1 [some (.inr (.inr (.inl (some (t7))))), some (.inl q)] (ck_116 _ _ rfl) rfl rfl pp_28 rfl rfl rfl (congrArg Prod.fst (co_kt (ib_co E16.1))) rfl rfl rfl rfl ?_
    refine ct_28 (ib_co E16.1) (q) (by omega) (fun v24 p25 => ?_)
    show av_wp _ cd_116 28 [some (.inr (.inr (.inl (some (0))))), some (.inl k), some (.inl l), some (.inl x), some (.inl q)] [.inl v24] h4 _
    refine wq_k1 (p' := 31) (ck_116 _ _ rfl) rfl ⟨by omega, by omega⟩ (fun c26 => ?_) (fun c27 => ?_)
    · have c26 : v24 ≠ (0) := c26
      refine av_wp_sqF ck_116 1 (pc' := 35) (lv' := [some (.inr (.inr (.inl (some (0))))), some (.inl k), some (.inl l), some (.inl x), some (.inl q)]) (st' := [.inr (.inr (.inl (some (0))))]) (h' := h4) rfl ?_
      refine wq_gr (p' := 38) (ck_116 _ _ rfl) rfl (congrArg Prod.fst (ly_k C13.1.1 0 rfl)) rfl (ly_g C13.1.1 0 5 26 rfl) ?_
      refine wq_gr (p' := 41) (ck_116 _ _ rfl) rfl (congrArg Prod.fst (ly_k C13.1.1 26 rfl)) rfl (ly_g C13.1.1 26 1 35 rfl) ?_
      refine av_wp_sqF ck_116 1 (pc' := 43) (lv' := [some (.inr (.inr (.inl (some (0))))), some (.inl k), some (.inl l), some (.inl x), some (.inl q)]) (st' := [.inl q, .inr (.inr (.inl (some (35))))]) (h' := h4) rfl ?_
      refine wq_cv (p' := 46) (av_qc (.invokevirtual 240) 21 1 0 0) 4 cd_21 [.inl q] (35) 0 [some (.inr (.inr (.inl (some (35))))), some (.inl q), none, none] (ck_116 _ _ rfl) rfl rfl pp_21 rfl rfl rfl (congrArg Prod.fst (bn_k0 C13.1.1 (Or.inl rfl))) rfl rfl rfl rfl ?_
      have g28h := HBd_g (CR.1 (Int.toNat k) (by omega)).2.2.2.2.2 D19.1 (by have := cbv_d (U (Int.toNat k)) (S (Int.toNat k)); omega)
      have g28d := DDA_of (u := U (Int.toNat k)) (ro := (hA h (6 + Int.toNat l))) (bar := bxx U S (hA h (6 + Int.toNat l)) (Int.toNat k)) (x := x) (by omega) T18 D19
      have g28H : HBd (S (Int.toNat k)) (arr (U (Int.toNat k)) (hA h (6 + Int.toNat l)) (bxx U S (hA h (6 + Int.toNat l)) (Int.toNat k)) x) := HBd_g (CR.1 (Int.toNat k) (by omega)).2.2.2.2.2 (fun q hq i hi => arr_0 (by omega)) (by have := cbv_d (U (Int.toNat k)) (S (Int.toNat k)); omega)
      have g285 : ∀ q, q < S (Int.toNat k) → -1 ≤ a9 5 q ∧ a9 5 q ≤ 9999 := fun q hq => by rw [(g28d q hq).2.1]; have := o5_r (ro := (hA h (6 + Int.toNat l))) g28H hq; omega
      have g288 : ∀ q, q < S (Int.toNat k) → -1 ≤ a9 8 q ∧ a9 8 q ≤ 11 := fun q hq => by rw [show a9 8 q = _ from congrArg (fun t => t.2.2) (D19.2 q hq).2.1]; exact eav_8 (by omega) q
      have g28w := ((CR.1 (Int.toNat k) (by omega)).1 (Int.toNat q) (by omega)).2.1
      refine cx_21 E16 (FN_rf 35 h4) g28h (CR.2.2.2 l (by omega) (by omega)) (fun q hq => by rw [(T18 q hq).2.1]; exact ys_b _ _ _) g285 g288 (by omega) (q) (by omega) (U (Int.toNat k) (21 * Int.toNat q + 3)) (by omega) rfl (fun v29 p30 => ?_)
      show av_wp _ cd_116 46 [some (.inr (.inr (.inl (some (0))))), some (.inl k), some (.inl l), some (.inl x), some (.inl q)] [.inl v29] h4 _
      refine av_wp_ret (v := some (.inl v29)) (ck_116 _ _ rfl) rfl rfl ?_
      exact hq _ h4 _ _ C13 F14 U15 (Or.inl ⟨by unfold okx; omega, by rw [show bgx U S (fun k => hA h (6 + k)) k l x = _ from B20]; refine DOV_of (x := x) (by omega) T18 D19 (by omega) rfl ?_; rw [show ((Int.toNat q : Nat) : Int) = q by omega]; exact p30⟩)
    · have c27 : v24 = (0) := c27
      refine av_wp_sqF ck_116 1 (pc' := 33) (lv' := [some (.inr (.inr (.inl (some (0))))), some (.inl k), some (.inl l), some (.inl x), some (.inl q)]) (st' := [.inl (-2)]) (h' := h4) rfl ?_
      refine av_wp_ret (v := some (.inl (-2))) (ck_116 _ _ rfl) rfl rfl ?_
      exact hq _ h4 _ _ C13 F14 U15 (Or.inr ⟨by unfold okx; omega, rfl⟩)
end
