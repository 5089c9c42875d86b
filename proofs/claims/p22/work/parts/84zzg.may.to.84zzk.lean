section
/-! CAN, UNTIL, exactly: the class -/
set_option maxRecDepth 100000 in
set_option maxHeartbeats 4000000 in
theorem cx_25 {g h : av_H} {b t c s r : Nat} {cb : Int} {u ro : Nat → Int} {a : Nat → Nat → Int} {mb mo ma : Int} (E : EB b t c s r cb u ro a mb mo ma h) (F : FN b g h) (H : HBd s a) (b2 : ∀ q, q < s → 0 ≤ a 2 q ∧ a 2 q ≤ 1) (b5 : ∀ q, q < s → -1 ≤ a 5 q ∧ a 5 q ≤ 9999) (b6 : ∀ q, q < s → -1 ≤ a 6 q ∧ a 6 q ≤ 9999) (qm : -1 ≤ ma ∧ ma ≤ 9999) (k : Int) (qk : 0 ≤ k ∧ k < (s : Int)) (x : Int) (qx : -2147483648 ≤ x ∧ x ≤ 2147483647) (w : Int) (qw : 1 ≤ w ∧ w ≤ 2) {Q : Option av_V → av_H → Prop} (hq : ∀ v : Int, v = mfr (a 2 (Int.toNat k)) (a 5 (Int.toNat k)) (u (21 * (Int.toNat k) + Int.toNat w)) (fre u ro (Int.toNat k)) (hw a (Int.toNat k) 1) x w → Q (some (.inl v)) h) : av_wp none cd_25 0 [some (.inr (.inr (.inl (some (b))))), some (.inl k), some (.inl x), some (.inl w), none] [] h Q := by
  have s12 := co_s12 (ib_co E.1)
  have cbr := co_cbr (ib_co E.1)
  have mbr := eb_xr E
  have mor := eb_yr E
  refine av_wp_sqF ck_25 2 (pc' := 2) (lv' := [some (.inr (.inr (.inl (some (b))))), some (.inl k), some (.inl x), some (.inl w), none]) (st' := [.inl k, .inr (.inr (.inl (some (b))))]) (h' := h) rfl ?_
  refine wq_cv (p' := 5) (av_qc (.invokevirtual 160) 15 1 0 0) 2 cd_15 [.inl k] (b) 0 [some (.inr (.inr (.inl (some (b))))), some (.inl k)] (ck_25 _ _ rfl) rfl rfl pp_15 rfl rfl rfl (congrArg Prod.fst (ib_k0 E.1)) rfl rfl rfl rfl ?_
  refine cx_15 E F (k) (by omega) b2 (fun v1 p2 => ?_)
  show av_wp _ cd_25 5 [some (.inr (.inr (.inl (some (b))))), some (.inl k), some (.inl x), some (.inl w), none] [.inl v1] h _
  refine wq_k1 (p' := 8) (ck_25 _ _ rfl) rfl ⟨by omega, by omega⟩ (fun c3 => ?_) (fun c4 => ?_)
  · have c3 : v1 = (0) := c3
    refine av_wp_sqF ck_25 1 (pc' := 43) (lv' := [some (.inr (.inr (.inl (some (b))))), some (.inl k), some (.inl x), some (.inl w), none]) (st' := [.inl (9999)]) (h' := h) rfl ?_
    refine av_wp_ret (v := some (.inl (9999))) (ck_25 _ _ rfl) rfl rfl ?_
    exact hq _ (by unfold mfr mx2; (repeat' split) <;> omega)
  · have c4 : v1 ≠ (0) := c4
    refine av_wp_sqF ck_25 1 (pc' := 9) (lv' := [some (.inr (.inr (.inl (some (b))))), some (.inl k), some (.inl x), some (.inl w), none]) (st' := [.inr (.inr (.inl (some (b))))]) (h' := h) rfl ?_
    refine wq_gr (p' := 12) (ck_25 _ _ rfl) rfl (congrArg Prod.fst (ib_k0 E.1)) rfl (ib_g E.1 5 rfl) ?_
    refine av_wp_sqF ck_25 1 (pc' := 13) (lv' := [some (.inr (.inr (.inl (some (b))))), some (.inl k), some (.inl x), some (.inl w), none]) (st' := [.inl k, .inr (.inr (.inl (some (b + 1 + 5))))]) (h' := h) rfl ?_
    obtain ⟨v6, e7⟩ : ∃ v, a 5 (Int.toNat (k)) = v := ⟨_, rfl⟩
    have g8 := b5 (Int.toNat (k)) (by omega)
    rw [e7] at g8
    refine wq_al (p' := 14) (n := 12) (ck_25 _ _ rfl) rfl (ib_k E.1 5 rfl) (by omega) ((congrFun (eb_a E 5 rfl) _).trans e7) ?_
    refine av_wp_sqF ck_25 1 (pc' := 15) (lv' := [some (.inr (.inr (.inl (some (b))))), some (.inl k), some (.inl x), some (.inl w), none]) (st' := [.inl (-1), .inl v6]) (h' := h) rfl ?_
    refine wq_k2 (p' := 18) (ck_25 _ _ rfl) rfl ⟨by omega, by omega⟩ ⟨by omega, by omega⟩ (fun c9 => ?_) (fun c10 => ?_)
    · have c9 : v6 = (-1) := c9
      refine av_wp_sqF ck_25 1 (pc' := 43) (lv' := [some (.inr (.inr (.inl (some (b))))), some (.inl k), some (.inl x), some (.inl w), none]) (st' := [.inl (9999)]) (h' := h) rfl ?_
      refine av_wp_ret (v := some (.inl (9999))) (ck_25 _ _ rfl) rfl rfl ?_
      exact hq _ (by unfold mfr mx2; (repeat' split) <;> omega)
    · have c10 : v6 ≠ (-1) := c10
      refine av_wp_sqF ck_25 1 (pc' := 19) (lv' := [some (.inr (.inr (.inl (some (b))))), some (.inl k), some (.inl x), some (.inl w), none]) (st' := [.inr (.inr (.inl (some (b))))]) (h' := h) rfl ?_
      refine wq_gr (p' := 22) (ck_25 _ _ rfl) rfl (congrArg Prod.fst (ib_k0 E.1)) rfl (ib_t E.1) ?_
      refine av_wp_sqF ck_25 3 (pc' := 25) (lv' := [some (.inr (.inr (.inl (some (b))))), some (.inl k), some (.inl x), some (.inl w), none]) (st' := [.inl (1), .inl w, .inl k, .inr (.inr (.inl (some (t))))]) (h' := h) rfl ?_
      refine wq_k2 (p' := 28) (ck_25 _ _ rfl) rfl ⟨by omega, by omega⟩ ⟨by omega, by omega⟩ (fun c11 => ?_) (fun c12 => ?_)
      · have c11 : w ≠ (1) := c11
        refine av_wp_sqF ck_25 1 (pc' := 33) (lv' := [some (.inr (.inr (.inl (some (b))))), some (.inl k), some (.inl x), some (.inl w), none]) (st' := [.inl (2), .inl k, .inr (.inr (.inl (some (t))))]) (h' := h) rfl ?_
        refine wq_cv (p' := 36) (av_qc (.invokevirtual 74) 29 2 0 1) 3 cd_29 [.inl (2), .inl k] (t) 1 [some (.inr (.inr (.inl (some (t))))), some (.inl k), some (.inl (2))] (ck_25 _ _ rfl) rfl rfl pp_29 rfl rfl rfl (congrArg Prod.fst (co_kt (ib_co E.1))) rfl rfl rfl rfl ?_
        obtain ⟨v13, e14⟩ : ∃ v, u (21 * Int.toNat (k) + 2) = v := ⟨_, rfl⟩
        have g15 := eb_uv E (21 * Int.toNat (k) + 2)
        rw [e14] at g15
        refine xc_29 (ib_co E.1) (k) (by omega) 2 (by omega) rfl ((congrFun (eb_u E) _).trans e14) ?_
        show av_wp _ cd_25 36 [some (.inr (.inr (.inl (some (b))))), some (.inl k), some (.inl x), some (.inl w), none] [.inl v13] h _
        refine av_wp_sqF ck_25 1 (pc' := 37) (lv' := [some (.inr (.inr (.inl (some (b))))), some (.inl k), some (.inl x), some (.inl w), none]) (st' := [.inl x, .inl v13]) (h' := h) rfl ?_
        refine wq_k2 (p' := 40) (ck_25 _ _ rfl) rfl ⟨by omega, by omega⟩ ⟨by omega, by omega⟩ (fun c16 => ?_) (fun c17 => ?_)
        · have c16 : v13 = x := c16
          refine av_wp_sqF ck_25 2 (pc' := 46) (lv' := [some (.inr (.inr (.inl (some (b))))), some (.inl k), some (.inl x), some (.inl w), none]) (st' := [.inl (1), .inl w]) (h' := h) rfl ?_
          refine wq_k2 (p' := 49) (ck_25 _ _ rfl) rfl ⟨by omega, by omega⟩ ⟨by omega, by omega⟩ (fun c18 => ?_) (fun c19 => ?_)
          · have c18 : w ≠ (1) := c18
            refine av_wp_sqF ck_25 3 (pc' := 67) (lv' := [some (.inr (.inr (.inl (some (b))))), some (.inl k), some (.inl x), some (.inl w), none]) (st' := [.inl (1), .inl k, .inr (.inr (.inl (some (b))))]) (h' := h) rfl ?_
            refine wq_cv (p' := 70) (av_qc (.invokevirtual 115) 6 2 0 0) 3 cd_6 [.inl (1), .inl k] (b) 0 [some (.inr (.inr (.inl (some (b))))), some (.inl k), some (.inl (1))] (ck_25 _ _ rfl) rfl rfl pp_6 rfl rfl rfl (congrArg Prod.fst (ib_k0 E.1)) rfl rfl rfl rfl ?_
            refine cx_6 E F (k) (by omega) ((1)) (by omega) ?_
            rw [hof_c (a := a) rfl (by omega)]
            obtain ⟨v20, e21⟩ : ∃ v, hw a (Int.toNat (k)) (1) = v := ⟨_, rfl⟩
            have g22 := hw_r H (k := Int.toNat (k)) (by omega) (1)
            rw [e21] at g22
            rw [e21]
            show av_wp _ cd_25 70 [some (.inr (.inr (.inl (some (b))))), some (.inl k), some (.inl x), some (.inl w), none] [.inl v20] h _
            refine av_wp_sqF ck_25 3 (pc' := 75) (lv' := [some (.inr (.inr (.inl (some (b))))), some (.inl k), some (.inl x), some (.inl w), some (.inl v20)]) (st' := [.inl (-1), .inl v20]) (h' := h) rfl ?_
            refine wq_k2 (p' := 78) (ck_25 _ _ rfl) rfl ⟨by omega, by omega⟩ ⟨by omega, by omega⟩ (fun c23 => ?_) (fun c24 => ?_)
            · have c23 : v20 ≠ (-1) := c23
              refine av_wp_sqF ck_25 1 (pc' := 85) (lv' := [some (.inr (.inr (.inl (some (b))))), some (.inl k), some (.inl x), some (.inl w), some (.inl v20)]) (st' := [.inr (.inr (.inl (some (b))))]) (h' := h) rfl ?_
              refine wq_gr (p' := 88) (ck_25 _ _ rfl) rfl (congrArg Prod.fst (ib_k0 E.1)) rfl (ib_g E.1 5 rfl) ?_
              refine av_wp_sqF ck_25 1 (pc' := 89) (lv' := [some (.inr (.inr (.inl (some (b))))), some (.inl k), some (.inl x), some (.inl w), some (.inl v20)]) (st' := [.inl k, .inr (.inr (.inl (some (b + 1 + 5))))]) (h' := h) rfl ?_
              obtain ⟨v26, e27⟩ : ∃ v, a 5 (Int.toNat (k)) = v := ⟨_, rfl⟩
              have g28 := b5 (Int.toNat (k)) (by omega)
              rw [e27] at g28
              refine wq_al (p' := 90) (n := 12) (ck_25 _ _ rfl) rfl (ib_k E.1 5 rfl) (by omega) ((congrFun (eb_a E 5 rfl) _).trans e27) ?_
              refine av_wp_sqF ck_25 1 (pc' := 92) (lv' := [some (.inr (.inr (.inl (some (b))))), some (.inl k), some (.inl x), some (.inl w), some (.inl v20)]) (st' := [.inl v20, .inl v26]) (h' := h) rfl ?_
              refine wq_mx (p' := 95) (ck_25 _ _ rfl) rfl rfl (fun _ _ => rfl) rfl (fun v29 e30 e31 => ?_)
              have e31 := e31 ⟨by omega, by omega⟩ ⟨by omega, by omega⟩
              refine av_wp_ret (v := some (.inl v29)) (ck_25 _ _ rfl) rfl rfl ?_
              have zc : u (21 * Int.toNat k + Int.toNat w) = v13 := (congrArg u (by omega)).trans e14
              exact hq _ (by unfold mfr mx2; (repeat' split) <;> omega)
            · have c24 : v20 = (-1) := c24
              refine av_wp_sqF ck_25 2 (pc' := 95) (lv' := [some (.inr (.inr (.inl (some (b))))), some (.inl k), some (.inl x), some (.inl w), some (.inl v20)]) (st' := [.inl (9999)]) (h' := h) rfl ?_
              refine av_wp_ret (v := some (.inl (9999))) (ck_25 _ _ rfl) rfl rfl ?_
              have zc : u (21 * Int.toNat k + Int.toNat w) = v13 := (congrArg u (by omega)).trans e14
              exact hq _ (by unfold mfr mx2; (repeat' split) <;> omega)
          · have c19 : w = (1) := c19
            exfalso; omega
        · have c17 : v13 ≠ x := c17
          refine av_wp_sqF ck_25 1 (pc' := 43) (lv' := [some (.inr (.inr (.inl (some (b))))), some (.inl k), some (.inl x), some (.inl w), none]) (st' := [.inl (9999)]) (h' := h) rfl ?_
          refine av_wp_ret (v := some (.inl (9999))) (ck_25 _ _ rfl) rfl rfl ?_
          have zc : u (21 * Int.toNat k + Int.toNat w) = v13 := (congrArg u (by omega)).trans e14
          exact hq _ (by unfold mfr mx2; (repeat' split) <;> omega)
      · have c12 : w = (1) := c12
        refine av_wp_sqF ck_25 2 (pc' := 33) (lv' := [some (.inr (.inr (.inl (some (b))))), some (.inl k), some (.inl x), some (.inl w), none]) (st' := [.inl (1), .inl k, .inr (.inr (.inl (some (t))))]) (h' := h) rfl ?_
        refine wq_cv (p' := 36) (av_qc (.invokevirtual 74) 29 2 0 1) 3 cd_29 [.inl (1), .inl k] (t) 1 [some (.inr (.inr (.inl (some (t))))), some (.inl k), some (.inl (1))] (ck_25 _ _ rfl) rfl rfl pp_29 rfl rfl rfl (congrArg Prod.fst (co_kt (ib_co E.1))) rfl rfl rfl rfl ?_
        obtain ⟨v32, e33⟩ : ∃ v, u (21 * Int.toNat (k) + 1) = v := ⟨_, rfl⟩
        have g34 := eb_uv E (21 * Int.toNat (k) + 1)
        rw [e33] at g34
        refine xc_29 (ib_co E.1) (k) (by omega) 1 (by omega) rfl ((congrFun (eb_u E) _).trans e33) ?_
        show av_wp _ cd_25 36 [some (.inr (.inr (.inl (some (b))))), some (.inl k), some (.inl x), some (.inl w), none] [.inl v32] h _
        refine av_wp_sqF ck_25 1 (pc' := 37) (lv' := [some (.inr (.inr (.inl (some (b))))), some (.inl k), some (.inl x), some (.inl w), none]) (st' := [.inl x, .inl v32]) (h' := h) rfl ?_
        refine wq_k2 (p' := 40) (ck_25 _ _ rfl) rfl ⟨by omega, by omega⟩ ⟨by omega, by omega⟩ (fun c35 => ?_) (fun c36 => ?_)
        · have c35 : v32 = x := c35
          refine av_wp_sqF ck_25 2 (pc' := 46) (lv' := [some (.inr (.inr (.inl (some (b))))), some (.inl k), some (.inl x), some (.inl w), none]) (st' := [.inl (1), .inl w]) (h' := h) rfl ?_
          refine wq_k2 (p' := 49) (ck_25 _ _ rfl) rfl ⟨by omega, by omega⟩ ⟨by omega, by omega⟩ (fun c37 => ?_) (fun c38 => ?_)
          · have c37 : w ≠ (1) := c37
            exfalso; omega
          · have c38 : w = (1) := c38
            refine av_wp_sqF ck_25 1 (pc' := 50) (lv' := [some (.inr (.inr (.inl (some (b))))), some (.inl k), some (.inl x), some (.inl w), none]) (st' := [.inr (.inr (.inl (some (b))))]) (h' := h) rfl ?_
            refine wq_gr (p' := 53) (ck_25 _ _ rfl) rfl (congrArg Prod.fst (ib_k0 E.1)) rfl (ib_g E.1 5 rfl) ?_
            refine av_wp_sqF ck_25 1 (pc' := 54) (lv' := [some (.inr (.inr (.inl (some (b))))), some (.inl k), some (.inl x), some (.inl w), none]) (st' := [.inl k, .inr (.inr (.inl (some (b + 1 + 5))))]) (h' := h) rfl ?_
            obtain ⟨v40, e41⟩ : ∃ v, a 5 (Int.toNat (k)) = v := ⟨_, rfl⟩
            have g42 := b5 (Int.toNat (k)) (by omega)
            rw [e41] at g42
            refine wq_al (p' := 55) (n := 12) (ck_25 _ _ rfl) rfl (ib_k E.1 5 rfl) (by omega) ((congrFun (eb_a E 5 rfl) _).trans e41) ?_
            refine av_wp_sqF ck_25 2 (pc' := 57) (lv' := [some (.inr (.inr (.inl (some (b))))), some (.inl k), some (.inl x), some (.inl w), none]) (st' := [.inl k, .inr (.inr (.inl (some (b)))), .inl v40]) (h' := h) rfl ?_
            refine wq_cv (p' := 60) (av_qc (.invokevirtual 125) 10 1 0 0) 3 cd_10 [.inl k] (b) 0 [some (.inr (.inr (.inl (some (b))))), some (.inl k), none] (ck_25 _ _ rfl) rfl rfl pp_10 rfl rfl rfl (congrArg Prod.fst (ib_k0 E.1)) rfl rfl rfl rfl ?_
            refine cx_10 E F (k) (by omega) ?_
            obtain ⟨v43, e44⟩ : ∃ v, fre u ro (Int.toNat (k)) = v := ⟨_, rfl⟩
            have g45 := fre_r E (Int.toNat (k))
            rw [e44] at g45
            rw [e44]
            show av_wp _ cd_25 60 [some (.inr (.inr (.inl (some (b))))), some (.inl k), some (.inl x), some (.inl w), none] [.inl v43, .inl v40] h _
            refine wq_mx (p' := 63) (ck_25 _ _ rfl) rfl rfl (fun _ _ => rfl) rfl (fun v46 e47 e48 => ?_)
            have e48 := e48 ⟨by omega, by omega⟩ ⟨by omega, by omega⟩
            refine av_wp_ret (v := some (.inl v46)) (ck_25 _ _ rfl) rfl rfl ?_
            have zc : u (21 * Int.toNat k + Int.toNat w) = v32 := (congrArg u (by omega)).trans e33
            exact hq _ (by unfold mfr mx2; (repeat' split) <;> omega)
        · have c36 : v32 ≠ x := c36
          refine av_wp_sqF ck_25 1 (pc' := 43) (lv' := [some (.inr (.inr (.inl (some (b))))), some (.inl k), some (.inl x), some (.inl w), none]) (st' := [.inl (9999)]) (h' := h) rfl ?_
          refine av_wp_ret (v := some (.inl (9999))) (ck_25 _ _ rfl) rfl rfl ?_
          have zc : u (21 * Int.toNat k + Int.toNat w) = v32 := (congrArg u (by omega)).trans e33
          exact hq _ (by unfold mfr mx2; (repeat' split) <;> omega)

set_option maxRecDepth 100000 in
set_option maxHeartbeats 4000000 in
theorem cx_26 {g h : av_H} {b t c s r : Nat} {cb : Int} {u ro : Nat → Int} {a : Nat → Nat → Int} {mb mo ma : Int} (E : EB b t c s r cb u ro a mb mo ma h) (F : FN b g h) (H : HBd s a) (b2 : ∀ q, q < s → 0 ≤ a 2 q ∧ a 2 q ≤ 1) (b5 : ∀ q, q < s → -1 ≤ a 5 q ∧ a 5 q ≤ 9999) (b6 : ∀ q, q < s → -1 ≤ a 6 q ∧ a 6 q ≤ 9999) (qm : -1 ≤ ma ∧ ma ≤ 9999) (k : Int) (qk : 0 ≤ k ∧ k < (s : Int)) {Q : Option av_V → av_H → Prop} (hq : ∀ v : Int, v = mtv (a 6 (Int.toNat k)) ma → Q (some (.inl v)) h) : av_wp none cd_26 0 [some (.inr (.inr (.inl (some (b))))), some (.inl k)] [] h Q := by
  have s12 := co_s12 (ib_co E.1)
  have cbr := co_cbr (ib_co E.1)
  have mbr := eb_xr E
  have mor := eb_yr E
  refine av_wp_sqF ck_26 1 (pc' := 1) (lv' := [some (.inr (.inr (.inl (some (b))))), some (.inl k)]) (st' := [.inr (.inr (.inl (some (b))))]) (h' := h) rfl ?_
  refine wq_gr (p' := 4) (ck_26 _ _ rfl) rfl (congrArg Prod.fst (ib_k0 E.1)) rfl (ib_g E.1 6 rfl) ?_
  refine av_wp_sqF ck_26 1 (pc' := 5) (lv' := [some (.inr (.inr (.inl (some (b))))), some (.inl k)]) (st' := [.inl k, .inr (.inr (.inl (some (b + 1 + 6))))]) (h' := h) rfl ?_
  obtain ⟨v2, e3⟩ : ∃ v, a 6 (Int.toNat (k)) = v := ⟨_, rfl⟩
  have g4 := b6 (Int.toNat (k)) (by omega)
  rw [e3] at g4
  refine wq_al (p' := 6) (n := 12) (ck_26 _ _ rfl) rfl (ib_k E.1 6 rfl) (by omega) ((congrFun (eb_a E 6 rfl) _).trans e3) ?_
  refine av_wp_sqF ck_26 1 (pc' := 7) (lv' := [some (.inr (.inr (.inl (some (b))))), some (.inl k)]) (st' := [.inr (.inr (.inl (some (b)))), .inl v2]) (h' := h) rfl ?_
  refine wq_gi (p' := 10) (ck_26 _ _ rfl) rfl (congrArg Prod.fst (ib_k0 E.1)) rfl (eb_z E) ?_
  refine wq_mn (p' := 13) (ck_26 _ _ rfl) rfl rfl (fun _ _ => rfl) rfl (fun v5 e6 e7 => ?_)
  have e7 := e7 ⟨by omega, by omega⟩ ⟨by omega, by omega⟩
  refine av_wp_sqF ck_26 2 (pc' := 15) (lv' := [some (.inr (.inr (.inl (some (b))))), some (.inl k)]) (st' := [.inl (v5 - (1))]) (h' := h) rfl ?_
  refine av_wp_ret (v := some (.inl (v5 - (1)))) (ck_26 _ _ rfl) rfl rfl ?_
  exact hq _ (by unfold mtv mn2; split <;> omega)

set_option maxRecDepth 100000 in
set_option maxHeartbeats 4000000 in
theorem cx_23 {g h : av_H} {b t c s r : Nat} {cb : Int} {u ro : Nat → Int} {a : Nat → Nat → Int} {mb mo ma : Int} (E : EB b t c s r cb u ro a mb mo ma h) (F : FN b g h) (H : HBd s a) (b2 : ∀ q, q < s → 0 ≤ a 2 q ∧ a 2 q ≤ 1) (b5 : ∀ q, q < s → -1 ≤ a 5 q ∧ a 5 q ≤ 9999) (b6 : ∀ q, q < s → -1 ≤ a 6 q ∧ a 6 q ≤ 9999) (qm : -1 ≤ ma ∧ ma ≤ 9999) {a0 : Nat → Nat → Int} (D : DDA u ro a a0 s) (x : Int) (qx : -2147483648 ≤ x ∧ x ≤ 2147483647) (w : Int) (qw : 1 ≤ w ∧ w ≤ 2) (y : Int) (qy : -2147483648 ≤ y ∧ y ≤ 2147483647) {Q : Option av_V → av_H → Prop} (hq : ∀ v : Int, ((v = 1 ∧ MYE u ro a0 s ma x w y) ∨ (v = 0 ∧ ¬ MYE u ro a0 s ma x w y)) → Q (some (.inl v)) h) : av_wp none cd_23 0 [some (.inr (.inr (.inl (some (b))))), some (.inl x), some (.inl w), some (.inl y), none] [] h Q := by
  have s12 := co_s12 (ib_co E.1)
  have cbr := co_cbr (ib_co E.1)
  have mbr := eb_xr E
  have mor := eb_yr E
  refine av_wp_sqF ck_23 2 (pc' := 3) (lv' := [some (.inr (.inr (.inl (some (b))))), some (.inl x), some (.inl w), some (.inl y), some (.inl (0))]) (st' := []) (h' := h) rfl ?_
  have L3 : ∀ (m2 : Nat) (k1 : Int), (∀ q, q < Int.toNat k1 → ¬ MYX u ro a0 s ma x w q y) → k1 ≤ (s : Int) → (0 ≤ k1 ∧ k1 ≤ 12) → ((s : Int) - k1).toNat = m2 → av_wp none cd_23 3 [some (.inr (.inr (.inl (some (b))))), some (.inl x), some (.inl w), some (.inl y), some (.inl k1)] [] h Q := by
    intro m2
    induction m2 using Nat.strongRecOn with
    | _ m2 I4 =>
      intro k1 g6 g7 g8 e5
      refine av_wp_sqF ck_23 2 (pc' := 6) (lv' := [some (.inr (.inr (.inl (some (b))))), some (.inl x), some (.inl w), some (.inl y), some (.inl k1)]) (st' := [.inr (.inr (.inl (some (b)))), .inl k1]) (h' := h) rfl ?_
      refine wq_gr (p' := 9) (ck_23 _ _ rfl) rfl (congrArg Prod.fst (ib_k0 E.1)) rfl (ib_t E.1) ?_
      refine wq_gi (p' := 12) (ck_23 _ _ rfl) rfl (congrArg Prod.fst (co_kt (ib_co E.1))) rfl (co_s (ib_co E.1)) ?_
      refine wq_k2 (p' := 15) (ck_23 _ _ rfl) rfl ⟨by omega, by omega⟩ ⟨by omega, by omega⟩ (fun c9 => ?_) (fun c10 => ?_)
      · have c9 : (s : Int) ≤ k1 := c9
        refine av_wp_sqF ck_23 1 (pc' := 46) (lv' := [some (.inr (.inr (.inl (some (b))))), some (.inl x), some (.inl w), some (.inl y), some (.inl k1)]) (st' := [.inl (0)]) (h' := h) rfl ?_
        refine av_wp_ret (v := some (.inl (0))) (ck_23 _ _ rfl) rfl rfl ?_
        exact hq _ (Or.inr ⟨rfl, fun ⟨q, hq1, z⟩ => g6 q (by omega) z⟩)
      · have c10 : k1 < (s : Int) := c10
        refine av_wp_sqF ck_23 5 (pc' := 21) (lv' := [some (.inr (.inr (.inl (some (b))))), some (.inl x), some (.inl w), some (.inl y), some (.inl k1)]) (st' := [.inl w, .inl x, .inl k1, .inr (.inr (.inl (some (b)))), .inl y]) (h' := h) rfl ?_
        refine wq_cv (p' := 24) (av_qc (.invokevirtual 153) 25 3 0 0) 5 cd_25 [.inl w, .inl x, .inl k1] (b) 0 [some (.inr (.inr (.inl (some (b))))), some (.inl k1), some (.inl x), some (.inl w), none] (ck_23 _ _ rfl) rfl rfl pp_25 rfl rfl rfl (congrArg Prod.fst (ib_k0 E.1)) rfl rfl rfl rfl ?_
        refine cx_25 E F H b2 b5 b6 qm (k1) (by omega) (x) (by omega) (w) (by omega) (fun v11 p12 => ?_)
        have g13 := mfr_b (of := a 2 (Int.toNat k1)) (f := a 5 (Int.toNat k1)) (c := u (21 * Int.toNat k1 + Int.toNat w)) (fr := fre u ro (Int.toNat k1)) (cm := hw a (Int.toNat k1) 1) (hand := x) (w := w) (b5 (Int.toNat k1) (by omega)) (fre_r E (Int.toNat k1)) (hw_r H (k := Int.toNat k1) (by omega) 1)
        rw [← p12] at g13
        show av_wp _ cd_23 24 [some (.inr (.inr (.inl (some (b))))), some (.inl x), some (.inl w), some (.inl y), some (.inl k1)] [.inl v11, .inl y] h _
        refine wq_k2 (p' := 27) (ck_23 _ _ rfl) rfl ⟨by omega, by omega⟩ ⟨by omega, by omega⟩ (fun c14 => ?_) (fun c15 => ?_)
        · have c14 : y < v11 := c14
          refine av_wp_sqF ck_23 2 (pc' := 3) (lv' := [some (.inr (.inr (.inl (some (b))))), some (.inl x), some (.inl w), some (.inl y), some (.inl (k1 + (1)))]) (st' := []) (h' := h) rfl ?_
          exact I4 _ (by omega) ((k1 + (1))) (fun q hq z => by by_cases e : q = Int.toNat k1; (· subst e; have z2 := (DDA_m D (by omega)).mpr z; rw [← p12] at z2; omega); exact g6 q (by omega) z) (by omega) (by omega) rfl
        · have c15 : v11 ≤ y := c15
          refine av_wp_sqF ck_23 3 (pc' := 31) (lv' := [some (.inr (.inr (.inl (some (b))))), some (.inl x), some (.inl w), some (.inl y), some (.inl k1)]) (st' := [.inl k1, .inr (.inr (.inl (some (b)))), .inl y]) (h' := h) rfl ?_
          refine wq_cv (p' := 34) (av_qc (.invokevirtual 157) 26 1 0 0) 2 cd_26 [.inl k1] (b) 0 [some (.inr (.inr (.inl (some (b))))), some (.inl k1)] (ck_23 _ _ rfl) rfl rfl pp_26 rfl rfl rfl (congrArg Prod.fst (ib_k0 E.1)) rfl rfl rfl rfl ?_
          refine cx_26 E F H b2 b5 b6 qm (k1) (by omega) (fun v16 p17 => ?_)
          have g18 := mtv_b (e := a 6 (Int.toNat k1)) (b6 (Int.toNat k1) (by omega)) qm
          rw [← p17] at g18
          show av_wp _ cd_23 34 [some (.inr (.inr (.inl (some (b))))), some (.inl x), some (.inl w), some (.inl y), some (.inl k1)] [.inl v16, .inl y] h _
          refine wq_k2 (p' := 37) (ck_23 _ _ rfl) rfl ⟨by omega, by omega⟩ ⟨by omega, by omega⟩ (fun c19 => ?_) (fun c20 => ?_)
          · have c19 : v16 < y := c19
            refine av_wp_sqF ck_23 2 (pc' := 3) (lv' := [some (.inr (.inr (.inl (some (b))))), some (.inl x), some (.inl w), some (.inl y), some (.inl (k1 + (1)))]) (st' := []) (h' := h) rfl ?_
            exact I4 _ (by omega) ((k1 + (1))) (fun q hq z => by by_cases e : q = Int.toNat k1; (· subst e; have z2 := (DDA_m D (by omega)).mpr z; rw [← p12, ← p17] at z2; omega); exact g6 q (by omega) z) (by omega) (by omega) rfl
          · have c20 : y ≤ v16 := c20
            refine av_wp_sqF ck_23 1 (pc' := 38) (lv' := [some (.inr (.inr (.inl (some (b))))), some (.inl x), some (.inl w), some (.inl y), some (.inl k1)]) (st' := [.inl (1)]) (h' := h) rfl ?_
            refine av_wp_ret (v := some (.inl (1))) (ck_23 _ _ rfl) rfl rfl ?_
            exact hq _ (Or.inl ⟨rfl, Int.toNat k1, by omega, (DDA_m D (by omega)).mp ⟨by rw [← p12]; omega, by rw [← p17]; omega⟩⟩)
  exact L3 _ ((0)) (fun q hq => absurd hq (by omega)) (by omega) (by omega) rfl

set_option maxRecDepth 100000 in
set_option maxHeartbeats 4000000 in
theorem cx_24 {g h : av_H} {b t c s r : Nat} {cb : Int} {u ro : Nat → Int} {a : Nat → Nat → Int} {mb mo ma : Int} (E : EB b t c s r cb u ro a mb mo ma h) (F : FN b g h) (H : HBd s a) (b2 : ∀ q, q < s → 0 ≤ a 2 q ∧ a 2 q ≤ 1) (b5 : ∀ q, q < s → -1 ≤ a 5 q ∧ a 5 q ≤ 9999) (b6 : ∀ q, q < s → -1 ≤ a 6 q ∧ a 6 q ≤ 9999) (qm : -1 ≤ ma ∧ ma ≤ 9999) {a0 : Nat → Nat → Int} (D : DDA u ro a a0 s) (x : Int) (qx : -2147483648 ≤ x ∧ x ≤ 2147483647) (w : Int) (qw : 1 ≤ w ∧ w ≤ 2) {Q : Option av_V → av_H → Prop} (hq : ∀ v : Int, UNV u ro a0 s ma x w v → Q (some (.inl v)) h) : av_wp none cd_24 0 [some (.inr (.inr (.inl (some (b))))), some (.inl x), some (.inl w), none, none] [] h Q := by
  have s12 := co_s12 (ib_co E.1)
  have cbr := co_cbr (ib_co E.1)
  have mbr := eb_xr E
  have mor := eb_yr E
  refine av_wp_sqF ck_24 4 (pc' := 5) (lv' := [some (.inr (.inr (.inl (some (b))))), some (.inl x), some (.inl w), some (.inl (-1)), some (.inl (0))]) (st' := []) (h' := h) rfl ?_
  have L4 : ∀ (m3 : Nat) (k1 : Int) (k2 : Int), utv u ro a ma x w (Int.toNat k2) = k1 → k2 ≤ (s : Int) → (-2 ≤ k1 ∧ k1 ≤ 9998) → (0 ≤ k2 ∧ k2 ≤ 12) → ((s : Int) - k2).toNat = m3 → av_wp none cd_24 5 [some (.inr (.inr (.inl (some (b))))), some (.inl x), some (.inl w), some (.inl k1), some (.inl k2)] [] h Q := by
    intro m3
    induction m3 using Nat.strongRecOn with
    | _ m3 I5 =>
      intro k1 k2 g7 g8 g9 g10 e6
      refine av_wp_sqF ck_24 2 (pc' := 8) (lv' := [some (.inr (.inr (.inl (some (b))))), some (.inl x), some (.inl w), some (.inl k1), some (.inl k2)]) (st' := [.inr (.inr (.inl (some (b)))), .inl k2]) (h' := h) rfl ?_
      refine wq_gr (p' := 11) (ck_24 _ _ rfl) rfl (congrArg Prod.fst (ib_k0 E.1)) rfl (ib_t E.1) ?_
      refine wq_gi (p' := 14) (ck_24 _ _ rfl) rfl (congrArg Prod.fst (co_kt (ib_co E.1))) rfl (co_s (ib_co E.1)) ?_
      refine wq_k2 (p' := 17) (ck_24 _ _ rfl) rfl ⟨by omega, by omega⟩ ⟨by omega, by omega⟩ (fun c11 => ?_) (fun c12 => ?_)
      · have c11 : (s : Int) ≤ k2 := c11
        refine av_wp_sqF ck_24 1 (pc' := 52) (lv' := [some (.inr (.inr (.inl (some (b))))), some (.inl x), some (.inl w), some (.inl k1), some (.inl k2)]) (st' := [.inl k1]) (h' := h) rfl ?_
        refine av_wp_ret (v := some (.inl k1)) (ck_24 _ _ rfl) rfl rfl ?_
        exact hq _ (by rw [← g7, show Int.toNat k2 = s by omega]; exact utv_u D qm.2 (fun k hk => (b5 k hk).1))
      · have c12 : k2 < (s : Int) := c12
        refine av_wp_sqF ck_24 4 (pc' := 22) (lv' := [some (.inr (.inr (.inl (some (b))))), some (.inl x), some (.inl w), some (.inl k1), some (.inl k2)]) (st' := [.inl w, .inl x, .inl k2, .inr (.inr (.inl (some (b))))]) (h' := h) rfl ?_
        refine wq_cv (p' := 25) (av_qc (.invokevirtual 153) 25 3 0 0) 5 cd_25 [.inl w, .inl x, .inl k2] (b) 0 [some (.inr (.inr (.inl (some (b))))), some (.inl k2), some (.inl x), some (.inl w), none] (ck_24 _ _ rfl) rfl rfl pp_25 rfl rfl rfl (congrArg Prod.fst (ib_k0 E.1)) rfl rfl rfl rfl ?_
        refine cx_25 E F H b2 b5 b6 qm (k2) (by omega) (x) (by omega) (w) (by omega) (fun v13 p14 => ?_)
        have g15 := mfr_b (of := a 2 (Int.toNat k2)) (f := a 5 (Int.toNat k2)) (c := u (21 * Int.toNat k2 + Int.toNat w)) (fr := fre u ro (Int.toNat k2)) (cm := hw a (Int.toNat k2) 1) (hand := x) (w := w) (b5 (Int.toNat k2) (by omega)) (fre_r E (Int.toNat k2)) (hw_r H (k := Int.toNat k2) (by omega) 1)
        rw [← p14] at g15
        show av_wp _ cd_24 25 [some (.inr (.inr (.inl (some (b))))), some (.inl x), some (.inl w), some (.inl k1), some (.inl k2)] [.inl v13] h _
        refine av_wp_sqF ck_24 2 (pc' := 28) (lv' := [some (.inr (.inr (.inl (some (b))))), some (.inl x), some (.inl w), some (.inl k1), some (.inl k2)]) (st' := [.inl k2, .inr (.inr (.inl (some (b)))), .inl v13]) (h' := h) rfl ?_
        refine wq_cv (p' := 31) (av_qc (.invokevirtual 157) 26 1 0 0) 2 cd_26 [.inl k2] (b) 0 [some (.inr (.inr (.inl (some (b))))), some (.inl k2)] (ck_24 _ _ rfl) rfl rfl pp_26 rfl rfl rfl (congrArg Prod.fst (ib_k0 E.1)) rfl rfl rfl rfl ?_
        refine cx_26 E F H b2 b5 b6 qm (k2) (by omega) (fun v16 p17 => ?_)
        have g18 := mtv_b (e := a 6 (Int.toNat k2)) (b6 (Int.toNat k2) (by omega)) qm
        rw [← p17] at g18
        show av_wp _ cd_24 31 [some (.inr (.inr (.inl (some (b))))), some (.inl x), some (.inl w), some (.inl k1), some (.inl k2)] [.inl v16, .inl v13] h _
        refine wq_k2 (p' := 34) (ck_24 _ _ rfl) rfl ⟨by omega, by omega⟩ ⟨by omega, by omega⟩ (fun c19 => ?_) (fun c20 => ?_)
        · have c19 : v16 < v13 := c19
          refine av_wp_sqF ck_24 2 (pc' := 5) (lv' := [some (.inr (.inr (.inl (some (b))))), some (.inl x), some (.inl w), some (.inl k1), some (.inl (k2 + (1)))]) (st' := []) (h' := h) rfl ?_
          exact I5 _ (by omega) (k1) ((k2 + (1))) (by rw [show Int.toNat (k2 + (1)) = Int.toNat k2 + 1 by omega, utv_n p14 p17 (by omega)]; exact g7) (by omega) (by omega) (by omega) rfl
        · have c20 : v13 ≤ v16 := c20
          refine av_wp_sqF ck_24 3 (pc' := 38) (lv' := [some (.inr (.inr (.inl (some (b))))), some (.inl x), some (.inl w), some (.inl k1), some (.inl k2)]) (st' := [.inl k2, .inr (.inr (.inl (some (b)))), .inl k1]) (h' := h) rfl ?_
          refine wq_cv (p' := 41) (av_qc (.invokevirtual 157) 26 1 0 0) 2 cd_26 [.inl k2] (b) 0 [some (.inr (.inr (.inl (some (b))))), some (.inl k2)] (ck_24 _ _ rfl) rfl rfl pp_26 rfl rfl rfl (congrArg Prod.fst (ib_k0 E.1)) rfl rfl rfl rfl ?_
          refine cx_26 E F H b2 b5 b6 qm (k2) (by omega) (fun v21 p22 => ?_)
          have g23 := mtv_b (e := a 6 (Int.toNat k2)) (b6 (Int.toNat k2) (by omega)) qm
          rw [← p22] at g23
          show av_wp _ cd_24 41 [some (.inr (.inr (.inl (some (b))))), some (.inl x), some (.inl w), some (.inl k1), some (.inl k2)] [.inl v21, .inl k1] h _
          refine wq_mx (p' := 44) (ck_24 _ _ rfl) rfl rfl (fun _ _ => rfl) rfl (fun v24 e25 e26 => ?_)
          have e26 := e26 ⟨by omega, by omega⟩ ⟨by omega, by omega⟩
          refine av_wp_sqF ck_24 3 (pc' := 5) (lv' := [some (.inr (.inr (.inl (some (b))))), some (.inl x), some (.inl w), some (.inl v24), some (.inl (k2 + (1)))]) (st' := []) (h' := h) rfl ?_
          exact I5 _ (by omega) (v24) ((k2 + (1))) (by rw [show Int.toNat (k2 + (1)) = Int.toNat k2 + 1 by omega, utv_y p14 p22 (by omega), g7]; unfold mx2; split <;> omega) (by omega) (by omega) (by omega) rfl
  exact L4 _ ((-1)) ((0)) rfl (by omega) (by omega) (by omega) rfl

set_option maxRecDepth 100000 in
set_option maxHeartbeats 4000000 in
theorem cx_117 {h : av_H} {U : Nat → Nat → Int} {S : Nat → Nat} {n : Int} {sr nd : Nat → Int} (C : CJ U S n sr nd h) (k : Int) (qk : -2147483648 ≤ k ∧ k ≤ 2147483647) (l : Int) (ql : -2147483648 ≤ l ∧ l ≤ 2147483647) (x : Int) (qx : -2147483648 ≤ x ∧ x ≤ 2147483647) (q : Int) (qq : -2147483648 ≤ q ∧ q ≤ 2147483647) (w : Int) (qw : -2147483648 ≤ w ∧ w ≤ 2147483647) (CR : CRT U S n (hF h 3 4) (fun k => hA h (6 + k))) (SU : SUA U S n (hF h 3 4) (fun k => hA h (6 + k)) sr) {Q : Option av_V → av_H → Prop} (hq : ∀ (v : Int) h' sr' nd', CJ U S n sr' nd' h' → FP 35 h h' → SUA U S n (hF h 3 4) (fun k => hA h (6 + k)) sr' → RSR (okx U S n (hF h 3 4) k l x ∧ (0 ≤ q ∧ q ≤ 2) ∧ 0 ≤ w ∧ w ≤ 9998) (-2) (CNV (U (Int.toNat k)) (hA h (6 + Int.toNat l)) (arr (U (Int.toNat k)) (hA h (6 + Int.toNat l)) (bxx U S (hA h (6 + Int.toNat l)) (Int.toNat k)) x) (S (Int.toNat k)) (bgx U S (fun k => hA h (6 + k)) k l x).2.2 q w) v → Q (some (.inl v)) h') : av_wp none cd_117 0 [some (.inr (.inr (.inl (some (0))))), some (.inl k), some (.inl l), some (.inl x), some (.inl q), some (.inl w), none] [] h Q := by
  have F := FP_rf 35 h
  have nr := C.2.1.2.1
  refine av_wp_sqF ck_117 1 (pc' := 2) (lv' := [some (.inr (.inr (.inl (some (0))))), some (.inl k), some (.inl l), some (.inl x), some (.inl q), some (.inl w), none]) (st' := [.inl q]) (h' := h) rfl ?_
  refine wq_cs (p' := 5) (av_qc (.invokestatic 243) 119 1 2 7) 1 cd_119 [.inl q] [.inl q] [some (.inl q)] (ck_117 _ _ rfl) rfl rfl pp_119 (fun _ => rfl) rfl rfl ?_
  refine ct_119 (q) (by omega) (fun v1 p2 => ?_)
  show av_wp _ cd_117 5 [some (.inr (.inr (.inl (some (0))))), some (.inl k), some (.inl l), some (.inl x), some (.inl q), some (.inl w), none] [.inl v1] h _
  refine wq_k1 (p' := 8) (ck_117 _ _ rfl) rfl ⟨by omega, by omega⟩ (fun c3 => ?_) (fun c4 => ?_)
  · have c3 : v1 = (0) := c3
    refine av_wp_sqF ck_117 1 (pc' := 36) (lv' := [some (.inr (.inr (.inl (some (0))))), some (.inl k), some (.inl l), some (.inl x), some (.inl q), some (.inl w), none]) (st' := [.inl (-2)]) (h' := h) rfl ?_
    refine av_wp_ret (v := some (.inl (-2))) (ck_117 _ _ rfl) rfl rfl ?_
    exact hq _ h _ _ C F SU (Or.inr ⟨by unfold okx; omega, rfl⟩)
  · have c4 : v1 ≠ (0) := c4
    refine av_wp_sqF ck_117 1 (pc' := 10) (lv' := [some (.inr (.inr (.inl (some (0))))), some (.inl k), some (.inl l), some (.inl x), some (.inl q), some (.inl w), none]) (st' := [.inl w]) (h' := h) rfl ?_
    refine wq_k1 (p' := 13) (ck_117 _ _ rfl) rfl ⟨by omega, by omega⟩ (fun c5 => ?_) (fun c6 => ?_)
    · have c5 : w < (0) := c5
      refine av_wp_sqF ck_117 1 (pc' := 36) (lv' := [some (.inr (.inr (.inl (some (0))))), some (.inl k), some (.inl l), some (.inl x), some (.inl q), some (.inl w), none]) (st' := [.inl (-2)]) (h' := h) rfl ?_
      refine av_wp_ret (v := some (.inl (-2))) (ck_117 _ _ rfl) rfl rfl ?_
      exact hq _ h _ _ C F SU (Or.inr ⟨by unfold okx; omega, rfl⟩)
    · have c6 : (0) ≤ w := c6
      refine av_wp_sqF ck_117 2 (pc' := 18) (lv' := [some (.inr (.inr (.inl (some (0))))), some (.inl k), some (.inl l), some (.inl x), some (.inl q), some (.inl w), none]) (st' := [.inl (9999), .inl w]) (h' := h) rfl ?_
      refine wq_k2 (p' := 21) (ck_117 _ _ rfl) rfl ⟨by omega, by omega⟩ ⟨by omega, by omega⟩ (fun c7 => ?_) (fun c8 => ?_)
      · have c7 : (9999) ≤ w := c7
        refine av_wp_sqF ck_117 1 (pc' := 36) (lv' := [some (.inr (.inr (.inl (some (0))))), some (.inl k), some (.inl l), some (.inl x), some (.inl q), some (.inl w), none]) (st' := [.inl (-2)]) (h' := h) rfl ?_
        refine av_wp_ret (v := some (.inl (-2))) (ck_117 _ _ rfl) rfl rfl ?_
        exact hq _ h _ _ C F SU (Or.inr ⟨by unfold okx; omega, rfl⟩)
      · have c8 : w < (9999) := c8
        refine av_wp_sqF ck_117 1 (pc' := 22) (lv' := [some (.inr (.inr (.inl (some (0))))), some (.inl k), some (.inl l), some (.inl x), some (.inl q), some (.inl w), none]) (st' := [.inr (.inr (.inl (some (0))))]) (h' := h) rfl ?_
        refine wq_gr (p' := 25) (ck_117 _ _ rfl) rfl (congrArg Prod.fst (ly_k C.1.1 0 rfl)) rfl (ly_g C.1.1 0 5 26 rfl) ?_
        refine av_wp_sqF ck_117 3 (pc' := 28) (lv' := [some (.inr (.inr (.inl (some (0))))), some (.inl k), some (.inl l), some (.inl x), some (.inl q), some (.inl w), none]) (st' := [.inl x, .inl l, .inl k, .inr (.inr (.inl (some (26))))]) (h' := h) rfl ?_
        refine wq_cv (p' := 31) (av_qc (.invokevirtual 160) 48 3 0 3) 5 cd_48 [.inl x, .inl l, .inl k] (26) 3 [some (.inr (.inr (.inl (some (26))))), some (.inl k), some (.inl l), some (.inl x), none] (ck_117 _ _ rfl) rfl rfl pp_48 rfl rfl rfl (congrArg Prod.fst (ly_k C.1.1 26 rfl)) rfl rfl rfl rfl ?_
        refine cz_48 C (k) (by omega) (l) (by omega) (x) (by omega) CR SU (fun z9 => ?_) (fun z9 z10 z11 h12 r13 n14 t15 c16 a17 m18 m19 m20 C21 F22 U23 E24 Z25 T26 D27 B28 R29 => ?_)
        · show av_wp _ cd_117 31 [some (.inr (.inr (.inl (some (0))))), some (.inl k), some (.inl l), some (.inl x), some (.inl q), some (.inl w), none] [.inl (0)] h _
          refine av_wp_sqF ck_117 2 (pc' := 36) (lv' := [some (.inr (.inr (.inl (some (0))))), some (.inl k), some (.inl l), some (.inl x), some (.inl q), some (.inl w), none]) (st' := [.inl (-2)]) (h' := h) rfl ?_
          refine av_wp_ret (v := some (.inl (-2))) (ck_117 _ _ rfl) rfl rfl ?_
          exact hq _ h _ _ C F SU (Or.inr ⟨by unfold okx; omega, rfl⟩)
        · have g30 : (-1 ≤ m18 ∧ m18 ≤ 11) ∧ (-1 ≤ m19 ∧ m19 ≤ 11) ∧ (-1 ≤ m20 ∧ m20 ≤ 9999) := R29
          have g31 := co_s12 (ib_co E24.1)
          show av_wp _ cd_117 31 [some (.inr (.inr (.inl (some (0))))), some (.inl k), some (.inl l), some (.inl x), some (.inl q), some (.inl w), none] [.inl (1)] h12 _
          refine av_wp_sqF ck_117 2 (pc' := 38) (lv' := [some (.inr (.inr (.inl (some (0))))), some (.inl k), some (.inl l), some (.inl x), some (.inl q), some (.inl w), none]) (st' := [.inr (.inr (.inl (some (0))))]) (h' := h12) rfl ?_
          refine wq_gr (p' := 41) (ck_117 _ _ rfl) rfl (congrArg Prod.fst (ly_k C21.1.1 0 rfl)) rfl (ly_g C21.1.1 0 5 26 rfl) ?_
          refine wq_gr (p' := 44) (ck_117 _ _ rfl) rfl (congrArg Prod.fst (ly_k C21.1.1 26 rfl)) rfl (ly_g C21.1.1 26 1 35 rfl) ?_
          refine av_wp_sqF ck_117 3 (pc' := 49) (lv' := [some (.inr (.inr (.inl (some (0))))), some (.inl k), some (.inl l), some (.inl x), some (.inl q), some (.inl w), none]) (st' := [.inl w, .inl (1), .inl q, .inr (.inr (.inl (some (35))))]) (h' := h12) rfl ?_
          refine wq_cv (p' := 52) (av_qc (.invokevirtual 246) 23 3 0 0) 5 cd_23 [.inl w, .inl (1), .inl q] (35) 0 [some (.inr (.inr (.inl (some (35))))), some (.inl q), some (.inl (1)), some (.inl w), none] (ck_117 _ _ rfl) rfl rfl pp_23 rfl rfl rfl (congrArg Prod.fst (bn_k0 C21.1.1 (Or.inl rfl))) rfl rfl rfl rfl ?_
          have g34h := HBd_g (CR.1 (Int.toNat k) (by omega)).2.2.2.2.2 D27.1 (by have := cbv_d (U (Int.toNat k)) (S (Int.toNat k)); omega)
          have g34d := DDA_of (u := U (Int.toNat k)) (ro := (hA h (6 + Int.toNat l))) (bar := bxx U S (hA h (6 + Int.toNat l)) (Int.toNat k)) (x := x) (by omega) T26 D27
          have g34H : HBd (S (Int.toNat k)) (arr (U (Int.toNat k)) (hA h (6 + Int.toNat l)) (bxx U S (hA h (6 + Int.toNat l)) (Int.toNat k)) x) := HBd_g (CR.1 (Int.toNat k) (by omega)).2.2.2.2.2 (fun q hq i hi => arr_0 (by omega)) (by have := cbv_d (U (Int.toNat k)) (S (Int.toNat k)); omega)
          have g345 : ∀ q, q < S (Int.toNat k) → -1 ≤ a17 5 q ∧ a17 5 q ≤ 9999 := fun q hq => by rw [(g34d q hq).2.1]; have := o5_r (ro := (hA h (6 + Int.toNat l))) g34H hq; omega
          have g346 : ∀ q, q < S (Int.toNat k) → -1 ≤ a17 6 q ∧ a17 6 q ≤ 9999 := fun q hq => by rw [(g34d q hq).2.2.1]; have := (eav_r g34H (CR.1 (Int.toNat k) (by omega)).2.2.2.2.1 (fun j => (eb_uv E24 j).1) (eb_rv E24) (by omega) hq (S (Int.toNat k)) (Nat.le_refl _)).1; omega
          refine cx_23 E24 (FN_rf 35 h12) g34h (fun q hq => by rw [(T26 q hq).1]; exact of_b _ _ _) g345 g346 (by omega) g34d (q) (by omega) ((1)) (by omega) (w) (by omega) (fun v32 p33 => ?_)
          have g35 : v32 = 0 ∨ v32 = 1 := p33.elim (fun z => Or.inr z.1) (fun z => Or.inl z.1)
          show av_wp _ cd_117 52 [some (.inr (.inr (.inl (some (0))))), some (.inl k), some (.inl l), some (.inl x), some (.inl q), some (.inl w), none] [.inl v32] h12 _
          refine wq_k1 (p' := 55) (ck_117 _ _ rfl) rfl ⟨by omega, by omega⟩ (fun c36 => ?_) (fun c37 => ?_)
          · have c36 : v32 = (0) := c36
            refine av_wp_sqF ck_117 3 (pc' := 63) (lv' := [some (.inr (.inr (.inl (some (0))))), some (.inl k), some (.inl l), some (.inl x), some (.inl q), some (.inl w), some (.inl (0))]) (st' := [.inr (.inr (.inl (some (0))))]) (h' := h12) rfl ?_
            refine wq_gr (p' := 66) (ck_117 _ _ rfl) rfl (congrArg Prod.fst (ly_k C21.1.1 0 rfl)) rfl (ly_g C21.1.1 0 5 26 rfl) ?_
            refine wq_gr (p' := 69) (ck_117 _ _ rfl) rfl (congrArg Prod.fst (ly_k C21.1.1 26 rfl)) rfl (ly_g C21.1.1 26 1 35 rfl) ?_
            refine av_wp_sqF ck_117 3 (pc' := 74) (lv' := [some (.inr (.inr (.inl (some (0))))), some (.inl k), some (.inl l), some (.inl x), some (.inl q), some (.inl w), some (.inl (0))]) (st' := [.inl w, .inl (2), .inl q, .inr (.inr (.inl (some (35))))]) (h' := h12) rfl ?_
            refine wq_cv (p' := 77) (av_qc (.invokevirtual 246) 23 3 0 0) 5 cd_23 [.inl w, .inl (2), .inl q] (35) 0 [some (.inr (.inr (.inl (some (35))))), some (.inl q), some (.inl (2)), some (.inl w), none] (ck_117 _ _ rfl) rfl rfl pp_23 rfl rfl rfl (congrArg Prod.fst (bn_k0 C21.1.1 (Or.inl rfl))) rfl rfl rfl rfl ?_
            refine cx_23 E24 (FN_rf 35 h12) g34h (fun q hq => by rw [(T26 q hq).1]; exact of_b _ _ _) g345 g346 (by omega) g34d (q) (by omega) ((2)) (by omega) (w) (by omega) (fun v38 p39 => ?_)
            have g40 : v38 = 0 ∨ v38 = 1 := p39.elim (fun z => Or.inr z.1) (fun z => Or.inl z.1)
            show av_wp _ cd_117 77 [some (.inr (.inr (.inl (some (0))))), some (.inl k), some (.inl l), some (.inl x), some (.inl q), some (.inl w), some (.inl (0))] [.inl v38] h12 _
            refine wq_k1 (p' := 80) (ck_117 _ _ rfl) rfl ⟨by omega, by omega⟩ (fun c41 => ?_) (fun c42 => ?_)
            · have c41 : v38 = (0) := c41
              refine av_wp_sqF ck_117 1 (pc' := 89) (lv' := [some (.inr (.inr (.inl (some (0))))), some (.inl k), some (.inl l), some (.inl x), some (.inl q), some (.inl w), some (.inl (0))]) (st' := [.inl (0)]) (h' := h12) rfl ?_
              refine av_wp_ret (v := some (.inl (0))) (ck_117 _ _ rfl) rfl rfl ?_
              exact hq _ h12 _ _ C21 F22 U23 (Or.inl ⟨by unfold okx; omega, by rw [show bgx U S (fun k => hA h (6 + k)) k l x = _ from B28]; exact CNV_of p33 p39 (by omega)⟩)
            · have c42 : v38 ≠ (0) := c42
              refine av_wp_sqF ck_117 4 (pc' := 89) (lv' := [some (.inr (.inr (.inl (some (0))))), some (.inl k), some (.inl l), some (.inl x), some (.inl q), some (.inl w), some (.inl (0))]) (st' := [.inl (2)]) (h' := h12) rfl ?_
              refine av_wp_ret (v := some (.inl (2))) (ck_117 _ _ rfl) rfl rfl ?_
              exact hq _ h12 _ _ C21 F22 U23 (Or.inl ⟨by unfold okx; omega, by rw [show bgx U S (fun k => hA h (6 + k)) k l x = _ from B28]; exact CNV_of p33 p39 (by omega)⟩)
          · have c37 : v32 ≠ (0) := c37
            refine av_wp_sqF ck_117 4 (pc' := 63) (lv' := [some (.inr (.inr (.inl (some (0))))), some (.inl k), some (.inl l), some (.inl x), some (.inl q), some (.inl w), some (.inl (1))]) (st' := [.inr (.inr (.inl (some (0))))]) (h' := h12) rfl ?_
            refine wq_gr (p' := 66) (ck_117 _ _ rfl) rfl (congrArg Prod.fst (ly_k C21.1.1 0 rfl)) rfl (ly_g C21.1.1 0 5 26 rfl) ?_
            refine wq_gr (p' := 69) (ck_117 _ _ rfl) rfl (congrArg Prod.fst (ly_k C21.1.1 26 rfl)) rfl (ly_g C21.1.1 26 1 35 rfl) ?_
            refine av_wp_sqF ck_117 3 (pc' := 74) (lv' := [some (.inr (.inr (.inl (some (0))))), some (.inl k), some (.inl l), some (.inl x), some (.inl q), some (.inl w), some (.inl (1))]) (st' := [.inl w, .inl (2), .inl q, .inr (.inr (.inl (some (35))))]) (h' := h12) rfl ?_
            refine wq_cv (p' := 77) (av_qc (.invokevirtual 246) 23 3 0 0) 5 cd_23 [.inl w, .inl (2), .inl q] (35) 0 [some (.inr (.inr (.inl (some (35))))), some (.inl q), some (.inl (2)), some (.inl w), none] (ck_117 _ _ rfl) rfl rfl pp_23 rfl rfl rfl (congrArg Prod.fst (bn_k0 C21.1.1 (Or.inl rfl))) rfl rfl rfl rfl ?_
            refine cx_23 E24 (FN_rf 35 h12) g34h (fun q hq => by rw [(T26 q hq).1]; exact of_b _ _ _) g345 g346 (by omega) g34d (q) (by omega) ((2)) (by omega) (w) (by omega) (fun v43 p44 => ?_)
            have g45 : v43 = 0 ∨ v43 = 1 := p44.elim (fun z => Or.inr z.1) (fun z => Or.inl z.1)
            show av_wp _ cd_117 77 [some (.inr (.inr (.inl (some (0))))), some (.inl k), some (.inl l), some (.inl x), some (.inl q), some (.inl w), some (.inl (1))] [.inl v43] h12 _
            refine wq_k1 (p' := 80) (ck_117 _ _ rfl) rfl ⟨by omega, by omega⟩ (fun c46 => ?_) (fun c47 => ?_)
            · have c46 : v43 = (0) := c46
              refine av_wp_sqF ck_117 1 (pc' := 89) (lv' := [some (.inr (.inr (.inl (some (0))))), some (.inl k), some (.inl l), some (.inl x), some (.inl q), some (.inl w), some (.inl (1))]) (st' := [.inl (1)]) (h' := h12) rfl ?_
              refine av_wp_ret (v := some (.inl (1))) (ck_117 _ _ rfl) rfl rfl ?_
              exact hq _ h12 _ _ C21 F22 U23 (Or.inl ⟨by unfold okx; omega, by rw [show bgx U S (fun k => hA h (6 + k)) k l x = _ from B28]; exact CNV_of p33 p44 (by omega)⟩)
            · have c47 : v43 ≠ (0) := c47
              refine av_wp_sqF ck_117 4 (pc' := 89) (lv' := [some (.inr (.inr (.inl (some (0))))), some (.inl k), some (.inl l), some (.inl x), some (.inl q), some (.inl w), some (.inl (1))]) (st' := [.inl (3)]) (h' := h12) rfl ?_
              refine av_wp_ret (v := some (.inl (3))) (ck_117 _ _ rfl) rfl rfl ?_
              exact hq _ h12 _ _ C21 F22 U23 (Or.inl ⟨by unfold okx; omega, by rw [show bgx U S (fun k => hA h (6 + k)) k l x = _ from B28]; exact CNV_of p33 p44 (by omega)⟩)

set_option maxRecDepth 100000 in
set_option maxHeartbeats 4000000 in
theorem cx_118 {h : av_H} {U : Nat → Nat → Int} {S : Nat → Nat} {n : Int} {sr nd : Nat → Int} (C : CJ U S n sr nd h) (k : Int) (qk : -2147483648 ≤ k ∧ k ≤ 2147483647) (l : Int) (ql : -2147483648 ≤ l ∧ l ≤ 2147483647) (x : Int) (qx : -2147483648 ≤ x ∧ x ≤ 2147483647) (q : Int) (qq : -2147483648 ≤ q ∧ q ≤ 2147483647) (w : Int) (qw : -2147483648 ≤ w ∧ w ≤ 2147483647) (CR : CRT U S n (hF h 3 4) (fun k => hA h (6 + k))) (SU : SUA U S n (hF h 3 4) (fun k => hA h (6 + k)) sr) {Q : Option av_V → av_H → Prop} (hq : ∀ (v : Int) h' sr' nd', CJ U S n sr' nd' h' → FP 35 h h' → SUA U S n (hF h 3 4) (fun k => hA h (6 + k)) sr' → RSR (okx U S n (hF h 3 4) k l x ∧ (0 ≤ q ∧ q ≤ 2) ∧ 1 ≤ w ∧ w ≤ 2) (-2) (UNV (U (Int.toNat k)) (hA h (6 + Int.toNat l)) (arr (U (Int.toNat k)) (hA h (6 + Int.toNat l)) (bxx U S (hA h (6 + Int.toNat l)) (Int.toNat k)) x) (S (Int.toNat k)) (bgx U S (fun k => hA h (6 + k)) k l x).2.2 q w) v → Q (some (.inl v)) h') : av_wp none cd_118 0 [some (.inr (.inr (.inl (some (0))))), some (.inl k), some (.inl l), some (.inl x), some (.inl q), some (.inl w)] [] h Q := by
  have F := FP_rf 35 h
  have nr := C.2.1.2.1
  refine av_wp_sqF ck_118 1 (pc' := 2) (lv' := [some (.inr (.inr (.inl (some (0))))), some (.inl k), some (.inl l), some (.inl x), some (.inl q), some (.inl w)]) (st' := [.inl q]) (h' := h) rfl ?_
  refine wq_cs (p' := 5) (av_qc (.invokestatic 243) 119 1 2 7) 1 cd_119 [.inl q] [.inl q] [some (.inl q)] (ck_118 _ _ rfl) rfl rfl pp_119 (fun _ => rfl) rfl rfl ?_
  refine ct_119 (q) (by omega) (fun v1 p2 => ?_)
  show av_wp _ cd_118 5 [some (.inr (.inr (.inl (some (0))))), some (.inl k), some (.inl l), some (.inl x), some (.inl q), some (.inl w)] [.inl v1] h _
  refine wq_k1 (p' := 8) (ck_118 _ _ rfl) rfl ⟨by omega, by omega⟩ (fun c3 => ?_) (fun c4 => ?_)
  · have c3 : v1 = (0) := c3
    refine av_wp_sqF ck_118 1 (pc' := 35) (lv' := [some (.inr (.inr (.inl (some (0))))), some (.inl k), some (.inl l), some (.inl x), some (.inl q), some (.inl w)]) (st' := [.inl (-2)]) (h' := h) rfl ?_
    refine av_wp_ret (v := some (.inl (-2))) (ck_118 _ _ rfl) rfl rfl ?_
    exact hq _ h _ _ C F SU (Or.inr ⟨by unfold okx; omega, rfl⟩)
  · have c4 : v1 ≠ (0) := c4
    refine av_wp_sqF ck_118 2 (pc' := 11) (lv' := [some (.inr (.inr (.inl (some (0))))), some (.inl k), some (.inl l), some (.inl x), some (.inl q), some (.inl w)]) (st' := [.inl (1), .inl w]) (h' := h) rfl ?_
    refine wq_k2 (p' := 14) (ck_118 _ _ rfl) rfl ⟨by omega, by omega⟩ ⟨by omega, by omega⟩ (fun c5 => ?_) (fun c6 => ?_)
    · have c5 : w < (1) := c5
      refine av_wp_sqF ck_118 1 (pc' := 35) (lv' := [some (.inr (.inr (.inl (some (0))))), some (.inl k), some (.inl l), some (.inl x), some (.inl q), some (.inl w)]) (st' := [.inl (-2)]) (h' := h) rfl ?_
      refine av_wp_ret (v := some (.inl (-2))) (ck_118 _ _ rfl) rfl rfl ?_
      exact hq _ h _ _ C F SU (Or.inr ⟨by unfold okx; omega, rfl⟩)
    · have c6 : (1) ≤ w := c6
      refine av_wp_sqF ck_118 2 (pc' := 17) (lv' := [some (.inr (.inr (.inl (some (0))))), some (.inl k), some (.inl l), some (.inl x), some (.inl q), some (.inl w)]) (st' := [.inl (2), .inl w]) (h' := h) rfl ?_
      refine wq_k2 (p' := 20) (ck_118 _ _ rfl) rfl ⟨by omega, by omega⟩ ⟨by omega, by omega⟩ (fun c7 => ?_) (fun c8 => ?_)
      · have c7 : (2) < w := c7
        refine av_wp_sqF ck_118 1 (pc' := 35) (lv' := [some (.inr (.inr (.inl (some (0))))), some (.inl k), some (.inl l), some (.inl x), some (.inl q), some (.inl w)]) (st' := [.inl (-2)]) (h' := h) rfl ?_
        refine av_wp_ret (v := some (.inl (-2))) (ck_118 _ _ rfl) rfl rfl ?_
        exact hq _ h _ _ C F SU (Or.inr ⟨by unfold okx; omega, rfl⟩)
      · have c8 : w ≤ (2) := c8
        refine av_wp_sqF ck_118 1 (pc' := 21) (lv' := [some (.inr (.inr (.inl (some (0))))), some (.inl k), some (.inl l), some (.inl x), some (.inl q), some (.inl w)]) (st' := [.inr (.inr (.inl (some (0))))]) (h' := h) rfl ?_
        refine wq_gr (p' := 24) (ck_118 _ _ rfl) rfl (congrArg Prod.fst (ly_k C.1.1 0 rfl)) rfl (ly_g C.1.1 0 5 26 rfl) ?_
        refine av_wp_sqF ck_118 3 (pc' := 27) (lv' := [some (.inr (.inr (.inl (some (0))))), some (.inl k), some (.inl l), some (.inl x), some (.inl q), some (.inl w)]) (st' := [.inl x, .inl l, .inl k, .inr (.inr (.inl (some (26))))]) (h' := h) rfl ?_
        refine wq_cv (p' := 30) (av_qc (.invokevirtual 160) 48 3 0 3) 5 cd_48 [.inl x, .inl l, .inl k] (26) 3 [some (.inr (.inr (.inl (some (26))))), some (.inl k), some (.inl l), some (.inl x), none] (ck_118 _ _ rfl) rfl rfl pp_48 rfl rfl rfl (congrArg Prod.fst (ly_k C.1.1 26 rfl)) rfl rfl rfl rfl ?_
        refine cz_48 C (k) (by omega) (l) (by omega) (x) (by omega) CR SU (fun z9 => ?_) (fun z9 z10 z11 h12 r13 n14 t15 c16 a17 m18 m19 m20 C21 F22 U23 E24 Z25 T26 D27 B28 R29 => ?_)
        · show av_wp _ cd_118 30 [some (.inr (.inr (.inl (some (0))))), some (.inl k), some (.inl l), some (.inl x), some (.inl q), some (.inl w)] [.inl (0)] h _
          refine av_wp_sqF ck_118 2 (pc' := 35) (lv' := [some (.inr (.inr (.inl (some (0))))), some (.inl k), some (.inl l), some (.inl x), some (.inl q), some (.inl w)]) (st' := [.inl (-2)]) (h' := h) rfl ?_
          refine av_wp_ret (v := some (.inl (-2))) (ck_118 _ _ rfl) rfl rfl ?_
          exact hq _ h _ _ C F SU (Or.inr ⟨by unfold okx; omega, rfl⟩)
        · have g30 : (-1 ≤ m18 ∧ m18 ≤ 11) ∧ (-1 ≤ m19 ∧ m19 ≤ 11) ∧ (-1 ≤ m20 ∧ m20 ≤ 9999) := R29
          have g31 := co_s12 (ib_co E24.1)
          show av_wp _ cd_118 30 [some (.inr (.inr (.inl (some (0))))), some (.inl k), some (.inl l), some (.inl x), some (.inl q), some (.inl w)] [.inl (1)] h12 _
          refine av_wp_sqF ck_118 2 (pc' := 37) (lv' := [some (.inr (.inr (.inl (some (0))))), some (.inl k), some (.inl l), some (.inl x), some (.inl q), some (.inl w)]) (st' := [.inr (.inr (.inl (some (0))))]) (h' := h12) rfl ?_
          refine wq_gr (p' := 40) (ck_118 _ _ rfl) rfl (congrArg Prod.fst (ly_k C21.1.1 0 rfl)) rfl (ly_g C21.1.1 0 5 26 rfl) ?_
          refine wq_gr (p' := 43) (ck_118 _ _ rfl) rfl (congrArg Prod.fst (ly_k C21.1.1 26 rfl)) rfl (ly_g C21.1.1 26 1 35 rfl) ?_
          refine av_wp_sqF ck_118 2 (pc' := 47) (lv' := [some (.inr (.inr (.inl (some (0))))), some (.inl k), some (.inl l), some (.inl x), some (.inl q), some (.inl w)]) (st' := [.inl w, .inl q, .inr (.inr (.inl (some (35))))]) (h' := h12) rfl ?_
          refine wq_cv (p' := 50) (av_qc (.invokevirtual 249) 24 2 0 0) 5 cd_24 [.inl w, .inl q] (35) 0 [some (.inr (.inr (.inl (some (35))))), some (.inl q), some (.inl w), none, none] (ck_118 _ _ rfl) rfl rfl pp_24 rfl rfl rfl (congrArg Prod.fst (bn_k0 C21.1.1 (Or.inl rfl))) rfl rfl rfl rfl ?_
          have g34h := HBd_g (CR.1 (Int.toNat k) (by omega)).2.2.2.2.2 D27.1 (by have := cbv_d (U (Int.toNat k)) (S (Int.toNat k)); omega)
          have g34d := DDA_of (u := U (Int.toNat k)) (ro := (hA h (6 + Int.toNat l))) (bar := bxx U S (hA h (6 + Int.toNat l)) (Int.toNat k)) (x := x) (by omega) T26 D27
          have g34H : HBd (S (Int.toNat k)) (arr (U (Int.toNat k)) (hA h (6 + Int.toNat l)) (bxx U S (hA h (6 + Int.toNat l)) (Int.toNat k)) x) := HBd_g (CR.1 (Int.toNat k) (by omega)).2.2.2.2.2 (fun q hq i hi => arr_0 (by omega)) (by have := cbv_d (U (Int.toNat k)) (S (Int.toNat k)); omega)
          have g345 : ∀ q, q < S (Int.toNat k) → -1 ≤ a17 5 q ∧ a17 5 q ≤ 9999 := fun q hq => by rw [(g34d q hq).2.1]; have := o5_r (ro := (hA h (6 + Int.toNat l))) g34H hq; omega
          have g346 : ∀ q, q < S (Int.toNat k) → -1 ≤ a17 6 q ∧ a17 6 q ≤ 9999 := fun q hq => by rw [(g34d q hq).2.2.1]; have := (eav_r g34H (CR.1 (Int.toNat k) (by omega)).2.2.2.2.1 (fun j => (eb_uv E24 j).1) (eb_rv E24) (by omega) hq (S (Int.toNat k)) (Nat.le_refl _)).1; omega
          refine cx_24 E24 (FN_rf 35 h12) g34h (fun q hq => by rw [(T26 q hq).1]; exact of_b _ _ _) g345 g346 (by omega) g34d (q) (by omega) (w) (by omega) (fun v32 p33 => ?_)
          show av_wp _ cd_118 50 [some (.inr (.inr (.inl (some (0))))), some (.inl k), some (.inl l), some (.inl x), some (.inl q), some (.inl w)] [.inl v32] h12 _
          refine av_wp_ret (v := some (.inl v32)) (ck_118 _ _ rfl) rfl rfl ?_
          exact hq _ h12 _ _ C21 F22 U23 (Or.inl ⟨by unfold okx; omega, by rw [show bgx U S (fun k => hA h (6 + k)) k l x = _ from B28]; exact p33⟩)
end
section
/-! CAN, UNTIL, exactly: the reference -/
end
section
/-! ALL COMBOS TOLD IN FIVE NUMBERS -/
/-- one more combo x that has a bargain at z -/
def tb (t : Nat → Int) (x z : Int) (j : Nat) : Int := if j = 0 then t 0 + 1 else if j = 1 then (if t 0 = 0 then x else t 1) else if j = 2 then t 2 else if j = 3 then (if t 0 = 0 then z else mn2 (t 3) z) else mx2 (t 4) z
/-- how many have one, the first that has, the first that has none, the least hour, the last; f: the hour of each, 9999: none -/
def ta (f : Int → Int) : Nat → Nat → Int
  | 0, j => if j = 0 then 0 else -1
  | k + 1, j => if f (k : Int) = 9999 then (if j = 2 ∧ ta f k 2 = -1 then (k : Int) else ta f k j) else tb (ta f k) (k : Int) (f (k : Int)) j
section
variable {f : Int → Int} {k : Nat} {z : Int}
theorem ta_9 (e : f (k : Int) = 9999) (j : Nat) : ta f (k + 1) j = if j = 2 ∧ ta f k 2 = -1 then (k : Int) else ta f k j := by
  have h : ta f (k + 1) j = if f (k : Int) = 9999 then (if j = 2 ∧ ta f k 2 = -1 then (k : Int) else ta f k j) else tb (ta f k) (k : Int) (f (k : Int)) j := rfl
  rw [h, if_pos e]
theorem ta_b (e : f (k : Int) = z) (c : z ≠ 9999) (j : Nat) : ta f (k + 1) j = tb (ta f k) (k : Int) z j := by
  have h : ta f (k + 1) j = if f (k : Int) = 9999 then (if j = 2 ∧ ta f k 2 = -1 then (k : Int) else ta f k j) else tb (ta f k) (k : Int) (f (k : Int)) j := rfl
  rw [h, if_neg (by rw [e]; exact c), e]
theorem ta_9s (e : f (k : Int) = 9999) : ta f (k + 1) 0 = ta f k 0 ∧ ta f (k + 1) 1 = ta f k 1 ∧ ta f (k + 1) 2 = (if ta f k 2 = -1 then (k : Int) else ta f k 2) ∧ ta f (k + 1) 3 = ta f k 3 ∧ ta f (k + 1) 4 = ta f k 4 := by
  refine ⟨?_, ?_, ?_, ?_, ?_⟩
  · rw [ta_9 e, if_neg (fun z => by have := z.1; omega)]
  · rw [ta_9 e, if_neg (fun z => by have := z.1; omega)]
  · rw [ta_9 e]
    by_cases c : ta f k 2 = -1
    · rw [if_pos ⟨rfl, c⟩, if_pos c]
    · rw [if_neg (fun z => c z.2), if_neg c]
  · rw [ta_9 e, if_neg (fun z => by have := z.1; omega)]
  · rw [ta_9 e, if_neg (fun z => by have := z.1; omega)]
theorem ta_bs (e : f (k : Int) = z) (c : z ≠ 9999) : ta f (k + 1) 0 = ta f k 0 + 1 ∧ ta f (k + 1) 1 = (if ta f k 0 = 0 then (k : Int) else ta f k 1) ∧ ta f (k + 1) 2 = ta f k 2 ∧ ta f (k + 1) 3 = (if ta f k 0 = 0 then z else mn2 (ta f k 3) z) ∧ ta f (k + 1) 4 = mx2 (ta f k 4) z := ⟨ta_b e c 0, ta_b e c 1, ta_b e c 2, ta_b e c 3, ta_b e c 4⟩
theorem ta_r (hf : ∀ x : Int, 0 ≤ x → x ≤ 1023 → f x = 9999 ∨ (0 ≤ f x ∧ f x < 9999)) : ∀ k : Nat, k ≤ 1024 → (0 ≤ ta f k 0 ∧ ta f k 0 ≤ (k : Int)) ∧ (-1 ≤ ta f k 2 ∧ ta f k 2 ≤ 1023) ∧ ((ta f k 0 = 0 ∧ ta f k 1 = -1 ∧ ta f k 3 = -1 ∧ ta f k 4 = -1) ∨ (1 ≤ ta f k 0 ∧ (0 ≤ ta f k 1 ∧ ta f k 1 ≤ 1023) ∧ (0 ≤ ta f k 3 ∧ ta f k 3 ≤ 9998) ∧ (0 ≤ ta f k 4 ∧ ta f k 4 ≤ 9998))) := by
  intro k
  induction k with
  | zero => intro _; exact ⟨⟨Int.le_refl 0, Int.le_refl 0⟩, ⟨Int.le_refl (-1), by show (-1 : Int) ≤ 1023; omega⟩, Or.inl ⟨rfl, rfl, rfl, rfl⟩⟩
  | succ k ih =>
    intro hk
    obtain ⟨i1, i2, i3⟩ := ih (by omega)
    have h := hf (k : Int) (by omega) (by omega)
    by_cases c : f (k : Int) = 9999
    · obtain ⟨y0, y1, y2, y3, y4⟩ := ta_9s c
      rw [y0, y1, y2, y3, y4]
      refine ⟨by omega, ?_, i3⟩
      split <;> omega
    · obtain ⟨y0, y1, y2, y3, y4⟩ := ta_bs rfl c
      rw [y0, y1, y2, y3, y4]
      unfold mn2 mx2
      refine ⟨by omega, i2, Or.inr ⟨by omega, ?_, ?_, ?_⟩⟩
      · split <;> omega
      · (repeat' split) <;> omega
      · split <;> omega
end
/-! A SEATED CASE AND ITS TALLY -/
/-- one row alone changed -/
def F1q (q0 : Nat) (g h : av_H) : Prop := Fr1 g h ∧ hF h = hF g ∧ ∀ q, q ≠ q0 → hA h q = hA g q
theorem F1q_w {q0 i : Nat} {v : Int} {h : av_H} (e : sA q0 = true) : F1q q0 h (hwA h q0 i v) := ⟨⟨Fr_wA (Fr_rf h) e, rfl⟩, rfl, fun q hq => hA_ne hq⟩
theorem F1q_f {q0 lo hi : Nat} {v : Int} {h : av_H} (I : IC h) (e : sA q0 = true) (hr : rwc q0 = true → -2 ≤ v ∧ v ≤ 999) (l : lo ≤ hi) : F1q q0 h (hfil h q0 lo hi v) := ⟨(IC_fil I e hr l).2, rfl, fun q hq => fil_o hq⟩
theorem CJ_q {U : Nat → Nat → Int} {S : Nat → Nat} {n : Int} {sr nd : Nat → Int} {q0 : Nat} {g h : av_H} (C : CJ U S n sr nd g) (F : F1q q0 g h) (I : IC h) (e1 : q0 ≠ 27) (e2 : q0 ≠ 28) : CJ U S n sr nd h := ⟨I, CSP_fr C.1.1 C.2.1 F.1.1, (F.2.2 27 (Ne.symm e1)).trans C.2.2.1, (F.2.2 28 (Ne.symm e2)).trans C.2.2.2⟩
theorem EB_q {b t c s r : Nat} {cb : Int} {u ro : Nat → Int} {a : Nat → Nat → Int} {x y z : Int} {q0 : Nat} {g h : av_H} (E : EB b t c s r cb u ro a x y z g) (F : F1q q0 g h) (I : IC h) (e : rwc q0 = false) (e2 : q0 = 29 ∨ q0 = 31) : EB b t c s r cb u ro a x y z h := by
  obtain ⟨e0, e1, e3, e4, e5, e6, e7⟩ := E
  refine ⟨ib_f1 e0 I F.1, ?_, ?_, fun j hj => ?_, ?_, ?_, ?_⟩
  · refine (F.2.2 c ?_).trans e1
    have := e0.2.2.1.2.2.2.2.2.2.2.1
    omega
  · refine (F.2.2 r (fun z => ?_)).trans e3
    have := e0.2.2.2.2.2.2
    rw [z, e] at this
    cases this
  · refine (F.2.2 _ ?_).trans (e4 j hj)
    rcases e0.2.1 with z | z | z <;> omega
  · rw [F.2.1]; exact e5
  · rw [F.2.1]; exact e6
  · rw [F.2.1]; exact e7
theorem fil_s {h : av_H} {a lo hi j : Nat} {v : Int} : hA (hfil h a lo hi v) a j = if lo ≤ j ∧ j < hi then v else hA h a j := by
  show (if a = a ∧ lo ≤ j ∧ j < hi then v else h.2.2.2.1 a j) = _
  by_cases e : lo ≤ j ∧ j < hi
  · rw [if_pos ⟨rfl, e⟩, if_pos e]
  · rw [if_neg (fun z => e z.2), if_neg e]
/-- the five numbers of the tally -/
def T5 (A : Nat → Int) (t0 t1 t2 t3 t4 : Int) : Prop := A 0 = t0 ∧ A 1 = t1 ∧ A 2 = t2 ∧ A 3 = t3 ∧ A 4 = t4
/-- the court with a case seated on bench 35, its tally -/
def SQ (U : Nat → Nat → Int) (S : Nat → Nat) (n : Int) (sr nd : Nat → Int) (t c s r : Nat) (cb : Int) (u ro bar : Nat → Int) (a : Nat → Nat → Int) (x y z : Int) (t0 t1 t2 t3 t4 : Int) (g h : av_H) : Prop := CJ U S n sr nd h ∧ EB 35 t c s r cb u ro a x y z h ∧ TKR u ro bar s a ∧ HZ u a ∧ Fr g h ∧ T5 (hA h 31) t0 t1 t2 t3 t4
section
variable {U : Nat → Nat → Int} {S : Nat → Nat} {n : Int} {sr nd : Nat → Int} {t c s r : Nat} {cb : Int} {u ro bar : Nat → Int} {a : Nat → Nat → Int} {x y z : Int} {t0 t1 t2 t3 t4 : Int} {g h : av_H}
theorem SQ_w {s0 s1 s2 s3 s4 : Int} (X : SQ U S n sr nd t c s r cb u ro bar a x y z t0 t1 t2 t3 t4 g h) (i : Nat) (v : Int) (e : T5 (av_u1 (hA h 31) i v) s0 s1 s2 s3 s4) : SQ U S n sr nd t c s r cb u ro bar a x y z s0 s1 s2 s3 s4 g (hwA h 31 i v) := by
  obtain ⟨x1, x2, x3, x4, x5, x6⟩ := X
  have F : F1q 31 h (hwA h 31 i v) := F1q_w rfl
  have I : IC (hwA h 31 i v) := IC_wA x1.1 rfl (fun z => by cases z)
  exact ⟨CJ_q x1 F I (by decide) (by decide), EB_q x2 F I rfl (Or.inr rfl), x3, x4, Fr_tr x5 F.1.1, by rw [hA_wu]; exact e⟩
theorem SQ_f (X : SQ U S n sr nd t c s r cb u ro bar a x y z t0 t1 t2 t3 t4 g h) {v : Int} : SQ U S n sr nd t c s r cb u ro bar a x y z t0 v v v v g (hfil h 31 1 5 v) := by
  obtain ⟨x1, x2, x3, x4, x5, x6⟩ := X
  have F : F1q 31 h (hfil h 31 1 5 v) := F1q_f x1.1 rfl (fun z => by cases z) (by decide)
  have I : IC (hfil h 31 1 5 v) := (IC_fil x1.1 rfl (fun z => by cases z) (by decide)).1
  exact ⟨CJ_q x1 F I (by decide) (by decide), EB_q x2 F I rfl (Or.inr rfl), x3, x4, Fr_tr x5 F.1.1, (fil_s.trans (if_neg (by decide))).trans x6.1, fil_s.trans (if_pos (by decide)), fil_s.trans (if_pos (by decide)), fil_s.trans (if_pos (by decide)), fil_s.trans (if_pos (by decide))⟩
theorem SQ_2 {h' : av_H} {a' : Nat → Nat → Int} {x' y' z' : Int} (X : SQ U S n sr nd t c s r cb u ro bar a x y z t0 t1 t2 t3 t4 g h) (E : EB 35 t c s r cb u ro a' x' y' z' h') (F : FN 35 h h') (Z : HZ u a') (T : TKR u ro bar s a') : SQ U S n sr nd t c s r cb u ro bar a' x' y' z' t0 t1 t2 t3 t4 g h' := by
  obtain ⟨x1, x2, x3, x4, x5, x6⟩ := X
  exact ⟨CJ_bn (Or.inl rfl) x1 F (ib_ic E.1), E, T, Z, Fr_tr x5 F.1.1, by rw [F.2.1 31 (fun j hj => by omega)]; exact x6⟩
variable {sc : av_Sr} {cd : List (Nat × av_E)} {Q : Option av_V → av_H → Prop} {pc p' : Nat} {lv : av_L} {r' : List av_V}
theorem xq_0 {v : Int} (hx : cd.lookup pc = some (av_q (.iastore))) (hp : pc + 1 = p') (X : SQ U S n sr nd t c s r cb u ro bar a x y z t0 t1 t2 t3 t4 g h) (hw : ∀ h', SQ U S n sr nd t c s r cb u ro bar a x y z v t1 t2 t3 t4 g h' → av_wp sc cd p' lv r' h' Q) : av_wp sc cd pc lv (.inl v :: .inl (0) :: .inr (.inr (.inl (some 31))) :: r') h Q :=
  wq_as (n := 5) hx hp (ly_k X.1.1.1 31 rfl) (by omega) (hw _ (SQ_w X 0 v ⟨u1_eq, (u1_ne (by decide)).trans X.2.2.2.2.2.2.1, (u1_ne (by decide)).trans X.2.2.2.2.2.2.2.1, (u1_ne (by decide)).trans X.2.2.2.2.2.2.2.2.1, (u1_ne (by decide)).trans X.2.2.2.2.2.2.2.2.2⟩))
theorem xq_1 {v : Int} (hx : cd.lookup pc = some (av_q (.iastore))) (hp : pc + 1 = p') (X : SQ U S n sr nd t c s r cb u ro bar a x y z t0 t1 t2 t3 t4 g h) (hw : ∀ h', SQ U S n sr nd t c s r cb u ro bar a x y z t0 v t2 t3 t4 g h' → av_wp sc cd p' lv r' h' Q) : av_wp sc cd pc lv (.inl v :: .inl (1) :: .inr (.inr (.inl (some 31))) :: r') h Q :=
  wq_as (n := 5) hx hp (ly_k X.1.1.1 31 rfl) (by omega) (hw _ (SQ_w X 1 v ⟨(u1_ne (by decide)).trans X.2.2.2.2.2.1, u1_eq, (u1_ne (by decide)).trans X.2.2.2.2.2.2.2.1, (u1_ne (by decide)).trans X.2.2.2.2.2.2.2.2.1, (u1_ne (by decide)).trans X.2.2.2.2.2.2.2.2.2⟩))
theorem xq_2 {v : Int} (hx : cd.lookup pc = some (av_q (.iastore))) (hp : pc + 1 = p') (X : SQ U S n sr nd t c s r cb u ro bar a x y z t0 t1 t2 t3 t4 g h) (hw : ∀ h', SQ U S n sr nd t c s r cb u ro bar a x y z t0 t1 v t3 t4 g h' → av_wp sc cd p' lv r' h' Q) : av_wp sc cd pc lv (.inl v :: .inl (2) :: .inr (.inr (.inl (some 31))) :: r') h Q :=
  wq_as (n := 5) hx hp (ly_k X.1.1.1 31 rfl) (by omega) (hw _ (SQ_w X 2 v ⟨(u1_ne (by decide)).trans X.2.2.2.2.2.1, (u1_ne (by decide)).trans X.2.2.2.2.2.2.1, u1_eq, (u1_ne (by decide)).trans X.2.2.2.2.2.2.2.2.1, (u1_ne (by decide)).trans X.2.2.2.2.2.2.2.2.2⟩))
theorem xq_3 {v : Int} (hx : cd.lookup pc = some (av_q (.iastore))) (hp : pc + 1 = p') (X : SQ U S n sr nd t c s r cb u ro bar a x y z t0 t1 t2 t3 t4 g h) (hw : ∀ h', SQ U S n sr nd t c s r cb u ro bar a x y z t0 t1 t2 v t4 g h' → av_wp sc cd p' lv r' h' Q) : av_wp sc cd pc lv (.inl v :: .inl (3) :: .inr (.inr (.inl (some 31))) :: r') h Q :=
  wq_as (n := 5) hx hp (ly_k X.1.1.1 31 rfl) (by omega) (hw _ (SQ_w X 3 v ⟨(u1_ne (by decide)).trans X.2.2.2.2.2.1, (u1_ne (by decide)).trans X.2.2.2.2.2.2.1, (u1_ne (by decide)).trans X.2.2.2.2.2.2.2.1, u1_eq, (u1_ne (by decide)).trans X.2.2.2.2.2.2.2.2.2⟩))
theorem xq_4 {v : Int} (hx : cd.lookup pc = some (av_q (.iastore))) (hp : pc + 1 = p') (X : SQ U S n sr nd t c s r cb u ro bar a x y z t0 t1 t2 t3 t4 g h) (hw : ∀ h', SQ U S n sr nd t c s r cb u ro bar a x y z t0 t1 t2 t3 v g h' → av_wp sc cd p' lv r' h' Q) : av_wp sc cd pc lv (.inl v :: .inl (4) :: .inr (.inr (.inl (some 31))) :: r') h Q :=
  wq_as (n := 5) hx hp (ly_k X.1.1.1 31 rfl) (by omega) (hw _ (SQ_w X 4 v ⟨(u1_ne (by decide)).trans X.2.2.2.2.2.1, (u1_ne (by decide)).trans X.2.2.2.2.2.2.1, (u1_ne (by decide)).trans X.2.2.2.2.2.2.2.1, (u1_ne (by decide)).trans X.2.2.2.2.2.2.2.2.1, u1_eq⟩))
end
end
section
/-! SURE, exactly: the class counts -/
set_option maxRecDepth 100000 in
set_option maxHeartbeats 4000000 in
theorem cx_57 {h : av_H} {g : av_H} {U : Nat → Nat → Int} {S : Nat → Nat} {n : Int} {sr nd : Nat → Int} {t c s r : Nat} {cb : Int} {u ro bar : Nat → Int} {a : Nat → Nat → Int} {mb mo ma : Int} {t0 t1 t2 t3 t4 : Int} (X : SQ U S n sr nd t c s r cb u ro bar a mb mo ma t0 t1 t2 t3 t4 g h) (G : SEA u ro bar s) (b0 : 0 ≤ t0 ∧ t0 ≤ 1023) (b3 : -1 ≤ t3 ∧ t3 ≤ 9999) (b4 : -1 ≤ t4 ∧ t4 ≤ 9999) (bm : -1 ≤ ma ∧ ma ≤ 9999) (x : Int) (qx : 0 ≤ x ∧ x ≤ 1023) {Q : Option av_V → av_H → Prop} (hq : ∀ h', SQ U S n sr nd t c s r cb u ro bar a mb mo ma (t0 + (1)) (if t0 = 0 then x else t1) t2 (if t0 = 0 then ma else mn2 t3 ma) (mx2 t4 ma) g h' → Q none h') : av_wp none cd_57 0 [some (.inr (.inr (.inl (some (26))))), some (.inl x), none] [] h Q := by
  have s12 := co_s12 (ib_co X.2.1.1)
  have cbr := co_cbr (ib_co X.2.1.1)
  have mbr := eb_xr X.2.1
  have mor := eb_yr X.2.1
  refine av_wp_sqF ck_57 1 (pc' := 1) (lv' := [some (.inr (.inr (.inl (some (26))))), some (.inl x), none]) (st' := [.inr (.inr (.inl (some (26))))]) (h' := h) rfl ?_
  refine wq_gr (p' := 4) (ck_57 _ _ rfl) rfl (congrArg Prod.fst (ly_k X.1.1.1 26 rfl)) rfl (ly_g X.1.1.1 26 8 31 rfl) ?_
  refine av_wp_sqF ck_57 1 (pc' := 5) (lv' := [some (.inr (.inr (.inl (some (26))))), some (.inl x), none]) (st' := [.inl (0), .inr (.inr (.inl (some (31))))]) (h' := h) rfl ?_
  refine wq_al (p' := 6) (n := 5) (ck_57 _ _ rfl) rfl (ly_k X.1.1.1 31 rfl) (by omega) (X.2.2.2.2.2.1) ?_
  refine wq_k1 (p' := 9) (ck_57 _ _ rfl) rfl ⟨by omega, by omega⟩ (fun c1 => ?_) (fun c2 => ?_)
  · have c1 : t0 ≠ (0) := c1
    refine av_wp_sqF ck_57 3 (pc' := 16) (lv' := [some (.inr (.inr (.inl (some (26))))), some (.inl x), some (.inl (0))]) (st' := [.inr (.inr (.inl (some (26))))]) (h' := h) rfl ?_
    refine wq_gr (p' := 19) (ck_57 _ _ rfl) rfl (congrArg Prod.fst (ly_k X.1.1.1 26 rfl)) rfl (ly_g X.1.1.1 26 8 31 rfl) ?_
    refine av_wp_sqF ck_57 2 (pc' := 21) (lv' := [some (.inr (.inr (.inl (some (26))))), some (.inl x), some (.inl (0))]) (st' := [.inl (0), .inr (.inr (.inl (some (31)))), .inl (0), .inr (.inr (.inl (some (31))))]) (h' := h) rfl ?_
    refine wq_al (p' := 22) (n := 5) (ck_57 _ _ rfl) rfl (ly_k X.1.1.1 31 rfl) (by omega) (X.2.2.2.2.2.1) ?_
    refine av_wp_sqF ck_57 2 (pc' := 24) (lv' := [some (.inr (.inr (.inl (some (26))))), some (.inl x), some (.inl (0))]) (st' := [.inl (t0 + (1)), .inl (0), .inr (.inr (.inl (some (31))))]) (h' := h) rfl ?_
    refine xq_0 (p' := 25) rfl rfl X (fun h3 X4 => ?_)
    refine av_wp_sqF ck_57 3 (pc' := 37) (lv' := [some (.inr (.inr (.inl (some (26))))), some (.inl x), some (.inl (0))]) (st' := [.inr (.inr (.inl (some (26))))]) (h' := h3) rfl ?_
    refine wq_gr (p' := 40) (ck_57 _ _ rfl) rfl (congrArg Prod.fst (ly_k X4.1.1.1 26 rfl)) rfl (ly_g X4.1.1.1 26 8 31 rfl) ?_
    refine av_wp_sqF ck_57 4 (pc' := 56) (lv' := [some (.inr (.inr (.inl (some (26))))), some (.inl x), some (.inl (0))]) (st' := [.inr (.inr (.inl (some (26)))), .inl (3), .inr (.inr (.inl (some (31))))]) (h' := h3) rfl ?_
    refine wq_gr (p' := 59) (ck_57 _ _ rfl) rfl (congrArg Prod.fst (ly_k X4.1.1.1 26 rfl)) rfl (ly_g X4.1.1.1 26 8 31 rfl) ?_
    refine av_wp_sqF ck_57 1 (pc' := 60) (lv' := [some (.inr (.inr (.inl (some (26))))), some (.inl x), some (.inl (0))]) (st' := [.inl (3), .inr (.inr (.inl (some (31)))), .inl (3), .inr (.inr (.inl (some (31))))]) (h' := h3) rfl ?_
    refine wq_al (p' := 61) (n := 5) (ck_57 _ _ rfl) rfl (ly_k X4.1.1.1 31 rfl) (by omega) (X4.2.2.2.2.2.2.2.2.1) ?_
    refine av_wp_sqF ck_57 1 (pc' := 62) (lv' := [some (.inr (.inr (.inl (some (26))))), some (.inl x), some (.inl (0))]) (st' := [.inr (.inr (.inl (some (26)))), .inl t3, .inl (3), .inr (.inr (.inl (some (31))))]) (h' := h3) rfl ?_
    refine wq_gr (p' := 65) (ck_57 _ _ rfl) rfl (congrArg Prod.fst (ly_k X4.1.1.1 26 rfl)) rfl (ly_g X4.1.1.1 26 1 35 rfl) ?_
    refine wq_gi (p' := 68) (ck_57 _ _ rfl) rfl (congrArg Prod.fst (bn_k0 X4.1.1.1 (Or.inl rfl))) rfl (X4.2.1.2.2.2.2.2.2) ?_
    refine wq_mn (p' := 71) (ck_57 _ _ rfl) rfl rfl (fun _ _ => rfl) rfl (fun v5 e6 e7 => ?_)
    have e7 := e7 ⟨by omega, by omega⟩ ⟨by omega, by omega⟩
    refine xq_3 (p' := 72) rfl rfl X4 (fun h8 X9 => ?_)
    refine av_wp_sqF ck_57 1 (pc' := 73) (lv' := [some (.inr (.inr (.inl (some (26))))), some (.inl x), some (.inl (0))]) (st' := [.inr (.inr (.inl (some (26))))]) (h' := h8) rfl ?_
    refine wq_gr (p' := 76) (ck_57 _ _ rfl) rfl (congrArg Prod.fst (ly_k X9.1.1.1 26 rfl)) rfl (ly_g X9.1.1.1 26 8 31 rfl) ?_
    refine av_wp_sqF ck_57 2 (pc' := 78) (lv' := [some (.inr (.inr (.inl (some (26))))), some (.inl x), some (.inl (0))]) (st' := [.inr (.inr (.inl (some (26)))), .inl (4), .inr (.inr (.inl (some (31))))]) (h' := h8) rfl ?_
    refine wq_gr (p' := 81) (ck_57 _ _ rfl) rfl (congrArg Prod.fst (ly_k X9.1.1.1 26 rfl)) rfl (ly_g X9.1.1.1 26 8 31 rfl) ?_
    refine av_wp_sqF ck_57 1 (pc' := 82) (lv' := [some (.inr (.inr (.inl (some (26))))), some (.inl x), some (.inl (0))]) (st' := [.inl (4), .inr (.inr (.inl (some (31)))), .inl (4), .inr (.inr (.inl (some (31))))]) (h' := h8) rfl ?_
    refine wq_al (p' := 83) (n := 5) (ck_57 _ _ rfl) rfl (ly_k X9.1.1.1 31 rfl) (by omega) (X9.2.2.2.2.2.2.2.2.2) ?_
    refine av_wp_sqF ck_57 1 (pc' := 84) (lv' := [some (.inr (.inr (.inl (some (26))))), some (.inl x), some (.inl (0))]) (st' := [.inr (.inr (.inl (some (26)))), .inl t4, .inl (4), .inr (.inr (.inl (some (31))))]) (h' := h8) rfl ?_
    refine wq_gr (p' := 87) (ck_57 _ _ rfl) rfl (congrArg Prod.fst (ly_k X9.1.1.1 26 rfl)) rfl (ly_g X9.1.1.1 26 1 35 rfl) ?_
    refine wq_gi (p' := 90) (ck_57 _ _ rfl) rfl (congrArg Prod.fst (bn_k0 X9.1.1.1 (Or.inl rfl))) rfl (X9.2.1.2.2.2.2.2.2) ?_
    refine wq_mx (p' := 93) (ck_57 _ _ rfl) rfl rfl (fun _ _ => rfl) rfl (fun v10 e11 e12 => ?_)
    have e12 := e12 ⟨by omega, by omega⟩ ⟨by omega, by omega⟩
    refine xq_4 (p' := 94) rfl rfl X9 (fun h13 X14 => ?_)
    refine av_wp_ret (v := none) (ck_57 _ _ rfl) rfl rfl ?_
    refine hq h13 (by rw [if_neg (by omega), if_neg (by omega), show mn2 t3 ma = v5 by unfold mn2; split <;> omega, show mx2 t4 ma = v10 by unfold mx2; split <;> omega]; exact X14)
  · have c2 : t0 = (0) := c2
    refine av_wp_sqF ck_57 4 (pc' := 16) (lv' := [some (.inr (.inr (.inl (some (26))))), some (.inl x), some (.inl (1))]) (st' := [.inr (.inr (.inl (some (26))))]) (h' := h) rfl ?_
    refine wq_gr (p' := 19) (ck_57 _ _ rfl) rfl (congrArg Prod.fst (ly_k X.1.1.1 26 rfl)) rfl (ly_g X.1.1.1 26 8 31 rfl) ?_
    refine av_wp_sqF ck_57 2 (pc' := 21) (lv' := [some (.inr (.inr (.inl (some (26))))), some (.inl x), some (.inl (1))]) (st' := [.inl (0), .inr (.inr (.inl (some (31)))), .inl (0), .inr (.inr (.inl (some (31))))]) (h' := h) rfl ?_
    refine wq_al (p' := 22) (n := 5) (ck_57 _ _ rfl) rfl (ly_k X.1.1.1 31 rfl) (by omega) (X.2.2.2.2.2.1) ?_
    refine av_wp_sqF ck_57 2 (pc' := 24) (lv' := [some (.inr (.inr (.inl (some (26))))), some (.inl x), some (.inl (1))]) (st' := [.inl (t0 + (1)), .inl (0), .inr (.inr (.inl (some (31))))]) (h' := h) rfl ?_
    refine xq_0 (p' := 25) rfl rfl X (fun h15 X16 => ?_)
    refine av_wp_sqF ck_57 3 (pc' := 30) (lv' := [some (.inr (.inr (.inl (some (26))))), some (.inl x), some (.inl (1))]) (st' := [.inr (.inr (.inl (some (26))))]) (h' := h15) rfl ?_
    refine wq_gr (p' := 33) (ck_57 _ _ rfl) rfl (congrArg Prod.fst (ly_k X16.1.1.1 26 rfl)) rfl (ly_g X16.1.1.1 26 8 31 rfl) ?_
    refine av_wp_sqF ck_57 2 (pc' := 35) (lv' := [some (.inr (.inr (.inl (some (26))))), some (.inl x), some (.inl (1))]) (st' := [.inl x, .inl (1), .inr (.inr (.inl (some (31))))]) (h' := h15) rfl ?_
    refine xq_1 (p' := 36) rfl rfl X16 (fun h17 X18 => ?_)
    refine av_wp_sqF ck_57 1 (pc' := 37) (lv' := [some (.inr (.inr (.inl (some (26))))), some (.inl x), some (.inl (1))]) (st' := [.inr (.inr (.inl (some (26))))]) (h' := h17) rfl ?_
    refine wq_gr (p' := 40) (ck_57 _ _ rfl) rfl (congrArg Prod.fst (ly_k X18.1.1.1 26 rfl)) rfl (ly_g X18.1.1.1 26 8 31 rfl) ?_
    refine av_wp_sqF ck_57 4 (pc' := 46) (lv' := [some (.inr (.inr (.inl (some (26))))), some (.inl x), some (.inl (1))]) (st' := [.inr (.inr (.inl (some (26)))), .inl (3), .inr (.inr (.inl (some (31))))]) (h' := h17) rfl ?_
    refine wq_gr (p' := 49) (ck_57 _ _ rfl) rfl (congrArg Prod.fst (ly_k X18.1.1.1 26 rfl)) rfl (ly_g X18.1.1.1 26 1 35 rfl) ?_
    refine wq_gi (p' := 52) (ck_57 _ _ rfl) rfl (congrArg Prod.fst (bn_k0 X18.1.1.1 (Or.inl rfl))) rfl (X18.2.1.2.2.2.2.2.2) ?_
    refine av_wp_sqF ck_57 1 (pc' := 71) (lv' := [some (.inr (.inr (.inl (some (26))))), some (.inl x), some (.inl (1))]) (st' := [.inl ma, .inl (3), .inr (.inr (.inl (some (31))))]) (h' := h17) rfl ?_
    refine xq_3 (p' := 72) rfl rfl X18 (fun h19 X20 => ?_)
    refine av_wp_sqF ck_57 1 (pc' := 73) (lv' := [some (.inr (.inr (.inl (some (26))))), some (.inl x), some (.inl (1))]) (st' := [.inr (.inr (.inl (some (26))))]) (h' := h19) rfl ?_
    refine wq_gr (p' := 76) (ck_57 _ _ rfl) rfl (congrArg Prod.fst (ly_k X20.1.1.1 26 rfl)) rfl (ly_g X20.1.1.1 26 8 31 rfl) ?_
    refine av_wp_sqF ck_57 2 (pc' := 78) (lv' := [some (.inr (.inr (.inl (some (26))))), some (.inl x), some (.inl (1))]) (st' := [.inr (.inr (.inl (some (26)))), .inl (4), .inr (.inr (.inl (some (31))))]) (h' := h19) rfl ?_
    refine wq_gr (p' := 81) (ck_57 _ _ rfl) rfl (congrArg Prod.fst (ly_k X20.1.1.1 26 rfl)) rfl (ly_g X20.1.1.1 26 8 31 rfl) ?_
    refine av_wp_sqF ck_57 1 (pc' := 82) (lv' := [some (.inr (.inr (.inl (some (26))))), some (.inl x), some (.inl (1))]) (st' := [.inl (4), .inr (.inr (.inl (some (31)))), .inl (4), .inr (.inr (.inl (some (31))))]) (h' := h19) rfl ?_
    refine wq_al (p' := 83) (n := 5) (ck_57 _ _ rfl) rfl (ly_k X20.1.1.1 31 rfl) (by omega) (X20.2.2.2.2.2.2.2.2.2) ?_
    refine av_wp_sqF ck_57 1 (pc' := 84) (lv' := [some (.inr (.inr (.inl (some (26))))), some (.inl x), some (.inl (1))]) (st' := [.inr (.inr (.inl (some (26)))), .inl t4, .inl (4), .inr (.inr (.inl (some (31))))]) (h' := h19) rfl ?_
    refine wq_gr (p' := 87) (ck_57 _ _ rfl) rfl (congrArg Prod.fst (ly_k X20.1.1.1 26 rfl)) rfl (ly_g X20.1.1.1 26 1 35 rfl) ?_
    refine wq_gi (p' := 90) (ck_57 _ _ rfl) rfl (congrArg Prod.fst (bn_k0 X20.1.1.1 (Or.inl rfl))) rfl (X20.2.1.2.2.2.2.2.2) ?_
    refine wq_mx (p' := 93) (ck_57 _ _ rfl) rfl rfl (fun _ _ => rfl) rfl (fun v21 e22 e23 => ?_)
    have e23 := e23 ⟨by omega, by omega⟩ ⟨by omega, by omega⟩
    refine xq_4 (p' := 94) rfl rfl X20 (fun h24 X25 => ?_)
    refine av_wp_ret (v := none) (ck_57 _ _ rfl) rfl rfl ?_
    refine hq h24 (by rw [if_pos (by omega), if_pos (by omega), show mx2 t4 ma = v21 by unfold mx2; split <;> omega]; exact X25)

set_option maxRecDepth 100000 in
set_option maxHeartbeats 4000000 in
theorem cx_56 {h : av_H} {g : av_H} {U : Nat → Nat → Int} {S : Nat → Nat} {n : Int} {sr nd : Nat → Int} {t c s r : Nat} {cb : Int} {u ro bar : Nat → Int} {a : Nat → Nat → Int} {mb mo ma : Int} {t0 t1 t2 t3 t4 : Int} (X : SQ U S n sr nd t c s r cb u ro bar a mb mo ma t0 t1 t2 t3 t4 g h) (G : SEA u ro bar s) (HF : ∀ x : Int, 0 ≤ x → x ≤ 1023 → (bgn u ro bar s x).2.2 = 9999 ∨ (0 ≤ (bgn u ro bar s x).2.2 ∧ (bgn u ro bar s x).2.2 < 9999)) (hc : 0 ≤ cb) {Q : Option av_V → av_H → Prop} (hq : ∀ h' a' m1 m2 m3 s0 s1 s2 s3 s4, SQ U S n sr nd t c s r cb u ro bar a' m1 m2 m3 s0 s1 s2 s3 s4 g h' → (s0 = ta (fun q => (bgn u ro bar s q).2.2) (Int.toNat cb) 0 ∧ s1 = ta (fun q => (bgn u ro bar s q).2.2) (Int.toNat cb) 1 ∧ s2 = ta (fun q => (bgn u ro bar s q).2.2) (Int.toNat cb) 2 ∧ s3 = ta (fun q => (bgn u ro bar s q).2.2) (Int.toNat cb) 3 ∧ s4 = ta (fun q => (bgn u ro bar s q).2.2) (Int.toNat cb) 4) → Q none h') : av_wp none cd_56 0 [some (.inr (.inr (.inl (some (26))))), none] [] h Q := by
  have s12 := co_s12 (ib_co X.2.1.1)
  have cbr := co_cbr (ib_co X.2.1.1)
  have mbr := eb_xr X.2.1
  have mor := eb_yr X.2.1
  refine av_wp_sqF ck_56 1 (pc' := 1) (lv' := [some (.inr (.inr (.inl (some (26))))), none]) (st' := [.inr (.inr (.inl (some (26))))]) (h' := h) rfl ?_
  refine wq_gr (p' := 4) (ck_56 _ _ rfl) rfl (congrArg Prod.fst (ly_k X.1.1.1 26 rfl)) rfl (ly_g X.1.1.1 26 8 31 rfl) ?_
  refine av_wp_sqF ck_56 2 (pc' := 6) (lv' := [some (.inr (.inr (.inl (some (26))))), none]) (st' := [.inl (0), .inl (0), .inr (.inr (.inl (some (31))))]) (h' := h) rfl ?_
  refine xq_0 (p' := 7) rfl rfl X (fun h1 X2 => ?_)
  refine av_wp_sqF ck_56 1 (pc' := 8) (lv' := [some (.inr (.inr (.inl (some (26))))), none]) (st' := [.inr (.inr (.inl (some (26))))]) (h' := h1) rfl ?_
  refine wq_gr (p' := 11) (ck_56 _ _ rfl) rfl (congrArg Prod.fst (ly_k X2.1.1.1 26 rfl)) rfl (ly_g X2.1.1.1 26 8 31 rfl) ?_
  refine av_wp_sqF ck_56 3 (pc' := 14) (lv' := [some (.inr (.inr (.inl (some (26))))), none]) (st' := [.inl (-1), .inl (5), .inl (1), .inr (.inr (.inl (some (31))))]) (h' := h1) rfl ?_
  refine wq_cs (p' := 17) (av_qc (.invokestatic 126) 221 4 2 10) 5 cd_221 [.inr (.inr (.inl (some (31)))), .inl (1), .inl (5), .inl (-1)] [.inl (-1), .inl (5), .inl (1), .inr (.inr (.inl (some (31))))] [some (.inr (.inr (.inl (some (31))))), some (.inl (1)), some (.inl (5)), some (.inl (-1)), none] (ck_56 _ _ rfl) rfl rfl pp_221 (fun _ => rfl) rfl rfl ?_
  refine ct_221 (n := 5) 1 5 rfl rfl (ly_k X2.1.1.1 31 rfl) (by decide) (by decide) (by decide) ?_
  have X3 := SQ_f (v := -1) X2
  show av_wp _ cd_56 17 [some (.inr (.inr (.inl (some (26))))), none] [] (hfil h1 31 1 5 (-1)) _
  refine av_wp_sqF ck_56 2 (pc' := 19) (lv' := [some (.inr (.inr (.inl (some (26))))), some (.inl (0))]) (st' := []) (h' := (hfil h1 31 1 5 (-1))) rfl ?_
  have L18 : ∀ (m17 : Nat) (k4 : Int) (h5 : av_H) (a7 : Nat → Nat → Int) (m8 : Int) (m9 : Int) (m10 : Int) (t11 : Int) (t12 : Int) (t13 : Int) (t14 : Int) (t15 : Int), k4 ≤ cb → (0 ≤ k4 ∧ k4 ≤ 1024) → SQ U S n sr nd t c s r cb u ro bar a7 m8 m9 m10 t11 t12 t13 t14 t15 g h5 → t11 = ta (fun q => (bgn u ro bar s q).2.2) (Int.toNat k4) 0 ∧ t12 = ta (fun q => (bgn u ro bar s q).2.2) (Int.toNat k4) 1 ∧ t13 = ta (fun q => (bgn u ro bar s q).2.2) (Int.toNat k4) 2 ∧ t14 = ta (fun q => (bgn u ro bar s q).2.2) (Int.toNat k4) 3 ∧ t15 = ta (fun q => (bgn u ro bar s q).2.2) (Int.toNat k4) 4 → (1024 - k4).toNat = m17 → av_wp none cd_56 19 [some (.inr (.inr (.inl (some (26))))), some (.inl k4)] [] h5 Q := by
    intro m17
    induction m17 using Nat.strongRecOn with
    | _ m17 I19 =>
      intro k4 h5 a7 m8 m9 m10 t11 t12 t13 t14 t15 g21 g22 X6 Y16 e20
      refine av_wp_sqF ck_56 2 (pc' := 21) (lv' := [some (.inr (.inr (.inl (some (26))))), some (.inl k4)]) (st' := [.inr (.inr (.inl (some (26)))), .inl k4]) (h' := h5) rfl ?_
      refine wq_gr (p' := 24) (ck_56 _ _ rfl) rfl (congrArg Prod.fst (ly_k X6.1.1.1 26 rfl)) rfl (ly_g X6.1.1.1 26 1 35 rfl) ?_
      refine wq_gr (p' := 27) (ck_56 _ _ rfl) rfl (congrArg Prod.fst (bn_k0 X6.1.1.1 (Or.inl rfl))) rfl (ib_t X6.2.1.1) ?_
      refine wq_gi (p' := 30) (ck_56 _ _ rfl) rfl (congrArg Prod.fst (co_kt (ib_co X6.2.1.1))) rfl (co_cb (ib_co X6.2.1.1)) ?_
      refine wq_k2 (p' := 33) (ck_56 _ _ rfl) rfl ⟨by omega, by omega⟩ ⟨by omega, by omega⟩ (fun c23 => ?_) (fun c24 => ?_)
      · have c23 : cb ≤ k4 := c23
        refine av_wp_ret (v := none) (ck_56 _ _ rfl) rfl rfl ?_
        have z25 : Int.toNat k4 = Int.toNat cb := by omega
        rw [z25] at Y16
        exact hq h5 _ _ _ _ _ _ _ _ _ X6 Y16
      · have c24 : k4 < cb := c24
        have g26 := ta_r (f := (fun q => (bgn u ro bar s q).2.2)) HF (Int.toNat k4) (by omega)
        have g26Y := Y16
        obtain ⟨g26w0, g26w1, g26w2, g26w3, g26w4⟩ := g26Y
        rw [← g26w0, ← g26w1, ← g26w2, ← g26w3, ← g26w4] at g26
        refine av_wp_sqF ck_56 1 (pc' := 34) (lv' := [some (.inr (.inr (.inl (some (26))))), some (.inl k4)]) (st' := [.inr (.inr (.inl (some (26))))]) (h' := h5) rfl ?_
        refine wq_gr (p' := 37) (ck_56 _ _ rfl) rfl (congrArg Prod.fst (ly_k X6.1.1.1 26 rfl)) rfl (ly_g X6.1.1.1 26 1 35 rfl) ?_
        refine av_wp_sqF ck_56 1 (pc' := 38) (lv' := [some (.inr (.inr (.inl (some (26))))), some (.inl k4)]) (st' := [.inl k4, .inr (.inr (.inl (some (35))))]) (h' := h5) rfl ?_
        refine wq_cv (p' := 41) (av_qc (.invokevirtual 89) 2 1 0 0) 2 cd_2 [.inl k4] (35) 0 [some (.inr (.inr (.inl (some (35))))), some (.inl k4)] (ck_56 _ _ rfl) rfl rfl pp_2 rfl rfl rfl (congrArg Prod.fst (bn_k0 X6.1.1.1 (Or.inl rfl))) rfl rfl rfl rfl ?_
        refine cy_2 X6.2.1 (FN_rf 35 h5) G X6.2.2.1 X6.2.2.2.1 (k4) (by omega) (fun v27 h28 a29 m30 m31 m32 E33 F34 Z35 T36 D37 B38 R39 p40 => ?_)
        have X41 := SQ_2 X6 E33 F34 Z35 T36
        have g42 : (-1 ≤ m30 ∧ m30 ≤ 11) ∧ (-1 ≤ m31 ∧ m31 ≤ 11) ∧ (-1 ≤ m32 ∧ m32 ≤ 9999) := R39
        show av_wp _ cd_56 41 [some (.inr (.inr (.inl (some (26))))), some (.inl k4)] [.inl v27] h28 _
        refine wq_k1 (p' := 44) (ck_56 _ _ rfl) rfl ⟨by omega, by omega⟩ (fun c43 => ?_) (fun c44 => ?_)
        · have c43 : v27 = (0) := c43
          refine av_wp_sqF ck_56 1 (pc' := 53) (lv' := [some (.inr (.inr (.inl (some (26))))), some (.inl k4)]) (st' := [.inr (.inr (.inl (some (26))))]) (h' := h28) rfl ?_
          refine wq_gr (p' := 56) (ck_56 _ _ rfl) rfl (congrArg Prod.fst (ly_k X41.1.1.1 26 rfl)) rfl (ly_g X41.1.1.1 26 8 31 rfl) ?_
          refine av_wp_sqF ck_56 1 (pc' := 57) (lv' := [some (.inr (.inr (.inl (some (26))))), some (.inl k4)]) (st' := [.inl (2), .inr (.inr (.inl (some (31))))]) (h' := h28) rfl ?_
          refine wq_al (p' := 58) (n := 5) (ck_56 _ _ rfl) rfl (ly_k X41.1.1.1 31 rfl) (by omega) (X41.2.2.2.2.2.2.2.1) ?_
          refine av_wp_sqF ck_56 1 (pc' := 59) (lv' := [some (.inr (.inr (.inl (some (26))))), some (.inl k4)]) (st' := [.inl (-1), .inl t13]) (h' := h28) rfl ?_
          refine wq_k2 (p' := 62) (ck_56 _ _ rfl) rfl ⟨by omega, by omega⟩ ⟨by omega, by omega⟩ (fun c45 => ?_) (fun c46 => ?_)
          · have c45 : t13 ≠ (-1) := c45
            refine av_wp_sqF ck_56 2 (pc' := 19) (lv' := [some (.inr (.inr (.inl (some (26))))), some (.inl (k4 + (1)))]) (st' := []) (h' := h28) rfl ?_
            exact I19 _ (by omega) ((k4 + (1))) h28 a29 (m30) (m31) (m32) (t11) (t12) (t13) (t14) (t15) (by omega) (by omega) X41 (by obtain ⟨y0, y1, y2, y3, y4⟩ := ta_9s (f := (fun q => (bgn u ro bar s q).2.2)) ((show (bgn u ro bar s ((Int.toNat k4 : Nat) : Int)).2.2 = m32 by rw [show ((Int.toNat k4 : Nat) : Int) = k4 by omega, B38]).trans (by omega)); have WY := Y16; obtain ⟨w0, w1, w2, w3, w4⟩ := WY; rw [show Int.toNat (k4 + (1)) = Int.toNat k4 + 1 by omega, y0, y1, y2, y3, y4, ← w0, ← w1, ← w2, ← w3, ← w4, show ((Int.toNat k4 : Nat) : Int) = k4 by omega]; refine ⟨rfl, rfl, ?_, rfl, rfl⟩; split <;> omega) rfl
          · have c46 : t13 = (-1) := c46
            refine av_wp_sqF ck_56 1 (pc' := 63) (lv' := [some (.inr (.inr (.inl (some (26))))), some (.inl k4)]) (st' := [.inr (.inr (.inl (some (26))))]) (h' := h28) rfl ?_
            refine wq_gr (p' := 66) (ck_56 _ _ rfl) rfl (congrArg Prod.fst (ly_k X41.1.1.1 26 rfl)) rfl (ly_g X41.1.1.1 26 8 31 rfl) ?_
            refine av_wp_sqF ck_56 2 (pc' := 68) (lv' := [some (.inr (.inr (.inl (some (26))))), some (.inl k4)]) (st' := [.inl k4, .inl (2), .inr (.inr (.inl (some (31))))]) (h' := h28) rfl ?_
            refine xq_2 (p' := 69) rfl rfl X41 (fun h47 X48 => ?_)
            refine av_wp_sqF ck_56 2 (pc' := 19) (lv' := [some (.inr (.inr (.inl (some (26))))), some (.inl (k4 + (1)))]) (st' := []) (h' := h47) rfl ?_
            exact I19 _ (by omega) ((k4 + (1))) h47 a29 (m30) (m31) (m32) (t11) (t12) (k4) (t14) (t15) (by omega) (by omega) X48 (by obtain ⟨y0, y1, y2, y3, y4⟩ := ta_9s (f := (fun q => (bgn u ro bar s q).2.2)) ((show (bgn u ro bar s ((Int.toNat k4 : Nat) : Int)).2.2 = m32 by rw [show ((Int.toNat k4 : Nat) : Int) = k4 by omega, B38]).trans (by omega)); have WY := Y16; obtain ⟨w0, w1, w2, w3, w4⟩ := WY; rw [show Int.toNat (k4 + (1)) = Int.toNat k4 + 1 by omega, y0, y1, y2, y3, y4, ← w0, ← w1, ← w2, ← w3, ← w4, show ((Int.toNat k4 : Nat) : Int) = k4 by omega]; refine ⟨rfl, rfl, ?_, rfl, rfl⟩; split <;> omega) rfl
        · have c44 : v27 ≠ (0) := c44
          refine av_wp_sqF ck_56 2 (pc' := 46) (lv' := [some (.inr (.inr (.inl (some (26))))), some (.inl k4)]) (st' := [.inl k4, .inr (.inr (.inl (some (26))))]) (h' := h28) rfl ?_
          refine wq_cv (p' := 49) (av_qc (.invokevirtual 129) 57 1 0 3) 3 cd_57 [.inl k4] (26) 3 [some (.inr (.inr (.inl (some (26))))), some (.inl k4), none] (ck_56 _ _ rfl) rfl rfl pp_57 rfl rfl rfl (congrArg Prod.fst (ly_k X41.1.1.1 26 rfl)) rfl rfl rfl rfl ?_
          refine cx_57 X41 G (by omega) (by omega) (by omega) (by omega) (k4) (by omega) (fun h49 X50 => ?_)
          show av_wp _ cd_56 49 [some (.inr (.inr (.inl (some (26))))), some (.inl k4)] [] h49 _
          refine av_wp_sqF ck_56 3 (pc' := 19) (lv' := [some (.inr (.inr (.inl (some (26))))), some (.inl (k4 + (1)))]) (st' := []) (h' := h49) rfl ?_
          exact I19 _ (by omega) ((k4 + (1))) h49 a29 (m30) (m31) (m32) ((t11 + (1))) ((if t11 = 0 then k4 else t12)) (t13) ((if t11 = 0 then m32 else mn2 t14 m32)) ((mx2 t15 m32)) (by omega) (by omega) X50 (by obtain ⟨y0, y1, y2, y3, y4⟩ := ta_bs (f := (fun q => (bgn u ro bar s q).2.2)) (show (bgn u ro bar s ((Int.toNat k4 : Nat) : Int)).2.2 = m32 by rw [show ((Int.toNat k4 : Nat) : Int) = k4 by omega, B38]) (by omega); have WY := Y16; obtain ⟨w0, w1, w2, w3, w4⟩ := WY; rw [show Int.toNat (k4 + (1)) = Int.toNat k4 + 1 by omega, y0, y1, y2, y3, y4, ← w0, ← w1, ← w2, ← w3, ← w4, show ((Int.toNat k4 : Nat) : Int) = k4 by omega]; exact ⟨rfl, rfl, rfl, rfl, rfl⟩) rfl
  exact L18 _ ((0)) (hfil h1 31 1 5 (-1)) a (mb) (mo) (ma) ((0)) ((-1)) ((-1)) ((-1)) ((-1)) (by omega) (by omega) X3 ⟨rfl, rfl, rfl, rfl, rfl⟩ rfl
end
section
/-! SURE, exactly: the class -/
theorem t5_v {f : Int → Int} {A : Nat → Int} {t0 t1 t2 t3 t4 v w : Int} {c : Nat} (x : T5 A t0 t1 t2 t3 t4) (y : t0 = ta f c 0 ∧ t1 = ta f c 1 ∧ t2 = ta f c 2 ∧ t3 = ta f c 3 ∧ t4 = ta f c 4) (h : A (Int.toNat w) = v) (hw : 0 ≤ w ∧ w ≤ 4) : v = ta f c (Int.toNat w) := by
  obtain ⟨x0, x1, x2, x3, x4⟩ := x
  obtain ⟨y0, y1, y2, y3, y4⟩ := y
  rw [← h]
  rcases (show w = 0 ∨ w = 1 ∨ w = 2 ∨ w = 3 ∨ w = 4 by omega) with e | e | e | e | e <;> subst e
  · exact x0.trans y0
  · exact x1.trans y1
  · exact x2.trans y2
  · exact x3.trans y3
  · exact x4.trans y4
set_option maxRecDepth 100000 in
set_option maxHeartbeats 4000000 in
theorem cz_51n {h : av_H} {U : Nat → Nat → Int} {S : Nat → Nat} {n : Int} {sr nd : Nat → Int} (C : CJ U S n sr nd h) {b : Nat} {m l : Int} {Q : Option av_V → av_H → Prop} (hq : Q (some (.inl 0)) h) : av_wp none cd_51 0 [some (.inr (.inr (.inl (some (26))))), some (.inr (.inr (.inl (some (b))))), some (.inr (.inr (.inl none))), some (.inl m), some (.inl l)] [] h Q := by
  refine av_wp_sqF ck_51 3 (pc' := 25) (lv' := [some (.inr (.inr (.inl (some (26))))), some (.inr (.inr (.inl (some (b))))), some (.inr (.inr (.inl none))), some (.inl m), some (.inl l)]) (st' := [.inl (0)]) (h' := h) rfl ?_
  refine av_wp_ret (v := some (.inl (0))) (ck_51 _ _ rfl) rfl rfl ?_
  exact hq

set_option maxRecDepth 100000 in
set_option maxHeartbeats 4000000 in
theorem cx_49 {h : av_H} {U : Nat → Nat → Int} {S : Nat → Nat} {n : Int} {sr nd : Nat → Int} (C : CJ U S n sr nd h) (k : Int) (qk : -2147483648 ≤ k ∧ k ≤ 2147483647) (l : Int) (ql : -2147483648 ≤ l ∧ l ≤ 2147483647) (CR : CRT U S n (hF h 3 4) (fun k => hA h (6 + k))) (SU : SUA U S n (hF h 3 4) (fun k => hA h (6 + k)) sr) {Q : Option av_V → av_H → Prop} (hq0 : (k < 0 ∨ n ≤ k ∨ (cbv (U (Int.toNat k)) (S (Int.toNat k))) = -1 ∨ l < 0 ∨ hF h 3 4 ≤ l) → Q (some (.inl 0)) h) (hq1 : (0 ≤ k ∧ k < n) → (cbv (U (Int.toNat k)) (S (Int.toNat k))) ≠ -1 → (0 ≤ l ∧ l < hF h 3 4) → ∀ h' sr' nd' t c a', CJ U S n sr' nd' h' → FP 35 h h' → SUA U S n (hF h 3 4) (fun k => hA h (6 + k)) sr' → EB 35 t c (S (Int.toNat k)) (6 + Int.toNat l) (cbv (U (Int.toNat k)) (S (Int.toNat k))) (U (Int.toNat k)) (hA h (6 + Int.toNat l)) a' (hF h' 35 13) (hF h' 35 14) (hF h' 35 15) h' → HZ (U (Int.toNat k)) a' → TKR (U (Int.toNat k)) (hA h (6 + Int.toNat l)) (bxx U S (hA h (6 + Int.toNat l)) (Int.toNat k)) (S (Int.toNat k)) a' → Q (some (.inl 1)) h') : av_wp none cd_49 0 [some (.inr (.inr (.inl (some (26))))), some (.inl k), some (.inl l)] [] h Q := by
  have F := Fr_rf h
  have nr := C.2.1.2.1
  refine av_wp_sqF ck_49 2 (pc' := 2) (lv' := [some (.inr (.inr (.inl (some (26))))), some (.inl k), some (.inl l)]) (st' := [.inr (.inr (.inl (some (26)))), .inr (.inr (.inl (some (26))))]) (h' := h) rfl ?_
  refine wq_gr (p' := 5) (ck_49 _ _ rfl) rfl (congrArg Prod.fst (ly_k C.1.1 26 rfl)) rfl (ly_g C.1.1 26 1 35 rfl) ?_
  refine av_wp_sqF ck_49 1 (pc' := 6) (lv' := [some (.inr (.inr (.inl (some (26))))), some (.inl k), some (.inl l)]) (st' := [.inr (.inr (.inl (some (26)))), .inr (.inr (.inl (some (35)))), .inr (.inr (.inl (some (26))))]) (h' := h) rfl ?_
  refine wq_gr (p' := 9) (ck_49 _ _ rfl) rfl (congrArg Prod.fst (ly_k C.1.1 26 rfl)) rfl (ly_g C.1.1 26 0 3 rfl) ?_
  refine av_wp_sqF ck_49 1 (pc' := 10) (lv' := [some (.inr (.inr (.inl (some (26))))), some (.inl k), some (.inl l)]) (st' := [.inl k, .inr (.inr (.inl (some (3)))), .inr (.inr (.inl (some (35)))), .inr (.inr (.inl (some (26))))]) (h' := h) rfl ?_
  refine wq_cv (p' := 13) (av_qc (.invokevirtual 76) 69 1 0 5) 2 cd_69 [.inl k] (3) 5 [some (.inr (.inr (.inl (some (3))))), some (.inl k)] (ck_49 _ _ rfl) rfl rfl pp_69 rfl rfl rfl (congrArg Prod.fst (ly_k C.1.1 3 rfl)) rfl rfl rfl rfl ?_
  refine cz_69 C (k) (by omega) (fun z1 => ?_) (fun z1 z2 t3 c4 y5 y6 => ?_)
  · show av_wp _ cd_49 13 [some (.inr (.inr (.inl (some (26))))), some (.inl k), some (.inl l)] [.inr (.inr (.inl none)), .inr (.inr (.inl (some (35)))), .inr (.inr (.inl (some (26))))] h _
    refine av_wp_sqF ck_49 2 (pc' := 15) (lv' := [some (.inr (.inr (.inl (some (26))))), some (.inl k), some (.inl l)]) (st' := [.inl l, .inl k, .inr (.inr (.inl none)), .inr (.inr (.inl (some (35)))), .inr (.inr (.inl (some (26))))]) (h' := h) rfl ?_
    refine wq_cv (p' := 18) (av_qc (.invokevirtual 85) 51 4 0 3) 5 cd_51 [.inl l, .inl k, .inr (.inr (.inl none)), .inr (.inr (.inl (some (35))))] (26) 3 [some (.inr (.inr (.inl (some (26))))), some (.inr (.inr (.inl (some (35))))), some (.inr (.inr (.inl none))), some (.inl k), some (.inl l)] (ck_49 _ _ rfl) rfl rfl pp_51 rfl rfl rfl (congrArg Prod.fst (ly_k C.1.1 26 rfl)) rfl rfl rfl rfl ?_
    refine cz_51n C ?_
    show av_wp _ cd_49 18 [some (.inr (.inr (.inl (some (26))))), some (.inl k), some (.inl l)] [.inl (0)] h _
    refine av_wp_ret (v := some (.inl (0))) (ck_49 _ _ rfl) rfl rfl ?_
    exact hq0 (by omega)
  · have g7 := co_s12 y5
    have g8 := co_cbr y5
    show av_wp _ cd_49 13 [some (.inr (.inr (.inl (some (26))))), some (.inl k), some (.inl l)] [.inr (.inr (.inl (some (t3)))), .inr (.inr (.inl (some (35)))), .inr (.inr (.inl (some (26))))] h _
    refine av_wp_sqF ck_49 2 (pc' := 15) (lv' := [some (.inr (.inr (.inl (some (26))))), some (.inl k), some (.inl l)]) (st' := [.inl l, .inl k, .inr (.inr (.inl (some (t3)))), .inr (.inr (.inl (some (35)))), .inr (.inr (.inl (some (26))))]) (h' := h) rfl ?_
    refine wq_cv (p' := 18) (av_qc (.invokevirtual 85) 51 4 0 3) 5 cd_51 [.inl l, .inl k, .inr (.inr (.inl (some (t3)))), .inr (.inr (.inl (some (35))))] (26) 3 [some (.inr (.inr (.inl (some (26))))), some (.inr (.inr (.inl (some (35))))), some (.inr (.inr (.inl (some (t3))))), some (.inl k), some (.inl l)] (ck_49 _ _ rfl) rfl rfl pp_51 rfl rfl rfl (congrArg Prod.fst (ly_k C.1.1 26 rfl)) rfl rfl rfl rfl ?_
    refine cz_51 C (Or.inl rfl) y5 y6 (k) (by omega) (by omega) CR.1 (fun q hq => (CR.1 (Int.toNat k) (by omega)).2.2.1 q hq |> fun w => ⟨w.1, by omega⟩) CR.2.1 CR.2.2.1 (l) (by omega) SU (fun l h1 h2 => (rl_8 (CR.2.2.2 l h1 h2)).1) (fun z9 => ?_) (fun z9 z10 z11 h12 r13 n14 a15 C16 F17 U18 E19 Z20 T21 => ?_)
    · show av_wp _ cd_49 18 [some (.inr (.inr (.inl (some (26))))), some (.inl k), some (.inl l)] [.inl (0)] h _
      refine av_wp_ret (v := some (.inl (0))) (ck_49 _ _ rfl) rfl rfl ?_
      exact hq0 (by omega)
    · show av_wp _ cd_49 18 [some (.inr (.inr (.inl (some (26))))), some (.inl k), some (.inl l)] [.inl (1)] h12 _
      refine av_wp_ret (v := some (.inl (1))) (ck_49 _ _ rfl) rfl rfl ?_
      exact hq1 (by omega) (by omega) (by omega) h12 _ _ _ _ _ C16 F17 U18 E19 Z20 T21

set_option maxRecDepth 100000 in
set_option maxHeartbeats 4000000 in
theorem cx_109 {h : av_H} {U : Nat → Nat → Int} {S : Nat → Nat} {n : Int} {sr nd : Nat → Int} (C : CJ U S n sr nd h) (k : Int) (qk : -2147483648 ≤ k ∧ k ≤ 2147483647) (l : Int) (ql : -2147483648 ≤ l ∧ l ≤ 2147483647) (w : Int) (qw : -2147483648 ≤ w ∧ w ≤ 2147483647) (CR : CRT U S n (hF h 3 4) (fun k => hA h (6 + k))) (SU : SUA U S n (hF h 3 4) (fun k => hA h (6 + k)) sr) {Q : Option av_V → av_H → Prop} (hq : ∀ (v : Int) h' sr' nd', CJ U S n sr' nd' h' → Fr h h' → SUA U S n (hF h 3 4) (fun k => hA h (6 + k)) sr' → RSP (okx U S n (hF h 3 4) k l 0 ∧ (0 ≤ w ∧ w ≤ 4)) (-2) (ta (fun q => (bgn (U (Int.toNat k)) (hA h (6 + Int.toNat l)) (bxx U S (hA h (6 + Int.toNat l)) (Int.toNat k)) (S (Int.toNat k)) q).2.2) (Int.toNat (cbv (U (Int.toNat k)) (S (Int.toNat k)))) (Int.toNat w)) v → Q (some (.inl v)) h') : av_wp none cd_109 0 [some (.inr (.inr (.inl (some (0))))), some (.inl k), some (.inl l), some (.inl w)] [] h Q := by
  have F := Fr_rf h
  have nr := C.2.1.2.1
  refine av_wp_sqF ck_109 1 (pc' := 1) (lv' := [some (.inr (.inr (.inl (some (0))))), some (.inl k), some (.inl l), some (.inl w)]) (st' := [.inl w]) (h' := h) rfl ?_
  refine wq_k1 (p' := 4) (ck_109 _ _ rfl) rfl ⟨by omega, by omega⟩ (fun c1 => ?_) (fun c2 => ?_)
  · have c1 : w < (0) := c1
    refine av_wp_sqF ck_109 1 (pc' := 23) (lv' := [some (.inr (.inr (.inl (some (0))))), some (.inl k), some (.inl l), some (.inl w)]) (st' := [.inl (-2)]) (h' := h) rfl ?_
    refine av_wp_ret (v := some (.inl (-2))) (ck_109 _ _ rfl) rfl rfl ?_
    exact hq _ h _ _ C F SU (Or.inr ⟨fun z => by have z1 := z.1; unfold okx at z1; omega, rfl⟩)
  · have c2 : (0) ≤ w := c2
    refine av_wp_sqF ck_109 2 (pc' := 6) (lv' := [some (.inr (.inr (.inl (some (0))))), some (.inl k), some (.inl l), some (.inl w)]) (st' := [.inl (5), .inl w]) (h' := h) rfl ?_
    refine wq_k2 (p' := 9) (ck_109 _ _ rfl) rfl ⟨by omega, by omega⟩ ⟨by omega, by omega⟩ (fun c3 => ?_) (fun c4 => ?_)
    · have c3 : (5) ≤ w := c3
      refine av_wp_sqF ck_109 1 (pc' := 23) (lv' := [some (.inr (.inr (.inl (some (0))))), some (.inl k), some (.inl l), some (.inl w)]) (st' := [.inl (-2)]) (h' := h) rfl ?_
      refine av_wp_ret (v := some (.inl (-2))) (ck_109 _ _ rfl) rfl rfl ?_
      exact hq _ h _ _ C F SU (Or.inr ⟨fun z => by have z1 := z.1; unfold okx at z1; omega, rfl⟩)
    · have c4 : w < (5) := c4
      refine av_wp_sqF ck_109 1 (pc' := 10) (lv' := [some (.inr (.inr (.inl (some (0))))), some (.inl k), some (.inl l), some (.inl w)]) (st' := [.inr (.inr (.inl (some (0))))]) (h' := h) rfl ?_
      refine wq_gr (p' := 13) (ck_109 _ _ rfl) rfl (congrArg Prod.fst (ly_k C.1.1 0 rfl)) rfl (ly_g C.1.1 0 5 26 rfl) ?_
      refine av_wp_sqF ck_109 2 (pc' := 15) (lv' := [some (.inr (.inr (.inl (some (0))))), some (.inl k), some (.inl l), some (.inl w)]) (st' := [.inl l, .inl k, .inr (.inr (.inl (some (26))))]) (h' := h) rfl ?_
      refine wq_cv (p' := 18) (av_qc (.invokevirtual 203) 49 2 0 3) 3 cd_49 [.inl l, .inl k] (26) 3 [some (.inr (.inr (.inl (some (26))))), some (.inl k), some (.inl l)] (ck_109 _ _ rfl) rfl rfl pp_49 rfl rfl rfl (congrArg Prod.fst (ly_k C.1.1 26 rfl)) rfl rfl rfl rfl ?_
      refine cx_49 C (k) (by omega) (l) (by omega) CR SU (fun z5 => ?_) (fun z5 z6 z7 h8 r9 n10 t11 c12 a13 C14 F15 U16 E17 Z18 T19 => ?_)
      · show av_wp _ cd_109 18 [some (.inr (.inr (.inl (some (0))))), some (.inl k), some (.inl l), some (.inl w)] [.inl (0)] h _
        refine av_wp_sqF ck_109 2 (pc' := 23) (lv' := [some (.inr (.inr (.inl (some (0))))), some (.inl k), some (.inl l), some (.inl w)]) (st' := [.inl (-2)]) (h' := h) rfl ?_
        refine av_wp_ret (v := some (.inl (-2))) (ck_109 _ _ rfl) rfl rfl ?_
        exact hq _ h _ _ C F SU (Or.inr ⟨fun z => by have z1 := z.1; unfold okx at z1; omega, rfl⟩)
      · have X20 : SQ U S n r9 n10 t11 c12 (S (Int.toNat k)) (6 + Int.toNat l) (cbv (U (Int.toNat k)) (S (Int.toNat k))) (U (Int.toNat k)) (hA h (6 + Int.toNat l)) (bxx U S (hA h (6 + Int.toNat l)) (Int.toNat k)) a13 (hF h8 35 13) (hF h8 35 14) (hF h8 35 15) (hA h8 31 0) (hA h8 31 1) (hA h8 31 2) (hA h8 31 3) (hA h8 31 4) h h8 := ⟨C14, E17, T19, Z18, F15.1, rfl, rfl, rfl, rfl, rfl⟩
        have G21 := CWF_sea (ro := (hA h (6 + Int.toNat l))) (CR.1 (Int.toNat k) (by omega)) (rl_8 (CR.2.2.2 l (by omega) (by omega))).1 (brv_b (U (Int.toNat k)) (srt U S (hA h (6 + Int.toNat l)) (Int.toNat k)))
        have H22 : ∀ x : Int, 0 ≤ x → x ≤ 1023 → (bgn (U (Int.toNat k)) (hA h (6 + Int.toNat l)) (bxx U S (hA h (6 + Int.toNat l)) (Int.toNat k)) (S (Int.toNat k)) x).2.2 = 9999 ∨ (0 ≤ (bgn (U (Int.toNat k)) (hA h (6 + Int.toNat l)) (bxx U S (hA h (6 + Int.toNat l)) (Int.toNat k)) (S (Int.toNat k)) x).2.2 ∧ (bgn (U (Int.toNat k)) (hA h (6 + Int.toNat l)) (bxx U S (hA h (6 + Int.toNat l)) (Int.toNat k)) (S (Int.toNat k)) x).2.2 < 9999) := fun x h0 h1 => bgn_0 (HBd_g (x := x) (CR.1 (Int.toNat k) (by omega)).2.2.2.2.2 (fun q hq i hi => arr_0 (by have := (CR.1 (Int.toNat k) (by omega)).2.1.2; omega)) ⟨h0, h1⟩)
        have q23 := cbv_d (U (Int.toNat k)) (S (Int.toNat k))
        have q23a := CR.2.2.1 (Int.toNat k) (by omega)
        show av_wp _ cd_109 18 [some (.inr (.inr (.inl (some (0))))), some (.inl k), some (.inl l), some (.inl w)] [.inl (1)] h8 _
        refine av_wp_sqF ck_109 2 (pc' := 25) (lv' := [some (.inr (.inr (.inl (some (0))))), some (.inl k), some (.inl l), some (.inl w)]) (st' := [.inr (.inr (.inl (some (0))))]) (h' := h8) rfl ?_
        refine wq_gr (p' := 28) (ck_109 _ _ rfl) rfl (congrArg Prod.fst (ly_k C14.1.1 0 rfl)) rfl (ly_g C14.1.1 0 5 26 rfl) ?_
        refine wq_cv (p' := 31) (av_qc (.invokevirtual 207) 56 0 0 3) 2 cd_56 [] (26) 3 [some (.inr (.inr (.inl (some (26))))), none] (ck_109 _ _ rfl) rfl rfl pp_56 rfl rfl rfl (congrArg Prod.fst (ly_k C14.1.1 26 rfl)) rfl rfl rfl rfl ?_
        refine cx_56 X20 G21 H22 (by omega) (fun h24 a25 m26 m27 m28 t29 t30 t31 t32 t33 X34 Y35 => ?_)
        show av_wp _ cd_109 31 [some (.inr (.inr (.inl (some (0))))), some (.inl k), some (.inl l), some (.inl w)] [] h24 _
        refine av_wp_sqF ck_109 1 (pc' := 32) (lv' := [some (.inr (.inr (.inl (some (0))))), some (.inl k), some (.inl l), some (.inl w)]) (st' := [.inr (.inr (.inl (some (0))))]) (h' := h24) rfl ?_
        refine wq_gr (p' := 35) (ck_109 _ _ rfl) rfl (congrArg Prod.fst (ly_k X34.1.1.1 0 rfl)) rfl (ly_g X34.1.1.1 0 5 26 rfl) ?_
        refine wq_gr (p' := 38) (ck_109 _ _ rfl) rfl (congrArg Prod.fst (ly_k X34.1.1.1 26 rfl)) rfl (ly_g X34.1.1.1 26 8 31 rfl) ?_
        refine av_wp_sqF ck_109 1 (pc' := 39) (lv' := [some (.inr (.inr (.inl (some (0))))), some (.inl k), some (.inl l), some (.inl w)]) (st' := [.inl w, .inr (.inr (.inl (some (31))))]) (h' := h24) rfl ?_
        obtain ⟨v36, e37⟩ : ∃ v, hA h24 31 (Int.toNat (w)) = v := ⟨_, rfl⟩
        refine wq_al (p' := 40) (n := 5) (ck_109 _ _ rfl) rfl (ly_k X34.1.1.1 31 rfl) (by omega) (e37) ?_
        refine av_wp_ret (v := some (.inl v36)) (ck_109 _ _ rfl) rfl rfl ?_
        exact hq _ h24 _ _ X34.1 X34.2.2.2.2.1 U16 (Or.inl ⟨⟨by unfold okx; omega, by omega⟩, (t5_v X34.2.2.2.2.2 Y35 e37 (by omega))⟩)
end
