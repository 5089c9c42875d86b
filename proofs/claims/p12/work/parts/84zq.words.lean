/-! WORDS, exactly -/
set_option maxRecDepth 100000 in
set_option maxHeartbeats 4000000 in
theorem cx_31 {g h : av_H} {b t c s r : Nat} {cb : Int} {u ro : Nat → Int} {a : Nat → Nat → Int} {mb mo ma : Int} (E : EB b t c s r cb u ro a mb mo ma h) (F : FN b g h) (W : UW u s) (k : Int) (qk : -1 ≤ k ∧ k < (s : Int)) (w : Int) (qw : 0 ≤ w ∧ w ≤ 4) {Q : Option av_V → av_H → Prop} (hq : ∀ v : Int, v = wov u (Int.toNat w) 12 k → Q (some (.inl v)) h) : av_wp none cd_31 0 [some (.inr (.inr (.inl (some (t))))), some (.inl k), some (.inl w), none, none, none] [] h Q := by
  have s12 := co_s12 (ib_co E.1)
  have cbr := co_cbr (ib_co E.1)
  have mbr := eb_xr E
  have mor := eb_yr E
  refine av_wp_seq 4 (pc' := 5) (lv' := [some (.inr (.inr (.inl (some (t))))), some (.inl k), some (.inl w), some (.inl k), some (.inl (0)), none]) (st' := []) (h' := h) rfl ?_
  have L5 : ∀ (m4 : Nat) (k1 : Int) (k2 : Int) (a3 : Option av_V), av_lg a3 = false → wov u (Int.toNat w) 12 k = wov u (Int.toNat w) (Int.toNat (12 - k2)) k1 → k1 < (s : Int) → (-1 ≤ k1 ∧ k1 ≤ 11) → (0 ≤ k2 ∧ k2 ≤ 12) → (12 - k2).toNat = m4 → av_wp none cd_31 5 [some (.inr (.inr (.inl (some (t))))), some (.inl k), some (.inl w), some (.inl k1), some (.inl k2), a3] [] h Q := by
    intro m4
    induction m4 using Nat.strongRecOn with
    | _ m4 I6 =>
      intro k1 k2 a3 g8 g9 g10 g11 g12 e7
      have la3 := g8
      refine av_wp_seq 2 (pc' := 9) (lv' := [some (.inr (.inr (.inl (some (t))))), some (.inl k), some (.inl w), some (.inl k1), some (.inl k2), a3]) (st' := [.inl (12), .inl k2]) (h' := h) rfl ?_
      refine wq_k2 (p' := 12) rfl rfl ⟨by omega, by omega⟩ ⟨by omega, by omega⟩ (fun c13 => ?_) (fun c14 => ?_)
      · have c13 : (12) ≤ k2 := c13
        refine av_wp_seq 1 (pc' := 68) (lv' := [some (.inr (.inr (.inl (some (t))))), some (.inl k), some (.inl w), some (.inl k1), some (.inl k2), a3]) (st' := [.inl (-1)]) (h' := h) rfl ?_
        refine av_wp_ret (v := some (.inl (-1))) rfl rfl rfl ?_
        exact hq _ (by rw [g9, show Int.toNat (12 - k2) = 0 by omega]; rfl)
      · have c14 : k2 < (12) := c14
        refine av_wp_seq 2 (pc' := 14) (lv' := [some (.inr (.inr (.inl (some (t))))), some (.inl k), some (.inl w), some (.inl k1), some (.inl k2), a3]) (st' := [.inl k1, .inr (.inr (.inl (some (t))))]) (h' := h) rfl ?_
        refine wq_cv (p' := 17) (av_qc (.invokevirtual 40) 28 1 0 1) 2 cd_28 [.inl k1] (t) 1 [some (.inr (.inr (.inl (some (t))))), some (.inl k1)] rfl rfl rfl pp_28 rfl rfl rfl (congrArg Prod.fst (co_kt (ib_co E.1))) rfl rfl rfl rfl ?_
        refine ct_28 (ib_co E.1) (k1) (by omega) (fun v15 p16 => ?_)
        show av_wp _ cd_31 17 [some (.inr (.inr (.inl (some (t))))), some (.inl k), some (.inl w), some (.inl k1), some (.inl k2), a3] [.inl v15] h _
        refine wq_k1 (p' := 20) rfl rfl ⟨by omega, by omega⟩ (fun c17 => ?_) (fun c18 => ?_)
        · have c17 : v15 = (0) := c17
          refine av_wp_seq 1 (pc' := 68) (lv' := [some (.inr (.inr (.inl (some (t))))), some (.inl k), some (.inl w), some (.inl k1), some (.inl k2), a3]) (st' := [.inl (-1)]) (h' := h) rfl ?_
          refine av_wp_ret (v := some (.inl (-1))) rfl rfl rfl ?_
          exact hq _ (by rw [g9]; exact (wov_m (by omega)).symm)
        · have c18 : v15 ≠ (0) := c18
          refine av_wp_seq 5 (pc' := 26) (lv' := [some (.inr (.inr (.inl (some (t))))), some (.inl k), some (.inl w), some (.inl k1), some (.inl k2), a3]) (st' := [.inl ((10) + w), .inl k1, .inr (.inr (.inl (some (t))))]) (h' := h) rfl ?_
          refine wq_cv (p' := 29) (av_qc (.invokevirtual 44) 29 2 0 1) 3 cd_29 [.inl ((10) + w), .inl k1] (t) 1 [some (.inr (.inr (.inl (some (t))))), some (.inl k1), some (.inl ((10) + w))] rfl rfl rfl pp_29 rfl rfl rfl (congrArg Prod.fst (co_kt (ib_co E.1))) rfl rfl rfl rfl ?_
          obtain ⟨v19, e20⟩ : ∃ v, u (21 * Int.toNat (k1) + 10 + Int.toNat w) = v := ⟨_, rfl⟩
          have g21 := eb_uv E (21 * Int.toNat (k1) + 10 + Int.toNat w)
          rw [e20] at g21
          refine xc_29 (ib_co E.1) (k1) (by omega) (10 + Int.toNat w) (by omega) (by omega) ((congrFun (eb_u E) _).trans ((congrArg u (by omega)).trans e20)) ?_
          show av_wp _ cd_31 29 [some (.inr (.inr (.inl (some (t))))), some (.inl k), some (.inl w), some (.inl k1), some (.inl k2), a3] [.inl v19] h _
          refine av_wp_seq 3 (pc' := 34) (lv' := [some (.inr (.inr (.inl (some (t))))), some (.inl k), some (.inl w), some (.inl k1), some (.inl k2), some (.inl v19)]) (st' := [.inl (-1), .inl v19]) (h' := h) rfl ?_
          refine wq_k2 (p' := 37) rfl rfl ⟨by omega, by omega⟩ ⟨by omega, by omega⟩ (fun c22 => ?_) (fun c23 => ?_)
          · have c22 : v19 = (-1) := c22
            refine av_wp_seq 3 (pc' := 43) (lv' := [some (.inr (.inr (.inl (some (t))))), some (.inl k), some (.inl w), some (.inl k1), some (.inl k2), some (.inl v19)]) (st' := [.inl (0), .inl k1, .inr (.inr (.inl (some (t))))]) (h' := h) rfl ?_
            refine wq_cv (p' := 46) (av_qc (.invokevirtual 44) 29 2 0 1) 3 cd_29 [.inl (0), .inl k1] (t) 1 [some (.inr (.inr (.inl (some (t))))), some (.inl k1), some (.inl (0))] rfl rfl rfl pp_29 rfl rfl rfl (congrArg Prod.fst (co_kt (ib_co E.1))) rfl rfl rfl rfl ?_
            obtain ⟨v24, e25⟩ : ∃ v, u (21 * Int.toNat (k1) + 0) = v := ⟨_, rfl⟩
            have g26 := eb_uv E (21 * Int.toNat (k1) + 0)
            rw [e25] at g26
            refine xc_29 (ib_co E.1) (k1) (by omega) 0 (by omega) rfl ((congrFun (eb_u E) _).trans e25) ?_
            show av_wp _ cd_31 46 [some (.inr (.inr (.inl (some (t))))), some (.inl k), some (.inl w), some (.inl k1), some (.inl k2), some (.inl v19)] [.inl v24] h _
            refine av_wp_seq 1 (pc' := 47) (lv' := [some (.inr (.inr (.inl (some (t))))), some (.inl k), some (.inl w), some (.inl k1), some (.inl k2), some (.inl v19)]) (st' := [.inl (3), .inl v24]) (h' := h) rfl ?_
            refine wq_k2 (p' := 50) rfl rfl ⟨by omega, by omega⟩ ⟨by omega, by omega⟩ (fun c27 => ?_) (fun c28 => ?_)
            · have c27 : v24 ≠ (3) := c27
              refine av_wp_seq 4 (pc' := 5) (lv' := [some (.inr (.inr (.inl (some (t))))), some (.inl k), some (.inl w), some (.inl (-1)), some (.inl (k2 + (1))), some (.inl v19)]) (st' := []) (h' := h) rfl ?_
              exact I6 _ (by omega) ((-1)) ((k2 + (1))) (some (.inl v19)) rfl (by rw [g9, show Int.toNat (12 - k2) = Int.toNat (12 - (k2 + (1))) + 1 by omega]; exact (wov_n (by omega) e20 (by omega) e25 (by omega)).trans (wov_m (by omega)).symm) (by omega) (by omega) (by omega) rfl
            · have c28 : v24 = (3) := c28
              refine av_wp_seq 3 (pc' := 53) (lv' := [some (.inr (.inr (.inl (some (t))))), some (.inl k), some (.inl w), some (.inl k1), some (.inl k2), some (.inl v19)]) (st' := [.inl (3), .inl k1, .inr (.inr (.inl (some (t))))]) (h' := h) rfl ?_
              refine wq_cv (p' := 56) (av_qc (.invokevirtual 44) 29 2 0 1) 3 cd_29 [.inl (3), .inl k1] (t) 1 [some (.inr (.inr (.inl (some (t))))), some (.inl k1), some (.inl (3))] rfl rfl rfl pp_29 rfl rfl rfl (congrArg Prod.fst (co_kt (ib_co E.1))) rfl rfl rfl rfl ?_
              obtain ⟨v29, e30⟩ : ∃ v, u (21 * Int.toNat (k1) + 3) = v := ⟨_, rfl⟩
              have g31 := eb_uv E (21 * Int.toNat (k1) + 3)
              rw [e30] at g31
              refine xc_29 (ib_co E.1) (k1) (by omega) 3 (by omega) rfl ((congrFun (eb_u E) _).trans e30) ?_
              have g32 := (W (Int.toNat (k1)) (by omega)).2.1
              rw [e30] at g32
              show av_wp _ cd_31 56 [some (.inr (.inr (.inl (some (t))))), some (.inl k), some (.inl w), some (.inl k1), some (.inl k2), some (.inl v19)] [.inl v29] h _
              refine av_wp_seq 4 (pc' := 5) (lv' := [some (.inr (.inr (.inl (some (t))))), some (.inl k), some (.inl w), some (.inl v29), some (.inl (k2 + (1))), some (.inl v19)]) (st' := []) (h' := h) rfl ?_
              exact I6 _ (by omega) (v29) ((k2 + (1))) (some (.inl v19)) rfl (by rw [g9, show Int.toNat (12 - k2) = Int.toNat (12 - (k2 + (1))) + 1 by omega]; exact wov_s (by omega) e20 (by omega) e25 (by omega) e30) (by omega) (by omega) (by omega) rfl
          · have c23 : v19 ≠ (-1) := c23
            refine av_wp_seq 1 (pc' := 39) (lv' := [some (.inr (.inr (.inl (some (t))))), some (.inl k), some (.inl w), some (.inl k1), some (.inl k2), some (.inl v19)]) (st' := [.inl v19]) (h' := h) rfl ?_
            refine av_wp_ret (v := some (.inl v19)) rfl rfl rfl ?_
            exact hq _ (by rw [g9, show Int.toNat (12 - k2) = Int.toNat (12 - (k2 + 1)) + 1 by omega]; exact (wov_y (by omega) e20 (by omega)).symm)
  exact L5 _ (k) ((0)) (none) rfl rfl (by omega) (by omega) (by omega) rfl

set_option maxRecDepth 100000 in
set_option maxHeartbeats 4000000 in
theorem cx_17 {g h : av_H} {b t c s r : Nat} {cb : Int} {u ro : Nat → Int} {a : Nat → Nat → Int} {mb mo ma : Int} (E : EB b t c s r cb u ro a mb mo ma h) (F : FN b g h) (W : UW u s) (R : RLW ro) (hb : mb < (s : Int)) (ho : mo < (s : Int)) (w : Int) (qw : 0 ≤ w ∧ w ≤ 4) {Q : Option av_V → av_H → Prop} (hq : ∀ v : Int, v = bwv u ro mb mo (Int.toNat w) → Q (some (.inl v)) h) : av_wp none cd_17 0 [some (.inr (.inr (.inl (some (b))))), some (.inl w), none, none] [] h Q := by
  have s12 := co_s12 (ib_co E.1)
  have cbr := co_cbr (ib_co E.1)
  have mbr := eb_xr E
  have mor := eb_yr E
  refine av_wp_seq 1 (pc' := 1) (lv' := [some (.inr (.inr (.inl (some (b))))), some (.inl w), none, none]) (st' := [.inr (.inr (.inl (some (b))))]) (h' := h) rfl ?_
  refine wq_gr (p' := 4) rfl rfl (congrArg Prod.fst (ib_k0 E.1)) rfl (ib_t E.1) ?_
  refine av_wp_seq 1 (pc' := 5) (lv' := [some (.inr (.inr (.inl (some (b))))), some (.inl w), none, none]) (st' := [.inr (.inr (.inl (some (b)))), .inr (.inr (.inl (some (t))))]) (h' := h) rfl ?_
  refine wq_gi (p' := 8) rfl rfl (congrArg Prod.fst (ib_k0 E.1)) rfl (eb_x E) ?_
  refine av_wp_seq 1 (pc' := 9) (lv' := [some (.inr (.inr (.inl (some (b))))), some (.inl w), none, none]) (st' := [.inl (0), .inl mb, .inr (.inr (.inl (some (t))))]) (h' := h) rfl ?_
  refine wq_cv (p' := 12) (av_qc (.invokevirtual 74) 29 2 0 1) 3 cd_29 [.inl (0), .inl mb] (t) 1 [some (.inr (.inr (.inl (some (t))))), some (.inl mb), some (.inl (0))] rfl rfl rfl pp_29 rfl rfl rfl (congrArg Prod.fst (co_kt (ib_co E.1))) rfl rfl rfl rfl ?_
  refine xc_29b (ib_co E.1) (mb) (by omega) 0 (by omega) rfl (fun z1 => ?_) (fun z2 z3 v4 e5 => ?_)
  · show av_wp _ cd_17 12 [some (.inr (.inr (.inl (some (b))))), some (.inl w), none, none] [.inl (-1)] h _
    refine av_wp_seq 12 (pc' := 65) (lv' := [some (.inr (.inr (.inl (some (b))))), some (.inl w), some (.inl (0)), some (.inl (-1))]) (st' := [.inl (-1)]) (h' := h) rfl ?_
    refine av_wp_seq 3 (pc' := 85) (lv' := [some (.inr (.inr (.inl (some (b))))), some (.inl w), some (.inl (0)), some (.inl (-1))]) (st' := [.inr (.inr (.inl (some (b))))]) (h' := h) rfl ?_
    refine wq_gr (p' := 88) rfl rfl (congrArg Prod.fst (ib_k0 E.1)) rfl (ib_t E.1) ?_
    refine av_wp_seq 1 (pc' := 89) (lv' := [some (.inr (.inr (.inl (some (b))))), some (.inl w), some (.inl (0)), some (.inl (-1))]) (st' := [.inr (.inr (.inl (some (b)))), .inr (.inr (.inl (some (t))))]) (h' := h) rfl ?_
    refine wq_gi (p' := 92) rfl rfl (congrArg Prod.fst (ib_k0 E.1)) rfl (eb_y E) ?_
    refine av_wp_seq 1 (pc' := 93) (lv' := [some (.inr (.inr (.inl (some (b))))), some (.inl w), some (.inl (0)), some (.inl (-1))]) (st' := [.inl w, .inl mo, .inr (.inr (.inl (some (t))))]) (h' := h) rfl ?_
    refine wq_cv (p' := 96) (av_qc (.invokevirtual 139) 31 2 0 1) 6 cd_31 [.inl w, .inl mo] (t) 1 [some (.inr (.inr (.inl (some (t))))), some (.inl mo), some (.inl w), none, none, none] rfl rfl rfl pp_31 rfl rfl rfl (congrArg Prod.fst (co_kt (ib_co E.1))) rfl rfl rfl rfl ?_
    refine cx_31 E F W (mo) (by omega) (w) (by omega) (fun v7 p8 => ?_)
    show av_wp _ cd_17 96 [some (.inr (.inr (.inl (some (b))))), some (.inl w), some (.inl (0)), some (.inl (-1))] [.inl v7] h _
    refine av_wp_ret (v := some (.inl v7)) rfl rfl rfl ?_
    exact hq _ (by unfold bwv; rw [if_neg (fun z => by obtain ⟨z1, z2, z3, z4⟩ := z; omega)]; exact p8)
  · rw [eb_u E] at e5
    have g6 := eb_uv E (21 * Int.toNat (mb) + 0)
    rw [e5] at g6
    show av_wp _ cd_17 12 [some (.inr (.inr (.inl (some (b))))), some (.inl w), none, none] [.inl v4] h _
    refine av_wp_seq 1 (pc' := 13) (lv' := [some (.inr (.inr (.inl (some (b))))), some (.inl w), none, none]) (st' := [.inl (3), .inl v4]) (h' := h) rfl ?_
    refine wq_k2 (p' := 16) rfl rfl ⟨by omega, by omega⟩ ⟨by omega, by omega⟩ (fun c9 => ?_) (fun c10 => ?_)
    · have c9 : v4 ≠ (3) := c9
      refine av_wp_seq 12 (pc' := 84) (lv' := [some (.inr (.inr (.inl (some (b))))), some (.inl w), some (.inl (0)), some (.inl (-1))]) (st' := []) (h' := h) rfl ?_
      refine av_wp_seq 1 (pc' := 85) (lv' := [some (.inr (.inr (.inl (some (b))))), some (.inl w), some (.inl (0)), some (.inl (-1))]) (st' := [.inr (.inr (.inl (some (b))))]) (h' := h) rfl ?_
      refine wq_gr (p' := 88) rfl rfl (congrArg Prod.fst (ib_k0 E.1)) rfl (ib_t E.1) ?_
      refine av_wp_seq 1 (pc' := 89) (lv' := [some (.inr (.inr (.inl (some (b))))), some (.inl w), some (.inl (0)), some (.inl (-1))]) (st' := [.inr (.inr (.inl (some (b)))), .inr (.inr (.inl (some (t))))]) (h' := h) rfl ?_
      refine wq_gi (p' := 92) rfl rfl (congrArg Prod.fst (ib_k0 E.1)) rfl (eb_y E) ?_
      refine av_wp_seq 1 (pc' := 93) (lv' := [some (.inr (.inr (.inl (some (b))))), some (.inl w), some (.inl (0)), some (.inl (-1))]) (st' := [.inl w, .inl mo, .inr (.inr (.inl (some (t))))]) (h' := h) rfl ?_
      refine wq_cv (p' := 96) (av_qc (.invokevirtual 139) 31 2 0 1) 6 cd_31 [.inl w, .inl mo] (t) 1 [some (.inr (.inr (.inl (some (t))))), some (.inl mo), some (.inl w), none, none, none] rfl rfl rfl pp_31 rfl rfl rfl (congrArg Prod.fst (co_kt (ib_co E.1))) rfl rfl rfl rfl ?_
      refine cx_31 E F W (mo) (by omega) (w) (by omega) (fun v11 p12 => ?_)
      show av_wp _ cd_17 96 [some (.inr (.inr (.inl (some (b))))), some (.inl w), some (.inl (0)), some (.inl (-1))] [.inl v11] h _
      refine av_wp_ret (v := some (.inl v11)) rfl rfl rfl ?_
      exact hq _ (by unfold bwv; rw [if_neg (fun z => by obtain ⟨z1, z2, z3, z4⟩ := z; rw [e5] at z2; omega)]; exact p12)
    · have c10 : v4 = (3) := c10
      refine av_wp_seq 6 (pc' := 27) (lv' := [some (.inr (.inr (.inl (some (b))))), some (.inl w), some (.inl (1)), none]) (st' := [.inr (.inr (.inl (some (b))))]) (h' := h) rfl ?_
      refine wq_gr (p' := 30) rfl rfl (congrArg Prod.fst (ib_k0 E.1)) rfl (ib_t E.1) ?_
      refine av_wp_seq 1 (pc' := 31) (lv' := [some (.inr (.inr (.inl (some (b))))), some (.inl w), some (.inl (1)), none]) (st' := [.inr (.inr (.inl (some (b)))), .inr (.inr (.inl (some (t))))]) (h' := h) rfl ?_
      refine wq_gi (p' := 34) rfl rfl (congrArg Prod.fst (ib_k0 E.1)) rfl (eb_x E) ?_
      refine av_wp_seq 3 (pc' := 38) (lv' := [some (.inr (.inr (.inl (some (b))))), some (.inl w), some (.inl (1)), none]) (st' := [.inl ((10) + w), .inl mb, .inr (.inr (.inl (some (t))))]) (h' := h) rfl ?_
      refine wq_cv (p' := 41) (av_qc (.invokevirtual 74) 29 2 0 1) 3 cd_29 [.inl ((10) + w), .inl mb] (t) 1 [some (.inr (.inr (.inl (some (t))))), some (.inl mb), some (.inl ((10) + w))] rfl rfl rfl pp_29 rfl rfl rfl (congrArg Prod.fst (co_kt (ib_co E.1))) rfl rfl rfl rfl ?_
      obtain ⟨v13, e14⟩ : ∃ v, u (21 * Int.toNat (mb) + 10 + Int.toNat w) = v := ⟨_, rfl⟩
      have g15 := eb_uv E (21 * Int.toNat (mb) + 10 + Int.toNat w)
      rw [e14] at g15
      refine xc_29 (ib_co E.1) (mb) (by omega) (10 + Int.toNat w) (by omega) (by omega) ((congrFun (eb_u E) _).trans ((congrArg u (by omega)).trans e14)) ?_
      show av_wp _ cd_17 41 [some (.inr (.inr (.inl (some (b))))), some (.inl w), some (.inl (1)), none] [.inl v13] h _
      refine av_wp_seq 4 (pc' := 48) (lv' := [some (.inr (.inr (.inl (some (b))))), some (.inl w), some (.inl (1)), some (.inl v13)]) (st' := [.inl (-1), .inl v13]) (h' := h) rfl ?_
      refine wq_k2 (p' := 51) rfl rfl ⟨by omega, by omega⟩ ⟨by omega, by omega⟩ (fun c16 => ?_) (fun c17 => ?_)
      · have c16 : v13 = (-1) := c16
        refine av_wp_seq 2 (pc' := 66) (lv' := [some (.inr (.inr (.inl (some (b))))), some (.inl w), some (.inl (1)), some (.inl v13)]) (st' := [.inl (-1), .inl v13]) (h' := h) rfl ?_
        refine wq_k2 (p' := 69) rfl rfl ⟨by omega, by omega⟩ ⟨by omega, by omega⟩ (fun c18 => ?_) (fun c19 => ?_)
        · have c18 : v13 = (-1) := c18
          refine av_wp_seq 1 (pc' := 85) (lv' := [some (.inr (.inr (.inl (some (b))))), some (.inl w), some (.inl (1)), some (.inl v13)]) (st' := [.inr (.inr (.inl (some (b))))]) (h' := h) rfl ?_
          refine wq_gr (p' := 88) rfl rfl (congrArg Prod.fst (ib_k0 E.1)) rfl (ib_t E.1) ?_
          refine av_wp_seq 1 (pc' := 89) (lv' := [some (.inr (.inr (.inl (some (b))))), some (.inl w), some (.inl (1)), some (.inl v13)]) (st' := [.inr (.inr (.inl (some (b)))), .inr (.inr (.inl (some (t))))]) (h' := h) rfl ?_
          refine wq_gi (p' := 92) rfl rfl (congrArg Prod.fst (ib_k0 E.1)) rfl (eb_y E) ?_
          refine av_wp_seq 1 (pc' := 93) (lv' := [some (.inr (.inr (.inl (some (b))))), some (.inl w), some (.inl (1)), some (.inl v13)]) (st' := [.inl w, .inl mo, .inr (.inr (.inl (some (t))))]) (h' := h) rfl ?_
          refine wq_cv (p' := 96) (av_qc (.invokevirtual 139) 31 2 0 1) 6 cd_31 [.inl w, .inl mo] (t) 1 [some (.inr (.inr (.inl (some (t))))), some (.inl mo), some (.inl w), none, none, none] rfl rfl rfl pp_31 rfl rfl rfl (congrArg Prod.fst (co_kt (ib_co E.1))) rfl rfl rfl rfl ?_
          refine cx_31 E F W (mo) (by omega) (w) (by omega) (fun v20 p21 => ?_)
          show av_wp _ cd_17 96 [some (.inr (.inr (.inl (some (b))))), some (.inl w), some (.inl (1)), some (.inl v13)] [.inl v20] h _
          refine av_wp_ret (v := some (.inl v20)) rfl rfl rfl ?_
          exact hq _ (by unfold bwv; rw [if_neg (fun z => by obtain ⟨z1, z2, z3, z4⟩ := z; rw [e5] at z2; rw [e14] at z3; omega)]; exact p21)
        · have c19 : v13 ≠ (-1) := c19
          exfalso; omega
      · have c17 : v13 ≠ (-1) := c17
        refine av_wp_seq 1 (pc' := 52) (lv' := [some (.inr (.inr (.inl (some (b))))), some (.inl w), some (.inl (1)), some (.inl v13)]) (st' := [.inr (.inr (.inl (some (b))))]) (h' := h) rfl ?_
        refine wq_gr (p' := 55) rfl rfl (congrArg Prod.fst (ib_k0 E.1)) rfl (ib_r E.1) ?_
        refine av_wp_seq 1 (pc' := 57) (lv' := [some (.inr (.inr (.inl (some (b))))), some (.inl w), some (.inl (1)), some (.inl v13)]) (st' := [.inl (10), .inr (.inr (.inl (some (r))))]) (h' := h) rfl ?_
        obtain ⟨v23, e24⟩ : ∃ v, ro 10 = v := ⟨_, rfl⟩
        have g22 := eb_rv E 10
        rw [e24] at g22
        have g25 := rl_10 R
        rw [e24] at g25
        refine wq_al (p' := 58) (n := 14) rfl rfl (ib_kr E.1) (by omega) ((congrFun (eb_ro E) _).trans e24) ?_
        refine av_wp_seq 1 (pc' := 59) (lv' := [some (.inr (.inr (.inl (some (b))))), some (.inl w), some (.inl (1)), some (.inl v13)]) (st' := [.inl (1), .inl v23]) (h' := h) rfl ?_
        refine wq_k2 (p' := 62) rfl rfl ⟨by omega, by omega⟩ ⟨by omega, by omega⟩ (fun c26 => ?_) (fun c27 => ?_)
        · have c26 : v23 ≠ (1) := c26
          refine av_wp_seq 2 (pc' := 66) (lv' := [some (.inr (.inr (.inl (some (b))))), some (.inl w), some (.inl (1)), some (.inl v13)]) (st' := [.inl (-1), .inl v13]) (h' := h) rfl ?_
          refine wq_k2 (p' := 69) rfl rfl ⟨by omega, by omega⟩ ⟨by omega, by omega⟩ (fun c28 => ?_) (fun c29 => ?_)
          · have c28 : v13 = (-1) := c28
            exfalso; omega
          · have c29 : v13 ≠ (-1) := c29
            refine av_wp_seq 1 (pc' := 70) (lv' := [some (.inr (.inr (.inl (some (b))))), some (.inl w), some (.inl (1)), some (.inl v13)]) (st' := [.inr (.inr (.inl (some (b))))]) (h' := h) rfl ?_
            refine wq_gr (p' := 73) rfl rfl (congrArg Prod.fst (ib_k0 E.1)) rfl (ib_r E.1) ?_
            refine av_wp_seq 1 (pc' := 75) (lv' := [some (.inr (.inr (.inl (some (b))))), some (.inl w), some (.inl (1)), some (.inl v13)]) (st' := [.inl (10), .inr (.inr (.inl (some (r))))]) (h' := h) rfl ?_
            obtain ⟨v31, e32⟩ : ∃ v, ro 10 = v := ⟨_, rfl⟩
            have g30 := eb_rv E 10
            rw [e32] at g30
            have g33 := rl_10 R
            rw [e32] at g33
            refine wq_al (p' := 76) (n := 14) rfl rfl (ib_kr E.1) (by omega) ((congrFun (eb_ro E) _).trans e32) ?_
            refine av_wp_seq 1 (pc' := 77) (lv' := [some (.inr (.inr (.inl (some (b))))), some (.inl w), some (.inl (1)), some (.inl v13)]) (st' := [.inl (2), .inl v31]) (h' := h) rfl ?_
            refine wq_k2 (p' := 80) rfl rfl ⟨by omega, by omega⟩ ⟨by omega, by omega⟩ (fun c34 => ?_) (fun c35 => ?_)
            · have c34 : v31 ≠ (2) := c34
              refine av_wp_seq 1 (pc' := 85) (lv' := [some (.inr (.inr (.inl (some (b))))), some (.inl w), some (.inl (1)), some (.inl v13)]) (st' := [.inr (.inr (.inl (some (b))))]) (h' := h) rfl ?_
              refine wq_gr (p' := 88) rfl rfl (congrArg Prod.fst (ib_k0 E.1)) rfl (ib_t E.1) ?_
              refine av_wp_seq 1 (pc' := 89) (lv' := [some (.inr (.inr (.inl (some (b))))), some (.inl w), some (.inl (1)), some (.inl v13)]) (st' := [.inr (.inr (.inl (some (b)))), .inr (.inr (.inl (some (t))))]) (h' := h) rfl ?_
              refine wq_gi (p' := 92) rfl rfl (congrArg Prod.fst (ib_k0 E.1)) rfl (eb_y E) ?_
              refine av_wp_seq 1 (pc' := 93) (lv' := [some (.inr (.inr (.inl (some (b))))), some (.inl w), some (.inl (1)), some (.inl v13)]) (st' := [.inl w, .inl mo, .inr (.inr (.inl (some (t))))]) (h' := h) rfl ?_
              refine wq_cv (p' := 96) (av_qc (.invokevirtual 139) 31 2 0 1) 6 cd_31 [.inl w, .inl mo] (t) 1 [some (.inr (.inr (.inl (some (t))))), some (.inl mo), some (.inl w), none, none, none] rfl rfl rfl pp_31 rfl rfl rfl (congrArg Prod.fst (co_kt (ib_co E.1))) rfl rfl rfl rfl ?_
              refine cx_31 E F W (mo) (by omega) (w) (by omega) (fun v36 p37 => ?_)
              show av_wp _ cd_17 96 [some (.inr (.inr (.inl (some (b))))), some (.inl w), some (.inl (1)), some (.inl v13)] [.inl v36] h _
              refine av_wp_ret (v := some (.inl v36)) rfl rfl rfl ?_
              exact hq _ (by unfold bwv; rw [if_neg (fun z => by obtain ⟨z1, z2, z3, z4⟩ := z; rw [e5] at z2; rw [e14] at z3; rw [e32] at z4; omega)]; exact p37)
            · have c35 : v31 = (2) := c35
              refine av_wp_seq 2 (pc' := 96) (lv' := [some (.inr (.inr (.inl (some (b))))), some (.inl w), some (.inl (1)), some (.inl v13)]) (st' := [.inl (-1)]) (h' := h) rfl ?_
              refine av_wp_ret (v := some (.inl (-1))) rfl rfl rfl ?_
              exact hq _ (by unfold bwv; rw [if_pos ⟨by omega, e5.trans (by omega), by rw [e14]; omega, by rw [e32]; omega⟩, if_neg (by rw [e32]; omega)])
        · have c27 : v23 = (1) := c27
          refine av_wp_seq 1 (pc' := 63) (lv' := [some (.inr (.inr (.inl (some (b))))), some (.inl w), some (.inl (1)), some (.inl v13)]) (st' := [.inl v13]) (h' := h) rfl ?_
          refine av_wp_ret (v := some (.inl v13)) rfl rfl rfl ?_
          exact hq _ (by unfold bwv; rw [if_pos ⟨by omega, e5.trans (by omega), by rw [e14]; omega, by rw [e24]; omega⟩, if_pos (e24.trans (by omega))]; exact e14.symm)

