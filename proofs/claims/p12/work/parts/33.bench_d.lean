set_option maxRecDepth 100000 in
set_option maxHeartbeats 4000000 in
theorem ct_25 {g h : av_H} {b t c s r : Nat} {cb : Int} (i : IB b t c s r cb h) (F : Fr1 g h) (k : Int) (x : Int) (y : Int) (q0 : (0 ≤ k ∧ k < (s : Int))) {Q : Option av_V → av_H → Prop} (hq : ∀ v : Int, Q (some (.inl v)) h) : av_wp none cd_25 0 [some (.inr (.inr (.inl (some (b))))), some (.inl k), some (.inl x), some (.inl y), none] [] h Q := by
  have s12 := co_s12 (ib_co i)
  have cbr := co_cbr (ib_co i)
  refine av_wp_seq 2 (pc' := 2) (lv' := [some (.inr (.inr (.inl (some (b))))), some (.inl k), some (.inl x), some (.inl y), none]) (st' := [.inl k, .inr (.inr (.inl (some (b))))]) (h' := h) rfl ?_
  refine wq_cv (p' := 5) (av_qc (.invokevirtual 160) 15 1 0 0) 2 cd_15 [.inl k] (b) 0 [some (.inr (.inr (.inl (some (b))))), some (.inl k)] rfl rfl rfl pp_15 rfl rfl rfl (congrArg Prod.fst (ib_k0 i)) rfl rfl rfl rfl ?_
  refine ct_15 i F (k) (by omega) (fun v1 p2 => ?_)
  show av_wp _ cd_25 5 [some (.inr (.inr (.inl (some (b))))), some (.inl k), some (.inl x), some (.inl y), none] [.inl v1] h _
  refine wq_k1 (p' := 8) rfl rfl ⟨by omega, by omega⟩ (fun c3 => ?_) (fun c4 => ?_)
  · have c3 : v1 = (0) := c3
    refine av_wp_seq 1 (pc' := 43) (lv' := [some (.inr (.inr (.inl (some (b))))), some (.inl k), some (.inl x), some (.inl y), none]) (st' := [.inl (9999)]) (h' := h) rfl ?_
    refine av_wp_ret (v := some (.inl (9999))) rfl rfl rfl ?_
    exact hq _
  · have c4 : v1 ≠ (0) := c4
    refine av_wp_seq 1 (pc' := 9) (lv' := [some (.inr (.inr (.inl (some (b))))), some (.inl k), some (.inl x), some (.inl y), none]) (st' := [.inr (.inr (.inl (some (b))))]) (h' := h) rfl ?_
    refine wq_gr (p' := 12) rfl rfl (congrArg Prod.fst (ib_k0 i)) rfl (ib_g i 5 rfl) ?_
    refine av_wp_seq 1 (pc' := 13) (lv' := [some (.inr (.inr (.inl (some (b))))), some (.inl k), some (.inl x), some (.inl y), none]) (st' := [.inl k, .inr (.inr (.inl (some (b + 1 + 5))))]) (h' := h) rfl ?_
    obtain ⟨v5, e6⟩ : ∃ v, hA h (b + 1 + 5) (Int.toNat (k)) = v := ⟨_, rfl⟩
    refine wq_al (p' := 14) (n := 12) rfl rfl (ib_k i 5 rfl) (by omega) (e6) ?_
    refine av_wp_seq 1 (pc' := 15) (lv' := [some (.inr (.inr (.inl (some (b))))), some (.inl k), some (.inl x), some (.inl y), none]) (st' := [.inl (-1), .inl v5]) (h' := h) rfl ?_
    refine wq_c2 (p' := 18) rfl rfl ?_ ?_
    · refine av_wp_seq 1 (pc' := 43) (lv' := [some (.inr (.inr (.inl (some (b))))), some (.inl k), some (.inl x), some (.inl y), none]) (st' := [.inl (9999)]) (h' := h) rfl ?_
      refine av_wp_ret (v := some (.inl (9999))) rfl rfl rfl ?_
      exact hq _
    · refine av_wp_seq 1 (pc' := 19) (lv' := [some (.inr (.inr (.inl (some (b))))), some (.inl k), some (.inl x), some (.inl y), none]) (st' := [.inr (.inr (.inl (some (b))))]) (h' := h) rfl ?_
      refine wq_gr (p' := 22) rfl rfl (congrArg Prod.fst (ib_k0 i)) rfl (ib_t i) ?_
      refine av_wp_seq 3 (pc' := 25) (lv' := [some (.inr (.inr (.inl (some (b))))), some (.inl k), some (.inl x), some (.inl y), none]) (st' := [.inl (1), .inl y, .inl k, .inr (.inr (.inl (some (t))))]) (h' := h) rfl ?_
      have J10 : ∀ (j8 : Int), (1 ≤ j8 ∧ j8 ≤ 2) →  av_wp none cd_25 33 [some (.inr (.inr (.inl (some (b))))), some (.inl k), some (.inl x), some (.inl y), none] [.inl j8, .inl k, .inr (.inr (.inl (some (t))))] h Q := by
        intro j8 g9
        refine wq_cv (p' := 36) (av_qc (.invokevirtual 74) 29 2 0 1) 3 cd_29 [.inl j8, .inl k] (t) 1 [some (.inr (.inr (.inl (some (t))))), some (.inl k), some (.inl j8)] rfl rfl rfl pp_29 rfl rfl rfl (congrArg Prod.fst (co_kt (ib_co i))) rfl rfl rfl rfl ?_
        refine ct_29 (ib_co i) (k) (j8) (by omega) (by omega) (fun v11 p12 => ?_)
        show av_wp _ cd_25 36 [some (.inr (.inr (.inl (some (b))))), some (.inl k), some (.inl x), some (.inl y), none] [.inl v11] h _
        refine av_wp_seq 1 (pc' := 37) (lv' := [some (.inr (.inr (.inl (some (b))))), some (.inl k), some (.inl x), some (.inl y), none]) (st' := [.inl x, .inl v11]) (h' := h) rfl ?_
        refine wq_c2 (p' := 40) rfl rfl ?_ ?_
        · refine av_wp_seq 2 (pc' := 46) (lv' := [some (.inr (.inr (.inl (some (b))))), some (.inl k), some (.inl x), some (.inl y), none]) (st' := [.inl (1), .inl y]) (h' := h) rfl ?_
          refine wq_c2 (p' := 49) rfl rfl ?_ ?_
          · refine av_wp_seq 3 (pc' := 67) (lv' := [some (.inr (.inr (.inl (some (b))))), some (.inl k), some (.inl x), some (.inl y), none]) (st' := [.inl (1), .inl k, .inr (.inr (.inl (some (b))))]) (h' := h) rfl ?_
            refine wq_cv (p' := 70) (av_qc (.invokevirtual 115) 6 2 0 0) 3 cd_6 [.inl (1), .inl k] (b) 0 [some (.inr (.inr (.inl (some (b))))), some (.inl k), some (.inl (1))] rfl rfl rfl pp_6 rfl rfl rfl (congrArg Prod.fst (ib_k0 i)) rfl rfl rfl rfl ?_
            refine ct_6 i F (k) ((1)) (by omega) (by omega) (fun v13 => ?_)
            show av_wp _ cd_25 70 [some (.inr (.inr (.inl (some (b))))), some (.inl k), some (.inl x), some (.inl y), none] [.inl v13] h _
            refine av_wp_seq 3 (pc' := 75) (lv' := [some (.inr (.inr (.inl (some (b))))), some (.inl k), some (.inl x), some (.inl y), some (.inl v13)]) (st' := [.inl (-1), .inl v13]) (h' := h) rfl ?_
            refine wq_c2 (p' := 78) rfl rfl ?_ ?_
            · refine av_wp_seq 1 (pc' := 85) (lv' := [some (.inr (.inr (.inl (some (b))))), some (.inl k), some (.inl x), some (.inl y), some (.inl v13)]) (st' := [.inr (.inr (.inl (some (b))))]) (h' := h) rfl ?_
              refine wq_gr (p' := 88) rfl rfl (congrArg Prod.fst (ib_k0 i)) rfl (ib_g i 5 rfl) ?_
              refine av_wp_seq 1 (pc' := 89) (lv' := [some (.inr (.inr (.inl (some (b))))), some (.inl k), some (.inl x), some (.inl y), some (.inl v13)]) (st' := [.inl k, .inr (.inr (.inl (some (b + 1 + 5))))]) (h' := h) rfl ?_
              obtain ⟨v15, e16⟩ : ∃ v, hA h (b + 1 + 5) (Int.toNat (k)) = v := ⟨_, rfl⟩
              refine wq_al (p' := 90) (n := 12) rfl rfl (ib_k i 5 rfl) (by omega) (e16) ?_
              refine av_wp_seq 1 (pc' := 92) (lv' := [some (.inr (.inr (.inl (some (b))))), some (.inl k), some (.inl x), some (.inl y), some (.inl v13)]) (st' := [.inl v13, .inl v15]) (h' := h) rfl ?_
              refine wq_mx (p' := 95) rfl rfl rfl (fun _ _ => rfl) rfl (fun v18 e19 e20 => ?_)
              refine av_wp_ret (v := some (.inl v18)) rfl rfl rfl ?_
              exact hq _
            · refine av_wp_seq 2 (pc' := 95) (lv' := [some (.inr (.inr (.inl (some (b))))), some (.inl k), some (.inl x), some (.inl y), some (.inl v13)]) (st' := [.inl (9999)]) (h' := h) rfl ?_
              refine av_wp_ret (v := some (.inl (9999))) rfl rfl rfl ?_
              exact hq _
          · refine av_wp_seq 1 (pc' := 50) (lv' := [some (.inr (.inr (.inl (some (b))))), some (.inl k), some (.inl x), some (.inl y), none]) (st' := [.inr (.inr (.inl (some (b))))]) (h' := h) rfl ?_
            refine wq_gr (p' := 53) rfl rfl (congrArg Prod.fst (ib_k0 i)) rfl (ib_g i 5 rfl) ?_
            refine av_wp_seq 1 (pc' := 54) (lv' := [some (.inr (.inr (.inl (some (b))))), some (.inl k), some (.inl x), some (.inl y), none]) (st' := [.inl k, .inr (.inr (.inl (some (b + 1 + 5))))]) (h' := h) rfl ?_
            obtain ⟨v21, e22⟩ : ∃ v, hA h (b + 1 + 5) (Int.toNat (k)) = v := ⟨_, rfl⟩
            refine wq_al (p' := 55) (n := 12) rfl rfl (ib_k i 5 rfl) (by omega) (e22) ?_
            refine av_wp_seq 2 (pc' := 57) (lv' := [some (.inr (.inr (.inl (some (b))))), some (.inl k), some (.inl x), some (.inl y), none]) (st' := [.inl k, .inr (.inr (.inl (some (b)))), .inl v21]) (h' := h) rfl ?_
            refine wq_cv (p' := 60) (av_qc (.invokevirtual 125) 10 1 0 0) 3 cd_10 [.inl k] (b) 0 [some (.inr (.inr (.inl (some (b))))), some (.inl k), none] rfl rfl rfl pp_10 rfl rfl rfl (congrArg Prod.fst (ib_k0 i)) rfl rfl rfl rfl ?_
            refine ct_10 i F (k) (by omega) (fun v24 p25 => ?_)
            show av_wp _ cd_25 60 [some (.inr (.inr (.inl (some (b))))), some (.inl k), some (.inl x), some (.inl y), none] [.inl v24, .inl v21] h _
            refine wq_mx (p' := 63) rfl rfl rfl (fun _ _ => rfl) rfl (fun v26 e27 e28 => ?_)
            refine av_wp_ret (v := some (.inl v26)) rfl rfl rfl ?_
            exact hq _
        · refine av_wp_seq 1 (pc' := 43) (lv' := [some (.inr (.inr (.inl (some (b))))), some (.inl k), some (.inl x), some (.inl y), none]) (st' := [.inl (9999)]) (h' := h) rfl ?_
          refine av_wp_ret (v := some (.inl (9999))) rfl rfl rfl ?_
          exact hq _
      refine wq_c2 (p' := 28) rfl rfl ?_ ?_
      · refine av_wp_seq 1 (pc' := 33) (lv' := [some (.inr (.inr (.inl (some (b))))), some (.inl k), some (.inl x), some (.inl y), none]) (st' := [.inl (2), .inl k, .inr (.inr (.inl (some (t))))]) (h' := h) rfl ?_
        exact J10 ((2)) (by omega)
      · refine av_wp_seq 2 (pc' := 33) (lv' := [some (.inr (.inr (.inl (some (b))))), some (.inl k), some (.inl x), some (.inl y), none]) (st' := [.inl (1), .inl k, .inr (.inr (.inl (some (t))))]) (h' := h) rfl ?_
        exact J10 ((1)) (by omega)

set_option maxRecDepth 100000 in
set_option maxHeartbeats 4000000 in
theorem ct_23 {g h : av_H} {b t c s r : Nat} {cb : Int} (i : IB b t c s r cb h) (F : Fr1 g h) (x : Int) (y : Int) (z : Int) {Q : Option av_V → av_H → Prop} (hq : ∀ v : Int, (v = 0 ∨ v = 1) → Q (some (.inl v)) h) : av_wp none cd_23 0 [some (.inr (.inr (.inl (some (b))))), some (.inl x), some (.inl y), some (.inl z), none] [] h Q := by
  have s12 := co_s12 (ib_co i)
  have cbr := co_cbr (ib_co i)
  refine av_wp_seq 2 (pc' := 3) (lv' := [some (.inr (.inr (.inl (some (b))))), some (.inl x), some (.inl y), some (.inl z), some (.inl (0))]) (st' := []) (h' := h) rfl ?_
  have L3 : ∀ (m2 : Nat) (k1 : Int), k1 ≤ (s : Int) → (0 ≤ k1 ∧ k1 ≤ 12) → ((s : Int) - k1).toNat = m2 → av_wp none cd_23 3 [some (.inr (.inr (.inl (some (b))))), some (.inl x), some (.inl y), some (.inl z), some (.inl k1)] [] h Q := by
    intro m2
    induction m2 using Nat.strongRecOn with
    | _ m2 I4 =>
      intro k1 g6 g7 e5
      refine av_wp_seq 2 (pc' := 6) (lv' := [some (.inr (.inr (.inl (some (b))))), some (.inl x), some (.inl y), some (.inl z), some (.inl k1)]) (st' := [.inr (.inr (.inl (some (b)))), .inl k1]) (h' := h) rfl ?_
      refine wq_gr (p' := 9) rfl rfl (congrArg Prod.fst (ib_k0 i)) rfl (ib_t i) ?_
      refine wq_gi (p' := 12) rfl rfl (congrArg Prod.fst (co_kt (ib_co i))) rfl (co_s (ib_co i)) ?_
      refine wq_k2 (p' := 15) rfl rfl ⟨by omega, by omega⟩ ⟨by omega, by omega⟩ (fun c8 => ?_) (fun c9 => ?_)
      · have c8 : (s : Int) ≤ k1 := c8
        refine av_wp_seq 1 (pc' := 46) (lv' := [some (.inr (.inr (.inl (some (b))))), some (.inl x), some (.inl y), some (.inl z), some (.inl k1)]) (st' := [.inl (0)]) (h' := h) rfl ?_
        refine av_wp_ret (v := some (.inl (0))) rfl rfl rfl ?_
        exact hq _ (by omega)
      · have c9 : k1 < (s : Int) := c9
        refine av_wp_seq 5 (pc' := 21) (lv' := [some (.inr (.inr (.inl (some (b))))), some (.inl x), some (.inl y), some (.inl z), some (.inl k1)]) (st' := [.inl y, .inl x, .inl k1, .inr (.inr (.inl (some (b)))), .inl z]) (h' := h) rfl ?_
        refine wq_cv (p' := 24) (av_qc (.invokevirtual 153) 25 3 0 0) 5 cd_25 [.inl y, .inl x, .inl k1] (b) 0 [some (.inr (.inr (.inl (some (b))))), some (.inl k1), some (.inl x), some (.inl y), none] rfl rfl rfl pp_25 rfl rfl rfl (congrArg Prod.fst (ib_k0 i)) rfl rfl rfl rfl ?_
        refine ct_25 i F (k1) (x) (y) (by omega) (fun v10 => ?_)
        show av_wp _ cd_23 24 [some (.inr (.inr (.inl (some (b))))), some (.inl x), some (.inl y), some (.inl z), some (.inl k1)] [.inl v10, .inl z] h _
        refine wq_c2 (p' := 27) rfl rfl ?_ ?_
        · refine av_wp_seq 2 (pc' := 3) (lv' := [some (.inr (.inr (.inl (some (b))))), some (.inl x), some (.inl y), some (.inl z), some (.inl (k1 + (1)))]) (st' := []) (h' := h) rfl ?_
          exact I4 _ (by omega) ((k1 + (1))) (by omega) (by omega) rfl
        · refine av_wp_seq 3 (pc' := 31) (lv' := [some (.inr (.inr (.inl (some (b))))), some (.inl x), some (.inl y), some (.inl z), some (.inl k1)]) (st' := [.inl k1, .inr (.inr (.inl (some (b)))), .inl z]) (h' := h) rfl ?_
          refine wq_cv (p' := 34) (av_qc (.invokevirtual 157) 26 1 0 0) 2 cd_26 [.inl k1] (b) 0 [some (.inr (.inr (.inl (some (b))))), some (.inl k1)] rfl rfl rfl pp_26 rfl rfl rfl (congrArg Prod.fst (ib_k0 i)) rfl rfl rfl rfl ?_
          refine ct_26 i F (k1) (by omega) (fun v12 => ?_)
          show av_wp _ cd_23 34 [some (.inr (.inr (.inl (some (b))))), some (.inl x), some (.inl y), some (.inl z), some (.inl k1)] [.inl v12, .inl z] h _
          refine wq_c2 (p' := 37) rfl rfl ?_ ?_
          · refine av_wp_seq 2 (pc' := 3) (lv' := [some (.inr (.inr (.inl (some (b))))), some (.inl x), some (.inl y), some (.inl z), some (.inl (k1 + (1)))]) (st' := []) (h' := h) rfl ?_
            exact I4 _ (by omega) ((k1 + (1))) (by omega) (by omega) rfl
          · refine av_wp_seq 1 (pc' := 38) (lv' := [some (.inr (.inr (.inl (some (b))))), some (.inl x), some (.inl y), some (.inl z), some (.inl k1)]) (st' := [.inl (1)]) (h' := h) rfl ?_
            refine av_wp_ret (v := some (.inl (1))) rfl rfl rfl ?_
            exact hq _ (by omega)
  exact L3 _ ((0)) (by omega) (by omega) rfl

set_option maxRecDepth 100000 in
set_option maxHeartbeats 4000000 in
theorem ct_24 {g h : av_H} {b t c s r : Nat} {cb : Int} (i : IB b t c s r cb h) (F : Fr1 g h) (x : Int) (y : Int) {Q : Option av_V → av_H → Prop} (hq : ∀ v : Int, Q (some (.inl v)) h) : av_wp none cd_24 0 [some (.inr (.inr (.inl (some (b))))), some (.inl x), some (.inl y), none, none] [] h Q := by
  have s12 := co_s12 (ib_co i)
  have cbr := co_cbr (ib_co i)
  refine av_wp_seq 4 (pc' := 5) (lv' := [some (.inr (.inr (.inl (some (b))))), some (.inl x), some (.inl y), some (.inl (-1)), some (.inl (0))]) (st' := []) (h' := h) rfl ?_
  have L4 : ∀ (m3 : Nat) (k1 : Int) (k2 : Int), k2 ≤ (s : Int) → (0 ≤ k2 ∧ k2 ≤ 12) → ((s : Int) - k2).toNat = m3 → av_wp none cd_24 5 [some (.inr (.inr (.inl (some (b))))), some (.inl x), some (.inl y), some (.inl k1), some (.inl k2)] [] h Q := by
    intro m3
    induction m3 using Nat.strongRecOn with
    | _ m3 I5 =>
      intro k1 k2 g7 g8 e6
      refine av_wp_seq 2 (pc' := 8) (lv' := [some (.inr (.inr (.inl (some (b))))), some (.inl x), some (.inl y), some (.inl k1), some (.inl k2)]) (st' := [.inr (.inr (.inl (some (b)))), .inl k2]) (h' := h) rfl ?_
      refine wq_gr (p' := 11) rfl rfl (congrArg Prod.fst (ib_k0 i)) rfl (ib_t i) ?_
      refine wq_gi (p' := 14) rfl rfl (congrArg Prod.fst (co_kt (ib_co i))) rfl (co_s (ib_co i)) ?_
      refine wq_k2 (p' := 17) rfl rfl ⟨by omega, by omega⟩ ⟨by omega, by omega⟩ (fun c9 => ?_) (fun c10 => ?_)
      · have c9 : (s : Int) ≤ k2 := c9
        refine av_wp_seq 1 (pc' := 52) (lv' := [some (.inr (.inr (.inl (some (b))))), some (.inl x), some (.inl y), some (.inl k1), some (.inl k2)]) (st' := [.inl k1]) (h' := h) rfl ?_
        refine av_wp_ret (v := some (.inl k1)) rfl rfl rfl ?_
        exact hq _
      · have c10 : k2 < (s : Int) := c10
        refine av_wp_seq 4 (pc' := 22) (lv' := [some (.inr (.inr (.inl (some (b))))), some (.inl x), some (.inl y), some (.inl k1), some (.inl k2)]) (st' := [.inl y, .inl x, .inl k2, .inr (.inr (.inl (some (b))))]) (h' := h) rfl ?_
        refine wq_cv (p' := 25) (av_qc (.invokevirtual 153) 25 3 0 0) 5 cd_25 [.inl y, .inl x, .inl k2] (b) 0 [some (.inr (.inr (.inl (some (b))))), some (.inl k2), some (.inl x), some (.inl y), none] rfl rfl rfl pp_25 rfl rfl rfl (congrArg Prod.fst (ib_k0 i)) rfl rfl rfl rfl ?_
        refine ct_25 i F (k2) (x) (y) (by omega) (fun v11 => ?_)
        show av_wp _ cd_24 25 [some (.inr (.inr (.inl (some (b))))), some (.inl x), some (.inl y), some (.inl k1), some (.inl k2)] [.inl v11] h _
        refine av_wp_seq 2 (pc' := 28) (lv' := [some (.inr (.inr (.inl (some (b))))), some (.inl x), some (.inl y), some (.inl k1), some (.inl k2)]) (st' := [.inl k2, .inr (.inr (.inl (some (b)))), .inl v11]) (h' := h) rfl ?_
        refine wq_cv (p' := 31) (av_qc (.invokevirtual 157) 26 1 0 0) 2 cd_26 [.inl k2] (b) 0 [some (.inr (.inr (.inl (some (b))))), some (.inl k2)] rfl rfl rfl pp_26 rfl rfl rfl (congrArg Prod.fst (ib_k0 i)) rfl rfl rfl rfl ?_
        refine ct_26 i F (k2) (by omega) (fun v13 => ?_)
        show av_wp _ cd_24 31 [some (.inr (.inr (.inl (some (b))))), some (.inl x), some (.inl y), some (.inl k1), some (.inl k2)] [.inl v13, .inl v11] h _
        have J16 : ∀ (j15 : Int),  av_wp none cd_24 45 [some (.inr (.inr (.inl (some (b))))), some (.inl x), some (.inl y), some (.inl j15), some (.inl k2)] [] h Q := by
          intro j15
          refine av_wp_seq 2 (pc' := 5) (lv' := [some (.inr (.inr (.inl (some (b))))), some (.inl x), some (.inl y), some (.inl j15), some (.inl (k2 + (1)))]) (st' := []) (h' := h) rfl ?_
          exact I5 _ (by omega) (j15) ((k2 + (1))) (by omega) (by omega) rfl
        refine wq_c2 (p' := 34) rfl rfl ?_ ?_
        · exact J16 (k1)
        · refine av_wp_seq 3 (pc' := 38) (lv' := [some (.inr (.inr (.inl (some (b))))), some (.inl x), some (.inl y), some (.inl k1), some (.inl k2)]) (st' := [.inl k2, .inr (.inr (.inl (some (b)))), .inl k1]) (h' := h) rfl ?_
          refine wq_cv (p' := 41) (av_qc (.invokevirtual 157) 26 1 0 0) 2 cd_26 [.inl k2] (b) 0 [some (.inr (.inr (.inl (some (b))))), some (.inl k2)] rfl rfl rfl pp_26 rfl rfl rfl (congrArg Prod.fst (ib_k0 i)) rfl rfl rfl rfl ?_
          refine ct_26 i F (k2) (by omega) (fun v17 => ?_)
          show av_wp _ cd_24 41 [some (.inr (.inr (.inl (some (b))))), some (.inl x), some (.inl y), some (.inl k1), some (.inl k2)] [.inl v17, .inl k1] h _
          refine wq_mx (p' := 44) rfl rfl rfl (fun _ _ => rfl) rfl (fun v19 e20 e21 => ?_)
          refine av_wp_seq 1 (pc' := 45) (lv' := [some (.inr (.inr (.inl (some (b))))), some (.inl x), some (.inl y), some (.inl v19), some (.inl k2)]) (st' := []) (h' := h) rfl ?_
          exact J16 (v19)
  exact L4 _ ((-1)) ((0)) (by omega) (by omega) rfl

