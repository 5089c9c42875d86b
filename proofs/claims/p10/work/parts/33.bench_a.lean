/-! CASE AND BENCH: each call comes back, and changes only what a look may change -/
set_option maxRecDepth 100000 in
set_option maxHeartbeats 4000000 in
theorem ct_28 {h : av_H} {t c s : Nat} {cb : Int} (o : CO h t c s cb) (k : Int) (q0 : (-2147483648 ≤ k ∧ k ≤ 2147483647)) {Q : Option av_V → av_H → Prop} (hq : ∀ v : Int, ((v = 1 ∧ 0 ≤ k ∧ k < (s : Int)) ∨ (v = 0 ∧ (k < 0 ∨ (s : Int) ≤ k))) → Q (some (.inl v)) h) : av_wp none cd_28 0 [some (.inr (.inr (.inl (some (t))))), some (.inl k)] [] h Q := by
  have s12 := co_s12 o
  have cbr := co_cbr o
  refine av_wp_sqF ck_28 1 (pc' := 1) (lv' := [some (.inr (.inr (.inl (some (t))))), some (.inl k)]) (st' := [.inl k]) (h' := h) rfl ?_
  refine wq_k1 (p' := 4) (ck_28 _ _ rfl) rfl ⟨by omega, by omega⟩ (fun c1 => ?_) (fun c2 => ?_)
  · have c1 : k < (0) := c1
    refine av_wp_sqF ck_28 1 (pc' := 17) (lv' := [some (.inr (.inr (.inl (some (t))))), some (.inl k)]) (st' := [.inl (0)]) (h' := h) rfl ?_
    refine av_wp_ret (v := some (.inl (0))) (ck_28 _ _ rfl) rfl rfl ?_
    exact hq _ (by omega)
  · have c2 : (0) ≤ k := c2
    refine av_wp_sqF ck_28 2 (pc' := 6) (lv' := [some (.inr (.inr (.inl (some (t))))), some (.inl k)]) (st' := [.inr (.inr (.inl (some (t)))), .inl k]) (h' := h) rfl ?_
    refine wq_gi (p' := 9) (ck_28 _ _ rfl) rfl (congrArg Prod.fst (co_kt o)) rfl (co_s o) ?_
    refine wq_k2 (p' := 12) (ck_28 _ _ rfl) rfl ⟨by omega, by omega⟩ ⟨by omega, by omega⟩ (fun c3 => ?_) (fun c4 => ?_)
    · have c3 : (s : Int) ≤ k := c3
      refine av_wp_sqF ck_28 1 (pc' := 17) (lv' := [some (.inr (.inr (.inl (some (t))))), some (.inl k)]) (st' := [.inl (0)]) (h' := h) rfl ?_
      refine av_wp_ret (v := some (.inl (0))) (ck_28 _ _ rfl) rfl rfl ?_
      exact hq _ (by omega)
    · have c4 : k < (s : Int) := c4
      refine av_wp_sqF ck_28 2 (pc' := 17) (lv' := [some (.inr (.inr (.inl (some (t))))), some (.inl k)]) (st' := [.inl (1)]) (h' := h) rfl ?_
      refine av_wp_ret (v := some (.inl (1))) (ck_28 _ _ rfl) rfl rfl ?_
      exact hq _ (by omega)

set_option maxRecDepth 100000 in
set_option maxHeartbeats 4000000 in
theorem ct_29 {h : av_H} {t c s : Nat} {cb : Int} (o : CO h t c s cb) (k : Int) (w : Int) (q0 : (-2147483648 ≤ k ∧ k ≤ 2147483647)) (q1 : (-2147483648 ≤ w ∧ w ≤ 2147483647)) {Q : Option av_V → av_H → Prop} (hq : ∀ v : Int, (-1 ≤ v ∧ v ≤ 100000) → Q (some (.inl v)) h) : av_wp none cd_29 0 [some (.inr (.inr (.inl (some (t))))), some (.inl k), some (.inl w)] [] h Q := by
  have s12 := co_s12 o
  have cbr := co_cbr o
  refine av_wp_sqF ck_29 2 (pc' := 2) (lv' := [some (.inr (.inr (.inl (some (t))))), some (.inl k), some (.inl w)]) (st' := [.inl k, .inr (.inr (.inl (some (t))))]) (h' := h) rfl ?_
  refine wq_cv (p' := 5) (av_qc (.invokevirtual 40) 28 1 0 1) 2 cd_28 [.inl k] (t) 1 [some (.inr (.inr (.inl (some (t))))), some (.inl k)] (ck_29 _ _ rfl) rfl rfl pp_28 rfl rfl rfl (congrArg Prod.fst (co_kt o)) rfl rfl rfl rfl ?_
  refine ct_28 o (k) (by omega) (fun v1 p2 => ?_)
  show av_wp _ cd_29 5 [some (.inr (.inr (.inl (some (t))))), some (.inl k), some (.inl w)] [.inl v1] h _
  refine wq_k1 (p' := 8) (ck_29 _ _ rfl) rfl ⟨by omega, by omega⟩ (fun c3 => ?_) (fun c4 => ?_)
  · have c3 : v1 = (0) := c3
    refine av_wp_sqF ck_29 1 (pc' := 19) (lv' := [some (.inr (.inr (.inl (some (t))))), some (.inl k), some (.inl w)]) (st' := [.inl (-1)]) (h' := h) rfl ?_
    refine av_wp_ret (v := some (.inl (-1))) (ck_29 _ _ rfl) rfl rfl ?_
    exact hq _ (by omega)
  · have c4 : v1 ≠ (0) := c4
    refine av_wp_sqF ck_29 1 (pc' := 9) (lv' := [some (.inr (.inr (.inl (some (t))))), some (.inl k), some (.inl w)]) (st' := [.inl w]) (h' := h) rfl ?_
    refine wq_k1 (p' := 12) (ck_29 _ _ rfl) rfl ⟨by omega, by omega⟩ (fun c5 => ?_) (fun c6 => ?_)
    · have c5 : w < (0) := c5
      refine av_wp_sqF ck_29 1 (pc' := 19) (lv' := [some (.inr (.inr (.inl (some (t))))), some (.inl k), some (.inl w)]) (st' := [.inl (-1)]) (h' := h) rfl ?_
      refine av_wp_ret (v := some (.inl (-1))) (ck_29 _ _ rfl) rfl rfl ?_
      exact hq _ (by omega)
    · have c6 : (0) ≤ w := c6
      refine av_wp_sqF ck_29 2 (pc' := 15) (lv' := [some (.inr (.inr (.inl (some (t))))), some (.inl k), some (.inl w)]) (st' := [.inl (21), .inl w]) (h' := h) rfl ?_
      refine wq_k2 (p' := 18) (ck_29 _ _ rfl) rfl ⟨by omega, by omega⟩ ⟨by omega, by omega⟩ (fun c7 => ?_) (fun c8 => ?_)
      · have c7 : w < (21) := c7
        refine av_wp_sqF ck_29 1 (pc' := 21) (lv' := [some (.inr (.inr (.inl (some (t))))), some (.inl k), some (.inl w)]) (st' := [.inr (.inr (.inl (some (t))))]) (h' := h) rfl ?_
        refine wq_gr (p' := 24) (ck_29 _ _ rfl) rfl (congrArg Prod.fst (co_kt o)) rfl (co_c o) ?_
        refine av_wp_sqF ck_29 5 (pc' := 30) (lv' := [some (.inr (.inr (.inl (some (t))))), some (.inl k), some (.inl w)]) (st' := [.inl ((k * (21)) + w), .inr (.inr (.inl (some (c))))]) (h' := h) rfl ?_
        obtain ⟨v9, e10⟩ : ∃ v, hA h (c) (Int.toNat (((k * (21)) + w))) = v := ⟨_, rfl⟩
        have g11 := co_v o (Int.toNat (((k * (21)) + w)))
        rw [e10] at g11
        refine wq_al (p' := 31) (n := 21 * s) (ck_29 _ _ rfl) rfl (co_kc o) (by omega) (e10) ?_
        refine av_wp_ret (v := some (.inl v9)) (ck_29 _ _ rfl) rfl rfl ?_
        exact hq _ (by omega)
      · have c8 : (21) ≤ w := c8
        refine av_wp_sqF ck_29 1 (pc' := 19) (lv' := [some (.inr (.inr (.inl (some (t))))), some (.inl k), some (.inl w)]) (st' := [.inl (-1)]) (h' := h) rfl ?_
        refine av_wp_ret (v := some (.inl (-1))) (ck_29 _ _ rfl) rfl rfl ?_
        exact hq _ (by omega)

set_option maxRecDepth 100000 in
set_option maxHeartbeats 4000000 in
theorem ct_30 {h : av_H} {t c s : Nat} {cb : Int} (o : CO h t c s cb) (k : Int) (q0 : (-2147483648 ≤ k ∧ k ≤ 2147483647)) {Q : Option av_V → av_H → Prop} (hq : ∀ v : Int, (v = 0 ∨ v = 1) → Q (some (.inl v)) h) : av_wp none cd_30 0 [some (.inr (.inr (.inl (some (t))))), some (.inl k), none] [] h Q := by
  have s12 := co_s12 o
  have cbr := co_cbr o
  refine av_wp_sqF ck_30 2 (pc' := 2) (lv' := [some (.inr (.inr (.inl (some (t))))), some (.inl k), some (.inl (0))]) (st' := []) (h' := h) rfl ?_
  have L3 : ∀ (m2 : Nat) (k1 : Int), (0 ≤ k1 ∧ k1 ≤ 3) → ((3 : Int) - k1).toNat = m2 → av_wp none cd_30 2 [some (.inr (.inr (.inl (some (t))))), some (.inl k), some (.inl k1)] [] h Q := by
    intro m2
    induction m2 using Nat.strongRecOn with
    | _ m2 I4 =>
      intro k1 g6 e5
      refine av_wp_sqF ck_30 2 (pc' := 4) (lv' := [some (.inr (.inr (.inl (some (t))))), some (.inl k), some (.inl k1)]) (st' := [.inl (3), .inl k1]) (h' := h) rfl ?_
      refine wq_k2 (p' := 7) (ck_30 _ _ rfl) rfl ⟨by omega, by omega⟩ ⟨by omega, by omega⟩ (fun c7 => ?_) (fun c8 => ?_)
      · have c7 : (3) ≤ k1 := c7
        refine av_wp_sqF ck_30 1 (pc' := 29) (lv' := [some (.inr (.inr (.inl (some (t))))), some (.inl k), some (.inl k1)]) (st' := [.inl (1)]) (h' := h) rfl ?_
        refine av_wp_ret (v := some (.inl (1))) (ck_30 _ _ rfl) rfl rfl ?_
        exact hq _ (by omega)
      · have c8 : k1 < (3) := c8
        refine av_wp_sqF ck_30 5 (pc' := 13) (lv' := [some (.inr (.inr (.inl (some (t))))), some (.inl k), some (.inl k1)]) (st' := [.inl ((10) + k1), .inl k, .inr (.inr (.inl (some (t))))]) (h' := h) rfl ?_
        refine wq_cv (p' := 16) (av_qc (.invokevirtual 44) 29 2 0 1) 3 cd_29 [.inl ((10) + k1), .inl k] (t) 1 [some (.inr (.inr (.inl (some (t))))), some (.inl k), some (.inl ((10) + k1))] (ck_30 _ _ rfl) rfl rfl pp_29 rfl rfl rfl (congrArg Prod.fst (co_kt o)) rfl rfl rfl rfl ?_
        refine ct_29 o (k) (((10) + k1)) (by omega) (by omega) (fun v9 p10 => ?_)
        show av_wp _ cd_30 16 [some (.inr (.inr (.inl (some (t))))), some (.inl k), some (.inl k1)] [.inl v9] h _
        refine av_wp_sqF ck_30 1 (pc' := 17) (lv' := [some (.inr (.inr (.inl (some (t))))), some (.inl k), some (.inl k1)]) (st' := [.inl (-1), .inl v9]) (h' := h) rfl ?_
        refine wq_k2 (p' := 20) (ck_30 _ _ rfl) rfl ⟨by omega, by omega⟩ ⟨by omega, by omega⟩ (fun c11 => ?_) (fun c12 => ?_)
        · have c11 : v9 = (-1) := c11
          refine av_wp_sqF ck_30 2 (pc' := 2) (lv' := [some (.inr (.inr (.inl (some (t))))), some (.inl k), some (.inl (k1 + (1)))]) (st' := []) (h' := h) rfl ?_
          exact I4 _ (by omega) ((k1 + (1))) (by omega) rfl
        · have c12 : v9 ≠ (-1) := c12
          refine av_wp_sqF ck_30 1 (pc' := 21) (lv' := [some (.inr (.inr (.inl (some (t))))), some (.inl k), some (.inl k1)]) (st' := [.inl (0)]) (h' := h) rfl ?_
          refine av_wp_ret (v := some (.inl (0))) (ck_30 _ _ rfl) rfl rfl ?_
          exact hq _ (by omega)
  exact L3 _ ((0)) (by omega) rfl

set_option maxRecDepth 100000 in
set_option maxHeartbeats 4000000 in
theorem ct_31 {h : av_H} {t c s : Nat} {cb : Int} (o : CO h t c s cb) (x : Int) (w : Int) (q0 : (-2147483648 ≤ x ∧ x ≤ 2147483647)) (q1 : (0 ≤ w ∧ w ≤ 4)) {Q : Option av_V → av_H → Prop} (hq : ∀ v : Int, Q (some (.inl v)) h) : av_wp none cd_31 0 [some (.inr (.inr (.inl (some (t))))), some (.inl x), some (.inl w), none, none, none] [] h Q := by
  have s12 := co_s12 o
  have cbr := co_cbr o
  refine av_wp_sqF ck_31 4 (pc' := 5) (lv' := [some (.inr (.inr (.inl (some (t))))), some (.inl x), some (.inl w), some (.inl x), some (.inl (0)), none]) (st' := []) (h' := h) rfl ?_
  have L5 : ∀ (m4 : Nat) (k1 : Int) (k2 : Int) (a3 : Option av_V), av_lg a3 = false → (0 ≤ k2 ∧ k2 ≤ 12) → (-2147483648 ≤ k1 ∧ k1 ≤ 2147483647) → ((12 : Int) - k2).toNat = m4 → av_wp none cd_31 5 [some (.inr (.inr (.inl (some (t))))), some (.inl x), some (.inl w), some (.inl k1), some (.inl k2), a3] [] h Q := by
    intro m4
    induction m4 using Nat.strongRecOn with
    | _ m4 I6 =>
      intro k1 k2 a3 g8 g9 g10 e7
      have la3 := g8
      refine av_wp_sqF ck_31 2 (pc' := 9) (lv' := [some (.inr (.inr (.inl (some (t))))), some (.inl x), some (.inl w), some (.inl k1), some (.inl k2), a3]) (st' := [.inl (12), .inl k2]) (h' := h) rfl ?_
      refine wq_k2 (p' := 12) (ck_31 _ _ rfl) rfl ⟨by omega, by omega⟩ ⟨by omega, by omega⟩ (fun c11 => ?_) (fun c12 => ?_)
      · have c11 : (12) ≤ k2 := c11
        refine av_wp_sqF ck_31 1 (pc' := 68) (lv' := [some (.inr (.inr (.inl (some (t))))), some (.inl x), some (.inl w), some (.inl k1), some (.inl k2), a3]) (st' := [.inl (-1)]) (h' := h) rfl ?_
        refine av_wp_ret (v := some (.inl (-1))) (ck_31 _ _ rfl) rfl rfl ?_
        exact hq _
      · have c12 : k2 < (12) := c12
        refine av_wp_sqF ck_31 2 (pc' := 14) (lv' := [some (.inr (.inr (.inl (some (t))))), some (.inl x), some (.inl w), some (.inl k1), some (.inl k2), a3]) (st' := [.inl k1, .inr (.inr (.inl (some (t))))]) (h' := h) rfl ?_
        refine wq_cv (p' := 17) (av_qc (.invokevirtual 40) 28 1 0 1) 2 cd_28 [.inl k1] (t) 1 [some (.inr (.inr (.inl (some (t))))), some (.inl k1)] (ck_31 _ _ rfl) rfl rfl pp_28 rfl rfl rfl (congrArg Prod.fst (co_kt o)) rfl rfl rfl rfl ?_
        refine ct_28 o (k1) (by omega) (fun v13 p14 => ?_)
        show av_wp _ cd_31 17 [some (.inr (.inr (.inl (some (t))))), some (.inl x), some (.inl w), some (.inl k1), some (.inl k2), a3] [.inl v13] h _
        refine wq_k1 (p' := 20) (ck_31 _ _ rfl) rfl ⟨by omega, by omega⟩ (fun c15 => ?_) (fun c16 => ?_)
        · have c15 : v13 = (0) := c15
          refine av_wp_sqF ck_31 1 (pc' := 68) (lv' := [some (.inr (.inr (.inl (some (t))))), some (.inl x), some (.inl w), some (.inl k1), some (.inl k2), a3]) (st' := [.inl (-1)]) (h' := h) rfl ?_
          refine av_wp_ret (v := some (.inl (-1))) (ck_31 _ _ rfl) rfl rfl ?_
          exact hq _
        · have c16 : v13 ≠ (0) := c16
          refine av_wp_sqF ck_31 5 (pc' := 26) (lv' := [some (.inr (.inr (.inl (some (t))))), some (.inl x), some (.inl w), some (.inl k1), some (.inl k2), a3]) (st' := [.inl ((10) + w), .inl k1, .inr (.inr (.inl (some (t))))]) (h' := h) rfl ?_
          refine wq_cv (p' := 29) (av_qc (.invokevirtual 44) 29 2 0 1) 3 cd_29 [.inl ((10) + w), .inl k1] (t) 1 [some (.inr (.inr (.inl (some (t))))), some (.inl k1), some (.inl ((10) + w))] (ck_31 _ _ rfl) rfl rfl pp_29 rfl rfl rfl (congrArg Prod.fst (co_kt o)) rfl rfl rfl rfl ?_
          refine ct_29 o (k1) (((10) + w)) (by omega) (by omega) (fun v17 p18 => ?_)
          show av_wp _ cd_31 29 [some (.inr (.inr (.inl (some (t))))), some (.inl x), some (.inl w), some (.inl k1), some (.inl k2), a3] [.inl v17] h _
          refine av_wp_sqF ck_31 3 (pc' := 34) (lv' := [some (.inr (.inr (.inl (some (t))))), some (.inl x), some (.inl w), some (.inl k1), some (.inl k2), some (.inl v17)]) (st' := [.inl (-1), .inl v17]) (h' := h) rfl ?_
          refine wq_k2 (p' := 37) (ck_31 _ _ rfl) rfl ⟨by omega, by omega⟩ ⟨by omega, by omega⟩ (fun c19 => ?_) (fun c20 => ?_)
          · have c19 : v17 = (-1) := c19
            refine av_wp_sqF ck_31 3 (pc' := 43) (lv' := [some (.inr (.inr (.inl (some (t))))), some (.inl x), some (.inl w), some (.inl k1), some (.inl k2), some (.inl v17)]) (st' := [.inl (0), .inl k1, .inr (.inr (.inl (some (t))))]) (h' := h) rfl ?_
            refine wq_cv (p' := 46) (av_qc (.invokevirtual 44) 29 2 0 1) 3 cd_29 [.inl (0), .inl k1] (t) 1 [some (.inr (.inr (.inl (some (t))))), some (.inl k1), some (.inl (0))] (ck_31 _ _ rfl) rfl rfl pp_29 rfl rfl rfl (congrArg Prod.fst (co_kt o)) rfl rfl rfl rfl ?_
            refine ct_29 o (k1) ((0)) (by omega) (by omega) (fun v21 p22 => ?_)
            show av_wp _ cd_31 46 [some (.inr (.inr (.inl (some (t))))), some (.inl x), some (.inl w), some (.inl k1), some (.inl k2), some (.inl v17)] [.inl v21] h _
            refine av_wp_sqF ck_31 1 (pc' := 47) (lv' := [some (.inr (.inr (.inl (some (t))))), some (.inl x), some (.inl w), some (.inl k1), some (.inl k2), some (.inl v17)]) (st' := [.inl (3), .inl v21]) (h' := h) rfl ?_
            have J25 : ∀ (j23 : Int), (-1 ≤ j23 ∧ j23 ≤ 100000) →  av_wp none cd_31 60 [some (.inr (.inr (.inl (some (t))))), some (.inl x), some (.inl w), some (.inl k1), some (.inl k2), some (.inl v17)] [.inl j23] h Q := by
              intro j23 g24
              refine av_wp_sqF ck_31 3 (pc' := 5) (lv' := [some (.inr (.inr (.inl (some (t))))), some (.inl x), some (.inl w), some (.inl j23), some (.inl (k2 + (1))), some (.inl v17)]) (st' := []) (h' := h) rfl ?_
              exact I6 _ (by omega) (j23) ((k2 + (1))) (some (.inl v17)) rfl (by omega) (by omega) rfl
            refine wq_k2 (p' := 50) (ck_31 _ _ rfl) rfl ⟨by omega, by omega⟩ ⟨by omega, by omega⟩ (fun c26 => ?_) (fun c27 => ?_)
            · have c26 : v21 ≠ (3) := c26
              refine av_wp_sqF ck_31 1 (pc' := 60) (lv' := [some (.inr (.inr (.inl (some (t))))), some (.inl x), some (.inl w), some (.inl k1), some (.inl k2), some (.inl v17)]) (st' := [.inl (-1)]) (h' := h) rfl ?_
              exact J25 ((-1)) (by omega)
            · have c27 : v21 = (3) := c27
              refine av_wp_sqF ck_31 3 (pc' := 53) (lv' := [some (.inr (.inr (.inl (some (t))))), some (.inl x), some (.inl w), some (.inl k1), some (.inl k2), some (.inl v17)]) (st' := [.inl (3), .inl k1, .inr (.inr (.inl (some (t))))]) (h' := h) rfl ?_
              refine wq_cv (p' := 56) (av_qc (.invokevirtual 44) 29 2 0 1) 3 cd_29 [.inl (3), .inl k1] (t) 1 [some (.inr (.inr (.inl (some (t))))), some (.inl k1), some (.inl (3))] (ck_31 _ _ rfl) rfl rfl pp_29 rfl rfl rfl (congrArg Prod.fst (co_kt o)) rfl rfl rfl rfl ?_
              refine ct_29 o (k1) ((3)) (by omega) (by omega) (fun v28 p29 => ?_)
              show av_wp _ cd_31 56 [some (.inr (.inr (.inl (some (t))))), some (.inl x), some (.inl w), some (.inl k1), some (.inl k2), some (.inl v17)] [.inl v28] h _
              refine av_wp_sqF ck_31 1 (pc' := 60) (lv' := [some (.inr (.inr (.inl (some (t))))), some (.inl x), some (.inl w), some (.inl k1), some (.inl k2), some (.inl v17)]) (st' := [.inl v28]) (h' := h) rfl ?_
              exact J25 (v28) (by omega)
          · have c20 : v17 ≠ (-1) := c20
            refine av_wp_sqF ck_31 1 (pc' := 39) (lv' := [some (.inr (.inr (.inl (some (t))))), some (.inl x), some (.inl w), some (.inl k1), some (.inl k2), some (.inl v17)]) (st' := [.inl v17]) (h' := h) rfl ?_
            refine av_wp_ret (v := some (.inl v17)) (ck_31 _ _ rfl) rfl rfl ?_
            exact hq _
  exact L5 _ (x) ((0)) (none) rfl (by omega) (by omega) rfl

set_option maxRecDepth 100000 in
set_option maxHeartbeats 4000000 in
theorem ct_3 {g h : av_H} {b t c s r : Nat} {cb : Int} (i : IB b t c s r cb h) (F : Fr1 g h) {Q : Option av_V → av_H → Prop} (hq : ∀ v : Int, (v = 0 ∨ v = 1) → Q (some (.inl v)) h) : av_wp none cd_3 0 [some (.inr (.inr (.inl (some (b)))))] [] h Q := by
  have s12 := co_s12 (ib_co i)
  have cbr := co_cbr (ib_co i)
  refine av_wp_sqF ck_3 1 (pc' := 1) (lv' := [some (.inr (.inr (.inl (some (b)))))]) (st' := [.inr (.inr (.inl (some (b))))]) (h' := h) rfl ?_
  obtain ⟨v1, e2⟩ : ∃ v, hF h b 15 = v := ⟨_, rfl⟩
  refine wq_gi (p' := 4) (ck_3 _ _ rfl) rfl (congrArg Prod.fst (ib_k0 i)) rfl (e2) ?_
  refine av_wp_sqF ck_3 1 (pc' := 7) (lv' := [some (.inr (.inr (.inl (some (b)))))]) (st' := [.inl (9999), .inl v1]) (h' := h) rfl ?_
  refine wq_c2 (p' := 10) (ck_3 _ _ rfl) rfl ?_ ?_
  · refine av_wp_sqF ck_3 1 (pc' := 15) (lv' := [some (.inr (.inr (.inl (some (b)))))]) (st' := [.inl (0)]) (h' := h) rfl ?_
    refine av_wp_ret (v := some (.inl (0))) (ck_3 _ _ rfl) rfl rfl ?_
    exact hq _ (by omega)
  · refine av_wp_sqF ck_3 2 (pc' := 15) (lv' := [some (.inr (.inr (.inl (some (b)))))]) (st' := [.inl (1)]) (h' := h) rfl ?_
    refine av_wp_ret (v := some (.inl (1))) (ck_3 _ _ rfl) rfl rfl ?_
    exact hq _ (by omega)

set_option maxRecDepth 100000 in
set_option maxHeartbeats 4000000 in
theorem ct_6 {g h : av_H} {b t c s r : Nat} {cb : Int} (i : IB b t c s r cb h) (F : Fr1 g h) (k : Int) (w : Int) (q0 : (-2147483648 ≤ k ∧ k ≤ 2147483647)) (q1 : (-2147483648 ≤ w ∧ w ≤ 2147483647)) {Q : Option av_V → av_H → Prop} (hq : ∀ v : Int, Q (some (.inl v)) h) : av_wp none cd_6 0 [some (.inr (.inr (.inl (some (b))))), some (.inl k), some (.inl w)] [] h Q := by
  have s12 := co_s12 (ib_co i)
  have cbr := co_cbr (ib_co i)
  refine av_wp_sqF ck_6 1 (pc' := 1) (lv' := [some (.inr (.inr (.inl (some (b))))), some (.inl k), some (.inl w)]) (st' := [.inl k]) (h' := h) rfl ?_
  refine wq_k1 (p' := 4) (ck_6 _ _ rfl) rfl ⟨by omega, by omega⟩ (fun c1 => ?_) (fun c2 => ?_)
  · have c1 : k < (0) := c1
    refine av_wp_sqF ck_6 1 (pc' := 20) (lv' := [some (.inr (.inr (.inl (some (b))))), some (.inl k), some (.inl w)]) (st' := [.inl (-1)]) (h' := h) rfl ?_
    refine av_wp_ret (v := some (.inl (-1))) (ck_6 _ _ rfl) rfl rfl ?_
    exact hq _
  · have c2 : (0) ≤ k := c2
    refine av_wp_sqF ck_6 2 (pc' := 7) (lv' := [some (.inr (.inr (.inl (some (b))))), some (.inl k), some (.inl w)]) (st' := [.inl (12), .inl k]) (h' := h) rfl ?_
    refine wq_k2 (p' := 10) (ck_6 _ _ rfl) rfl ⟨by omega, by omega⟩ ⟨by omega, by omega⟩ (fun c3 => ?_) (fun c4 => ?_)
    · have c3 : (12) ≤ k := c3
      refine av_wp_sqF ck_6 1 (pc' := 20) (lv' := [some (.inr (.inr (.inl (some (b))))), some (.inl k), some (.inl w)]) (st' := [.inl (-1)]) (h' := h) rfl ?_
      refine av_wp_ret (v := some (.inl (-1))) (ck_6 _ _ rfl) rfl rfl ?_
      exact hq _
    · have c4 : k < (12) := c4
      refine av_wp_sqF ck_6 1 (pc' := 11) (lv' := [some (.inr (.inr (.inl (some (b))))), some (.inl k), some (.inl w)]) (st' := [.inl w]) (h' := h) rfl ?_
      refine wq_k1 (p' := 14) (ck_6 _ _ rfl) rfl ⟨by omega, by omega⟩ (fun c5 => ?_) (fun c6 => ?_)
      · have c5 : w < (0) := c5
        refine av_wp_sqF ck_6 1 (pc' := 20) (lv' := [some (.inr (.inr (.inl (some (b))))), some (.inl k), some (.inl w)]) (st' := [.inl (-1)]) (h' := h) rfl ?_
        refine av_wp_ret (v := some (.inl (-1))) (ck_6 _ _ rfl) rfl rfl ?_
        exact hq _
      · have c6 : (0) ≤ w := c6
        refine av_wp_sqF ck_6 2 (pc' := 16) (lv' := [some (.inr (.inr (.inl (some (b))))), some (.inl k), some (.inl w)]) (st' := [.inl (2), .inl w]) (h' := h) rfl ?_
        refine wq_k2 (p' := 19) (ck_6 _ _ rfl) rfl ⟨by omega, by omega⟩ ⟨by omega, by omega⟩ (fun c7 => ?_) (fun c8 => ?_)
        · have c7 : w ≤ (2) := c7
          refine av_wp_sqF ck_6 1 (pc' := 22) (lv' := [some (.inr (.inr (.inl (some (b))))), some (.inl k), some (.inl w)]) (st' := [.inr (.inr (.inl (some (b))))]) (h' := h) rfl ?_
          refine wq_gr (p' := 25) (ck_6 _ _ rfl) rfl (congrArg Prod.fst (ib_k0 i)) rfl (ib_g i 0 rfl) ?_
          refine av_wp_sqF ck_6 5 (pc' := 31) (lv' := [some (.inr (.inr (.inl (some (b))))), some (.inl k), some (.inl w)]) (st' := [.inl ((w * (12)) + k), .inr (.inr (.inl (some (b + 1 + 0))))]) (h' := h) rfl ?_
          obtain ⟨v9, e10⟩ : ∃ v, hA h (b + 1 + 0) (Int.toNat (((w * (12)) + k))) = v := ⟨_, rfl⟩
          refine wq_al (p' := 32) (n := 36) (ck_6 _ _ rfl) rfl (ib_k i 0 rfl) (by omega) (e10) ?_
          refine av_wp_ret (v := some (.inl v9)) (ck_6 _ _ rfl) rfl rfl ?_
          exact hq _
        · have c8 : (2) < w := c8
          refine av_wp_sqF ck_6 1 (pc' := 20) (lv' := [some (.inr (.inr (.inl (some (b))))), some (.inl k), some (.inl w)]) (st' := [.inl (-1)]) (h' := h) rfl ?_
          refine av_wp_ret (v := some (.inl (-1))) (ck_6 _ _ rfl) rfl rfl ?_
          exact hq _

set_option maxRecDepth 100000 in
set_option maxHeartbeats 4000000 in
theorem ct_8 {g h : av_H} {b t c s r : Nat} {cb : Int} (i : IB b t c s r cb h) (F : Fr1 g h) (k : Int) (x : Int) (y : Int) (z : Int) (q0 : (0 ≤ k ∧ k ≤ 11)) {Q : Option av_V → av_H → Prop} (hq : ∀ h', IB b t c s r cb h' → Fr1 g h' → Q none h') : av_wp none cd_8 0 [some (.inr (.inr (.inl (some (b))))), some (.inl k), some (.inl x), some (.inl y), some (.inl z)] [] h Q := by
  have s12 := co_s12 (ib_co i)
  have cbr := co_cbr (ib_co i)
  refine av_wp_sqF ck_8 1 (pc' := 1) (lv' := [some (.inr (.inr (.inl (some (b))))), some (.inl k), some (.inl x), some (.inl y), some (.inl z)]) (st' := [.inr (.inr (.inl (some (b))))]) (h' := h) rfl ?_
  refine wq_gr (p' := 4) (ck_8 _ _ rfl) rfl (congrArg Prod.fst (ib_k0 i)) rfl (ib_g i 2 rfl) ?_
  refine av_wp_sqF ck_8 1 (pc' := 5) (lv' := [some (.inr (.inr (.inl (some (b))))), some (.inl k), some (.inl x), some (.inl y), some (.inl z)]) (st' := [.inl k, .inr (.inr (.inl (some (b + 1 + 2))))]) (h' := h) rfl ?_
  obtain ⟨v1, e2⟩ : ∃ v, hA h (b + 1 + 2) (Int.toNat (k)) = v := ⟨_, rfl⟩
  refine wq_bl (p' := 6) (n := 12) (ck_8 _ _ rfl) rfl ((Or.inr (ib_k i 2 rfl))) (by omega) (e2) ?_
  refine wq_c1 (p' := 9) (ck_8 _ _ rfl) rfl ?_ ?_
  · refine av_wp_ret (v := none) (ck_8 _ _ rfl) rfl rfl ?_
    exact hq h i F
  · refine av_wp_sqF ck_8 2 (pc' := 11) (lv' := [some (.inr (.inr (.inl (some (b))))), some (.inl k), some (.inl x), some (.inl y), some (.inl z)]) (st' := [.inl (-1), .inl x]) (h' := h) rfl ?_
    refine wq_c2 (p' := 14) (ck_8 _ _ rfl) rfl ?_ ?_
    · refine av_wp_ret (v := none) (ck_8 _ _ rfl) rfl rfl ?_
      exact hq h i F
    · refine av_wp_sqF ck_8 2 (pc' := 16) (lv' := [some (.inr (.inr (.inl (some (b))))), some (.inl k), some (.inl x), some (.inl y), some (.inl z)]) (st' := [.inr (.inr (.inl (some (b)))), .inl x]) (h' := h) rfl ?_
      refine wq_gr (p' := 19) (ck_8 _ _ rfl) rfl (congrArg Prod.fst (ib_k0 i)) rfl (ib_g i 6 rfl) ?_
      refine av_wp_sqF ck_8 1 (pc' := 20) (lv' := [some (.inr (.inr (.inl (some (b))))), some (.inl k), some (.inl x), some (.inl y), some (.inl z)]) (st' := [.inl k, .inr (.inr (.inl (some (b + 1 + 6)))), .inl x]) (h' := h) rfl ?_
      obtain ⟨v4, e5⟩ : ∃ v, hA h (b + 1 + 6) (Int.toNat (k)) = v := ⟨_, rfl⟩
      refine wq_al (p' := 21) (n := 12) (ck_8 _ _ rfl) rfl (ib_k i 6 rfl) (by omega) (e5) ?_
      refine wq_c2 (p' := 24) (ck_8 _ _ rfl) rfl ?_ ?_
      · refine av_wp_sqF ck_8 1 (pc' := 45) (lv' := [some (.inr (.inr (.inl (some (b))))), some (.inl k), some (.inl x), some (.inl y), some (.inl z)]) (st' := [.inr (.inr (.inl (some (b))))]) (h' := h) rfl ?_
        refine wq_gr (p' := 48) (ck_8 _ _ rfl) rfl (congrArg Prod.fst (ib_k0 i)) rfl (ib_g i 6 rfl) ?_
        refine av_wp_sqF ck_8 2 (pc' := 50) (lv' := [some (.inr (.inr (.inl (some (b))))), some (.inl k), some (.inl x), some (.inl y), some (.inl z)]) (st' := [.inl x, .inl k, .inr (.inr (.inl (some (b + 1 + 6))))]) (h' := h) rfl ?_
        refine ib_as (p' := 51) (n := 12) rfl rfl i F 6 rfl rfl (by omega) (fun h7 i8 F9 => ?_)
        refine av_wp_sqF ck_8 1 (pc' := 52) (lv' := [some (.inr (.inr (.inl (some (b))))), some (.inl k), some (.inl x), some (.inl y), some (.inl z)]) (st' := [.inr (.inr (.inl (some (b))))]) (h' := h7) rfl ?_
        refine wq_gr (p' := 55) (ck_8 _ _ rfl) rfl (congrArg Prod.fst (ib_k0 i8)) rfl (ib_g i8 7 rfl) ?_
        refine av_wp_sqF ck_8 2 (pc' := 57) (lv' := [some (.inr (.inr (.inl (some (b))))), some (.inl k), some (.inl x), some (.inl y), some (.inl z)]) (st' := [.inl y, .inl k, .inr (.inr (.inl (some (b + 1 + 7))))]) (h' := h7) rfl ?_
        refine ib_as (p' := 58) (n := 12) rfl rfl i8 F9 7 rfl rfl (by omega) (fun h10 i11 F12 => ?_)
        refine av_wp_sqF ck_8 1 (pc' := 59) (lv' := [some (.inr (.inr (.inl (some (b))))), some (.inl k), some (.inl x), some (.inl y), some (.inl z)]) (st' := [.inr (.inr (.inl (some (b))))]) (h' := h10) rfl ?_
        refine wq_gr (p' := 62) (ck_8 _ _ rfl) rfl (congrArg Prod.fst (ib_k0 i11)) rfl (ib_g i11 8 rfl) ?_
        refine av_wp_sqF ck_8 2 (pc' := 65) (lv' := [some (.inr (.inr (.inl (some (b))))), some (.inl k), some (.inl x), some (.inl y), some (.inl z)]) (st' := [.inl z, .inl k, .inr (.inr (.inl (some (b + 1 + 8))))]) (h' := h10) rfl ?_
        refine ib_as (p' := 66) (n := 12) rfl rfl i11 F12 8 rfl rfl (by omega) (fun h13 i14 F15 => ?_)
        refine av_wp_ret (v := none) (ck_8 _ _ rfl) rfl rfl ?_
        exact hq h13 i14 F15
      · refine av_wp_sqF ck_8 2 (pc' := 26) (lv' := [some (.inr (.inr (.inl (some (b))))), some (.inl k), some (.inl x), some (.inl y), some (.inl z)]) (st' := [.inr (.inr (.inl (some (b)))), .inl x]) (h' := h) rfl ?_
        refine wq_gr (p' := 29) (ck_8 _ _ rfl) rfl (congrArg Prod.fst (ib_k0 i)) rfl (ib_g i 6 rfl) ?_
        refine av_wp_sqF ck_8 1 (pc' := 30) (lv' := [some (.inr (.inr (.inl (some (b))))), some (.inl k), some (.inl x), some (.inl y), some (.inl z)]) (st' := [.inl k, .inr (.inr (.inl (some (b + 1 + 6)))), .inl x]) (h' := h) rfl ?_
        obtain ⟨v16, e17⟩ : ∃ v, hA h (b + 1 + 6) (Int.toNat (k)) = v := ⟨_, rfl⟩
        refine wq_al (p' := 31) (n := 12) (ck_8 _ _ rfl) rfl (ib_k i 6 rfl) (by omega) (e17) ?_
        refine wq_c2 (p' := 34) (ck_8 _ _ rfl) rfl ?_ ?_
        · refine av_wp_ret (v := none) (ck_8 _ _ rfl) rfl rfl ?_
          exact hq h i F
        · refine av_wp_sqF ck_8 2 (pc' := 36) (lv' := [some (.inr (.inr (.inl (some (b))))), some (.inl k), some (.inl x), some (.inl y), some (.inl z)]) (st' := [.inr (.inr (.inl (some (b)))), .inl y]) (h' := h) rfl ?_
          refine wq_gr (p' := 39) (ck_8 _ _ rfl) rfl (congrArg Prod.fst (ib_k0 i)) rfl (ib_g i 7 rfl) ?_
          refine av_wp_sqF ck_8 1 (pc' := 40) (lv' := [some (.inr (.inr (.inl (some (b))))), some (.inl k), some (.inl x), some (.inl y), some (.inl z)]) (st' := [.inl k, .inr (.inr (.inl (some (b + 1 + 7)))), .inl y]) (h' := h) rfl ?_
          obtain ⟨v19, e20⟩ : ∃ v, hA h (b + 1 + 7) (Int.toNat (k)) = v := ⟨_, rfl⟩
          refine wq_al (p' := 41) (n := 12) (ck_8 _ _ rfl) rfl (ib_k i 7 rfl) (by omega) (e20) ?_
          refine wq_c2 (p' := 44) (ck_8 _ _ rfl) rfl ?_ ?_
          · refine av_wp_ret (v := none) (ck_8 _ _ rfl) rfl rfl ?_
            exact hq h i F
          · refine av_wp_sqF ck_8 1 (pc' := 45) (lv' := [some (.inr (.inr (.inl (some (b))))), some (.inl k), some (.inl x), some (.inl y), some (.inl z)]) (st' := [.inr (.inr (.inl (some (b))))]) (h' := h) rfl ?_
            refine wq_gr (p' := 48) (ck_8 _ _ rfl) rfl (congrArg Prod.fst (ib_k0 i)) rfl (ib_g i 6 rfl) ?_
            refine av_wp_sqF ck_8 2 (pc' := 50) (lv' := [some (.inr (.inr (.inl (some (b))))), some (.inl k), some (.inl x), some (.inl y), some (.inl z)]) (st' := [.inl x, .inl k, .inr (.inr (.inl (some (b + 1 + 6))))]) (h' := h) rfl ?_
            refine ib_as (p' := 51) (n := 12) rfl rfl i F 6 rfl rfl (by omega) (fun h22 i23 F24 => ?_)
            refine av_wp_sqF ck_8 1 (pc' := 52) (lv' := [some (.inr (.inr (.inl (some (b))))), some (.inl k), some (.inl x), some (.inl y), some (.inl z)]) (st' := [.inr (.inr (.inl (some (b))))]) (h' := h22) rfl ?_
            refine wq_gr (p' := 55) (ck_8 _ _ rfl) rfl (congrArg Prod.fst (ib_k0 i23)) rfl (ib_g i23 7 rfl) ?_
            refine av_wp_sqF ck_8 2 (pc' := 57) (lv' := [some (.inr (.inr (.inl (some (b))))), some (.inl k), some (.inl x), some (.inl y), some (.inl z)]) (st' := [.inl y, .inl k, .inr (.inr (.inl (some (b + 1 + 7))))]) (h' := h22) rfl ?_
            refine ib_as (p' := 58) (n := 12) rfl rfl i23 F24 7 rfl rfl (by omega) (fun h25 i26 F27 => ?_)
            refine av_wp_sqF ck_8 1 (pc' := 59) (lv' := [some (.inr (.inr (.inl (some (b))))), some (.inl k), some (.inl x), some (.inl y), some (.inl z)]) (st' := [.inr (.inr (.inl (some (b))))]) (h' := h25) rfl ?_
            refine wq_gr (p' := 62) (ck_8 _ _ rfl) rfl (congrArg Prod.fst (ib_k0 i26)) rfl (ib_g i26 8 rfl) ?_
            refine av_wp_sqF ck_8 2 (pc' := 65) (lv' := [some (.inr (.inr (.inl (some (b))))), some (.inl k), some (.inl x), some (.inl y), some (.inl z)]) (st' := [.inl z, .inl k, .inr (.inr (.inl (some (b + 1 + 8))))]) (h' := h25) rfl ?_
            refine ib_as (p' := 66) (n := 12) rfl rfl i26 F27 8 rfl rfl (by omega) (fun h28 i29 F30 => ?_)
            refine av_wp_ret (v := none) (ck_8 _ _ rfl) rfl rfl ?_
            exact hq h28 i29 F30

set_option maxRecDepth 100000 in
set_option maxHeartbeats 4000000 in
theorem ct_10 {g h : av_H} {b t c s r : Nat} {cb : Int} (i : IB b t c s r cb h) (F : Fr1 g h) (k : Int) (q0 : (0 ≤ k ∧ k < (s : Int))) {Q : Option av_V → av_H → Prop} (hq : ∀ v : Int, (0 ≤ v ∧ v ≤ 100001) → Q (some (.inl v)) h) : av_wp none cd_10 0 [some (.inr (.inr (.inl (some (b))))), some (.inl k), none] [] h Q := by
  have s12 := co_s12 (ib_co i)
  have cbr := co_cbr (ib_co i)
  refine av_wp_sqF ck_10 1 (pc' := 1) (lv' := [some (.inr (.inr (.inl (some (b))))), some (.inl k), none]) (st' := [.inr (.inr (.inl (some (b))))]) (h' := h) rfl ?_
  refine wq_gr (p' := 4) (ck_10 _ _ rfl) rfl (congrArg Prod.fst (ib_k0 i)) rfl (ib_t i) ?_
  refine wq_gr (p' := 7) (ck_10 _ _ rfl) rfl (congrArg Prod.fst (co_kt (ib_co i))) rfl (co_c (ib_co i)) ?_
  refine av_wp_sqF ck_10 5 (pc' := 13) (lv' := [some (.inr (.inr (.inl (some (b))))), some (.inl k), none]) (st' := [.inl ((k * (21)) + (5)), .inr (.inr (.inl (some (c))))]) (h' := h) rfl ?_
  obtain ⟨v1, e2⟩ : ∃ v, hA h (c) (Int.toNat (((k * (21)) + (5)))) = v := ⟨_, rfl⟩
  have g3 := co_v (ib_co i) (Int.toNat (((k * (21)) + (5))))
  rw [e2] at g3
  refine wq_al (p' := 14) (n := 21 * s) (ck_10 _ _ rfl) rfl (co_kc (ib_co i)) (by omega) (e2) ?_
  refine av_wp_sqF ck_10 3 (pc' := 17) (lv' := [some (.inr (.inr (.inl (some (b))))), some (.inl k), some (.inl v1)]) (st' := [.inl (-1), .inl v1]) (h' := h) rfl ?_
  refine wq_k2 (p' := 20) (ck_10 _ _ rfl) rfl ⟨by omega, by omega⟩ ⟨by omega, by omega⟩ (fun c4 => ?_) (fun c5 => ?_)
  · have c4 : v1 = (-1) := c4
    refine av_wp_sqF ck_10 1 (pc' := 38) (lv' := [some (.inr (.inr (.inl (some (b))))), some (.inl k), some (.inl v1)]) (st' := [.inl (0)]) (h' := h) rfl ?_
    refine av_wp_ret (v := some (.inl (0))) (ck_10 _ _ rfl) rfl rfl ?_
    exact hq _ (by omega)
  · have c5 : v1 ≠ (-1) := c5
    refine av_wp_sqF ck_10 1 (pc' := 21) (lv' := [some (.inr (.inr (.inl (some (b))))), some (.inl k), some (.inl v1)]) (st' := [.inr (.inr (.inl (some (b))))]) (h' := h) rfl ?_
    refine wq_gr (p' := 24) (ck_10 _ _ rfl) rfl (congrArg Prod.fst (ib_k0 i)) rfl (ib_r i) ?_
    refine av_wp_sqF ck_10 1 (pc' := 26) (lv' := [some (.inr (.inr (.inl (some (b))))), some (.inl k), some (.inl v1)]) (st' := [.inl (6), .inr (.inr (.inl (some (r))))]) (h' := h) rfl ?_
    obtain ⟨v6, e7⟩ : ∃ v, hA h (r) (Int.toNat ((6))) = v := ⟨_, rfl⟩
    have g8 := ib_rv i (Int.toNat ((6)))
    rw [e7] at g8
    refine wq_al (p' := 27) (n := 14) (ck_10 _ _ rfl) rfl (ib_kr i) (by omega) (e7) ?_
    refine av_wp_sqF ck_10 1 (pc' := 28) (lv' := [some (.inr (.inr (.inl (some (b))))), some (.inl k), some (.inl v1)]) (st' := [.inl (1), .inl v6]) (h' := h) rfl ?_
    refine wq_k2 (p' := 31) (ck_10 _ _ rfl) rfl ⟨by omega, by omega⟩ ⟨by omega, by omega⟩ (fun c9 => ?_) (fun c10 => ?_)
    · have c9 : v6 ≠ (1) := c9
      refine av_wp_sqF ck_10 1 (pc' := 38) (lv' := [some (.inr (.inr (.inl (some (b))))), some (.inl k), some (.inl v1)]) (st' := [.inl (0)]) (h' := h) rfl ?_
      refine av_wp_ret (v := some (.inl (0))) (ck_10 _ _ rfl) rfl rfl ?_
      exact hq _ (by omega)
    · have c10 : v6 = (1) := c10
      refine av_wp_sqF ck_10 4 (pc' := 38) (lv' := [some (.inr (.inr (.inl (some (b))))), some (.inl k), some (.inl v1)]) (st' := [.inl (v1 + (1))]) (h' := h) rfl ?_
      refine av_wp_ret (v := some (.inl (v1 + (1)))) (ck_10 _ _ rfl) rfl rfl ?_
      exact hq _ (by omega)

set_option maxRecDepth 100000 in
set_option maxHeartbeats 4000000 in
theorem ct_13 {g h : av_H} {b t c s r : Nat} {cb : Int} (i : IB b t c s r cb h) (F : Fr1 g h) (k : Int) (q0 : (0 ≤ k ∧ k < (s : Int))) {Q : Option av_V → av_H → Prop} (hq : ∀ v : Int, (-2 ≤ v ∧ v ≤ 999) → Q (some (.inl v)) h) : av_wp none cd_13 0 [some (.inr (.inr (.inl (some (b))))), some (.inl k), none] [] h Q := by
  have s12 := co_s12 (ib_co i)
  have cbr := co_cbr (ib_co i)
  refine av_wp_sqF ck_13 1 (pc' := 1) (lv' := [some (.inr (.inr (.inl (some (b))))), some (.inl k), none]) (st' := [.inr (.inr (.inl (some (b))))]) (h' := h) rfl ?_
  refine wq_gr (p' := 4) (ck_13 _ _ rfl) rfl (congrArg Prod.fst (ib_k0 i)) rfl (ib_t i) ?_
  refine wq_gr (p' := 7) (ck_13 _ _ rfl) rfl (congrArg Prod.fst (co_kt (ib_co i))) rfl (co_c (ib_co i)) ?_
  refine av_wp_sqF ck_13 5 (pc' := 13) (lv' := [some (.inr (.inr (.inl (some (b))))), some (.inl k), none]) (st' := [.inl ((k * (21)) + (0)), .inr (.inr (.inl (some (c))))]) (h' := h) rfl ?_
  obtain ⟨v1, e2⟩ : ∃ v, hA h (c) (Int.toNat (((k * (21)) + (0)))) = v := ⟨_, rfl⟩
  have g3 := co_v (ib_co i) (Int.toNat (((k * (21)) + (0))))
  rw [e2] at g3
  refine wq_al (p' := 14) (n := 21 * s) (ck_13 _ _ rfl) rfl (co_kc (ib_co i)) (by omega) (e2) ?_
  refine av_wp_sqF ck_13 1 (pc' := 16) (lv' := [some (.inr (.inr (.inl (some (b))))), some (.inl k), none]) (st' := [.inl (6), .inl v1]) (h' := h) rfl ?_
  refine wq_k2 (p' := 19) (ck_13 _ _ rfl) rfl ⟨by omega, by omega⟩ ⟨by omega, by omega⟩ (fun c4 => ?_) (fun c5 => ?_)
  · have c4 : v1 ≠ (6) := c4
    refine av_wp_sqF ck_13 1 (pc' := 22) (lv' := [some (.inr (.inr (.inl (some (b))))), some (.inl k), none]) (st' := [.inr (.inr (.inl (some (b))))]) (h' := h) rfl ?_
    refine wq_gr (p' := 25) (ck_13 _ _ rfl) rfl (congrArg Prod.fst (ib_k0 i)) rfl (ib_t i) ?_
    refine wq_gr (p' := 28) (ck_13 _ _ rfl) rfl (congrArg Prod.fst (co_kt (ib_co i))) rfl (co_c (ib_co i)) ?_
    refine av_wp_sqF ck_13 5 (pc' := 34) (lv' := [some (.inr (.inr (.inl (some (b))))), some (.inl k), none]) (st' := [.inl ((k * (21)) + (4)), .inr (.inr (.inl (some (c))))]) (h' := h) rfl ?_
    obtain ⟨v6, e7⟩ : ∃ v, hA h (c) (Int.toNat (((k * (21)) + (4)))) = v := ⟨_, rfl⟩
    have g8 := co_v (ib_co i) (Int.toNat (((k * (21)) + (4))))
    rw [e7] at g8
    refine wq_al (p' := 35) (n := 21 * s) (ck_13 _ _ rfl) rfl (co_kc (ib_co i)) (by omega) (e7) ?_
    refine av_wp_sqF ck_13 2 (pc' := 37) (lv' := [some (.inr (.inr (.inl (some (b))))), some (.inl k), some (.inl v6)]) (st' := [.inl v6]) (h' := h) rfl ?_
    refine wq_k1 (p' := 40) (ck_13 _ _ rfl) rfl ⟨by omega, by omega⟩ (fun c9 => ?_) (fun c10 => ?_)
    · have c9 : v6 < (0) := c9
      refine av_wp_sqF ck_13 1 (pc' := 46) (lv' := [some (.inr (.inr (.inl (some (b))))), some (.inl k), some (.inl v6)]) (st' := [.inr (.inr (.inl (some (b))))]) (h' := h) rfl ?_
      refine wq_gr (p' := 49) (ck_13 _ _ rfl) rfl (congrArg Prod.fst (ib_k0 i)) rfl (ib_r i) ?_
      refine av_wp_sqF ck_13 1 (pc' := 50) (lv' := [some (.inr (.inr (.inl (some (b))))), some (.inl k), some (.inl v6)]) (st' := [.inl (2), .inr (.inr (.inl (some (r))))]) (h' := h) rfl ?_
      obtain ⟨v11, e12⟩ : ∃ v, hA h (r) (Int.toNat ((2))) = v := ⟨_, rfl⟩
      have g13 := ib_rv i (Int.toNat ((2)))
      rw [e12] at g13
      refine wq_al (p' := 51) (n := 14) (ck_13 _ _ rfl) rfl (ib_kr i) (by omega) (e12) ?_
      refine av_wp_sqF ck_13 1 (pc' := 60) (lv' := [some (.inr (.inr (.inl (some (b))))), some (.inl k), some (.inl v6)]) (st' := [.inl v11]) (h' := h) rfl ?_
      refine av_wp_ret (v := some (.inl v11)) (ck_13 _ _ rfl) rfl rfl ?_
      exact hq _ (by omega)
    · have c10 : (0) ≤ v6 := c10
      refine av_wp_sqF ck_13 2 (pc' := 42) (lv' := [some (.inr (.inr (.inl (some (b))))), some (.inl k), some (.inl v6)]) (st' := [.inl (2), .inl v6]) (h' := h) rfl ?_
      refine wq_k2 (p' := 45) (ck_13 _ _ rfl) rfl ⟨by omega, by omega⟩ ⟨by omega, by omega⟩ (fun c14 => ?_) (fun c15 => ?_)
      · have c14 : v6 ≤ (2) := c14
        refine av_wp_sqF ck_13 1 (pc' := 55) (lv' := [some (.inr (.inr (.inl (some (b))))), some (.inl k), some (.inl v6)]) (st' := [.inr (.inr (.inl (some (b))))]) (h' := h) rfl ?_
        refine wq_gr (p' := 58) (ck_13 _ _ rfl) rfl (congrArg Prod.fst (ib_k0 i)) rfl (ib_r i) ?_
        refine av_wp_sqF ck_13 1 (pc' := 59) (lv' := [some (.inr (.inr (.inl (some (b))))), some (.inl k), some (.inl v6)]) (st' := [.inl v6, .inr (.inr (.inl (some (r))))]) (h' := h) rfl ?_
        obtain ⟨v16, e17⟩ : ∃ v, hA h (r) (Int.toNat (v6)) = v := ⟨_, rfl⟩
        have g18 := ib_rv i (Int.toNat (v6))
        rw [e17] at g18
        refine wq_al (p' := 60) (n := 14) (ck_13 _ _ rfl) rfl (ib_kr i) (by omega) (e17) ?_
        refine av_wp_ret (v := some (.inl v16)) (ck_13 _ _ rfl) rfl rfl ?_
        exact hq _ (by omega)
      · have c15 : (2) < v6 := c15
        refine av_wp_sqF ck_13 1 (pc' := 46) (lv' := [some (.inr (.inr (.inl (some (b))))), some (.inl k), some (.inl v6)]) (st' := [.inr (.inr (.inl (some (b))))]) (h' := h) rfl ?_
        refine wq_gr (p' := 49) (ck_13 _ _ rfl) rfl (congrArg Prod.fst (ib_k0 i)) rfl (ib_r i) ?_
        refine av_wp_sqF ck_13 1 (pc' := 50) (lv' := [some (.inr (.inr (.inl (some (b))))), some (.inl k), some (.inl v6)]) (st' := [.inl (2), .inr (.inr (.inl (some (r))))]) (h' := h) rfl ?_
        obtain ⟨v19, e20⟩ : ∃ v, hA h (r) (Int.toNat ((2))) = v := ⟨_, rfl⟩
        have g21 := ib_rv i (Int.toNat ((2)))
        rw [e20] at g21
        refine wq_al (p' := 51) (n := 14) (ck_13 _ _ rfl) rfl (ib_kr i) (by omega) (e20) ?_
        refine av_wp_sqF ck_13 1 (pc' := 60) (lv' := [some (.inr (.inr (.inl (some (b))))), some (.inl k), some (.inl v6)]) (st' := [.inl v19]) (h' := h) rfl ?_
        refine av_wp_ret (v := some (.inl v19)) (ck_13 _ _ rfl) rfl rfl ?_
        exact hq _ (by omega)
  · have c5 : v1 = (6) := c5
    refine av_wp_sqF ck_13 1 (pc' := 20) (lv' := [some (.inr (.inr (.inl (some (b))))), some (.inl k), none]) (st' := [.inl (0)]) (h' := h) rfl ?_
    refine av_wp_ret (v := some (.inl (0))) (ck_13 _ _ rfl) rfl rfl ?_
    exact hq _ (by omega)

set_option maxRecDepth 100000 in
set_option maxHeartbeats 4000000 in
theorem ct_15 {g h : av_H} {b t c s r : Nat} {cb : Int} (i : IB b t c s r cb h) (F : Fr1 g h) (k : Int) (q0 : (-2147483648 ≤ k ∧ k ≤ 2147483647)) {Q : Option av_V → av_H → Prop} (hq : ∀ v : Int, ((v = 1 ∧ 0 ≤ k ∧ k < (s : Int)) ∨ v = 0) → Q (some (.inl v)) h) : av_wp none cd_15 0 [some (.inr (.inr (.inl (some (b))))), some (.inl k)] [] h Q := by
  have s12 := co_s12 (ib_co i)
  have cbr := co_cbr (ib_co i)
  refine av_wp_sqF ck_15 1 (pc' := 1) (lv' := [some (.inr (.inr (.inl (some (b))))), some (.inl k)]) (st' := [.inr (.inr (.inl (some (b))))]) (h' := h) rfl ?_
  refine wq_gr (p' := 4) (ck_15 _ _ rfl) rfl (congrArg Prod.fst (ib_k0 i)) rfl (ib_t i) ?_
  refine av_wp_sqF ck_15 1 (pc' := 5) (lv' := [some (.inr (.inr (.inl (some (b))))), some (.inl k)]) (st' := [.inl k, .inr (.inr (.inl (some (t))))]) (h' := h) rfl ?_
  refine wq_cv (p' := 8) (av_qc (.invokevirtual 136) 28 1 0 1) 2 cd_28 [.inl k] (t) 1 [some (.inr (.inr (.inl (some (t))))), some (.inl k)] (ck_15 _ _ rfl) rfl rfl pp_28 rfl rfl rfl (congrArg Prod.fst (co_kt (ib_co i))) rfl rfl rfl rfl ?_
  refine ct_28 (ib_co i) (k) (by omega) (fun v1 p2 => ?_)
  show av_wp _ cd_15 8 [some (.inr (.inr (.inl (some (b))))), some (.inl k)] [.inl v1] h _
  refine wq_k1 (p' := 11) (ck_15 _ _ rfl) rfl ⟨by omega, by omega⟩ (fun c3 => ?_) (fun c4 => ?_)
  · have c3 : v1 = (0) := c3
    refine av_wp_sqF ck_15 1 (pc' := 25) (lv' := [some (.inr (.inr (.inl (some (b))))), some (.inl k)]) (st' := [.inl (0)]) (h' := h) rfl ?_
    refine av_wp_ret (v := some (.inl (0))) (ck_15 _ _ rfl) rfl rfl ?_
    exact hq _ (by omega)
  · have c4 : v1 ≠ (0) := c4
    refine av_wp_sqF ck_15 1 (pc' := 12) (lv' := [some (.inr (.inr (.inl (some (b))))), some (.inl k)]) (st' := [.inr (.inr (.inl (some (b))))]) (h' := h) rfl ?_
    refine wq_gr (p' := 15) (ck_15 _ _ rfl) rfl (congrArg Prod.fst (ib_k0 i)) rfl (ib_g i 2 rfl) ?_
    refine av_wp_sqF ck_15 1 (pc' := 16) (lv' := [some (.inr (.inr (.inl (some (b))))), some (.inl k)]) (st' := [.inl k, .inr (.inr (.inl (some (b + 1 + 2))))]) (h' := h) rfl ?_
    obtain ⟨v5, e6⟩ : ∃ v, hA h (b + 1 + 2) (Int.toNat (k)) = v := ⟨_, rfl⟩
    refine wq_bl (p' := 17) (n := 12) (ck_15 _ _ rfl) rfl ((Or.inr (ib_k i 2 rfl))) (by omega) (e6) ?_
    refine wq_c1 (p' := 20) (ck_15 _ _ rfl) rfl ?_ ?_
    · refine av_wp_sqF ck_15 1 (pc' := 25) (lv' := [some (.inr (.inr (.inl (some (b))))), some (.inl k)]) (st' := [.inl (0)]) (h' := h) rfl ?_
      refine av_wp_ret (v := some (.inl (0))) (ck_15 _ _ rfl) rfl rfl ?_
      exact hq _ (by omega)
    · refine av_wp_sqF ck_15 2 (pc' := 25) (lv' := [some (.inr (.inr (.inl (some (b))))), some (.inl k)]) (st' := [.inl (1)]) (h' := h) rfl ?_
      refine av_wp_ret (v := some (.inl (1))) (ck_15 _ _ rfl) rfl rfl ?_
      exact hq _ (by omega)

set_option maxRecDepth 100000 in
set_option maxHeartbeats 4000000 in
theorem ct_16 {g h : av_H} {b t c s r : Nat} {cb : Int} (i : IB b t c s r cb h) (F : Fr1 g h) (k : Int) (x : Int) (q0 : (0 ≤ k ∧ k ≤ 11)) {Q : Option av_V → av_H → Prop} (hq : ∀ v : Int, (v = 0 ∨ v = 1) → Q (some (.inl v)) h) : av_wp none cd_16 0 [some (.inr (.inr (.inl (some (b))))), some (.inl k), some (.inl x)] [] h Q := by
  have s12 := co_s12 (ib_co i)
  have cbr := co_cbr (ib_co i)
  refine av_wp_sqF ck_16 2 (pc' := 2) (lv' := [some (.inr (.inr (.inl (some (b))))), some (.inl k), some (.inl x)]) (st' := [.inl (-1), .inl x]) (h' := h) rfl ?_
  refine wq_c2 (p' := 5) (ck_16 _ _ rfl) rfl ?_ ?_
  · refine av_wp_sqF ck_16 1 (pc' := 40) (lv' := [some (.inr (.inr (.inl (some (b))))), some (.inl k), some (.inl x)]) (st' := [.inl (0)]) (h' := h) rfl ?_
    refine av_wp_ret (v := some (.inl (0))) (ck_16 _ _ rfl) rfl rfl ?_
    exact hq _ (by omega)
  · refine av_wp_sqF ck_16 1 (pc' := 6) (lv' := [some (.inr (.inr (.inl (some (b))))), some (.inl k), some (.inl x)]) (st' := [.inr (.inr (.inl (some (b))))]) (h' := h) rfl ?_
    refine wq_gr (p' := 9) (ck_16 _ _ rfl) rfl (congrArg Prod.fst (ib_k0 i)) rfl (ib_g i 5 rfl) ?_
    refine av_wp_sqF ck_16 1 (pc' := 10) (lv' := [some (.inr (.inr (.inl (some (b))))), some (.inl k), some (.inl x)]) (st' := [.inl k, .inr (.inr (.inl (some (b + 1 + 5))))]) (h' := h) rfl ?_
    obtain ⟨v1, e2⟩ : ∃ v, hA h (b + 1 + 5) (Int.toNat (k)) = v := ⟨_, rfl⟩
    refine wq_al (p' := 11) (n := 12) (ck_16 _ _ rfl) rfl (ib_k i 5 rfl) (by omega) (e2) ?_
    refine av_wp_sqF ck_16 1 (pc' := 12) (lv' := [some (.inr (.inr (.inl (some (b))))), some (.inl k), some (.inl x)]) (st' := [.inl (-1), .inl v1]) (h' := h) rfl ?_
    refine wq_c2 (p' := 15) (ck_16 _ _ rfl) rfl ?_ ?_
    · refine av_wp_sqF ck_16 1 (pc' := 40) (lv' := [some (.inr (.inr (.inl (some (b))))), some (.inl k), some (.inl x)]) (st' := [.inl (0)]) (h' := h) rfl ?_
      refine av_wp_ret (v := some (.inl (0))) (ck_16 _ _ rfl) rfl rfl ?_
      exact hq _ (by omega)
    · refine av_wp_sqF ck_16 2 (pc' := 17) (lv' := [some (.inr (.inr (.inl (some (b))))), some (.inl k), some (.inl x)]) (st' := [.inr (.inr (.inl (some (b)))), .inl x]) (h' := h) rfl ?_
      refine wq_gr (p' := 20) (ck_16 _ _ rfl) rfl (congrArg Prod.fst (ib_k0 i)) rfl (ib_g i 5 rfl) ?_
      refine av_wp_sqF ck_16 1 (pc' := 21) (lv' := [some (.inr (.inr (.inl (some (b))))), some (.inl k), some (.inl x)]) (st' := [.inl k, .inr (.inr (.inl (some (b + 1 + 5)))), .inl x]) (h' := h) rfl ?_
      obtain ⟨v4, e5⟩ : ∃ v, hA h (b + 1 + 5) (Int.toNat (k)) = v := ⟨_, rfl⟩
      refine wq_al (p' := 22) (n := 12) (ck_16 _ _ rfl) rfl (ib_k i 5 rfl) (by omega) (e5) ?_
      refine wq_c2 (p' := 25) (ck_16 _ _ rfl) rfl ?_ ?_
      · refine av_wp_sqF ck_16 1 (pc' := 40) (lv' := [some (.inr (.inr (.inl (some (b))))), some (.inl k), some (.inl x)]) (st' := [.inl (0)]) (h' := h) rfl ?_
        refine av_wp_ret (v := some (.inl (0))) (ck_16 _ _ rfl) rfl rfl ?_
        exact hq _ (by omega)
      · refine av_wp_sqF ck_16 2 (pc' := 27) (lv' := [some (.inr (.inr (.inl (some (b))))), some (.inl k), some (.inl x)]) (st' := [.inr (.inr (.inl (some (b)))), .inl x]) (h' := h) rfl ?_
        refine wq_gr (p' := 30) (ck_16 _ _ rfl) rfl (congrArg Prod.fst (ib_k0 i)) rfl (ib_g i 6 rfl) ?_
        refine av_wp_sqF ck_16 1 (pc' := 31) (lv' := [some (.inr (.inr (.inl (some (b))))), some (.inl k), some (.inl x)]) (st' := [.inl k, .inr (.inr (.inl (some (b + 1 + 6)))), .inl x]) (h' := h) rfl ?_
        obtain ⟨v7, e8⟩ : ∃ v, hA h (b + 1 + 6) (Int.toNat (k)) = v := ⟨_, rfl⟩
        refine wq_al (p' := 32) (n := 12) (ck_16 _ _ rfl) rfl (ib_k i 6 rfl) (by omega) (e8) ?_
        refine wq_c2 (p' := 35) (ck_16 _ _ rfl) rfl ?_ ?_
        · refine av_wp_sqF ck_16 1 (pc' := 40) (lv' := [some (.inr (.inr (.inl (some (b))))), some (.inl k), some (.inl x)]) (st' := [.inl (0)]) (h' := h) rfl ?_
          refine av_wp_ret (v := some (.inl (0))) (ck_16 _ _ rfl) rfl rfl ?_
          exact hq _ (by omega)
        · refine av_wp_sqF ck_16 2 (pc' := 40) (lv' := [some (.inr (.inr (.inl (some (b))))), some (.inl k), some (.inl x)]) (st' := [.inl (1)]) (h' := h) rfl ?_
          refine av_wp_ret (v := some (.inl (1))) (ck_16 _ _ rfl) rfl rfl ?_
          exact hq _ (by omega)

set_option maxRecDepth 100000 in
set_option maxHeartbeats 4000000 in
theorem ct_26 {g h : av_H} {b t c s r : Nat} {cb : Int} (i : IB b t c s r cb h) (F : Fr1 g h) (k : Int) (q0 : (0 ≤ k ∧ k ≤ 11)) {Q : Option av_V → av_H → Prop} (hq : ∀ v : Int, Q (some (.inl v)) h) : av_wp none cd_26 0 [some (.inr (.inr (.inl (some (b))))), some (.inl k)] [] h Q := by
  have s12 := co_s12 (ib_co i)
  have cbr := co_cbr (ib_co i)
  refine av_wp_sqF ck_26 1 (pc' := 1) (lv' := [some (.inr (.inr (.inl (some (b))))), some (.inl k)]) (st' := [.inr (.inr (.inl (some (b))))]) (h' := h) rfl ?_
  refine wq_gr (p' := 4) (ck_26 _ _ rfl) rfl (congrArg Prod.fst (ib_k0 i)) rfl (ib_g i 6 rfl) ?_
  refine av_wp_sqF ck_26 1 (pc' := 5) (lv' := [some (.inr (.inr (.inl (some (b))))), some (.inl k)]) (st' := [.inl k, .inr (.inr (.inl (some (b + 1 + 6))))]) (h' := h) rfl ?_
  obtain ⟨v1, e2⟩ : ∃ v, hA h (b + 1 + 6) (Int.toNat (k)) = v := ⟨_, rfl⟩
  refine wq_al (p' := 6) (n := 12) (ck_26 _ _ rfl) rfl (ib_k i 6 rfl) (by omega) (e2) ?_
  refine av_wp_sqF ck_26 1 (pc' := 7) (lv' := [some (.inr (.inr (.inl (some (b))))), some (.inl k)]) (st' := [.inr (.inr (.inl (some (b)))), .inl v1]) (h' := h) rfl ?_
  obtain ⟨v4, e5⟩ : ∃ v, hF h b 15 = v := ⟨_, rfl⟩
  refine wq_gi (p' := 10) (ck_26 _ _ rfl) rfl (congrArg Prod.fst (ib_k0 i)) rfl (e5) ?_
  refine wq_mn (p' := 13) (ck_26 _ _ rfl) rfl rfl (fun _ _ => rfl) rfl (fun v6 e7 e8 => ?_)
  refine av_wp_sqF ck_26 2 (pc' := 15) (lv' := [some (.inr (.inr (.inl (some (b))))), some (.inl k)]) (st' := [.inl (v6 - (1))]) (h' := h) rfl ?_
  refine av_wp_ret (v := some (.inl (v6 - (1)))) (ck_26 _ _ rfl) rfl rfl ?_
  exact hq _

set_option maxRecDepth 100000 in
set_option maxHeartbeats 4000000 in
theorem ct_5 {g h : av_H} {b t c s r : Nat} {cb : Int} (i : IB b t c s r cb h) (F : Fr1 g h) (k : Int) (x : Int) (q0 : (0 ≤ k ∧ k < (s : Int))) {Q : Option av_V → av_H → Prop} (hq : ∀ h', IB b t c s r cb h' → Fr1 g h' → Q none h') : av_wp none cd_5 0 [some (.inr (.inr (.inl (some (b))))), some (.inl k), some (.inl x), none, none, none, none, none] [] h Q := by
  have s12 := co_s12 (ib_co i)
  have cbr := co_cbr (ib_co i)
  refine av_wp_sqF ck_5 10 (pc' := 14) (lv' := [some (.inr (.inr (.inl (some (b))))), some (.inl k), some (.inl x), some (.inl (k * (21))), some (.inl x), some (.inl (0)), some (.inl (0)), none]) (st' := []) (h' := h) rfl ?_
  have L9 : ∀ (m8 : Nat) (k1 : Int) (k2 : Int) (k3 : Int) (a4 : Option av_V) (h5 : av_H), av_lg a4 = false → (0 ≤ k3 ∧ k3 ≤ 3) → IB b t c s r cb h5 → Fr1 g h5 → ((3 : Int) - k3).toNat = m8 → av_wp none cd_5 14 [some (.inr (.inr (.inl (some (b))))), some (.inl k), some (.inl x), some (.inl (k * (21))), some (.inl k1), some (.inl k2), some (.inl k3), a4] [] h5 Q := by
    intro m8
    induction m8 using Nat.strongRecOn with
    | _ m8 I10 =>
      intro k1 k2 k3 a4 h5 g12 g13 i6 F7 e11
      have la4 := g12
      refine av_wp_sqF ck_5 2 (pc' := 17) (lv' := [some (.inr (.inr (.inl (some (b))))), some (.inl k), some (.inl x), some (.inl (k * (21))), some (.inl k1), some (.inl k2), some (.inl k3), a4]) (st' := [.inl (3), .inl k3]) (h' := h5) rfl ?_
      refine wq_k2 (p' := 20) (ck_5 _ _ rfl) rfl ⟨by omega, by omega⟩ ⟨by omega, by omega⟩ (fun c14 => ?_) (fun c15 => ?_)
      · have c14 : (3) ≤ k3 := c14
        refine av_wp_sqF ck_5 1 (pc' := 100) (lv' := [some (.inr (.inr (.inl (some (b))))), some (.inl k), some (.inl x), some (.inl (k * (21))), some (.inl k1), some (.inl k2), some (.inl k3), a4]) (st' := [.inr (.inr (.inl (some (b))))]) (h' := h5) rfl ?_
        refine wq_gr (p' := 103) (ck_5 _ _ rfl) rfl (congrArg Prod.fst (ib_k0 i6)) rfl (ib_t i6) ?_
        refine wq_gr (p' := 106) (ck_5 _ _ rfl) rfl (congrArg Prod.fst (co_kt (ib_co i6))) rfl (co_c (ib_co i6)) ?_
        refine av_wp_sqF ck_5 3 (pc' := 110) (lv' := [some (.inr (.inr (.inl (some (b))))), some (.inl k), some (.inl x), some (.inl (k * (21))), some (.inl k1), some (.inl k2), some (.inl k3), a4]) (st' := [.inl ((k * (21)) + (19)), .inr (.inr (.inl (some (c))))]) (h' := h5) rfl ?_
        obtain ⟨v16, e17⟩ : ∃ v, hA h5 (c) (Int.toNat (((k * (21)) + (19)))) = v := ⟨_, rfl⟩
        have g18 := co_v (ib_co i6) (Int.toNat (((k * (21)) + (19))))
        rw [e17] at g18
        refine wq_al (p' := 111) (n := 21 * s) (ck_5 _ _ rfl) rfl (co_kc (ib_co i6)) (by omega) (e17) ?_
        refine av_wp_sqF ck_5 1 (pc' := 112) (lv' := [some (.inr (.inr (.inl (some (b))))), some (.inl k), some (.inl x), some (.inl (k * (21))), some (.inl k1), some (.inl k2), some (.inl k3), a4]) (st' := [.inl (1), .inl v16]) (h' := h5) rfl ?_
        refine wq_k2 (p' := 115) (ck_5 _ _ rfl) rfl ⟨by omega, by omega⟩ ⟨by omega, by omega⟩ (fun c19 => ?_) (fun c20 => ?_)
        · have c19 : v16 = (1) := c19
          refine av_wp_sqF ck_5 1 (pc' := 122) (lv' := [some (.inr (.inr (.inl (some (b))))), some (.inl k), some (.inl x), some (.inl (k * (21))), some (.inl k1), some (.inl k2), some (.inl k3), a4]) (st' := [.inr (.inr (.inl (some (b))))]) (h' := h5) rfl ?_
          refine wq_gr (p' := 125) (ck_5 _ _ rfl) rfl (congrArg Prod.fst (ib_k0 i6)) rfl (ib_g i6 0 rfl) ?_
          refine av_wp_sqF ck_5 4 (pc' := 130) (lv' := [some (.inr (.inr (.inl (some (b))))), some (.inl k), some (.inl x), some (.inl (k * (21))), some (.inl k1), some (.inl k2), some (.inl k3), a4]) (st' := [.inl (-1), .inl ((12) + k), .inr (.inr (.inl (some (b + 1 + 0))))]) (h' := h5) rfl ?_
          refine ib_as (p' := 131) (n := 36) rfl rfl i6 F7 0 rfl rfl (by omega) (fun h21 i22 F23 => ?_)
          refine av_wp_sqF ck_5 1 (pc' := 132) (lv' := [some (.inr (.inr (.inl (some (b))))), some (.inl k), some (.inl x), some (.inl (k * (21))), some (.inl k1), some (.inl k2), some (.inl k3), a4]) (st' := [.inr (.inr (.inl (some (b))))]) (h' := h21) rfl ?_
          refine wq_gr (p' := 135) (ck_5 _ _ rfl) rfl (congrArg Prod.fst (ib_k0 i22)) rfl (ib_g i22 0 rfl) ?_
          refine av_wp_sqF ck_5 4 (pc' := 140) (lv' := [some (.inr (.inr (.inl (some (b))))), some (.inl k), some (.inl x), some (.inl (k * (21))), some (.inl k1), some (.inl k2), some (.inl k3), a4]) (st' := [.inl (-1), .inl ((24) + k), .inr (.inr (.inl (some (b + 1 + 0))))]) (h' := h21) rfl ?_
          refine ib_as (p' := 141) (n := 36) rfl rfl i22 F23 0 rfl rfl (by omega) (fun h24 i25 F26 => ?_)
          refine av_wp_ret (v := none) (ck_5 _ _ rfl) rfl rfl ?_
          exact hq h24 i25 F26
        · have c20 : v16 ≠ (1) := c20
          refine av_wp_sqF ck_5 2 (pc' := 118) (lv' := [some (.inr (.inr (.inl (some (b))))), some (.inl k), some (.inl x), some (.inl (k * (21))), some (.inl k1), some (.inl k2), some (.inl k3), a4]) (st' := [.inl (1), .inl k1]) (h' := h5) rfl ?_
          refine wq_c2 (p' := 121) (ck_5 _ _ rfl) rfl ?_ ?_
          · refine av_wp_ret (v := none) (ck_5 _ _ rfl) rfl rfl ?_
            exact hq h5 i6 F7
          · refine av_wp_sqF ck_5 1 (pc' := 122) (lv' := [some (.inr (.inr (.inl (some (b))))), some (.inl k), some (.inl x), some (.inl (k * (21))), some (.inl k1), some (.inl k2), some (.inl k3), a4]) (st' := [.inr (.inr (.inl (some (b))))]) (h' := h5) rfl ?_
            refine wq_gr (p' := 125) (ck_5 _ _ rfl) rfl (congrArg Prod.fst (ib_k0 i6)) rfl (ib_g i6 0 rfl) ?_
            refine av_wp_sqF ck_5 4 (pc' := 130) (lv' := [some (.inr (.inr (.inl (some (b))))), some (.inl k), some (.inl x), some (.inl (k * (21))), some (.inl k1), some (.inl k2), some (.inl k3), a4]) (st' := [.inl (-1), .inl ((12) + k), .inr (.inr (.inl (some (b + 1 + 0))))]) (h' := h5) rfl ?_
            refine ib_as (p' := 131) (n := 36) rfl rfl i6 F7 0 rfl rfl (by omega) (fun h27 i28 F29 => ?_)
            refine av_wp_sqF ck_5 1 (pc' := 132) (lv' := [some (.inr (.inr (.inl (some (b))))), some (.inl k), some (.inl x), some (.inl (k * (21))), some (.inl k1), some (.inl k2), some (.inl k3), a4]) (st' := [.inr (.inr (.inl (some (b))))]) (h' := h27) rfl ?_
            refine wq_gr (p' := 135) (ck_5 _ _ rfl) rfl (congrArg Prod.fst (ib_k0 i28)) rfl (ib_g i28 0 rfl) ?_
            refine av_wp_sqF ck_5 4 (pc' := 140) (lv' := [some (.inr (.inr (.inl (some (b))))), some (.inl k), some (.inl x), some (.inl (k * (21))), some (.inl k1), some (.inl k2), some (.inl k3), a4]) (st' := [.inl (-1), .inl ((24) + k), .inr (.inr (.inl (some (b + 1 + 0))))]) (h' := h27) rfl ?_
            refine ib_as (p' := 141) (n := 36) rfl rfl i28 F29 0 rfl rfl (by omega) (fun h30 i31 F32 => ?_)
            refine av_wp_ret (v := none) (ck_5 _ _ rfl) rfl rfl ?_
            exact hq h30 i31 F32
      · have c15 : k3 < (3) := c15
        refine av_wp_sqF ck_5 1 (pc' := 21) (lv' := [some (.inr (.inr (.inl (some (b))))), some (.inl k), some (.inl x), some (.inl (k * (21))), some (.inl k1), some (.inl k2), some (.inl k3), a4]) (st' := [.inr (.inr (.inl (some (b))))]) (h' := h5) rfl ?_
        refine wq_gr (p' := 24) (ck_5 _ _ rfl) rfl (congrArg Prod.fst (ib_k0 i6)) rfl (ib_t i6) ?_
        refine wq_gr (p' := 27) (ck_5 _ _ rfl) rfl (congrArg Prod.fst (co_kt (ib_co i6))) rfl (co_c (ib_co i6)) ?_
        refine av_wp_sqF ck_5 5 (pc' := 34) (lv' := [some (.inr (.inr (.inl (some (b))))), some (.inl k), some (.inl x), some (.inl (k * (21))), some (.inl k1), some (.inl k2), some (.inl k3), a4]) (st' := [.inl (((k * (21)) + (15)) + k3), .inr (.inr (.inl (some (c))))]) (h' := h5) rfl ?_
        obtain ⟨v33, e34⟩ : ∃ v, hA h5 (c) (Int.toNat ((((k * (21)) + (15)) + k3))) = v := ⟨_, rfl⟩
        have g35 := co_v (ib_co i6) (Int.toNat ((((k * (21)) + (15)) + k3)))
        rw [e34] at g35
        refine wq_al (p' := 35) (n := 21 * s) (ck_5 _ _ rfl) rfl (co_kc (ib_co i6)) (by omega) (e34) ?_
        refine av_wp_sqF ck_5 3 (pc' := 40) (lv' := [some (.inr (.inr (.inl (some (b))))), some (.inl k), some (.inl x), some (.inl (k * (21))), some (.inl k1), some (.inl k2), some (.inl k3), some (.inl v33)]) (st' := [.inr (.inr (.inl (some (b)))), .inl k2]) (h' := h5) rfl ?_
        refine wq_gr (p' := 43) (ck_5 _ _ rfl) rfl (congrArg Prod.fst (ib_k0 i6)) rfl (ib_t i6) ?_
        refine wq_gr (p' := 46) (ck_5 _ _ rfl) rfl (congrArg Prod.fst (co_kt (ib_co i6))) rfl (co_c (ib_co i6)) ?_
        refine av_wp_sqF ck_5 5 (pc' := 53) (lv' := [some (.inr (.inr (.inl (some (b))))), some (.inl k), some (.inl x), some (.inl (k * (21))), some (.inl k1), some (.inl k2), some (.inl k3), some (.inl v33)]) (st' := [.inl (((k * (21)) + (7)) + k3), .inr (.inr (.inl (some (c)))), .inl k2]) (h' := h5) rfl ?_
        obtain ⟨v36, e37⟩ : ∃ v, hA h5 (c) (Int.toNat ((((k * (21)) + (7)) + k3))) = v := ⟨_, rfl⟩
        have g38 := co_v (ib_co i6) (Int.toNat ((((k * (21)) + (7)) + k3)))
        rw [e37] at g38
        refine wq_al (p' := 54) (n := 21 * s) (ck_5 _ _ rfl) rfl (co_kc (ib_co i6)) (by omega) (e37) ?_
        refine av_wp_sqF ck_5 3 (pc' := 59) (lv' := [some (.inr (.inr (.inl (some (b))))), some (.inl k), some (.inl x), some (.inl (k * (21))), some (.inl k1), some (.inl (k2 + v36)), some (.inl k3), some (.inl v33)]) (st' := [.inl v33]) (h' := h5) rfl ?_
        have J41 : ∀ (j39 : Int) (j40 : Int),  av_wp none cd_5 79 [some (.inr (.inr (.inl (some (b))))), some (.inl k), some (.inl x), some (.inl (k * (21))), some (.inl j39), some (.inl j40), some (.inl k3), some (.inl v33)] [] h5 Q := by
          intro j39 j40
          refine av_wp_sqF ck_5 1 (pc' := 80) (lv' := [some (.inr (.inr (.inl (some (b))))), some (.inl k), some (.inl x), some (.inl (k * (21))), some (.inl j39), some (.inl j40), some (.inl k3), some (.inl v33)]) (st' := [.inr (.inr (.inl (some (b))))]) (h' := h5) rfl ?_
          refine wq_gr (p' := 83) (ck_5 _ _ rfl) rfl (congrArg Prod.fst (ib_k0 i6)) rfl (ib_g i6 0 rfl) ?_
          refine av_wp_sqF ck_5 6 (pc' := 92) (lv' := [some (.inr (.inr (.inl (some (b))))), some (.inl k), some (.inl x), some (.inl (k * (21))), some (.inl j39), some (.inl j40), some (.inl k3), some (.inl v33)]) (st' := [.inl j40, .inl ((k3 * (12)) + k), .inr (.inr (.inl (some (b + 1 + 0))))]) (h' := h5) rfl ?_
          refine ib_as (p' := 93) (n := 36) rfl rfl i6 F7 0 rfl rfl (by omega) (fun h42 i43 F44 => ?_)
          refine av_wp_sqF ck_5 2 (pc' := 14) (lv' := [some (.inr (.inr (.inl (some (b))))), some (.inl k), some (.inl x), some (.inl (k * (21))), some (.inl j39), some (.inl j40), some (.inl (k3 + (1))), some (.inl v33)]) (st' := []) (h' := h42) rfl ?_
          exact I10 _ (by omega) (j39) (j40) ((k3 + (1))) (some (.inl v33)) h42 rfl (by omega) i43 F44 rfl
        refine wq_k1 (p' := 62) (ck_5 _ _ rfl) rfl ⟨by omega, by omega⟩ (fun c45 => ?_) (fun c46 => ?_)
        · have c45 : v33 ≤ (0) := c45
          exact J41 (k1) ((k2 + v36))
        · have c46 : (0) < v33 := c46
          refine av_wp_sqF ck_5 3 (pc' := 68) (lv' := [some (.inr (.inr (.inl (some (b))))), some (.inl k), some (.inl x), some (.inl (k * (21))), some (.inl k1), some (.inl (k2 + v36)), some (.inl k3), some (.inl v33)]) (st' := [.inl v33, .inl k1, .inl (k2 + v36)]) (h' := h5) rfl ?_
          refine wq_rm (p' := 69) (ck_5 _ _ rfl) rfl ⟨by omega, by omega⟩ (by omega) (fun v47 e48 => ?_)
          refine av_wp_sqF ck_5 4 (pc' := 76) (lv' := [some (.inr (.inr (.inl (some (b))))), some (.inl k), some (.inl x), some (.inl (k * (21))), some (.inl k1), some (.inl ((k2 + v36) + v47)), some (.inl k3), some (.inl v33)]) (st' := [.inl v33, .inl k1]) (h' := h5) rfl ?_
          refine wq_dv (p' := 77) (ck_5 _ _ rfl) rfl ⟨by omega, by omega⟩ (by omega) (fun v49 e50 => ?_)
          refine av_wp_sqF ck_5 1 (pc' := 79) (lv' := [some (.inr (.inr (.inl (some (b))))), some (.inl k), some (.inl x), some (.inl (k * (21))), some (.inl v49), some (.inl ((k2 + v36) + v47)), some (.inl k3), some (.inl v33)]) (st' := []) (h' := h5) rfl ?_
          exact J41 (v49) (((k2 + v36) + v47))
  exact L9 _ (x) ((0)) ((0)) (none) h rfl (by omega) i F rfl

set_option maxRecDepth 100000 in
set_option maxHeartbeats 4000000 in
theorem ct_4 {g h : av_H} {b t c s r : Nat} {cb : Int} (i : IB b t c s r cb h) (F : Fr1 g h) (x : Int) {Q : Option av_V → av_H → Prop} (hq : ∀ h', IB b t c s r cb h' → Fr1 g h' → Q none h') : av_wp none cd_4 0 [some (.inr (.inr (.inl (some (b))))), some (.inl x), none, none, none, none] [] h Q := by
  have s12 := co_s12 (ib_co i)
  have cbr := co_cbr (ib_co i)
  refine av_wp_sqF ck_4 4 (pc' := 4) (lv' := [some (.inr (.inr (.inl (some (b))))), some (.inl x), some (.inl x), some (.inl (0)), none, none]) (st' := []) (h' := h) rfl ?_
  have L9 : ∀ (m8 : Nat) (k1 : Int) (k2 : Int) (a3 : Option av_V) (a4 : Option av_V) (h5 : av_H), av_lg a3 = false → av_lg a4 = false → k2 ≤ (s : Int) → (0 ≤ k2 ∧ k2 ≤ 12) → IB b t c s r cb h5 → Fr1 g h5 → ((s : Int) - k2).toNat = m8 → av_wp none cd_4 4 [some (.inr (.inr (.inl (some (b))))), some (.inl x), some (.inl k1), some (.inl k2), a3, a4] [] h5 Q := by
    intro m8
    induction m8 using Nat.strongRecOn with
    | _ m8 I10 =>
      intro k1 k2 a3 a4 h5 g12 g13 g14 g15 i6 F7 e11
      have la3 := g12
      have la4 := g13
      refine av_wp_sqF ck_4 2 (pc' := 6) (lv' := [some (.inr (.inr (.inl (some (b))))), some (.inl x), some (.inl k1), some (.inl k2), a3, a4]) (st' := [.inr (.inr (.inl (some (b)))), .inl k2]) (h' := h5) rfl ?_
      refine wq_gr (p' := 9) (ck_4 _ _ rfl) rfl (congrArg Prod.fst (ib_k0 i6)) rfl (ib_t i6) ?_
      refine wq_gi (p' := 12) (ck_4 _ _ rfl) rfl (congrArg Prod.fst (co_kt (ib_co i6))) rfl (co_s (ib_co i6)) ?_
      refine wq_k2 (p' := 15) (ck_4 _ _ rfl) rfl ⟨by omega, by omega⟩ ⟨by omega, by omega⟩ (fun c16 => ?_) (fun c17 => ?_)
      · have c16 : (s : Int) ≤ k2 := c16
        refine av_wp_ret (v := none) (ck_4 _ _ rfl) rfl rfl ?_
        exact hq h5 i6 F7
      · have c17 : k2 < (s : Int) := c17
        refine av_wp_sqF ck_4 1 (pc' := 16) (lv' := [some (.inr (.inr (.inl (some (b))))), some (.inl x), some (.inl k1), some (.inl k2), a3, a4]) (st' := [.inr (.inr (.inl (some (b))))]) (h' := h5) rfl ?_
        refine wq_gr (p' := 19) (ck_4 _ _ rfl) rfl (congrArg Prod.fst (ib_k0 i6)) rfl (ib_t i6) ?_
        refine wq_gr (p' := 22) (ck_4 _ _ rfl) rfl (congrArg Prod.fst (co_kt (ib_co i6))) rfl (co_c (ib_co i6)) ?_
        refine av_wp_sqF ck_4 5 (pc' := 29) (lv' := [some (.inr (.inr (.inl (some (b))))), some (.inl x), some (.inl k1), some (.inl k2), a3, a4]) (st' := [.inl ((k2 * (21)) + (20)), .inr (.inr (.inl (some (c))))]) (h' := h5) rfl ?_
        obtain ⟨v18, e19⟩ : ∃ v, hA h5 (c) (Int.toNat (((k2 * (21)) + (20)))) = v := ⟨_, rfl⟩
        have g20 := co_v (ib_co i6) (Int.toNat (((k2 * (21)) + (20))))
        rw [e19] at g20
        refine wq_al (p' := 30) (n := 21 * s) (ck_4 _ _ rfl) rfl (co_kc (ib_co i6)) (by omega) (e19) ?_
        refine av_wp_sqF ck_4 1 (pc' := 31) (lv' := [some (.inr (.inr (.inl (some (b))))), some (.inl x), some (.inl k1), some (.inl k2), a3, a4]) (st' := [.inl (1), .inl v18]) (h' := h5) rfl ?_
        refine wq_mx (p' := 34) (ck_4 _ _ rfl) rfl rfl (fun _ _ => rfl) rfl (fun v21 e22 e23 => ?_)
        have e23 := e23 ⟨by omega, by omega⟩ ⟨by omega, by omega⟩
        refine av_wp_sqF ck_4 3 (pc' := 39) (lv' := [some (.inr (.inr (.inl (some (b))))), some (.inl x), some (.inl k1), some (.inl k2), some (.inl v21), a4]) (st' := [.inl v21, .inl k1]) (h' := h5) rfl ?_
        refine wq_rm (p' := 40) (ck_4 _ _ rfl) rfl ⟨by omega, by omega⟩ (by omega) (fun v24 e25 => ?_)
        refine av_wp_sqF ck_4 3 (pc' := 45) (lv' := [some (.inr (.inr (.inl (some (b))))), some (.inl x), some (.inl k1), some (.inl k2), some (.inl v21), some (.inl v24)]) (st' := [.inl v21, .inl k1]) (h' := h5) rfl ?_
        refine wq_dv (p' := 46) (ck_4 _ _ rfl) rfl ⟨by omega, by omega⟩ (by omega) (fun v26 e27 => ?_)
        refine av_wp_sqF ck_4 3 (pc' := 50) (lv' := [some (.inr (.inr (.inl (some (b))))), some (.inl x), some (.inl v26), some (.inl k2), some (.inl v21), some (.inl v24)]) (st' := [.inr (.inr (.inl (some (b)))), .inl v24]) (h' := h5) rfl ?_
        refine wq_gr (p' := 53) (ck_4 _ _ rfl) rfl (congrArg Prod.fst (ib_k0 i6)) rfl (ib_g i6 1 rfl) ?_
        refine av_wp_sqF ck_4 1 (pc' := 54) (lv' := [some (.inr (.inr (.inl (some (b))))), some (.inl x), some (.inl v26), some (.inl k2), some (.inl v21), some (.inl v24)]) (st' := [.inl k2, .inr (.inr (.inl (some (b + 1 + 1)))), .inl v24]) (h' := h5) rfl ?_
        obtain ⟨v28, e29⟩ : ∃ v, hA h5 (b + 1 + 1) (Int.toNat (k2)) = v := ⟨_, rfl⟩
        refine wq_al (p' := 55) (n := 12) (ck_4 _ _ rfl) rfl (ib_k i6 1 rfl) (by omega) (e29) ?_
        have J34 : ∀  (h31 : av_H), IB b t c s r cb h31 → Fr1 g h31 →  av_wp none cd_4 73 [some (.inr (.inr (.inl (some (b))))), some (.inl x), some (.inl v26), some (.inl k2), some (.inl v21), some (.inl v24)] [] h31 Q := by
          intro h31 i32 F33
          refine av_wp_sqF ck_4 2 (pc' := 4) (lv' := [some (.inr (.inr (.inl (some (b))))), some (.inl x), some (.inl v26), some (.inl (k2 + (1))), some (.inl v21), some (.inl v24)]) (st' := []) (h' := h31) rfl ?_
          exact I10 _ (by omega) (v26) ((k2 + (1))) (some (.inl v21)) (some (.inl v24)) h31 rfl rfl (by omega) (by omega) i32 F33 rfl
        refine wq_c2 (p' := 58) (ck_4 _ _ rfl) rfl ?_ ?_
        · exact J34 h5 i6 F7
        · refine av_wp_sqF ck_4 1 (pc' := 59) (lv' := [some (.inr (.inr (.inl (some (b))))), some (.inl x), some (.inl v26), some (.inl k2), some (.inl v21), some (.inl v24)]) (st' := [.inr (.inr (.inl (some (b))))]) (h' := h5) rfl ?_
          refine wq_gr (p' := 62) (ck_4 _ _ rfl) rfl (congrArg Prod.fst (ib_k0 i6)) rfl (ib_g i6 1 rfl) ?_
          refine av_wp_sqF ck_4 2 (pc' := 65) (lv' := [some (.inr (.inr (.inl (some (b))))), some (.inl x), some (.inl v26), some (.inl k2), some (.inl v21), some (.inl v24)]) (st' := [.inl v24, .inl k2, .inr (.inr (.inl (some (b + 1 + 1))))]) (h' := h5) rfl ?_
          refine ib_as (p' := 66) (n := 12) rfl rfl i6 F7 1 rfl rfl (by omega) (fun h35 i36 F37 => ?_)
          refine av_wp_sqF ck_4 3 (pc' := 70) (lv' := [some (.inr (.inr (.inl (some (b))))), some (.inl x), some (.inl v26), some (.inl k2), some (.inl v21), some (.inl v24)]) (st' := [.inl v24, .inl k2, .inr (.inr (.inl (some (b))))]) (h' := h35) rfl ?_
          refine wq_cv (p' := 73) (av_qc (.invokevirtual 111) 5 2 0 0) 8 cd_5 [.inl v24, .inl k2] (b) 0 [some (.inr (.inr (.inl (some (b))))), some (.inl k2), some (.inl v24), none, none, none, none, none] (ck_4 _ _ rfl) rfl rfl pp_5 rfl rfl rfl (congrArg Prod.fst (ib_k0 i36)) rfl rfl rfl rfl ?_
          refine ct_5 i36 F37 (k2) (v24) (by omega) (fun h38 i39 F40 => ?_)
          show av_wp _ cd_4 73 [some (.inr (.inr (.inl (some (b))))), some (.inl x), some (.inl v26), some (.inl k2), some (.inl v21), some (.inl v24)] [] h38 _
          exact J34 h38 i39 F40
  exact L9 _ (x) ((0)) (none) (none) h rfl rfl (by omega) (by omega) i F rfl

