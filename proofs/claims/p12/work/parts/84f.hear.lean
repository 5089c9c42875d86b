/-! A BENCH HEARS, exactly -/
set_option maxRecDepth 100000 in
set_option maxHeartbeats 4000000 in
theorem cx_6 {g h : av_H} {b t c s r : Nat} {cb : Int} {u ro : Nat → Int} {a : Nat → Nat → Int} {mb mo ma : Int} (E : EB b t c s r cb u ro a mb mo ma h) (F : FN b g h) (k : Int) (qk : -2147483648 ≤ k ∧ k ≤ 2147483647) (w : Int) (qw : -2147483648 ≤ w ∧ w ≤ 2147483647) {Q : Option av_V → av_H → Prop} (hq : Q (some (.inl (hof a k w))) h) : av_wp none cd_6 0 [some (.inr (.inr (.inl (some (b))))), some (.inl k), some (.inl w)] [] h Q := by
  have s12 := co_s12 (ib_co E.1)
  have cbr := co_cbr (ib_co E.1)
  have mbr := eb_xr E
  have mor := eb_yr E
  refine av_wp_seq 1 (pc' := 1) (lv' := [some (.inr (.inr (.inl (some (b))))), some (.inl k), some (.inl w)]) (st' := [.inl k]) (h' := h) rfl ?_
  refine wq_k1 (p' := 4) rfl rfl ⟨by omega, by omega⟩ (fun c1 => ?_) (fun c2 => ?_)
  · have c1 : k < (0) := c1
    refine av_wp_seq 1 (pc' := 20) (lv' := [some (.inr (.inr (.inl (some (b))))), some (.inl k), some (.inl w)]) (st' := [.inl (-1)]) (h' := h) rfl ?_
    refine av_wp_ret (v := some (.inl (-1))) rfl rfl rfl ?_
    have z : hof a k w = -1 := if_neg (by omega)
    rw [← z]
    exact hq
  · have c2 : (0) ≤ k := c2
    refine av_wp_seq 2 (pc' := 7) (lv' := [some (.inr (.inr (.inl (some (b))))), some (.inl k), some (.inl w)]) (st' := [.inl (12), .inl k]) (h' := h) rfl ?_
    refine wq_k2 (p' := 10) rfl rfl ⟨by omega, by omega⟩ ⟨by omega, by omega⟩ (fun c3 => ?_) (fun c4 => ?_)
    · have c3 : (12) ≤ k := c3
      refine av_wp_seq 1 (pc' := 20) (lv' := [some (.inr (.inr (.inl (some (b))))), some (.inl k), some (.inl w)]) (st' := [.inl (-1)]) (h' := h) rfl ?_
      refine av_wp_ret (v := some (.inl (-1))) rfl rfl rfl ?_
      have z : hof a k w = -1 := if_neg (by omega)
      rw [← z]
      exact hq
    · have c4 : k < (12) := c4
      refine av_wp_seq 1 (pc' := 11) (lv' := [some (.inr (.inr (.inl (some (b))))), some (.inl k), some (.inl w)]) (st' := [.inl w]) (h' := h) rfl ?_
      refine wq_k1 (p' := 14) rfl rfl ⟨by omega, by omega⟩ (fun c5 => ?_) (fun c6 => ?_)
      · have c5 : w < (0) := c5
        refine av_wp_seq 1 (pc' := 20) (lv' := [some (.inr (.inr (.inl (some (b))))), some (.inl k), some (.inl w)]) (st' := [.inl (-1)]) (h' := h) rfl ?_
        refine av_wp_ret (v := some (.inl (-1))) rfl rfl rfl ?_
        have z : hof a k w = -1 := if_neg (by omega)
        rw [← z]
        exact hq
      · have c6 : (0) ≤ w := c6
        refine av_wp_seq 2 (pc' := 16) (lv' := [some (.inr (.inr (.inl (some (b))))), some (.inl k), some (.inl w)]) (st' := [.inl (2), .inl w]) (h' := h) rfl ?_
        refine wq_k2 (p' := 19) rfl rfl ⟨by omega, by omega⟩ ⟨by omega, by omega⟩ (fun c7 => ?_) (fun c8 => ?_)
        · have c7 : w ≤ (2) := c7
          refine av_wp_seq 1 (pc' := 22) (lv' := [some (.inr (.inr (.inl (some (b))))), some (.inl k), some (.inl w)]) (st' := [.inr (.inr (.inl (some (b))))]) (h' := h) rfl ?_
          refine wq_gr (p' := 25) rfl rfl (congrArg Prod.fst (ib_k0 E.1)) rfl (ib_g E.1 0 rfl) ?_
          refine av_wp_seq 5 (pc' := 31) (lv' := [some (.inr (.inr (.inl (some (b))))), some (.inl k), some (.inl w)]) (st' := [.inl ((w * (12)) + k), .inr (.inr (.inl (some (b + 1 + 0))))]) (h' := h) rfl ?_
          obtain ⟨v10, e11⟩ : ∃ v, a 0 (Int.toNat (((w * (12)) + k))) = v := ⟨_, rfl⟩
          refine wq_al (p' := 32) (n := 36) rfl rfl (ib_k E.1 0 rfl) (by omega) ((congrFun (eb_a E 0 rfl) _).trans e11) ?_
          refine av_wp_ret (v := some (.inl v10)) rfl rfl rfl ?_
          have z : hof a k w = v10 := (if_pos (by omega)).trans e11
          rw [← z]
          exact hq
        · have c8 : (2) < w := c8
          refine av_wp_seq 1 (pc' := 20) (lv' := [some (.inr (.inr (.inl (some (b))))), some (.inl k), some (.inl w)]) (st' := [.inl (-1)]) (h' := h) rfl ?_
          refine av_wp_ret (v := some (.inl (-1))) rfl rfl rfl ?_
          have z : hof a k w = -1 := if_neg (by omega)
          rw [← z]
          exact hq

set_option maxRecDepth 100000 in
set_option maxHeartbeats 4000000 in
theorem cx_5 {g h : av_H} {b t c s r : Nat} {cb : Int} {u ro : Nat → Int} {a : Nat → Nat → Int} {mb mo ma : Int} (E : EB b t c s r cb u ro a mb mo ma h) (F : FN b g h) (k : Int) (qk : 0 ≤ k ∧ k < (s : Int)) (y : Int) (qy : 0 ≤ y ∧ y ≤ 65536) {Q : Option av_V → av_H → Prop} (hq : ∀ h' a', EB b t c s r cb u ro a' mb mo ma h' → FN b g h' → SHc u (Int.toNat k) y a a' → Q none h') : av_wp none cd_5 0 [some (.inr (.inr (.inl (some (b))))), some (.inl k), some (.inl y), none, none, none, none, none] [] h Q := by
  have s12 := co_s12 (ib_co E.1)
  have cbr := co_cbr (ib_co E.1)
  have mbr := eb_xr E
  have mor := eb_yr E
  refine av_wp_seq 10 (pc' := 14) (lv' := [some (.inr (.inr (.inl (some (b))))), some (.inl k), some (.inl y), some (.inl (k * (21))), some (.inl y), some (.inl (0)), some (.inl (0)), none]) (st' := []) (h' := h) rfl ?_
  have L11 : ∀ (m10 : Nat) (k1 : Int) (k2 : Int) (k3 : Int) (a4 : Option av_V) (h5 : av_H) (a8 : Nat → Nat → Int), av_lg a4 = false → k1 = rst (mvu u (Int.toNat k)) y (Int.toNat k3) → k2 = hsm u (cdg u (Int.toNat k) y) (Int.toNat k) (Int.toNat k3) → (0 ≤ k3 ∧ k3 ≤ 3) → (0 ≤ k1 ∧ k1 ≤ 65536) → EB b t c s r cb u ro a8 mb mo ma h5 → FN b g h5 → SHi u (Int.toNat k) y a (Int.toNat k3) a8 → (3 - k3).toNat = m10 → av_wp none cd_5 14 [some (.inr (.inr (.inl (some (b))))), some (.inl k), some (.inl y), some (.inl (k * (21))), some (.inl k1), some (.inl k2), some (.inl k3), a4] [] h5 Q := by
    intro m10
    induction m10 using Nat.strongRecOn with
    | _ m10 I12 =>
      intro k1 k2 k3 a4 h5 a8 g14 g15 g16 g17 g18 E6 F7 X9 e13
      have la4 := g14
      refine av_wp_seq 2 (pc' := 17) (lv' := [some (.inr (.inr (.inl (some (b))))), some (.inl k), some (.inl y), some (.inl (k * (21))), some (.inl k1), some (.inl k2), some (.inl k3), a4]) (st' := [.inl (3), .inl k3]) (h' := h5) rfl ?_
      refine wq_k2 (p' := 20) rfl rfl ⟨by omega, by omega⟩ ⟨by omega, by omega⟩ (fun c19 => ?_) (fun c20 => ?_)
      · have c19 : (3) ≤ k3 := c19
        refine av_wp_seq 1 (pc' := 100) (lv' := [some (.inr (.inr (.inl (some (b))))), some (.inl k), some (.inl y), some (.inl (k * (21))), some (.inl k1), some (.inl k2), some (.inl k3), a4]) (st' := [.inr (.inr (.inl (some (b))))]) (h' := h5) rfl ?_
        refine wq_gr (p' := 103) rfl rfl (congrArg Prod.fst (ib_k0 E6.1)) rfl (ib_t E6.1) ?_
        refine wq_gr (p' := 106) rfl rfl (congrArg Prod.fst (co_kt (ib_co E6.1))) rfl (co_c (ib_co E6.1)) ?_
        refine av_wp_seq 3 (pc' := 110) (lv' := [some (.inr (.inr (.inl (some (b))))), some (.inl k), some (.inl y), some (.inl (k * (21))), some (.inl k1), some (.inl k2), some (.inl k3), a4]) (st' := [.inl ((k * (21)) + (19)), .inr (.inr (.inl (some (c))))]) (h' := h5) rfl ?_
        obtain ⟨v22, e23⟩ : ∃ v, u (Int.toNat (((k * (21)) + (19)))) = v := ⟨_, rfl⟩
        have g21 := eb_uv E6 (Int.toNat (((k * (21)) + (19))))
        rw [e23] at g21
        refine wq_al (p' := 111) (n := 21 * s) rfl rfl (co_kc (ib_co E6.1)) (by omega) ((congrFun (eb_u E6) _).trans e23) ?_
        refine av_wp_seq 1 (pc' := 112) (lv' := [some (.inr (.inr (.inl (some (b))))), some (.inl k), some (.inl y), some (.inl (k * (21))), some (.inl k1), some (.inl k2), some (.inl k3), a4]) (st' := [.inl (1), .inl v22]) (h' := h5) rfl ?_
        refine wq_k2 (p' := 115) rfl rfl ⟨by omega, by omega⟩ ⟨by omega, by omega⟩ (fun c24 => ?_) (fun c25 => ?_)
        · have c24 : v22 = (1) := c24
          refine av_wp_seq 1 (pc' := 122) (lv' := [some (.inr (.inr (.inl (some (b))))), some (.inl k), some (.inl y), some (.inl (k * (21))), some (.inl k1), some (.inl k2), some (.inl k3), a4]) (st' := [.inr (.inr (.inl (some (b))))]) (h' := h5) rfl ?_
          refine wq_gr (p' := 125) rfl rfl (congrArg Prod.fst (ib_k0 E6.1)) rfl (ib_g E6.1 0 rfl) ?_
          refine av_wp_seq 4 (pc' := 130) (lv' := [some (.inr (.inr (.inl (some (b))))), some (.inl k), some (.inl y), some (.inl (k * (21))), some (.inl k1), some (.inl k2), some (.inl k3), a4]) (st' := [.inl (-1), .inl ((12) + k), .inr (.inr (.inl (some (b + 1 + 0))))]) (h' := h5) rfl ?_
          refine xb_as (p' := 131) (n := 36) rfl rfl E6 F7 0 rfl rfl (by omega) (fun h26 E27 F28 => ?_)
          refine av_wp_seq 1 (pc' := 132) (lv' := [some (.inr (.inr (.inl (some (b))))), some (.inl k), some (.inl y), some (.inl (k * (21))), some (.inl k1), some (.inl k2), some (.inl k3), a4]) (st' := [.inr (.inr (.inl (some (b))))]) (h' := h26) rfl ?_
          refine wq_gr (p' := 135) rfl rfl (congrArg Prod.fst (ib_k0 E27.1)) rfl (ib_g E27.1 0 rfl) ?_
          refine av_wp_seq 4 (pc' := 140) (lv' := [some (.inr (.inr (.inl (some (b))))), some (.inl k), some (.inl y), some (.inl (k * (21))), some (.inl k1), some (.inl k2), some (.inl k3), a4]) (st' := [.inl (-1), .inl ((24) + k), .inr (.inr (.inl (some (b + 1 + 0))))]) (h' := h26) rfl ?_
          refine xb_as (p' := 141) (n := 36) rfl rfl E27 F28 0 rfl rfl (by omega) (fun h29 E30 F31 => ?_)
          refine av_wp_ret (v := none) rfl rfl rfl ?_
          have z32 : Int.toNat k3 = 3 := by omega
          rw [z32] at X9 g15
          have u19 : u (21 * (Int.toNat k) + 19) = _ := (congrArg u (by omega)).trans e23
          exact hq h29 _ E30 F31 (SH_lo X9 (by omega) (by rw [u19, ← g15]; omega) (by omega) (by omega))
        · have c25 : v22 ≠ (1) := c25
          refine av_wp_seq 2 (pc' := 118) (lv' := [some (.inr (.inr (.inl (some (b))))), some (.inl k), some (.inl y), some (.inl (k * (21))), some (.inl k1), some (.inl k2), some (.inl k3), a4]) (st' := [.inl (1), .inl k1]) (h' := h5) rfl ?_
          refine wq_k2 (p' := 121) rfl rfl ⟨by omega, by omega⟩ ⟨by omega, by omega⟩ (fun c33 => ?_) (fun c34 => ?_)
          · have c33 : k1 ≠ (1) := c33
            refine av_wp_ret (v := none) rfl rfl rfl ?_
            have z35 : Int.toNat k3 = 3 := by omega
            rw [z35] at X9 g15
            have u19 : u (21 * (Int.toNat k) + 19) = _ := (congrArg u (by omega)).trans e23
            exact hq h5 _ E6 F7 (SH_no X9 (by rw [u19]; omega) (by rw [← g15]; omega))
          · have c34 : k1 = (1) := c34
            refine av_wp_seq 1 (pc' := 122) (lv' := [some (.inr (.inr (.inl (some (b))))), some (.inl k), some (.inl y), some (.inl (k * (21))), some (.inl k1), some (.inl k2), some (.inl k3), a4]) (st' := [.inr (.inr (.inl (some (b))))]) (h' := h5) rfl ?_
            refine wq_gr (p' := 125) rfl rfl (congrArg Prod.fst (ib_k0 E6.1)) rfl (ib_g E6.1 0 rfl) ?_
            refine av_wp_seq 4 (pc' := 130) (lv' := [some (.inr (.inr (.inl (some (b))))), some (.inl k), some (.inl y), some (.inl (k * (21))), some (.inl k1), some (.inl k2), some (.inl k3), a4]) (st' := [.inl (-1), .inl ((12) + k), .inr (.inr (.inl (some (b + 1 + 0))))]) (h' := h5) rfl ?_
            refine xb_as (p' := 131) (n := 36) rfl rfl E6 F7 0 rfl rfl (by omega) (fun h36 E37 F38 => ?_)
            refine av_wp_seq 1 (pc' := 132) (lv' := [some (.inr (.inr (.inl (some (b))))), some (.inl k), some (.inl y), some (.inl (k * (21))), some (.inl k1), some (.inl k2), some (.inl k3), a4]) (st' := [.inr (.inr (.inl (some (b))))]) (h' := h36) rfl ?_
            refine wq_gr (p' := 135) rfl rfl (congrArg Prod.fst (ib_k0 E37.1)) rfl (ib_g E37.1 0 rfl) ?_
            refine av_wp_seq 4 (pc' := 140) (lv' := [some (.inr (.inr (.inl (some (b))))), some (.inl k), some (.inl y), some (.inl (k * (21))), some (.inl k1), some (.inl k2), some (.inl k3), a4]) (st' := [.inl (-1), .inl ((24) + k), .inr (.inr (.inl (some (b + 1 + 0))))]) (h' := h36) rfl ?_
            refine xb_as (p' := 141) (n := 36) rfl rfl E37 F38 0 rfl rfl (by omega) (fun h39 E40 F41 => ?_)
            refine av_wp_ret (v := none) rfl rfl rfl ?_
            have z42 : Int.toNat k3 = 3 := by omega
            rw [z42] at X9 g15
            have u19 : u (21 * (Int.toNat k) + 19) = _ := (congrArg u (by omega)).trans e23
            exact hq h39 _ E40 F41 (SH_lo X9 (by omega) (by rw [u19, ← g15]; omega) (by omega) (by omega))
      · have c20 : k3 < (3) := c20
        refine av_wp_seq 1 (pc' := 21) (lv' := [some (.inr (.inr (.inl (some (b))))), some (.inl k), some (.inl y), some (.inl (k * (21))), some (.inl k1), some (.inl k2), some (.inl k3), a4]) (st' := [.inr (.inr (.inl (some (b))))]) (h' := h5) rfl ?_
        refine wq_gr (p' := 24) rfl rfl (congrArg Prod.fst (ib_k0 E6.1)) rfl (ib_t E6.1) ?_
        refine wq_gr (p' := 27) rfl rfl (congrArg Prod.fst (co_kt (ib_co E6.1))) rfl (co_c (ib_co E6.1)) ?_
        refine av_wp_seq 5 (pc' := 34) (lv' := [some (.inr (.inr (.inl (some (b))))), some (.inl k), some (.inl y), some (.inl (k * (21))), some (.inl k1), some (.inl k2), some (.inl k3), a4]) (st' := [.inl (((k * (21)) + (15)) + k3), .inr (.inr (.inl (some (c))))]) (h' := h5) rfl ?_
        obtain ⟨v44, e45⟩ : ∃ v, u (Int.toNat ((((k * (21)) + (15)) + k3))) = v := ⟨_, rfl⟩
        have g43 := eb_uv E6 (Int.toNat ((((k * (21)) + (15)) + k3)))
        rw [e45] at g43
        refine wq_al (p' := 35) (n := 21 * s) rfl rfl (co_kc (ib_co E6.1)) (by omega) ((congrFun (eb_u E6) _).trans e45) ?_
        refine av_wp_seq 3 (pc' := 40) (lv' := [some (.inr (.inr (.inl (some (b))))), some (.inl k), some (.inl y), some (.inl (k * (21))), some (.inl k1), some (.inl k2), some (.inl k3), some (.inl v44)]) (st' := [.inr (.inr (.inl (some (b)))), .inl k2]) (h' := h5) rfl ?_
        refine wq_gr (p' := 43) rfl rfl (congrArg Prod.fst (ib_k0 E6.1)) rfl (ib_t E6.1) ?_
        refine wq_gr (p' := 46) rfl rfl (congrArg Prod.fst (co_kt (ib_co E6.1))) rfl (co_c (ib_co E6.1)) ?_
        refine av_wp_seq 5 (pc' := 53) (lv' := [some (.inr (.inr (.inl (some (b))))), some (.inl k), some (.inl y), some (.inl (k * (21))), some (.inl k1), some (.inl k2), some (.inl k3), some (.inl v44)]) (st' := [.inl (((k * (21)) + (7)) + k3), .inr (.inr (.inl (some (c)))), .inl k2]) (h' := h5) rfl ?_
        obtain ⟨v47, e48⟩ : ∃ v, u (Int.toNat ((((k * (21)) + (7)) + k3))) = v := ⟨_, rfl⟩
        have g46 := eb_uv E6 (Int.toNat ((((k * (21)) + (7)) + k3)))
        rw [e48] at g46
        refine wq_al (p' := 54) (n := 21 * s) rfl rfl (co_kc (ib_co E6.1)) (by omega) ((congrFun (eb_u E6) _).trans e48) ?_
        refine av_wp_seq 3 (pc' := 59) (lv' := [some (.inr (.inr (.inl (some (b))))), some (.inl k), some (.inl y), some (.inl (k * (21))), some (.inl k1), some (.inl (k2 + v47)), some (.inl k3), some (.inl v44)]) (st' := [.inl v44]) (h' := h5) rfl ?_
        refine wq_k1 (p' := 62) rfl rfl ⟨by omega, by omega⟩ (fun c49 => ?_) (fun c50 => ?_)
        · have c49 : v44 ≤ (0) := c49
          have r51 := SH_a (k := k) (i := k3) (by omega) (by omega) e45 (by omega) g15
          have n52 := SH_c (k := k) (i := k3) (by omega) (by omega) e45 (by omega) g16 e48
          have z53 : Int.toNat (k3 + (1)) = Int.toNat k3 + 1 := by omega
          refine av_wp_seq 1 (pc' := 80) (lv' := [some (.inr (.inr (.inl (some (b))))), some (.inl k), some (.inl y), some (.inl (k * (21))), some (.inl k1), some (.inl (k2 + v47)), some (.inl k3), some (.inl v44)]) (st' := [.inr (.inr (.inl (some (b))))]) (h' := h5) rfl ?_
          refine wq_gr (p' := 83) rfl rfl (congrArg Prod.fst (ib_k0 E6.1)) rfl (ib_g E6.1 0 rfl) ?_
          refine av_wp_seq 6 (pc' := 92) (lv' := [some (.inr (.inr (.inl (some (b))))), some (.inl k), some (.inl y), some (.inl (k * (21))), some (.inl k1), some (.inl (k2 + v47)), some (.inl k3), some (.inl v44)]) (st' := [.inl (k2 + v47), .inl ((k3 * (12)) + k), .inr (.inr (.inl (some (b + 1 + 0))))]) (h' := h5) rfl ?_
          refine xb_as (p' := 93) (n := 36) rfl rfl E6 F7 0 rfl rfl (by omega) (fun h54 E55 F56 => ?_)
          refine av_wp_seq 2 (pc' := 14) (lv' := [some (.inr (.inr (.inl (some (b))))), some (.inl k), some (.inl y), some (.inl (k * (21))), some (.inl k1), some (.inl (k2 + v47)), some (.inl (k3 + (1))), some (.inl v44)]) (st' := []) (h' := h54) rfl ?_
          exact I12 _ (by omega) (k1) ((k2 + v47)) ((k3 + (1))) (some (.inl v44)) h54 (av_u2 a8 0 (Int.toNat (((k3 * (12)) + k))) (k2 + v47)) rfl (by rw [z53]; exact r51) (by rw [z53]; exact n52) (by omega) (by omega) E55 F56 (by rw [z53]; exact SHi_s X9 (by omega) (by omega) n52 (by omega)) rfl
        · have c50 : (0) < v44 := c50
          refine av_wp_seq 3 (pc' := 68) (lv' := [some (.inr (.inr (.inl (some (b))))), some (.inl k), some (.inl y), some (.inl (k * (21))), some (.inl k1), some (.inl (k2 + v47)), some (.inl k3), some (.inl v44)]) (st' := [.inl v44, .inl k1, .inl (k2 + v47)]) (h' := h5) rfl ?_
          refine wq_rm (p' := 69) rfl rfl ⟨by omega, by omega⟩ (by omega) (fun v57 e58 => ?_)
          have e58 := e58 ⟨by omega, by omega⟩
          rw [Int.tmod_eq_emod_of_nonneg (by omega)] at e58
          have g59 := i_mr (x := k1) (y := v44) (by omega) (by omega)
          rw [← e58] at g59
          refine av_wp_seq 4 (pc' := 76) (lv' := [some (.inr (.inr (.inl (some (b))))), some (.inl k), some (.inl y), some (.inl (k * (21))), some (.inl k1), some (.inl ((k2 + v47) + v57)), some (.inl k3), some (.inl v44)]) (st' := [.inl v44, .inl k1]) (h' := h5) rfl ?_
          refine wq_dv (p' := 77) rfl rfl ⟨by omega, by omega⟩ (by omega) (fun v60 e61 => ?_)
          have e61 := e61 ⟨by omega, by omega⟩
          rw [Int.tdiv_eq_ediv_of_nonneg (by omega)] at e61
          have g62 := i_dr (x := k1) (y := v44) (by omega) (by omega)
          rw [← e61] at g62
          refine av_wp_seq 1 (pc' := 79) (lv' := [some (.inr (.inr (.inl (some (b))))), some (.inl k), some (.inl y), some (.inl (k * (21))), some (.inl v60), some (.inl ((k2 + v47) + v57)), some (.inl k3), some (.inl v44)]) (st' := []) (h' := h5) rfl ?_
          have r63 := SH_b (k := k) (i := k3) (by omega) (by omega) e45 (by omega) g15 e61
          have n64 := SH_d (k := k) (i := k3) (by omega) (by omega) e45 (by omega) g15 g16 e48 e58
          have z65 : Int.toNat (k3 + (1)) = Int.toNat k3 + 1 := by omega
          refine av_wp_seq 1 (pc' := 80) (lv' := [some (.inr (.inr (.inl (some (b))))), some (.inl k), some (.inl y), some (.inl (k * (21))), some (.inl v60), some (.inl ((k2 + v47) + v57)), some (.inl k3), some (.inl v44)]) (st' := [.inr (.inr (.inl (some (b))))]) (h' := h5) rfl ?_
          refine wq_gr (p' := 83) rfl rfl (congrArg Prod.fst (ib_k0 E6.1)) rfl (ib_g E6.1 0 rfl) ?_
          refine av_wp_seq 6 (pc' := 92) (lv' := [some (.inr (.inr (.inl (some (b))))), some (.inl k), some (.inl y), some (.inl (k * (21))), some (.inl v60), some (.inl ((k2 + v47) + v57)), some (.inl k3), some (.inl v44)]) (st' := [.inl ((k2 + v47) + v57), .inl ((k3 * (12)) + k), .inr (.inr (.inl (some (b + 1 + 0))))]) (h' := h5) rfl ?_
          refine xb_as (p' := 93) (n := 36) rfl rfl E6 F7 0 rfl rfl (by omega) (fun h66 E67 F68 => ?_)
          refine av_wp_seq 2 (pc' := 14) (lv' := [some (.inr (.inr (.inl (some (b))))), some (.inl k), some (.inl y), some (.inl (k * (21))), some (.inl v60), some (.inl ((k2 + v47) + v57)), some (.inl (k3 + (1))), some (.inl v44)]) (st' := []) (h' := h66) rfl ?_
          exact I12 _ (by omega) (v60) (((k2 + v47) + v57)) ((k3 + (1))) (some (.inl v44)) h66 (av_u2 a8 0 (Int.toNat (((k3 * (12)) + k))) ((k2 + v47) + v57)) rfl (by rw [z65]; exact r63) (by rw [z65]; exact n64) (by omega) (by omega) E67 F68 (by rw [z65]; exact SHi_s X9 (by omega) (by omega) n64 (by omega)) rfl
  exact L11 _ (y) ((0)) ((0)) (none) h a rfl rfl rfl (by omega) (by omega) E F SHi_0 rfl

set_option maxRecDepth 100000 in
set_option maxHeartbeats 4000000 in
theorem cx_4 {g h : av_H} {b t c s r : Nat} {cb : Int} {u ro : Nat → Int} {a : Nat → Nat → Int} {mb mo ma : Int} (E : EB b t c s r cb u ro a mb mo ma h) (F : FN b g h) (x : Int) (qx : 0 ≤ x ∧ x ≤ 1023) (tu : ∀ q, q < s → u (21 * q + 20) = tnv u q) (hz : HZ u a) {Q : Option av_V → av_H → Prop} (hq : ∀ h' a', EB b t c s r cb u ro a' mb mo ma h' → FN b g h' → HX u s x a' → HZ u a' → (∀ j, 2 ≤ j → a' j = a j) → Q none h') : av_wp none cd_4 0 [some (.inr (.inr (.inl (some (b))))), some (.inl x), none, none, none, none] [] h Q := by
  have s12 := co_s12 (ib_co E.1)
  have cbr := co_cbr (ib_co E.1)
  have mbr := eb_xr E
  have mor := eb_yr E
  refine av_wp_seq 4 (pc' := 4) (lv' := [some (.inr (.inr (.inl (some (b))))), some (.inl x), some (.inl x), some (.inl (0)), none, none]) (st' := []) (h' := h) rfl ?_
  have L11 : ∀ (m10 : Nat) (k1 : Int) (k2 : Int) (a3 : Option av_V) (a4 : Option av_V) (h5 : av_H) (a8 : Nat → Nat → Int), av_lg a3 = false → av_lg a4 = false → k1 = x / prd (dvu u) (4 * Int.toNat k2) → k2 ≤ (s : Int) → (0 ≤ k2 ∧ k2 ≤ 12) → (0 ≤ k1 ∧ k1 ≤ 1023) → EB b t c s r cb u ro a8 mb mo ma h5 → FN b g h5 → HK u x a (Int.toNat k2) a8 → ((s : Int) - k2).toNat = m10 → av_wp none cd_4 4 [some (.inr (.inr (.inl (some (b))))), some (.inl x), some (.inl k1), some (.inl k2), a3, a4] [] h5 Q := by
    intro m10
    induction m10 using Nat.strongRecOn with
    | _ m10 I12 =>
      intro k1 k2 a3 a4 h5 a8 g14 g15 g16 g17 g18 g19 E6 F7 X9 e13
      have la3 := g14
      have la4 := g15
      refine av_wp_seq 2 (pc' := 6) (lv' := [some (.inr (.inr (.inl (some (b))))), some (.inl x), some (.inl k1), some (.inl k2), a3, a4]) (st' := [.inr (.inr (.inl (some (b)))), .inl k2]) (h' := h5) rfl ?_
      refine wq_gr (p' := 9) rfl rfl (congrArg Prod.fst (ib_k0 E6.1)) rfl (ib_t E6.1) ?_
      refine wq_gi (p' := 12) rfl rfl (congrArg Prod.fst (co_kt (ib_co E6.1))) rfl (co_s (ib_co E6.1)) ?_
      refine wq_k2 (p' := 15) rfl rfl ⟨by omega, by omega⟩ ⟨by omega, by omega⟩ (fun c20 => ?_) (fun c21 => ?_)
      · have c20 : (s : Int) ≤ k2 := c20
        refine av_wp_ret (v := none) rfl rfl rfl ?_
        have z22 : Int.toNat k2 = s := by omega
        rw [z22] at X9
        exact hq h5 _ E6 F7 (HK_e X9 qx.1) X9.2.1 X9.2.2
      · have c21 : k2 < (s : Int) := c21
        refine av_wp_seq 1 (pc' := 16) (lv' := [some (.inr (.inr (.inl (some (b))))), some (.inl x), some (.inl k1), some (.inl k2), a3, a4]) (st' := [.inr (.inr (.inl (some (b))))]) (h' := h5) rfl ?_
        refine wq_gr (p' := 19) rfl rfl (congrArg Prod.fst (ib_k0 E6.1)) rfl (ib_t E6.1) ?_
        refine wq_gr (p' := 22) rfl rfl (congrArg Prod.fst (co_kt (ib_co E6.1))) rfl (co_c (ib_co E6.1)) ?_
        refine av_wp_seq 5 (pc' := 29) (lv' := [some (.inr (.inr (.inl (some (b))))), some (.inl x), some (.inl k1), some (.inl k2), a3, a4]) (st' := [.inl ((k2 * (21)) + (20)), .inr (.inr (.inl (some (c))))]) (h' := h5) rfl ?_
        obtain ⟨v24, e25⟩ : ∃ v, u (Int.toNat (((k2 * (21)) + (20)))) = v := ⟨_, rfl⟩
        have g23 := eb_uv E6 (Int.toNat (((k2 * (21)) + (20))))
        rw [e25] at g23
        refine wq_al (p' := 30) (n := 21 * s) rfl rfl (co_kc (ib_co E6.1)) (by omega) ((congrFun (eb_u E6) _).trans e25) ?_
        have tv : v24 = tnv u (Int.toNat k2) := by
          rw [← tu (Int.toNat k2) (by omega), ← e25]
          congr 1; omega
        have tr := tnv_b (f := u) (k := Int.toNat k2) (fun p h1 h2 => by have w := eb_um E6 (Int.toNat k2) (p - 15) (by omega); rw [show 21 * Int.toNat k2 + 15 + (p - 15) = 21 * Int.toNat k2 + p by omega] at w; exact w)
        rw [← tv] at tr
        refine av_wp_seq 1 (pc' := 31) (lv' := [some (.inr (.inr (.inl (some (b))))), some (.inl x), some (.inl k1), some (.inl k2), a3, a4]) (st' := [.inl (1), .inl v24]) (h' := h5) rfl ?_
        refine wq_mx (p' := 34) rfl rfl rfl (fun _ _ => rfl) rfl (fun v26 e27 e28 => ?_)
        have e28 := e28 ⟨by omega, by omega⟩ ⟨by omega, by omega⟩
        refine av_wp_seq 3 (pc' := 39) (lv' := [some (.inr (.inr (.inl (some (b))))), some (.inl x), some (.inl k1), some (.inl k2), some (.inl v26), a4]) (st' := [.inl v26, .inl k1]) (h' := h5) rfl ?_
        refine wq_rm (p' := 40) rfl rfl ⟨by omega, by omega⟩ (by omega) (fun v29 e30 => ?_)
        have e30 := e30 ⟨by omega, by omega⟩
        rw [Int.tmod_eq_emod_of_nonneg (by omega)] at e30
        have g31 := i_mr (x := k1) (y := v26) (by omega) (by omega)
        rw [← e30] at g31
        refine av_wp_seq 3 (pc' := 45) (lv' := [some (.inr (.inr (.inl (some (b))))), some (.inl x), some (.inl k1), some (.inl k2), some (.inl v26), some (.inl v29)]) (st' := [.inl v26, .inl k1]) (h' := h5) rfl ?_
        refine wq_dv (p' := 46) rfl rfl ⟨by omega, by omega⟩ (by omega) (fun v32 e33 => ?_)
        have e33 := e33 ⟨by omega, by omega⟩
        rw [Int.tdiv_eq_ediv_of_nonneg (by omega)] at e33
        have g34 := i_dr (x := k1) (y := v26) (by omega) (by omega)
        rw [← e33] at g34
        refine av_wp_seq 1 (pc' := 47) (lv' := [some (.inr (.inr (.inl (some (b))))), some (.inl x), some (.inl v32), some (.inl k2), some (.inl v26), some (.inl v29)]) (st' := []) (h' := h5) rfl ?_
        have t2 : v26 = tnv u (Int.toNat k2) := by omega
        have ow : v29 = own u x (Int.toNat k2) := by
          rw [e30, t2, g16]
          rfl
        have rn : v32 = x / prd (dvu u) (4 * (Int.toNat k2 + 1)) := by
          rw [own_n (by omega), ← g16, ← t2]
          exact e33
        have z35 : Int.toNat (k2 + (1)) = Int.toNat k2 + 1 := by omega
        refine av_wp_seq 2 (pc' := 50) (lv' := [some (.inr (.inr (.inl (some (b))))), some (.inl x), some (.inl v32), some (.inl k2), some (.inl v26), some (.inl v29)]) (st' := [.inr (.inr (.inl (some (b)))), .inl v29]) (h' := h5) rfl ?_
        refine wq_gr (p' := 53) rfl rfl (congrArg Prod.fst (ib_k0 E6.1)) rfl (ib_g E6.1 1 rfl) ?_
        refine av_wp_seq 1 (pc' := 54) (lv' := [some (.inr (.inr (.inl (some (b))))), some (.inl x), some (.inl v32), some (.inl k2), some (.inl v26), some (.inl v29)]) (st' := [.inl k2, .inr (.inr (.inl (some (b + 1 + 1)))), .inl v29]) (h' := h5) rfl ?_
        obtain ⟨v37, e38⟩ : ∃ v, a8 1 (Int.toNat (k2)) = v := ⟨_, rfl⟩
        have g39 := HZ_r X9.2.1 (q := Int.toNat (k2)) (by omega)
        rw [e38] at g39
        refine wq_al (p' := 55) (n := 12) rfl rfl (ib_k E6.1 1 rfl) (by omega) ((congrFun (eb_a E6 1 rfl) _).trans e38) ?_
        refine wq_k2 (p' := 58) rfl rfl ⟨by omega, by omega⟩ ⟨by omega, by omega⟩ (fun c40 => ?_) (fun c41 => ?_)
        · have c40 : v29 = v37 := c40
          refine av_wp_seq 2 (pc' := 4) (lv' := [some (.inr (.inr (.inl (some (b))))), some (.inl x), some (.inl v32), some (.inl (k2 + (1))), some (.inl v26), some (.inl v29)]) (st' := []) (h' := h5) rfl ?_
          exact I12 _ (by omega) (v32) ((k2 + (1))) (some (.inl v26)) (some (.inl v29)) h5 a8 rfl rfl (by rw [z35]; exact rn) (by omega) (by omega) (by omega) E6 F7 (by rw [z35]; exact HK_same X9 (by omega) (by rw [e38, ← ow]; omega) (by rw [← ow]; omega)) rfl
        · have c41 : v29 ≠ v37 := c41
          refine av_wp_seq 1 (pc' := 59) (lv' := [some (.inr (.inr (.inl (some (b))))), some (.inl x), some (.inl v32), some (.inl k2), some (.inl v26), some (.inl v29)]) (st' := [.inr (.inr (.inl (some (b))))]) (h' := h5) rfl ?_
          refine wq_gr (p' := 62) rfl rfl (congrArg Prod.fst (ib_k0 E6.1)) rfl (ib_g E6.1 1 rfl) ?_
          refine av_wp_seq 2 (pc' := 65) (lv' := [some (.inr (.inr (.inl (some (b))))), some (.inl x), some (.inl v32), some (.inl k2), some (.inl v26), some (.inl v29)]) (st' := [.inl v29, .inl k2, .inr (.inr (.inl (some (b + 1 + 1))))]) (h' := h5) rfl ?_
          refine xb_as (p' := 66) (n := 12) rfl rfl E6 F7 1 rfl rfl (by omega) (fun h42 E43 F44 => ?_)
          refine av_wp_seq 3 (pc' := 70) (lv' := [some (.inr (.inr (.inl (some (b))))), some (.inl x), some (.inl v32), some (.inl k2), some (.inl v26), some (.inl v29)]) (st' := [.inl v29, .inl k2, .inr (.inr (.inl (some (b))))]) (h' := h42) rfl ?_
          refine wq_cv (p' := 73) (av_qc (.invokevirtual 111) 5 2 0 0) 8 cd_5 [.inl v29, .inl k2] (b) 0 [some (.inr (.inr (.inl (some (b))))), some (.inl k2), some (.inl v29), none, none, none, none, none] rfl rfl rfl pp_5 rfl rfl rfl (congrArg Prod.fst (ib_k0 E43.1)) rfl rfl rfl rfl ?_
          refine cx_5 E43 F44 (k2) (by omega) (v29) (by omega) (fun h45 a46 E47 F48 S49 => ?_)
          show av_wp _ cd_4 73 [some (.inr (.inr (.inl (some (b))))), some (.inl x), some (.inl v32), some (.inl k2), some (.inl v26), some (.inl v29)] [] h45 _
          refine av_wp_seq 2 (pc' := 4) (lv' := [some (.inr (.inr (.inl (some (b))))), some (.inl x), some (.inl v32), some (.inl (k2 + (1))), some (.inl v26), some (.inl v29)]) (st' := []) (h' := h45) rfl ?_
          exact I12 _ (by omega) (v32) ((k2 + (1))) (some (.inl v26)) (some (.inl v29)) h45 a46 rfl rfl (by rw [z35]; exact rn) (by omega) (by omega) (by omega) E47 F48 (by rw [z35]; exact HK_set X9 (by omega) (by rw [← ow]; omega) rfl ow S49) rfl
  exact L11 _ (x) ((0)) (none) (none) h a rfl rfl (i_d1 x).symm (by omega) (by omega) (by omega) E F (HK_0 hz) rfl

