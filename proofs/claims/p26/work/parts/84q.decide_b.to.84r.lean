section
set_option maxRecDepth 100000 in
set_option maxHeartbeats 4000000 in
theorem cx_11 {g h : av_H} {b t c s r : Nat} {cb : Int} {u ro : Nat → Int} {a : Nat → Nat → Int} {mb mo ma : Int} (E : EB b t c s r cb u ro a mb mo ma h) (F : FN b g h) {a0 : Nat → Nat → Int} (D : TBI u ro a0 s s a) (H : HBd s a0) (B3 : BZ s a0) (U2 : ∀ j, u j ≤ 2000 ∨ j % 21 = 20) {Q : Option av_V → av_H → Prop} (hq : ∀ h' a', EB b t c s r cb u ro a' mb mo ma h' → FN b g h' → DEC u ro a0 s a' → Q none h') : av_wp none cd_11 0 [some (.inr (.inr (.inl (some (b))))), none, none, none] [] h Q := by
  have s12 := co_s12 (ib_co E.1)
  have cbr := co_cbr (ib_co E.1)
  have mbr := eb_xr E
  have mor := eb_yr E
  have U1 := fun j => (eb_uv E j).1
  have R9 := eb_rv E
  refine av_wp_sqF ck_11 2 (pc' := 2) (lv' := [some (.inr (.inr (.inl (some (b))))), some (.inl (0)), none, none]) (st' := []) (h' := h) rfl ?_
  have L10 : ∀ (m9 : Nat) (k1 : Int) (a2 : Option av_V) (a3 : Option av_V) (h4 : av_H) (a7 : Nat → Nat → Int), av_lg a2 = false → av_lg a3 = false → k1 ≤ (s : Int) → (0 ≤ k1 ∧ k1 ≤ 12) → EB b t c s r cb u ro a7 mb mo ma h4 → FN b g h4 → HAI u ro a0 s (Int.toNat k1) a7 → ((s : Int) - k1).toNat = m9 → av_wp none cd_11 2 [some (.inr (.inr (.inl (some (b))))), some (.inl k1), a2, a3] [] h4 Q := by
    intro m9
    induction m9 using Nat.strongRecOn with
    | _ m9 I11 =>
      intro k1 a2 a3 h4 a7 g13 g14 g15 g16 E5 F6 X8 e12
      have la2 := g13
      have la3 := g14
      refine av_wp_sqF ck_11 2 (pc' := 4) (lv' := [some (.inr (.inr (.inl (some (b))))), some (.inl k1), a2, a3]) (st' := [.inr (.inr (.inl (some (b)))), .inl k1]) (h' := h4) rfl ?_
      refine wq_gr (p' := 7) (ck_11 _ _ rfl) rfl (congrArg Prod.fst (ib_k0 E5.1)) rfl (ib_t E5.1) ?_
      refine wq_gi (p' := 10) (ck_11 _ _ rfl) rfl (congrArg Prod.fst (co_kt (ib_co E5.1))) rfl (co_s (ib_co E5.1)) ?_
      refine wq_k2 (p' := 13) (ck_11 _ _ rfl) rfl ⟨by omega, by omega⟩ ⟨by omega, by omega⟩ (fun c17 => ?_) (fun c18 => ?_)
      · have c17 : (s : Int) ≤ k1 := c17
        refine av_wp_ret (v := none) (ck_11 _ _ rfl) rfl rfl ?_
        have z19 : Int.toNat k1 = s := by omega
        rw [z19] at X8
        exact hq h4 _ E5 F6 X8
      · have c18 : k1 < (s : Int) := c18
        refine av_wp_sqF ck_11 1 (pc' := 14) (lv' := [some (.inr (.inr (.inl (some (b))))), some (.inl k1), a2, a3]) (st' := [.inr (.inr (.inl (some (b))))]) (h' := h4) rfl ?_
        refine wq_gr (p' := 17) (ck_11 _ _ rfl) rfl (congrArg Prod.fst (ib_k0 E5.1)) rfl (ib_t E5.1) ?_
        refine wq_gr (p' := 20) (ck_11 _ _ rfl) rfl (congrArg Prod.fst (co_kt (ib_co E5.1))) rfl (co_c (ib_co E5.1)) ?_
        refine av_wp_sqF ck_11 5 (pc' := 26) (lv' := [some (.inr (.inr (.inl (some (b))))), some (.inl k1), a2, a3]) (st' := [.inl ((k1 * (21)) + (0)), .inr (.inr (.inl (some (c))))]) (h' := h4) rfl ?_
        obtain ⟨v21, e22⟩ : ∃ v, u (Int.toNat (((k1 * (21)) + (0)))) = v := ⟨_, rfl⟩
        have g20 := eb_uv E5 (Int.toNat (((k1 * (21)) + (0))))
        rw [e22] at g20
        have y23 : u (21 * Int.toNat k1 + 0) = v21 := (congrArg u (by omega)).trans e22
        refine wq_al (p' := 27) (n := 21 * s) (ck_11 _ _ rfl) rfl (co_kc (ib_co E5.1)) (by omega) ((congrFun (eb_u E5) _).trans e22) ?_
        refine av_wp_sqF ck_11 2 (pc' := 29) (lv' := [some (.inr (.inr (.inl (some (b))))), some (.inl k1), some (.inl v21), a3]) (st' := [.inr (.inr (.inl (some (b))))]) (h' := h4) rfl ?_
        refine wq_gr (p' := 32) (ck_11 _ _ rfl) rfl (congrArg Prod.fst (ib_k0 E5.1)) rfl (ib_t E5.1) ?_
        refine wq_gr (p' := 35) (ck_11 _ _ rfl) rfl (congrArg Prod.fst (co_kt (ib_co E5.1))) rfl (co_c (ib_co E5.1)) ?_
        refine av_wp_sqF ck_11 5 (pc' := 41) (lv' := [some (.inr (.inr (.inl (some (b))))), some (.inl k1), some (.inl v21), a3]) (st' := [.inl ((k1 * (21)) + (3)), .inr (.inr (.inl (some (c))))]) (h' := h4) rfl ?_
        obtain ⟨v25, e26⟩ : ∃ v, u (Int.toNat (((k1 * (21)) + (3)))) = v := ⟨_, rfl⟩
        have g24 := eb_uv E5 (Int.toNat (((k1 * (21)) + (3))))
        rw [e26] at g24
        have y27 : u (21 * Int.toNat k1 + 3) = v25 := (congrArg u (by omega)).trans e26
        refine wq_al (p' := 42) (n := 21 * s) (ck_11 _ _ rfl) rfl (co_kc (ib_co E5.1)) (by omega) ((congrFun (eb_u E5) _).trans e26) ?_
        refine av_wp_sqF ck_11 2 (pc' := 44) (lv' := [some (.inr (.inr (.inl (some (b))))), some (.inl k1), some (.inl v21), some (.inl v25)]) (st' := [.inl v25]) (h' := h4) rfl ?_
        refine wq_k1 (p' := 47) (ck_11 _ _ rfl) rfl ⟨by omega, by omega⟩ (fun c28 => ?_) (fun c29 => ?_)
        · have c28 : v25 < (0) := c28
          refine av_wp_sqF ck_11 2 (pc' := 2) (lv' := [some (.inr (.inr (.inl (some (b))))), some (.inl (k1 + (1))), some (.inl v21), some (.inl v25)]) (st' := []) (h' := h4) rfl ?_
          exact I11 _ (by omega) ((k1 + (1))) (some (.inl v21)) (some (.inl v25)) h4 a7 rfl rfl (by omega) (by omega) E5 F6 (by rw [show Int.toNat (k1 + (1)) = Int.toNat k1 + 1 by omega]; exact HAI_n X8 (by unfold ans; rw [if_neg (by omega)])) rfl
        · have c29 : (0) ≤ v25 := c29
          refine av_wp_sqF ck_11 2 (pc' := 49) (lv' := [some (.inr (.inr (.inl (some (b))))), some (.inl k1), some (.inl v21), some (.inl v25)]) (st' := [.inl k1, .inl v25]) (h' := h4) rfl ?_
          refine wq_k2 (p' := 52) (ck_11 _ _ rfl) rfl ⟨by omega, by omega⟩ ⟨by omega, by omega⟩ (fun c30 => ?_) (fun c31 => ?_)
          · have c30 : k1 ≤ v25 := c30
            refine av_wp_sqF ck_11 2 (pc' := 2) (lv' := [some (.inr (.inr (.inl (some (b))))), some (.inl (k1 + (1))), some (.inl v21), some (.inl v25)]) (st' := []) (h' := h4) rfl ?_
            exact I11 _ (by omega) ((k1 + (1))) (some (.inl v21)) (some (.inl v25)) h4 a7 rfl rfl (by omega) (by omega) E5 F6 (by rw [show Int.toNat (k1 + (1)) = Int.toNat k1 + 1 by omega]; exact HAI_n X8 (by unfold ans; rw [if_neg (by omega)])) rfl
          · have c31 : v25 < k1 := c31
            refine av_wp_sqF ck_11 2 (pc' := 54) (lv' := [some (.inr (.inr (.inl (some (b))))), some (.inl k1), some (.inl v21), some (.inl v25)]) (st' := [.inl (5), .inl v21]) (h' := h4) rfl ?_
            refine wq_k2 (p' := 57) (ck_11 _ _ rfl) rfl ⟨by omega, by omega⟩ ⟨by omega, by omega⟩ (fun c32 => ?_) (fun c33 => ?_)
            · have c32 : v21 = (5) := c32
              refine av_wp_sqF ck_11 2 (pc' := 2) (lv' := [some (.inr (.inr (.inl (some (b))))), some (.inl (k1 + (1))), some (.inl v21), some (.inl v25)]) (st' := []) (h' := h4) rfl ?_
              exact I11 _ (by omega) ((k1 + (1))) (some (.inl v21)) (some (.inl v25)) h4 a7 rfl rfl (by omega) (by omega) E5 F6 (by rw [show Int.toNat (k1 + (1)) = Int.toNat k1 + 1 by omega]; exact HAI_n X8 (by unfold ans; rw [if_neg (by omega)])) rfl
            · have c33 : v21 ≠ (5) := c33
              refine av_wp_sqF ck_11 2 (pc' := 60) (lv' := [some (.inr (.inr (.inl (some (b))))), some (.inl k1), some (.inl v21), some (.inl v25)]) (st' := [.inl (7), .inl v21]) (h' := h4) rfl ?_
              refine wq_k2 (p' := 63) (ck_11 _ _ rfl) rfl ⟨by omega, by omega⟩ ⟨by omega, by omega⟩ (fun c34 => ?_) (fun c35 => ?_)
              · have c34 : v21 = (7) := c34
                refine av_wp_sqF ck_11 2 (pc' := 2) (lv' := [some (.inr (.inr (.inl (some (b))))), some (.inl (k1 + (1))), some (.inl v21), some (.inl v25)]) (st' := []) (h' := h4) rfl ?_
                exact I11 _ (by omega) ((k1 + (1))) (some (.inl v21)) (some (.inl v25)) h4 a7 rfl rfl (by omega) (by omega) E5 F6 (by rw [show Int.toNat (k1 + (1)) = Int.toNat k1 + 1 by omega]; exact HAI_n X8 (by unfold ans; rw [if_neg (by omega)])) rfl
              · have c35 : v21 ≠ (7) := c35
                refine av_wp_sqF ck_11 1 (pc' := 64) (lv' := [some (.inr (.inr (.inl (some (b))))), some (.inl k1), some (.inl v21), some (.inl v25)]) (st' := [.inr (.inr (.inl (some (b))))]) (h' := h4) rfl ?_
                refine wq_gr (p' := 67) (ck_11 _ _ rfl) rfl (congrArg Prod.fst (ib_k0 E5.1)) rfl (ib_g E5.1 10 rfl) ?_
                refine av_wp_sqF ck_11 2 (pc' := 69) (lv' := [some (.inr (.inr (.inl (some (b))))), some (.inl k1), some (.inl v21), some (.inl v25)]) (st' := [.inr (.inr (.inl (some (b)))), .inl v25, .inr (.inr (.inl (some (b + 1 + 10))))]) (h' := h4) rfl ?_
                refine wq_gr (p' := 72) (ck_11 _ _ rfl) rfl (congrArg Prod.fst (ib_k0 E5.1)) rfl (ib_g E5.1 10 rfl) ?_
                refine av_wp_sqF ck_11 1 (pc' := 73) (lv' := [some (.inr (.inr (.inl (some (b))))), some (.inl k1), some (.inl v21), some (.inl v25)]) (st' := [.inl v25, .inr (.inr (.inl (some (b + 1 + 10)))), .inl v25, .inr (.inr (.inl (some (b + 1 + 10))))]) (h' := h4) rfl ?_
                obtain ⟨v37, e38⟩ : ∃ v, a7 10 (Int.toNat (v25)) = v := ⟨_, rfl⟩
                have y39 := (X8.1 (Int.toNat (v25)) (by omega)).2.2.2
                rw [e38] at y39
                have g40 := awv_r (u := u) H (Int.toNat (v25)) (Int.toNat k1) (by omega)
                rw [← y39] at g40
                refine wq_al (p' := 74) (n := 12) (ck_11 _ _ rfl) rfl (ib_k E5.1 10 rfl) (by omega) ((congrFun (eb_a E5 10 rfl) _).trans e38) ?_
                refine av_wp_sqF ck_11 3 (pc' := 77) (lv' := [some (.inr (.inr (.inl (some (b))))), some (.inl k1), some (.inl v21), some (.inl v25)]) (st' := [.inl (0), .inl k1, .inr (.inr (.inl (some (b)))), .inl v37, .inl v25, .inr (.inr (.inl (some (b + 1 + 10))))]) (h' := h4) rfl ?_
                refine wq_cv (p' := 80) (av_qc (.invokevirtual 115) 6 2 0 0) 3 cd_6 [.inl (0), .inl k1] (b) 0 [some (.inr (.inr (.inl (some (b))))), some (.inl k1), some (.inl (0))] (ck_11 _ _ rfl) rfl rfl pp_6 rfl rfl rfl (congrArg Prod.fst (ib_k0 E5.1)) rfl rfl rfl rfl ?_
                refine cx_6 E5 F6 (k1) (by omega) ((0)) (by omega) ?_
                rw [hof_c (a := a0) (X8.2 0 (by omega)) (by omega)]
                obtain ⟨v41, e42⟩ : ∃ v, hw a0 (Int.toNat (k1)) (0) = v := ⟨_, rfl⟩
                have g43 := hw_r H (k := Int.toNat (k1)) (by omega) (0)
                rw [e42] at g43
                rw [e42]
                show av_wp _ cd_11 80 [some (.inr (.inr (.inl (some (b))))), some (.inl k1), some (.inl v21), some (.inl v25)] [.inl v41, .inl v37, .inl v25, .inr (.inr (.inl (some (b + 1 + 10))))] h4 _
                refine wq_mn (p' := 83) (ck_11 _ _ rfl) rfl rfl (fun _ _ => rfl) rfl (fun v44 e45 e46 => ?_)
                have e46 := e46 ⟨by omega, by omega⟩ ⟨by omega, by omega⟩
                refine xb_as (p' := 84) (n := 12) rfl rfl E5 F6 10 rfl rfl (by omega) (fun h47 E48 F49 => ?_)
                refine av_wp_sqF ck_11 2 (pc' := 86) (lv' := [some (.inr (.inr (.inl (some (b))))), some (.inl k1), some (.inl v21), some (.inl v25)]) (st' := [.inl (4), .inl v21]) (h' := h47) rfl ?_
                refine wq_k2 (p' := 89) (ck_11 _ _ rfl) rfl ⟨by omega, by omega⟩ ⟨by omega, by omega⟩ (fun c50 => ?_) (fun c51 => ?_)
                · have c50 : v21 = (4) := c50
                  refine av_wp_sqF ck_11 5 (pc' := 103) (lv' := [some (.inr (.inr (.inl (some (b))))), some (.inl k1), some (.inl v21), some (.inl v25)]) (st' := [.inr (.inr (.inl (some (b)))), .inl k1, .inr (.inr (.inl (some (b)))), .inl v25, .inr (.inr (.inl (some (b))))]) (h' := h47) rfl ?_
                  refine wq_gr (p' := 106) (ck_11 _ _ rfl) rfl (congrArg Prod.fst (ib_k0 E48.1)) rfl (ib_r E48.1) ?_
                  refine av_wp_sqF ck_11 1 (pc' := 107) (lv' := [some (.inr (.inr (.inl (some (b))))), some (.inl k1), some (.inl v21), some (.inl v25)]) (st' := [.inl (5), .inr (.inr (.inl (some (r)))), .inl k1, .inr (.inr (.inl (some (b)))), .inl v25, .inr (.inr (.inl (some (b))))]) (h' := h47) rfl ?_
                  obtain ⟨v53, e54⟩ : ∃ v, ro 5 = v := ⟨_, rfl⟩
                  have g52 := eb_rv E48 5
                  rw [e54] at g52
                  refine wq_al (p' := 108) (n := 14) (ck_11 _ _ rfl) rfl (ib_kr E48.1) (by omega) ((congrFun (eb_ro E48) _).trans e54) ?_
                  refine wq_cv (p' := 111) (av_qc (.invokevirtual 115) 6 2 0 0) 3 cd_6 [.inl v53, .inl k1] (b) 0 [some (.inr (.inr (.inl (some (b))))), some (.inl k1), some (.inl v53)] (ck_11 _ _ rfl) rfl rfl pp_6 rfl rfl rfl (congrArg Prod.fst (ib_k0 E48.1)) rfl rfl rfl rfl ?_
                  refine cx_6 E48 F49 (k1) (by omega) (v53) (by omega) ?_
                  rw [hof_c (a := a0) ((av_u2_ne (by decide)).trans (X8.2 0 (by omega))) (by omega)]
                  obtain ⟨v55, e56⟩ : ∃ v, hw a0 (Int.toNat (k1)) v53 = v := ⟨_, rfl⟩
                  have g57 := hw_r H (k := Int.toNat (k1)) (by omega) v53
                  rw [e56] at g57
                  rw [e56]
                  show av_wp _ cd_11 111 [some (.inr (.inr (.inl (some (b))))), some (.inl k1), some (.inl v21), some (.inl v25)] [.inl v55, .inl v25, .inr (.inr (.inl (some (b))))] h47 _
                  refine av_wp_sqF ck_11 2 (pc' := 113) (lv' := [some (.inr (.inr (.inl (some (b))))), some (.inl k1), some (.inl v21), some (.inl v25)]) (st' := [.inl k1, .inl (2), .inl v55, .inl v25, .inr (.inr (.inl (some (b))))]) (h' := h47) rfl ?_
                  refine wq_cv (p' := 116) (av_qc (.invokevirtual 118) 8 4 0 0) 5 cd_8 [.inl k1, .inl (2), .inl v55, .inl v25] (b) 0 [some (.inr (.inr (.inl (some (b))))), some (.inl v25), some (.inl v55), some (.inl (2)), some (.inl k1)] (ck_11 _ _ rfl) rfl rfl pp_8 rfl rfl rfl (congrArg Prod.fst (ib_k0 E48.1)) rfl rfl rfl rfl ?_
                  refine cx_8 E48 F49 (v25) (by omega) (v55) (by omega) ((2)) (by omega) (k1) (by rw [ET3_9 (by decide) (by decide) (by decide), (X8.1 (Int.toNat (v25)) (by omega)).2.1]; exact eav_r H U2 U1 R9 s12 (by omega) _ (by omega)) (by rw [((av_u2_ne (by decide)).trans (X8.2 2 (by omega)))]; exact (B3 _ (by omega)).1) (fun h58 a59 E60 F61 X62 => ?_)
                  show av_wp _ cd_11 116 [some (.inr (.inr (.inl (some (b))))), some (.inl k1), some (.inl v21), some (.inl v25)] [] h58 _
                  refine av_wp_sqF ck_11 2 (pc' := 2) (lv' := [some (.inr (.inr (.inl (some (b))))), some (.inl (k1 + (1))), some (.inl v21), some (.inl v25)]) (st' := []) (h' := h58) rfl ?_
                  exact I11 _ (by omega) ((k1 + (1))) (some (.inl v21)) (some (.inl v25)) h58 a59 rfl rfl (by omega) (by omega) E60 F61 (by rw [show Int.toNat (k1 + (1)) = Int.toNat k1 + 1 by omega]; exact HAI_b X8 (by unfold ans; rw [if_pos (by omega)]) y27 (by omega) (by omega) (by rw [← y39, e42]; unfold mn2; split <;> omega) (by omega) (by rw [e54]; exact e56) (by omega) X62) rfl
                · have c51 : v21 ≠ (4) := c51
                  refine av_wp_sqF ck_11 1 (pc' := 90) (lv' := [some (.inr (.inr (.inl (some (b))))), some (.inl k1), some (.inl v21), some (.inl v25)]) (st' := [.inr (.inr (.inl (some (b))))]) (h' := h47) rfl ?_
                  refine wq_gr (p' := 93) (ck_11 _ _ rfl) rfl (congrArg Prod.fst (ib_k0 E48.1)) rfl (ib_g E48.1 2 rfl) ?_
                  refine av_wp_sqF ck_11 1 (pc' := 94) (lv' := [some (.inr (.inr (.inl (some (b))))), some (.inl k1), some (.inl v21), some (.inl v25)]) (st' := [.inl k1, .inr (.inr (.inl (some (b + 1 + 2))))]) (h' := h47) rfl ?_
                  obtain ⟨v64, e65⟩ : ∃ v, (av_u2 a7 10 (Int.toNat (v25)) v44) 2 (Int.toNat (k1)) = v := ⟨_, rfl⟩
                  have y66 : a0 2 (Int.toNat (k1)) = v64 := (congrFun ((av_u2_ne (by decide)).trans (X8.2 2 (by omega))) _).symm.trans e65
                  have g67 := (B3 (Int.toNat (k1)) (by omega)).1
                  rw [y66] at g67
                  refine wq_bl (p' := 95) (n := 12) (ck_11 _ _ rfl) rfl ((Or.inr (ib_k E48.1 2 rfl))) (by omega) ((congrFun (eb_a E48 2 rfl) _).trans e65) ?_
                  refine wq_k1 (p' := 98) (ck_11 _ _ rfl) rfl ⟨by omega, by omega⟩ (fun c68 => ?_) (fun c69 => ?_)
                  · have c68 : v64 = (0) := c68
                    refine av_wp_sqF ck_11 2 (pc' := 2) (lv' := [some (.inr (.inr (.inl (some (b))))), some (.inl (k1 + (1))), some (.inl v21), some (.inl v25)]) (st' := []) (h' := h47) rfl ?_
                    exact I11 _ (by omega) ((k1 + (1))) (some (.inl v21)) (some (.inl v25)) h47 (av_u2 a7 10 (Int.toNat (v25)) v44) rfl rfl (by omega) (by omega) E48 F49 (by rw [show Int.toNat (k1 + (1)) = Int.toNat k1 + 1 by omega]; exact HAI_a X8 (by unfold ans; rw [if_pos (by omega)]) y27 (by omega) (by omega) (by rw [← y39, e42]; unfold mn2; split <;> omega) (by omega)) rfl
                  · have c69 : v64 ≠ (0) := c69
                    refine av_wp_sqF ck_11 5 (pc' := 103) (lv' := [some (.inr (.inr (.inl (some (b))))), some (.inl k1), some (.inl v21), some (.inl v25)]) (st' := [.inr (.inr (.inl (some (b)))), .inl k1, .inr (.inr (.inl (some (b)))), .inl v25, .inr (.inr (.inl (some (b))))]) (h' := h47) rfl ?_
                    refine wq_gr (p' := 106) (ck_11 _ _ rfl) rfl (congrArg Prod.fst (ib_k0 E48.1)) rfl (ib_r E48.1) ?_
                    refine av_wp_sqF ck_11 1 (pc' := 107) (lv' := [some (.inr (.inr (.inl (some (b))))), some (.inl k1), some (.inl v21), some (.inl v25)]) (st' := [.inl (5), .inr (.inr (.inl (some (r)))), .inl k1, .inr (.inr (.inl (some (b)))), .inl v25, .inr (.inr (.inl (some (b))))]) (h' := h47) rfl ?_
                    obtain ⟨v71, e72⟩ : ∃ v, ro 5 = v := ⟨_, rfl⟩
                    have g70 := eb_rv E48 5
                    rw [e72] at g70
                    refine wq_al (p' := 108) (n := 14) (ck_11 _ _ rfl) rfl (ib_kr E48.1) (by omega) ((congrFun (eb_ro E48) _).trans e72) ?_
                    refine wq_cv (p' := 111) (av_qc (.invokevirtual 115) 6 2 0 0) 3 cd_6 [.inl v71, .inl k1] (b) 0 [some (.inr (.inr (.inl (some (b))))), some (.inl k1), some (.inl v71)] (ck_11 _ _ rfl) rfl rfl pp_6 rfl rfl rfl (congrArg Prod.fst (ib_k0 E48.1)) rfl rfl rfl rfl ?_
                    refine cx_6 E48 F49 (k1) (by omega) (v71) (by omega) ?_
                    rw [hof_c (a := a0) ((av_u2_ne (by decide)).trans (X8.2 0 (by omega))) (by omega)]
                    obtain ⟨v73, e74⟩ : ∃ v, hw a0 (Int.toNat (k1)) v71 = v := ⟨_, rfl⟩
                    have g75 := hw_r H (k := Int.toNat (k1)) (by omega) v71
                    rw [e74] at g75
                    rw [e74]
                    show av_wp _ cd_11 111 [some (.inr (.inr (.inl (some (b))))), some (.inl k1), some (.inl v21), some (.inl v25)] [.inl v73, .inl v25, .inr (.inr (.inl (some (b))))] h47 _
                    refine av_wp_sqF ck_11 2 (pc' := 113) (lv' := [some (.inr (.inr (.inl (some (b))))), some (.inl k1), some (.inl v21), some (.inl v25)]) (st' := [.inl k1, .inl (2), .inl v73, .inl v25, .inr (.inr (.inl (some (b))))]) (h' := h47) rfl ?_
                    refine wq_cv (p' := 116) (av_qc (.invokevirtual 118) 8 4 0 0) 5 cd_8 [.inl k1, .inl (2), .inl v73, .inl v25] (b) 0 [some (.inr (.inr (.inl (some (b))))), some (.inl v25), some (.inl v73), some (.inl (2)), some (.inl k1)] (ck_11 _ _ rfl) rfl rfl pp_8 rfl rfl rfl (congrArg Prod.fst (ib_k0 E48.1)) rfl rfl rfl rfl ?_
                    refine cx_8 E48 F49 (v25) (by omega) (v73) (by omega) ((2)) (by omega) (k1) (by rw [ET3_9 (by decide) (by decide) (by decide), (X8.1 (Int.toNat (v25)) (by omega)).2.1]; exact eav_r H U2 U1 R9 s12 (by omega) _ (by omega)) (by rw [((av_u2_ne (by decide)).trans (X8.2 2 (by omega)))]; exact (B3 _ (by omega)).1) (fun h76 a77 E78 F79 X80 => ?_)
                    show av_wp _ cd_11 116 [some (.inr (.inr (.inl (some (b))))), some (.inl k1), some (.inl v21), some (.inl v25)] [] h76 _
                    refine av_wp_sqF ck_11 2 (pc' := 2) (lv' := [some (.inr (.inr (.inl (some (b))))), some (.inl (k1 + (1))), some (.inl v21), some (.inl v25)]) (st' := []) (h' := h76) rfl ?_
                    exact I11 _ (by omega) ((k1 + (1))) (some (.inl v21)) (some (.inl v25)) h76 a77 rfl rfl (by omega) (by omega) E78 F79 (by rw [show Int.toNat (k1 + (1)) = Int.toNat k1 + 1 by omega]; exact HAI_b X8 (by unfold ans; rw [if_pos (by omega)]) y27 (by omega) (by omega) (by rw [← y39, e42]; unfold mn2; split <;> omega) (by omega) (by rw [e72]; exact e74) (by omega) X80) rfl
  exact L10 _ ((0)) (none) (none) h a rfl rfl (by omega) (by omega) E F (HAI_0 D) rfl

set_option maxRecDepth 100000 in
set_option maxHeartbeats 4000000 in
theorem cx_12 {g h : av_H} {b t c s r : Nat} {cb : Int} {u ro : Nat → Int} {a : Nat → Nat → Int} {mb mo ma : Int} (E : EB b t c s r cb u ro a mb mo ma h) (F : FN b g h) {a0 : Nat → Nat → Int} (D : DEC u ro a0 s a) (hy0 : yv u ro a0 s 0 = (mb, mo, ma)) (hm0 : MBR (mb, mo, ma)) (H : HBd s a0) (B3 : BZ s a0) (U2 : ∀ j, u j ≤ 2000 ∨ j % 21 = 20) {Q : Option av_V → av_H → Prop} (hq : ∀ h' m1 m2 m3, EB b t c s r cb u ro a m1 m2 m3 h' → FN b g h' → yv u ro a0 s s = (m1, m2, m3) → MBR (m1, m2, m3) → Q none h') : av_wp none cd_12 0 [some (.inr (.inr (.inl (some (b))))), none, none, none, none, none] [] h Q := by
  have s12 := co_s12 (ib_co E.1)
  have cbr := co_cbr (ib_co E.1)
  have mbr := eb_xr E
  have mor := eb_yr E
  have U1 := fun j => (eb_uv E j).1
  have R9 := eb_rv E
  refine av_wp_sqF ck_12 2 (pc' := 2) (lv' := [some (.inr (.inr (.inl (some (b))))), some (.inl (0)), none, none, none, none]) (st' := []) (h' := h) rfl ?_
  have L14 : ∀ (m13 : Nat) (k1 : Int) (a2 : Option av_V) (a3 : Option av_V) (a4 : Option av_V) (a5 : Option av_V) (h6 : av_H) (m10 : Int) (m11 : Int) (m12 : Int), av_lg a2 = false → av_lg a3 = false → av_lg a4 = false → av_lg a5 = false → k1 ≤ (s : Int) → (0 ≤ k1 ∧ k1 ≤ 12) → EB b t c s r cb u ro a m10 m11 m12 h6 → FN b g h6 → yv u ro a0 s (Int.toNat k1) = (m10, m11, m12) → MBR (m10, m11, m12) → ((s : Int) - k1).toNat = m13 → av_wp none cd_12 2 [some (.inr (.inr (.inl (some (b))))), some (.inl k1), a2, a3, a4, a5] [] h6 Q := by
    intro m13
    induction m13 using Nat.strongRecOn with
    | _ m13 I15 =>
      intro k1 a2 a3 a4 a5 h6 m10 m11 m12 g17 g18 g19 g20 g21 g22 E7 F8 X9 X9r e16
      have la2 := g17
      have la3 := g18
      have la4 := g19
      have la5 := g20
      refine av_wp_sqF ck_12 2 (pc' := 4) (lv' := [some (.inr (.inr (.inl (some (b))))), some (.inl k1), a2, a3, a4, a5]) (st' := [.inr (.inr (.inl (some (b)))), .inl k1]) (h' := h6) rfl ?_
      refine wq_gr (p' := 7) (ck_12 _ _ rfl) rfl (congrArg Prod.fst (ib_k0 E7.1)) rfl (ib_t E7.1) ?_
      refine wq_gi (p' := 10) (ck_12 _ _ rfl) rfl (congrArg Prod.fst (co_kt (ib_co E7.1))) rfl (co_s (ib_co E7.1)) ?_
      refine wq_k2 (p' := 13) (ck_12 _ _ rfl) rfl ⟨by omega, by omega⟩ ⟨by omega, by omega⟩ (fun c23 => ?_) (fun c24 => ?_)
      · have c23 : (s : Int) ≤ k1 := c23
        refine av_wp_ret (v := none) (ck_12 _ _ rfl) rfl rfl ?_
        have z25 : Int.toNat k1 = s := by omega
        rw [z25] at X9
        exact hq h6 _ _ _ E7 F8 X9 X9r
      · have c24 : k1 < (s : Int) := c24
        have g26 : (-1 ≤ m10 ∧ m10 ≤ 11) ∧ (-1 ≤ m11 ∧ m11 ≤ 11) ∧ (-1 ≤ m12 ∧ m12 ≤ 9999) := X9r
        refine av_wp_sqF ck_12 1 (pc' := 14) (lv' := [some (.inr (.inr (.inl (some (b))))), some (.inl k1), a2, a3, a4, a5]) (st' := [.inr (.inr (.inl (some (b))))]) (h' := h6) rfl ?_
        refine wq_gr (p' := 17) (ck_12 _ _ rfl) rfl (congrArg Prod.fst (ib_k0 E7.1)) rfl (ib_t E7.1) ?_
        refine wq_gr (p' := 20) (ck_12 _ _ rfl) rfl (congrArg Prod.fst (co_kt (ib_co E7.1))) rfl (co_c (ib_co E7.1)) ?_
        refine av_wp_sqF ck_12 5 (pc' := 26) (lv' := [some (.inr (.inr (.inl (some (b))))), some (.inl k1), a2, a3, a4, a5]) (st' := [.inl ((k1 * (21)) + (3)), .inr (.inr (.inl (some (c))))]) (h' := h6) rfl ?_
        obtain ⟨v28, e29⟩ : ∃ v, u (Int.toNat (((k1 * (21)) + (3)))) = v := ⟨_, rfl⟩
        have g27 := eb_uv E7 (Int.toNat (((k1 * (21)) + (3))))
        rw [e29] at g27
        have y30 : u (21 * Int.toNat k1 + 3) = v28 := (congrArg u (by omega)).trans e29
        refine wq_al (p' := 27) (n := 21 * s) (ck_12 _ _ rfl) rfl (co_kc (ib_co E7.1)) (by omega) ((congrFun (eb_u E7) _).trans e29) ?_
        refine av_wp_sqF ck_12 2 (pc' := 29) (lv' := [some (.inr (.inr (.inl (some (b))))), some (.inl k1), some (.inl v28), a3, a4, a5]) (st' := [.inr (.inr (.inl (some (b))))]) (h' := h6) rfl ?_
        refine wq_gr (p' := 32) (ck_12 _ _ rfl) rfl (congrArg Prod.fst (ib_k0 E7.1)) rfl (ib_g E7.1 3 rfl) ?_
        refine av_wp_sqF ck_12 1 (pc' := 33) (lv' := [some (.inr (.inr (.inl (some (b))))), some (.inl k1), some (.inl v28), a3, a4, a5]) (st' := [.inl k1, .inr (.inr (.inl (some (b + 1 + 3))))]) (h' := h6) rfl ?_
        obtain ⟨v32, e33⟩ : ∃ v, a 3 (Int.toNat (k1)) = v := ⟨_, rfl⟩
        have y34 : a0 3 (Int.toNat (k1)) = v32 := (congrFun (D.2 3 (by omega)) _).symm.trans e33
        have g35 := (B3 (Int.toNat (k1)) (by omega)).2.1
        rw [y34] at g35
        refine wq_bl (p' := 34) (n := 12) (ck_12 _ _ rfl) rfl ((Or.inr (ib_k E7.1 3 rfl))) (by omega) ((congrFun (eb_a E7 3 rfl) _).trans e33) ?_
        refine wq_k1 (p' := 37) (ck_12 _ _ rfl) rfl ⟨by omega, by omega⟩ (fun c36 => ?_) (fun c37 => ?_)
        · have c36 : v32 = (0) := c36
          refine av_wp_sqF ck_12 2 (pc' := 2) (lv' := [some (.inr (.inr (.inl (some (b))))), some (.inl (k1 + (1))), some (.inl v28), a3, a4, a5]) (st' := []) (h' := h6) rfl ?_
          exact I15 _ (by omega) ((k1 + (1))) (some (.inl v28)) (a3) (a4) (a5) h6 (m10) (m11) (m12) rfl la3 la4 la5 (by omega) (by omega) E7 F8 (by rw [show Int.toNat (k1 + (1)) = Int.toNat k1 + 1 by omega]; exact yv_n X9 (by show ¬ yc u ro a0 s (Int.toNat k1) m12 = 1; unfold yc; rw [y30]; intro zz; split at zz <;> omega)) (by unfold MBR; show (-1 ≤ m10 ∧ m10 ≤ 11) ∧ (-1 ≤ m11 ∧ m11 ≤ 11) ∧ (-1 ≤ m12 ∧ m12 ≤ 9999); omega) rfl
        · have c37 : v32 ≠ (0) := c37
          refine av_wp_sqF ck_12 1 (pc' := 38) (lv' := [some (.inr (.inr (.inl (some (b))))), some (.inl k1), some (.inl v28), a3, a4, a5]) (st' := [.inl v28]) (h' := h6) rfl ?_
          refine wq_k1 (p' := 41) (ck_12 _ _ rfl) rfl ⟨by omega, by omega⟩ (fun c38 => ?_) (fun c39 => ?_)
          · have c38 : v28 < (0) := c38
            refine av_wp_sqF ck_12 2 (pc' := 2) (lv' := [some (.inr (.inr (.inl (some (b))))), some (.inl (k1 + (1))), some (.inl v28), a3, a4, a5]) (st' := []) (h' := h6) rfl ?_
            exact I15 _ (by omega) ((k1 + (1))) (some (.inl v28)) (a3) (a4) (a5) h6 (m10) (m11) (m12) rfl la3 la4 la5 (by omega) (by omega) E7 F8 (by rw [show Int.toNat (k1 + (1)) = Int.toNat k1 + 1 by omega]; exact yv_n X9 (by show ¬ yc u ro a0 s (Int.toNat k1) m12 = 1; unfold yc; rw [y30]; intro zz; split at zz <;> omega)) (by unfold MBR; show (-1 ≤ m10 ∧ m10 ≤ 11) ∧ (-1 ≤ m11 ∧ m11 ≤ 11) ∧ (-1 ≤ m12 ∧ m12 ≤ 9999); omega) rfl
          · have c39 : (0) ≤ v28 := c39
            refine av_wp_sqF ck_12 2 (pc' := 43) (lv' := [some (.inr (.inr (.inl (some (b))))), some (.inl k1), some (.inl v28), a3, a4, a5]) (st' := [.inl k1, .inl v28]) (h' := h6) rfl ?_
            refine wq_k2 (p' := 46) (ck_12 _ _ rfl) rfl ⟨by omega, by omega⟩ ⟨by omega, by omega⟩ (fun c40 => ?_) (fun c41 => ?_)
            · have c40 : k1 ≤ v28 := c40
              refine av_wp_sqF ck_12 2 (pc' := 2) (lv' := [some (.inr (.inr (.inl (some (b))))), some (.inl (k1 + (1))), some (.inl v28), a3, a4, a5]) (st' := []) (h' := h6) rfl ?_
              exact I15 _ (by omega) ((k1 + (1))) (some (.inl v28)) (a3) (a4) (a5) h6 (m10) (m11) (m12) rfl la3 la4 la5 (by omega) (by omega) E7 F8 (by rw [show Int.toNat (k1 + (1)) = Int.toNat k1 + 1 by omega]; exact yv_n X9 (by show ¬ yc u ro a0 s (Int.toNat k1) m12 = 1; unfold yc; rw [y30]; intro zz; split at zz <;> omega)) (by unfold MBR; show (-1 ≤ m10 ∧ m10 ≤ 11) ∧ (-1 ≤ m11 ∧ m11 ≤ 11) ∧ (-1 ≤ m12 ∧ m12 ≤ 9999); omega) rfl
            · have c41 : v28 < k1 := c41
              refine av_wp_sqF ck_12 1 (pc' := 47) (lv' := [some (.inr (.inr (.inl (some (b))))), some (.inl k1), some (.inl v28), a3, a4, a5]) (st' := [.inr (.inr (.inl (some (b))))]) (h' := h6) rfl ?_
              refine wq_gr (p' := 50) (ck_12 _ _ rfl) rfl (congrArg Prod.fst (ib_k0 E7.1)) rfl (ib_g E7.1 2 rfl) ?_
              refine av_wp_sqF ck_12 1 (pc' := 51) (lv' := [some (.inr (.inr (.inl (some (b))))), some (.inl k1), some (.inl v28), a3, a4, a5]) (st' := [.inl v28, .inr (.inr (.inl (some (b + 1 + 2))))]) (h' := h6) rfl ?_
              obtain ⟨v43, e44⟩ : ∃ v, a 2 (Int.toNat (v28)) = v := ⟨_, rfl⟩
              have y45 : a0 2 (Int.toNat (v28)) = v43 := (congrFun (D.2 2 (by omega)) _).symm.trans e44
              have g46 := (B3 (Int.toNat (v28)) (by omega)).1
              rw [y45] at g46
              refine wq_bl (p' := 52) (n := 12) (ck_12 _ _ rfl) rfl ((Or.inr (ib_k E7.1 2 rfl))) (by omega) ((congrFun (eb_a E7 2 rfl) _).trans e44) ?_
              refine wq_k1 (p' := 55) (ck_12 _ _ rfl) rfl ⟨by omega, by omega⟩ (fun c47 => ?_) (fun c48 => ?_)
              · have c47 : v43 = (0) := c47
                refine av_wp_sqF ck_12 2 (pc' := 2) (lv' := [some (.inr (.inr (.inl (some (b))))), some (.inl (k1 + (1))), some (.inl v28), a3, a4, a5]) (st' := []) (h' := h6) rfl ?_
                exact I15 _ (by omega) ((k1 + (1))) (some (.inl v28)) (a3) (a4) (a5) h6 (m10) (m11) (m12) rfl la3 la4 la5 (by omega) (by omega) E7 F8 (by rw [show Int.toNat (k1 + (1)) = Int.toNat k1 + 1 by omega]; exact yv_n X9 (by show ¬ yc u ro a0 s (Int.toNat k1) m12 = 1; unfold yc; rw [y30]; intro zz; split at zz <;> omega)) (by unfold MBR; show (-1 ≤ m10 ∧ m10 ≤ 11) ∧ (-1 ≤ m11 ∧ m11 ≤ 11) ∧ (-1 ≤ m12 ∧ m12 ≤ 9999); omega) rfl
              · have c48 : v43 ≠ (0) := c48
                refine av_wp_sqF ck_12 4 (pc' := 59) (lv' := [some (.inr (.inr (.inl (some (b))))), some (.inl k1), some (.inl v28), a3, a4, a5]) (st' := [.inl k1, .inr (.inr (.inl (some (b)))), .inl k1, .inr (.inr (.inl (some (b))))]) (h' := h6) rfl ?_
                refine wq_cv (p' := 62) (av_qc (.invokevirtual 129) 13 1 0 0) 3 cd_13 [.inl k1] (b) 0 [some (.inr (.inr (.inl (some (b))))), some (.inl k1), none] (ck_12 _ _ rfl) rfl rfl pp_13 rfl rfl rfl (congrArg Prod.fst (ib_k0 E7.1)) rfl rfl rfl rfl ?_
                refine cx_13 E7 F8 (k1) (by omega) ?_
                obtain ⟨v49, e50⟩ : ∃ v, yw u ro (Int.toNat (k1)) = v := ⟨_, rfl⟩
                have g51 := yw_r E7 (Int.toNat (k1))
                rw [e50] at g51
                rw [e50]
                show av_wp _ cd_12 62 [some (.inr (.inr (.inl (some (b))))), some (.inl k1), some (.inl v28), a3, a4, a5] [.inl v49, .inl k1, .inr (.inr (.inl (some (b))))] h6 _
                refine wq_cv (p' := 65) (av_qc (.invokevirtual 115) 6 2 0 0) 3 cd_6 [.inl v49, .inl k1] (b) 0 [some (.inr (.inr (.inl (some (b))))), some (.inl k1), some (.inl v49)] (ck_12 _ _ rfl) rfl rfl pp_6 rfl rfl rfl (congrArg Prod.fst (ib_k0 E7.1)) rfl rfl rfl rfl ?_
                refine cx_6 E7 F8 (k1) (by omega) (v49) (by omega) ?_
                rw [hof_c (a := a0) (D.2 0 (by omega)) (by omega)]
                obtain ⟨v52, e53⟩ : ∃ v, hw a0 (Int.toNat (k1)) v49 = v := ⟨_, rfl⟩
                have g54 := hw_r H (k := Int.toNat (k1)) (by omega) v49
                rw [e53] at g54
                rw [e53]
                show av_wp _ cd_12 65 [some (.inr (.inr (.inl (some (b))))), some (.inl k1), some (.inl v28), a3, a4, a5] [.inl v52] h6 _
                refine av_wp_sqF ck_12 4 (pc' := 69) (lv' := [some (.inr (.inr (.inl (some (b))))), some (.inl k1), some (.inl v28), some (.inl v52), a4, a5]) (st' := [.inl (1), .inl v28, .inr (.inr (.inl (some (b))))]) (h' := h6) rfl ?_
                refine wq_cv (p' := 72) (av_qc (.invokevirtual 115) 6 2 0 0) 3 cd_6 [.inl (1), .inl v28] (b) 0 [some (.inr (.inr (.inl (some (b))))), some (.inl v28), some (.inl (1))] (ck_12 _ _ rfl) rfl rfl pp_6 rfl rfl rfl (congrArg Prod.fst (ib_k0 E7.1)) rfl rfl rfl rfl ?_
                refine cx_6 E7 F8 (v28) (by omega) ((1)) (by omega) ?_
                rw [hof_c (a := a0) (D.2 0 (by omega)) (by omega)]
                obtain ⟨v55, e56⟩ : ∃ v, hw a0 (Int.toNat (v28)) (1) = v := ⟨_, rfl⟩
                have g57 := hw_r H (k := Int.toNat (v28)) (by omega) (1)
                rw [e56] at g57
                rw [e56]
                show av_wp _ cd_12 72 [some (.inr (.inr (.inl (some (b))))), some (.inl k1), some (.inl v28), some (.inl v52), a4, a5] [.inl v55] h6 _
                refine av_wp_sqF ck_12 3 (pc' := 77) (lv' := [some (.inr (.inr (.inl (some (b))))), some (.inl k1), some (.inl v28), some (.inl v52), some (.inl v55), a5]) (st' := [.inl (-1), .inl v55]) (h' := h6) rfl ?_
                refine wq_k2 (p' := 80) (ck_12 _ _ rfl) rfl ⟨by omega, by omega⟩ ⟨by omega, by omega⟩ (fun c58 => ?_) (fun c59 => ?_)
                · have c58 : v55 = (-1) := c58
                  refine av_wp_sqF ck_12 4 (pc' := 100) (lv' := [some (.inr (.inr (.inl (some (b))))), some (.inl k1), some (.inl v28), some (.inl v52), some (.inl v55), some (.inl (0))]) (st' := [.inr (.inr (.inl (some (b)))), .inl v52]) (h' := h6) rfl ?_
                  refine wq_gi (p' := 103) (ck_12 _ _ rfl) rfl (congrArg Prod.fst (ib_k0 E7.1)) rfl (eb_z E7) ?_
                  refine wq_k2 (p' := 106) (ck_12 _ _ rfl) rfl ⟨by omega, by omega⟩ ⟨by omega, by omega⟩ (fun c60 => ?_) (fun c61 => ?_)
                  · have c60 : m12 ≤ v52 := c60
                    refine av_wp_sqF ck_12 2 (pc' := 2) (lv' := [some (.inr (.inr (.inl (some (b))))), some (.inl (k1 + (1))), some (.inl v28), some (.inl v52), some (.inl v55), some (.inl (0))]) (st' := []) (h' := h6) rfl ?_
                    exact I15 _ (by omega) ((k1 + (1))) (some (.inl v28)) (some (.inl v52)) (some (.inl v55)) (some (.inl (0))) h6 (m10) (m11) (m12) rfl rfl rfl rfl (by omega) (by omega) E7 F8 (by rw [show Int.toNat (k1 + (1)) = Int.toNat k1 + 1 by omega]; exact yv_n X9 (by show ¬ yc u ro a0 s (Int.toNat k1) m12 = 1; unfold yc; rw [y30, e50, e53]; intro zz; split at zz <;> omega)) (by unfold MBR; show (-1 ≤ m10 ∧ m10 ≤ 11) ∧ (-1 ≤ m11 ∧ m11 ≤ 11) ∧ (-1 ≤ m12 ∧ m12 ≤ 9999); omega) rfl
                  · have c61 : v52 < m12 := c61
                    refine av_wp_sqF ck_12 4 (pc' := 2) (lv' := [some (.inr (.inr (.inl (some (b))))), some (.inl (k1 + (1))), some (.inl v28), some (.inl v52), some (.inl v55), some (.inl (0))]) (st' := []) (h' := h6) rfl ?_
                    exact I15 _ (by omega) ((k1 + (1))) (some (.inl v28)) (some (.inl v52)) (some (.inl v55)) (some (.inl (0))) h6 (m10) (m11) (m12) rfl rfl rfl rfl (by omega) (by omega) E7 F8 (by rw [show Int.toNat (k1 + (1)) = Int.toNat k1 + 1 by omega]; exact yv_n X9 (by show ¬ yc u ro a0 s (Int.toNat k1) m12 = 1; unfold yc; rw [y30, e50, e53]; intro zz; split at zz <;> omega)) (by unfold MBR; show (-1 ≤ m10 ∧ m10 ≤ 11) ∧ (-1 ≤ m11 ∧ m11 ≤ 11) ∧ (-1 ≤ m12 ∧ m12 ≤ 9999); omega) rfl
                · have c59 : v55 ≠ (-1) := c59
                  refine av_wp_sqF ck_12 4 (pc' := 85) (lv' := [some (.inr (.inr (.inl (some (b))))), some (.inl k1), some (.inl v28), some (.inl v52), some (.inl v55), a5]) (st' := [.inl (0), .inl k1, .inr (.inr (.inl (some (b)))), .inl v55]) (h' := h6) rfl ?_
                  refine wq_cv (p' := 88) (av_qc (.invokevirtual 115) 6 2 0 0) 3 cd_6 [.inl (0), .inl k1] (b) 0 [some (.inr (.inr (.inl (some (b))))), some (.inl k1), some (.inl (0))] (ck_12 _ _ rfl) rfl rfl pp_6 rfl rfl rfl (congrArg Prod.fst (ib_k0 E7.1)) rfl rfl rfl rfl ?_
                  refine cx_6 E7 F8 (k1) (by omega) ((0)) (by omega) ?_
                  rw [hof_c (a := a0) (D.2 0 (by omega)) (by omega)]
                  obtain ⟨v62, e63⟩ : ∃ v, hw a0 (Int.toNat (k1)) (0) = v := ⟨_, rfl⟩
                  have g64 := hw_r H (k := Int.toNat (k1)) (by omega) (0)
                  rw [e63] at g64
                  rw [e63]
                  show av_wp _ cd_12 88 [some (.inr (.inr (.inl (some (b))))), some (.inl k1), some (.inl v28), some (.inl v52), some (.inl v55), a5] [.inl v62, .inl v55] h6 _
                  refine wq_k2 (p' := 91) (ck_12 _ _ rfl) rfl ⟨by omega, by omega⟩ ⟨by omega, by omega⟩ (fun c65 => ?_) (fun c66 => ?_)
                  · have c65 : v62 < v55 := c65
                    refine av_wp_sqF ck_12 4 (pc' := 100) (lv' := [some (.inr (.inr (.inl (some (b))))), some (.inl k1), some (.inl v28), some (.inl v52), some (.inl v55), some (.inl (0))]) (st' := [.inr (.inr (.inl (some (b)))), .inl v52]) (h' := h6) rfl ?_
                    refine wq_gi (p' := 103) (ck_12 _ _ rfl) rfl (congrArg Prod.fst (ib_k0 E7.1)) rfl (eb_z E7) ?_
                    refine wq_k2 (p' := 106) (ck_12 _ _ rfl) rfl ⟨by omega, by omega⟩ ⟨by omega, by omega⟩ (fun c67 => ?_) (fun c68 => ?_)
                    · have c67 : m12 ≤ v52 := c67
                      refine av_wp_sqF ck_12 2 (pc' := 2) (lv' := [some (.inr (.inr (.inl (some (b))))), some (.inl (k1 + (1))), some (.inl v28), some (.inl v52), some (.inl v55), some (.inl (0))]) (st' := []) (h' := h6) rfl ?_
                      exact I15 _ (by omega) ((k1 + (1))) (some (.inl v28)) (some (.inl v52)) (some (.inl v55)) (some (.inl (0))) h6 (m10) (m11) (m12) rfl rfl rfl rfl (by omega) (by omega) E7 F8 (by rw [show Int.toNat (k1 + (1)) = Int.toNat k1 + 1 by omega]; exact yv_n X9 (by show ¬ yc u ro a0 s (Int.toNat k1) m12 = 1; unfold yc; rw [y30, e50, e53]; intro zz; split at zz <;> omega)) (by unfold MBR; show (-1 ≤ m10 ∧ m10 ≤ 11) ∧ (-1 ≤ m11 ∧ m11 ≤ 11) ∧ (-1 ≤ m12 ∧ m12 ≤ 9999); omega) rfl
                    · have c68 : v52 < m12 := c68
                      refine av_wp_sqF ck_12 4 (pc' := 2) (lv' := [some (.inr (.inr (.inl (some (b))))), some (.inl (k1 + (1))), some (.inl v28), some (.inl v52), some (.inl v55), some (.inl (0))]) (st' := []) (h' := h6) rfl ?_
                      exact I15 _ (by omega) ((k1 + (1))) (some (.inl v28)) (some (.inl v52)) (some (.inl v55)) (some (.inl (0))) h6 (m10) (m11) (m12) rfl rfl rfl rfl (by omega) (by omega) E7 F8 (by rw [show Int.toNat (k1 + (1)) = Int.toNat k1 + 1 by omega]; exact yv_n X9 (by show ¬ yc u ro a0 s (Int.toNat k1) m12 = 1; unfold yc; rw [y30, e50, e53]; intro zz; split at zz <;> omega)) (by unfold MBR; show (-1 ≤ m10 ∧ m10 ≤ 11) ∧ (-1 ≤ m11 ∧ m11 ≤ 11) ∧ (-1 ≤ m12 ∧ m12 ≤ 9999); omega) rfl
                  · have c66 : v55 ≤ v62 := c66
                    refine av_wp_sqF ck_12 5 (pc' := 100) (lv' := [some (.inr (.inr (.inl (some (b))))), some (.inl k1), some (.inl v28), some (.inl v52), some (.inl v55), some (.inl (1))]) (st' := [.inr (.inr (.inl (some (b)))), .inl v52]) (h' := h6) rfl ?_
                    refine wq_gi (p' := 103) (ck_12 _ _ rfl) rfl (congrArg Prod.fst (ib_k0 E7.1)) rfl (eb_z E7) ?_
                    refine wq_k2 (p' := 106) (ck_12 _ _ rfl) rfl ⟨by omega, by omega⟩ ⟨by omega, by omega⟩ (fun c69 => ?_) (fun c70 => ?_)
                    · have c69 : m12 ≤ v52 := c69
                      refine av_wp_sqF ck_12 2 (pc' := 2) (lv' := [some (.inr (.inr (.inl (some (b))))), some (.inl (k1 + (1))), some (.inl v28), some (.inl v52), some (.inl v55), some (.inl (1))]) (st' := []) (h' := h6) rfl ?_
                      exact I15 _ (by omega) ((k1 + (1))) (some (.inl v28)) (some (.inl v52)) (some (.inl v55)) (some (.inl (1))) h6 (m10) (m11) (m12) rfl rfl rfl rfl (by omega) (by omega) E7 F8 (by rw [show Int.toNat (k1 + (1)) = Int.toNat k1 + 1 by omega]; exact yv_n X9 (by show ¬ yc u ro a0 s (Int.toNat k1) m12 = 1; unfold yc; rw [y30, e50, e53]; intro zz; split at zz <;> omega)) (by unfold MBR; show (-1 ≤ m10 ∧ m10 ≤ 11) ∧ (-1 ≤ m11 ∧ m11 ≤ 11) ∧ (-1 ≤ m12 ∧ m12 ≤ 9999); omega) rfl
                    · have c70 : v52 < m12 := c70
                      refine av_wp_sqF ck_12 3 (pc' := 112) (lv' := [some (.inr (.inr (.inl (some (b))))), some (.inl k1), some (.inl v28), some (.inl v52), some (.inl v55), some (.inl (1))]) (st' := [.inr (.inr (.inl (some (b))))]) (h' := h6) rfl ?_
                      refine wq_gr (p' := 115) (ck_12 _ _ rfl) rfl (congrArg Prod.fst (ib_k0 E7.1)) rfl (ib_g E7.1 9 rfl) ?_
                      refine av_wp_sqF ck_12 1 (pc' := 116) (lv' := [some (.inr (.inr (.inl (some (b))))), some (.inl k1), some (.inl v28), some (.inl v52), some (.inl v55), some (.inl (1))]) (st' := [.inl k1, .inr (.inr (.inl (some (b + 1 + 9))))]) (h' := h6) rfl ?_
                      obtain ⟨v72, e73⟩ : ∃ v, a 9 (Int.toNat (k1)) = v := ⟨_, rfl⟩
                      have y74 := (D.1 (Int.toNat (k1)) (by omega)).1
                      rw [e73] at y74
                      have g75 := tbv_r (u := u) (ro := ro) H (Int.toNat (k1)) s (Nat.le_refl s)
                      rw [← y74] at g75
                      refine wq_al (p' := 117) (n := 12) (ck_12 _ _ rfl) rfl (ib_k E7.1 9 rfl) (by omega) ((congrFun (eb_a E7 9 rfl) _).trans e73) ?_
                      refine av_wp_sqF ck_12 1 (pc' := 118) (lv' := [some (.inr (.inr (.inl (some (b))))), some (.inl k1), some (.inl v28), some (.inl v52), some (.inl v55), some (.inl (1))]) (st' := [.inl v52, .inl v72]) (h' := h6) rfl ?_
                      refine wq_k2 (p' := 121) (ck_12 _ _ rfl) rfl ⟨by omega, by omega⟩ ⟨by omega, by omega⟩ (fun c76 => ?_) (fun c77 => ?_)
                      · have c76 : v72 < v52 := c76
                        refine av_wp_sqF ck_12 2 (pc' := 2) (lv' := [some (.inr (.inr (.inl (some (b))))), some (.inl (k1 + (1))), some (.inl v28), some (.inl v52), some (.inl v55), some (.inl (1))]) (st' := []) (h' := h6) rfl ?_
                        exact I15 _ (by omega) ((k1 + (1))) (some (.inl v28)) (some (.inl v52)) (some (.inl v55)) (some (.inl (1))) h6 (m10) (m11) (m12) rfl rfl rfl rfl (by omega) (by omega) E7 F8 (by rw [show Int.toNat (k1 + (1)) = Int.toNat k1 + 1 by omega]; exact yv_n X9 (by show ¬ yc u ro a0 s (Int.toNat k1) m12 = 1; unfold yc; rw [y30, e50, e53]; intro zz; split at zz <;> omega)) (by unfold MBR; show (-1 ≤ m10 ∧ m10 ≤ 11) ∧ (-1 ≤ m11 ∧ m11 ≤ 11) ∧ (-1 ≤ m12 ∧ m12 ≤ 9999); omega) rfl
                      · have c77 : v52 ≤ v72 := c77
                        refine av_wp_sqF ck_12 3 (pc' := 124) (lv' := [some (.inr (.inr (.inl (some (b))))), some (.inl k1), some (.inl v28), some (.inl v52), some (.inl v55), some (.inl (1))]) (st' := [.inl v52, .inl v28, .inr (.inr (.inl (some (b))))]) (h' := h6) rfl ?_
                        refine wq_cv (p' := 127) (av_qc (.invokevirtual 132) 16 2 0 0) 3 cd_16 [.inl v52, .inl v28] (b) 0 [some (.inr (.inr (.inl (some (b))))), some (.inl v28), some (.inl v52)] (ck_12 _ _ rfl) rfl rfl pp_16 rfl rfl rfl (congrArg Prod.fst (ib_k0 E7.1)) rfl rfl rfl rfl ?_
                        refine cx_16 E7 F8 (v28) (by omega) (v52) (by omega) (by rw [(D.1 (Int.toNat (v28)) (by omega)).2.2.1]; have := o5_r (ro := ro) H (q := (Int.toNat (v28))) (by omega); omega) (by rw [show a 6 (Int.toNat (v28)) = (eav u ro a0 s (Int.toNat (v28)) s).1 from congrArg Prod.fst (D.1 (Int.toNat (v28)) (by omega)).2.1]; have := (eav_r H U2 U1 R9 s12 (q := (Int.toNat (v28))) (by omega) s (Nat.le_refl s)).1; omega) (fun v78 p79 => ?_)
                        rw [(D.1 (Int.toNat (v28)) (by omega)).2.2.1, show a 6 (Int.toNat (v28)) = (eav u ro a0 s (Int.toNat (v28)) s).1 from congrArg Prod.fst (D.1 (Int.toNat (v28)) (by omega)).2.1] at p79
                        have g80 := opn_r (o5 ro a0 (Int.toNat (v28))) (eav u ro a0 s (Int.toNat (v28)) s).1 (v52)
                        rw [← p79] at g80
                        show av_wp _ cd_12 127 [some (.inr (.inr (.inl (some (b))))), some (.inl k1), some (.inl v28), some (.inl v52), some (.inl v55), some (.inl (1))] [.inl v78] h6 _
                        refine wq_k1 (p' := 130) (ck_12 _ _ rfl) rfl ⟨by omega, by omega⟩ (fun c81 => ?_) (fun c82 => ?_)
                        · have c81 : v78 = (0) := c81
                          refine av_wp_sqF ck_12 2 (pc' := 2) (lv' := [some (.inr (.inr (.inl (some (b))))), some (.inl (k1 + (1))), some (.inl v28), some (.inl v52), some (.inl v55), some (.inl (1))]) (st' := []) (h' := h6) rfl ?_
                          exact I15 _ (by omega) ((k1 + (1))) (some (.inl v28)) (some (.inl v52)) (some (.inl v55)) (some (.inl (1))) h6 (m10) (m11) (m12) rfl rfl rfl rfl (by omega) (by omega) E7 F8 (by rw [show Int.toNat (k1 + (1)) = Int.toNat k1 + 1 by omega]; exact yv_n X9 (by show ¬ yc u ro a0 s (Int.toNat k1) m12 = 1; unfold yc; rw [y30, e50, e53]; intro zz; split at zz <;> omega)) (by unfold MBR; show (-1 ≤ m10 ∧ m10 ≤ 11) ∧ (-1 ≤ m11 ∧ m11 ≤ 11) ∧ (-1 ≤ m12 ∧ m12 ≤ 9999); omega) rfl
                        · have c82 : v78 ≠ (0) := c82
                          refine av_wp_sqF ck_12 2 (pc' := 132) (lv' := [some (.inr (.inr (.inl (some (b))))), some (.inl k1), some (.inl v28), some (.inl v52), some (.inl v55), some (.inl (1))]) (st' := [.inl k1, .inr (.inr (.inl (some (b))))]) (h' := h6) rfl ?_
                          refine xb_p13 (p' := 135) rfl rfl E7 F8 (by omega) (fun h83 E84 F85 => ?_)
                          refine av_wp_sqF ck_12 2 (pc' := 137) (lv' := [some (.inr (.inr (.inl (some (b))))), some (.inl k1), some (.inl v28), some (.inl v52), some (.inl v55), some (.inl (1))]) (st' := [.inl v28, .inr (.inr (.inl (some (b))))]) (h' := h83) rfl ?_
                          refine xb_p14 (p' := 140) rfl rfl E84 F85 (by omega) (fun h86 E87 F88 => ?_)
                          refine av_wp_sqF ck_12 2 (pc' := 142) (lv' := [some (.inr (.inr (.inl (some (b))))), some (.inl k1), some (.inl v28), some (.inl v52), some (.inl v55), some (.inl (1))]) (st' := [.inl v52, .inr (.inr (.inl (some (b))))]) (h' := h86) rfl ?_
                          refine xb_p15 (p' := 145) rfl rfl E87 F88 (fun h89 E90 F91 => ?_)
                          refine av_wp_sqF ck_12 2 (pc' := 2) (lv' := [some (.inr (.inr (.inl (some (b))))), some (.inl (k1 + (1))), some (.inl v28), some (.inl v52), some (.inl v55), some (.inl (1))]) (st' := []) (h' := h89) rfl ?_
                          exact I15 _ (by omega) ((k1 + (1))) (some (.inl v28)) (some (.inl v52)) (some (.inl v55)) (some (.inl (1))) h89 (k1) (v28) (v52) rfl rfl rfl rfl (by omega) (by omega) E90 F91 (by rw [show Int.toNat (k1 + (1)) = Int.toNat k1 + 1 by omega, yv_y (h := v52) X9 (by show yc u ro a0 s (Int.toNat k1) m12 = 1; unfold yc; rw [y30, e50, e53]; exact if_pos (by omega)) y30 (by rw [e50]; exact e53)]; refine Prod.ext ?_ rfl; show ((Int.toNat k1 : Nat) : Int) = k1; omega) (by unfold MBR; show (-1 ≤ k1 ∧ k1 ≤ 11) ∧ (-1 ≤ v28 ∧ v28 ≤ 11) ∧ (-1 ≤ v52 ∧ v52 ≤ 9999); omega) rfl
  exact L14 _ ((0)) (none) (none) (none) (none) h (mb) (mo) (ma) rfl rfl rfl rfl (by omega) (by omega) E F hy0 hm0 rfl

set_option maxRecDepth 100000 in
set_option maxHeartbeats 4000000 in
theorem cx_14 {g h : av_H} {b t c s r : Nat} {cb : Int} {u ro : Nat → Int} {a : Nat → Nat → Int} {mb mo ma : Int} (E : EB b t c s r cb u ro a mb mo ma h) (F : FN b g h) {a0 : Nat → Nat → Int} (D : DEC u ro a0 s a) (h8 : -1 ≤ ro 8) (hy0 : sv u ro a0 s 0 = (mb, mo, ma)) (hm0 : MBR (mb, mo, ma)) (H : HBd s a0) (B3 : BZ s a0) (U2 : ∀ j, u j ≤ 2000 ∨ j % 21 = 20) {Q : Option av_V → av_H → Prop} (hq : ∀ h' m1 m2 m3, EB b t c s r cb u ro a m1 m2 m3 h' → FN b g h' → sv u ro a0 s s = (m1, m2, m3) → MBR (m1, m2, m3) → Q none h') : av_wp none cd_14 0 [some (.inr (.inr (.inl (some (b))))), none, none, none] [] h Q := by
  have s12 := co_s12 (ib_co E.1)
  have cbr := co_cbr (ib_co E.1)
  have mbr := eb_xr E
  have mor := eb_yr E
  have U1 := fun j => (eb_uv E j).1
  have R9 := eb_rv E
  refine av_wp_sqF ck_14 2 (pc' := 2) (lv' := [some (.inr (.inr (.inl (some (b))))), some (.inl (0)), none, none]) (st' := []) (h' := h) rfl ?_
  have L12 : ∀ (m11 : Nat) (k1 : Int) (a2 : Option av_V) (a3 : Option av_V) (h4 : av_H) (m8 : Int) (m9 : Int) (m10 : Int), av_lg a2 = false → av_lg a3 = false → k1 ≤ (s : Int) → (0 ≤ k1 ∧ k1 ≤ 12) → EB b t c s r cb u ro a m8 m9 m10 h4 → FN b g h4 → sv u ro a0 s (Int.toNat k1) = (m8, m9, m10) → MBR (m8, m9, m10) → ((s : Int) - k1).toNat = m11 → av_wp none cd_14 2 [some (.inr (.inr (.inl (some (b))))), some (.inl k1), a2, a3] [] h4 Q := by
    intro m11
    induction m11 using Nat.strongRecOn with
    | _ m11 I13 =>
      intro k1 a2 a3 h4 m8 m9 m10 g15 g16 g17 g18 E5 F6 X7 X7r e14
      have la2 := g15
      have la3 := g16
      refine av_wp_sqF ck_14 2 (pc' := 4) (lv' := [some (.inr (.inr (.inl (some (b))))), some (.inl k1), a2, a3]) (st' := [.inr (.inr (.inl (some (b)))), .inl k1]) (h' := h4) rfl ?_
      refine wq_gr (p' := 7) (ck_14 _ _ rfl) rfl (congrArg Prod.fst (ib_k0 E5.1)) rfl (ib_t E5.1) ?_
      refine wq_gi (p' := 10) (ck_14 _ _ rfl) rfl (congrArg Prod.fst (co_kt (ib_co E5.1))) rfl (co_s (ib_co E5.1)) ?_
      refine wq_k2 (p' := 13) (ck_14 _ _ rfl) rfl ⟨by omega, by omega⟩ ⟨by omega, by omega⟩ (fun c19 => ?_) (fun c20 => ?_)
      · have c19 : (s : Int) ≤ k1 := c19
        refine av_wp_ret (v := none) (ck_14 _ _ rfl) rfl rfl ?_
        have z21 : Int.toNat k1 = s := by omega
        rw [z21] at X7
        exact hq h4 _ _ _ E5 F6 X7 X7r
      · have c20 : k1 < (s : Int) := c20
        have g22 : (-1 ≤ m8 ∧ m8 ≤ 11) ∧ (-1 ≤ m9 ∧ m9 ≤ 11) ∧ (-1 ≤ m10 ∧ m10 ≤ 9999) := X7r
        refine av_wp_sqF ck_14 3 (pc' := 16) (lv' := [some (.inr (.inr (.inl (some (b))))), some (.inl k1), a2, a3]) (st' := [.inl (2), .inl k1, .inr (.inr (.inl (some (b))))]) (h' := h4) rfl ?_
        refine wq_cv (p' := 19) (av_qc (.invokevirtual 115) 6 2 0 0) 3 cd_6 [.inl (2), .inl k1] (b) 0 [some (.inr (.inr (.inl (some (b))))), some (.inl k1), some (.inl (2))] (ck_14 _ _ rfl) rfl rfl pp_6 rfl rfl rfl (congrArg Prod.fst (ib_k0 E5.1)) rfl rfl rfl rfl ?_
        refine cx_6 E5 F6 (k1) (by omega) ((2)) (by omega) ?_
        rw [hof_c (a := a0) (D.2 0 (by omega)) (by omega)]
        obtain ⟨v23, e24⟩ : ∃ v, hw a0 (Int.toNat (k1)) (2) = v := ⟨_, rfl⟩
        have g25 := hw_r H (k := Int.toNat (k1)) (by omega) (2)
        rw [e24] at g25
        rw [e24]
        show av_wp _ cd_14 19 [some (.inr (.inr (.inl (some (b))))), some (.inl k1), a2, a3] [.inl v23] h4 _
        refine av_wp_sqF ck_14 3 (pc' := 22) (lv' := [some (.inr (.inr (.inl (some (b))))), some (.inl k1), some (.inl v23), a3]) (st' := [.inr (.inr (.inl (some (b)))), .inl v23]) (h' := h4) rfl ?_
        refine wq_gr (p' := 25) (ck_14 _ _ rfl) rfl (congrArg Prod.fst (ib_k0 E5.1)) rfl (ib_r E5.1) ?_
        refine av_wp_sqF ck_14 1 (pc' := 27) (lv' := [some (.inr (.inr (.inl (some (b))))), some (.inl k1), some (.inl v23), a3]) (st' := [.inl (8), .inr (.inr (.inl (some (r)))), .inl v23]) (h' := h4) rfl ?_
        obtain ⟨v27, e28⟩ : ∃ v, ro 8 = v := ⟨_, rfl⟩
        have g26 := eb_rv E5 8
        rw [e28] at g26
        refine wq_al (p' := 28) (n := 14) (ck_14 _ _ rfl) rfl (ib_kr E5.1) (by omega) ((congrFun (eb_ro E5) _).trans e28) ?_
        refine av_wp_sqF ck_14 3 (pc' := 31) (lv' := [some (.inr (.inr (.inl (some (b))))), some (.inl k1), some (.inl v23), some (.inl (v23 + v27))]) (st' := [.inr (.inr (.inl (some (b))))]) (h' := h4) rfl ?_
        refine wq_gr (p' := 34) (ck_14 _ _ rfl) rfl (congrArg Prod.fst (ib_k0 E5.1)) rfl (ib_g E5.1 2 rfl) ?_
        refine av_wp_sqF ck_14 1 (pc' := 35) (lv' := [some (.inr (.inr (.inl (some (b))))), some (.inl k1), some (.inl v23), some (.inl (v23 + v27))]) (st' := [.inl k1, .inr (.inr (.inl (some (b + 1 + 2))))]) (h' := h4) rfl ?_
        obtain ⟨v30, e31⟩ : ∃ v, a 2 (Int.toNat (k1)) = v := ⟨_, rfl⟩
        have y32 : a0 2 (Int.toNat (k1)) = v30 := (congrFun (D.2 2 (by omega)) _).symm.trans e31
        have g33 := (B3 (Int.toNat (k1)) (by omega)).1
        rw [y32] at g33
        refine wq_bl (p' := 36) (n := 12) (ck_14 _ _ rfl) rfl ((Or.inr (ib_k E5.1 2 rfl))) (by omega) ((congrFun (eb_a E5 2 rfl) _).trans e31) ?_
        refine wq_k1 (p' := 39) (ck_14 _ _ rfl) rfl ⟨by omega, by omega⟩ (fun c34 => ?_) (fun c35 => ?_)
        · have c34 : v30 = (0) := c34
          refine av_wp_sqF ck_14 2 (pc' := 2) (lv' := [some (.inr (.inr (.inl (some (b))))), some (.inl (k1 + (1))), some (.inl v23), some (.inl (v23 + v27))]) (st' := []) (h' := h4) rfl ?_
          exact I13 _ (by omega) ((k1 + (1))) (some (.inl v23)) (some (.inl (v23 + v27))) h4 (m8) (m9) (m10) rfl rfl (by omega) (by omega) E5 F6 (by rw [show Int.toNat (k1 + (1)) = Int.toNat k1 + 1 by omega]; exact sv_n X7 (by show ¬ slc u ro a0 s (Int.toNat k1) m10 = 1; unfold slc; rw [e24, e28]; intro zz; split at zz <;> omega)) (by unfold MBR; show (-1 ≤ m8 ∧ m8 ≤ 11) ∧ (-1 ≤ m9 ∧ m9 ≤ 11) ∧ (-1 ≤ m10 ∧ m10 ≤ 9999); omega) rfl
        · have c35 : v30 ≠ (0) := c35
          refine av_wp_sqF ck_14 2 (pc' := 41) (lv' := [some (.inr (.inr (.inl (some (b))))), some (.inl k1), some (.inl v23), some (.inl (v23 + v27))]) (st' := [.inl (-1), .inl v23]) (h' := h4) rfl ?_
          refine wq_k2 (p' := 44) (ck_14 _ _ rfl) rfl ⟨by omega, by omega⟩ ⟨by omega, by omega⟩ (fun c36 => ?_) (fun c37 => ?_)
          · have c36 : v23 = (-1) := c36
            refine av_wp_sqF ck_14 2 (pc' := 2) (lv' := [some (.inr (.inr (.inl (some (b))))), some (.inl (k1 + (1))), some (.inl v23), some (.inl (v23 + v27))]) (st' := []) (h' := h4) rfl ?_
            exact I13 _ (by omega) ((k1 + (1))) (some (.inl v23)) (some (.inl (v23 + v27))) h4 (m8) (m9) (m10) rfl rfl (by omega) (by omega) E5 F6 (by rw [show Int.toNat (k1 + (1)) = Int.toNat k1 + 1 by omega]; exact sv_n X7 (by show ¬ slc u ro a0 s (Int.toNat k1) m10 = 1; unfold slc; rw [e24, e28]; intro zz; split at zz <;> omega)) (by unfold MBR; show (-1 ≤ m8 ∧ m8 ≤ 11) ∧ (-1 ≤ m9 ∧ m9 ≤ 11) ∧ (-1 ≤ m10 ∧ m10 ≤ 9999); omega) rfl
          · have c37 : v23 ≠ (-1) := c37
            refine av_wp_sqF ck_14 2 (pc' := 46) (lv' := [some (.inr (.inr (.inl (some (b))))), some (.inl k1), some (.inl v23), some (.inl (v23 + v27))]) (st' := [.inr (.inr (.inl (some (b)))), .inl (v23 + v27)]) (h' := h4) rfl ?_
            refine wq_gi (p' := 49) (ck_14 _ _ rfl) rfl (congrArg Prod.fst (ib_k0 E5.1)) rfl (eb_z E5) ?_
            refine wq_k2 (p' := 52) (ck_14 _ _ rfl) rfl ⟨by omega, by omega⟩ ⟨by omega, by omega⟩ (fun c38 => ?_) (fun c39 => ?_)
            · have c38 : m10 ≤ (v23 + v27) := c38
              refine av_wp_sqF ck_14 2 (pc' := 2) (lv' := [some (.inr (.inr (.inl (some (b))))), some (.inl (k1 + (1))), some (.inl v23), some (.inl (v23 + v27))]) (st' := []) (h' := h4) rfl ?_
              exact I13 _ (by omega) ((k1 + (1))) (some (.inl v23)) (some (.inl (v23 + v27))) h4 (m8) (m9) (m10) rfl rfl (by omega) (by omega) E5 F6 (by rw [show Int.toNat (k1 + (1)) = Int.toNat k1 + 1 by omega]; exact sv_n X7 (by show ¬ slc u ro a0 s (Int.toNat k1) m10 = 1; unfold slc; rw [e24, e28]; intro zz; split at zz <;> omega)) (by unfold MBR; show (-1 ≤ m8 ∧ m8 ≤ 11) ∧ (-1 ≤ m9 ∧ m9 ≤ 11) ∧ (-1 ≤ m10 ∧ m10 ≤ 9999); omega) rfl
            · have c39 : (v23 + v27) < m10 := c39
              refine av_wp_sqF ck_14 1 (pc' := 53) (lv' := [some (.inr (.inr (.inl (some (b))))), some (.inl k1), some (.inl v23), some (.inl (v23 + v27))]) (st' := [.inr (.inr (.inl (some (b))))]) (h' := h4) rfl ?_
              refine wq_gr (p' := 56) (ck_14 _ _ rfl) rfl (congrArg Prod.fst (ib_k0 E5.1)) rfl (ib_g E5.1 10 rfl) ?_
              refine av_wp_sqF ck_14 1 (pc' := 57) (lv' := [some (.inr (.inr (.inl (some (b))))), some (.inl k1), some (.inl v23), some (.inl (v23 + v27))]) (st' := [.inl k1, .inr (.inr (.inl (some (b + 1 + 10))))]) (h' := h4) rfl ?_
              obtain ⟨v41, e42⟩ : ∃ v, a 10 (Int.toNat (k1)) = v := ⟨_, rfl⟩
              have y43 := (D.1 (Int.toNat (k1)) (by omega)).2.2.2
              rw [e42] at y43
              have g44 := awv_r (u := u) H (Int.toNat (k1)) s (Nat.le_refl s)
              rw [← y43] at g44
              refine wq_al (p' := 58) (n := 12) (ck_14 _ _ rfl) rfl (ib_k E5.1 10 rfl) (by omega) ((congrFun (eb_a E5 10 rfl) _).trans e42) ?_
              refine av_wp_sqF ck_14 1 (pc' := 59) (lv' := [some (.inr (.inr (.inl (some (b))))), some (.inl k1), some (.inl v23), some (.inl (v23 + v27))]) (st' := [.inl (v23 + v27), .inl v41]) (h' := h4) rfl ?_
              refine wq_k2 (p' := 62) (ck_14 _ _ rfl) rfl ⟨by omega, by omega⟩ ⟨by omega, by omega⟩ (fun c45 => ?_) (fun c46 => ?_)
              · have c45 : v41 ≤ (v23 + v27) := c45
                refine av_wp_sqF ck_14 2 (pc' := 2) (lv' := [some (.inr (.inr (.inl (some (b))))), some (.inl (k1 + (1))), some (.inl v23), some (.inl (v23 + v27))]) (st' := []) (h' := h4) rfl ?_
                exact I13 _ (by omega) ((k1 + (1))) (some (.inl v23)) (some (.inl (v23 + v27))) h4 (m8) (m9) (m10) rfl rfl (by omega) (by omega) E5 F6 (by rw [show Int.toNat (k1 + (1)) = Int.toNat k1 + 1 by omega]; exact sv_n X7 (by show ¬ slc u ro a0 s (Int.toNat k1) m10 = 1; unfold slc; rw [e24, e28]; intro zz; split at zz <;> omega)) (by unfold MBR; show (-1 ≤ m8 ∧ m8 ≤ 11) ∧ (-1 ≤ m9 ∧ m9 ≤ 11) ∧ (-1 ≤ m10 ∧ m10 ≤ 9999); omega) rfl
              · have c46 : (v23 + v27) < v41 := c46
                refine av_wp_sqF ck_14 3 (pc' := 65) (lv' := [some (.inr (.inr (.inl (some (b))))), some (.inl k1), some (.inl v23), some (.inl (v23 + v27))]) (st' := [.inl (v23 + v27), .inl k1, .inr (.inr (.inl (some (b))))]) (h' := h4) rfl ?_
                refine wq_cv (p' := 68) (av_qc (.invokevirtual 132) 16 2 0 0) 3 cd_16 [.inl (v23 + v27), .inl k1] (b) 0 [some (.inr (.inr (.inl (some (b))))), some (.inl k1), some (.inl (v23 + v27))] (ck_14 _ _ rfl) rfl rfl pp_16 rfl rfl rfl (congrArg Prod.fst (ib_k0 E5.1)) rfl rfl rfl rfl ?_
                refine cx_16 E5 F6 (k1) (by omega) ((v23 + v27)) (by omega) (by rw [(D.1 (Int.toNat (k1)) (by omega)).2.2.1]; have := o5_r (ro := ro) H (q := (Int.toNat (k1))) (by omega); omega) (by rw [show a 6 (Int.toNat (k1)) = (eav u ro a0 s (Int.toNat (k1)) s).1 from congrArg Prod.fst (D.1 (Int.toNat (k1)) (by omega)).2.1]; have := (eav_r H U2 U1 R9 s12 (q := (Int.toNat (k1))) (by omega) s (Nat.le_refl s)).1; omega) (fun v47 p48 => ?_)
                rw [(D.1 (Int.toNat (k1)) (by omega)).2.2.1, show a 6 (Int.toNat (k1)) = (eav u ro a0 s (Int.toNat (k1)) s).1 from congrArg Prod.fst (D.1 (Int.toNat (k1)) (by omega)).2.1] at p48
                have g49 := opn_r (o5 ro a0 (Int.toNat (k1))) (eav u ro a0 s (Int.toNat (k1)) s).1 ((v23 + v27))
                rw [← p48] at g49
                show av_wp _ cd_14 68 [some (.inr (.inr (.inl (some (b))))), some (.inl k1), some (.inl v23), some (.inl (v23 + v27))] [.inl v47] h4 _
                refine wq_k1 (p' := 71) (ck_14 _ _ rfl) rfl ⟨by omega, by omega⟩ (fun c50 => ?_) (fun c51 => ?_)
                · have c50 : v47 = (0) := c50
                  refine av_wp_sqF ck_14 2 (pc' := 2) (lv' := [some (.inr (.inr (.inl (some (b))))), some (.inl (k1 + (1))), some (.inl v23), some (.inl (v23 + v27))]) (st' := []) (h' := h4) rfl ?_
                  exact I13 _ (by omega) ((k1 + (1))) (some (.inl v23)) (some (.inl (v23 + v27))) h4 (m8) (m9) (m10) rfl rfl (by omega) (by omega) E5 F6 (by rw [show Int.toNat (k1 + (1)) = Int.toNat k1 + 1 by omega]; exact sv_n X7 (by show ¬ slc u ro a0 s (Int.toNat k1) m10 = 1; unfold slc; rw [e24, e28]; intro zz; split at zz <;> omega)) (by unfold MBR; show (-1 ≤ m8 ∧ m8 ≤ 11) ∧ (-1 ≤ m9 ∧ m9 ≤ 11) ∧ (-1 ≤ m10 ∧ m10 ≤ 9999); omega) rfl
                · have c51 : v47 ≠ (0) := c51
                  refine av_wp_sqF ck_14 2 (pc' := 73) (lv' := [some (.inr (.inr (.inl (some (b))))), some (.inl k1), some (.inl v23), some (.inl (v23 + v27))]) (st' := [.inl (-1), .inr (.inr (.inl (some (b))))]) (h' := h4) rfl ?_
                  refine xb_p13 (p' := 76) rfl rfl E5 F6 (by omega) (fun h52 E53 F54 => ?_)
                  refine av_wp_sqF ck_14 2 (pc' := 78) (lv' := [some (.inr (.inr (.inl (some (b))))), some (.inl k1), some (.inl v23), some (.inl (v23 + v27))]) (st' := [.inl k1, .inr (.inr (.inl (some (b))))]) (h' := h52) rfl ?_
                  refine xb_p14 (p' := 81) rfl rfl E53 F54 (by omega) (fun h55 E56 F57 => ?_)
                  refine av_wp_sqF ck_14 2 (pc' := 83) (lv' := [some (.inr (.inr (.inl (some (b))))), some (.inl k1), some (.inl v23), some (.inl (v23 + v27))]) (st' := [.inl (v23 + v27), .inr (.inr (.inl (some (b))))]) (h' := h55) rfl ?_
                  refine xb_p15 (p' := 86) rfl rfl E56 F57 (fun h58 E59 F60 => ?_)
                  refine av_wp_sqF ck_14 2 (pc' := 2) (lv' := [some (.inr (.inr (.inl (some (b))))), some (.inl (k1 + (1))), some (.inl v23), some (.inl (v23 + v27))]) (st' := []) (h' := h58) rfl ?_
                  exact I13 _ (by omega) ((k1 + (1))) (some (.inl v23)) (some (.inl (v23 + v27))) h58 ((-1)) (k1) ((v23 + v27)) rfl rfl (by omega) (by omega) E59 F60 (by rw [show Int.toNat (k1 + (1)) = Int.toNat k1 + 1 by omega, sv_y X7 (by show slc u ro a0 s (Int.toNat k1) m10 = 1; unfold slc; rw [e24, e28]; exact if_pos (by omega)) e24 e28]; refine Prod.ext rfl (Prod.ext ?_ rfl); show ((Int.toNat k1 : Nat) : Int) = k1; omega) (by unfold MBR; show (-1 ≤ (-1) ∧ (-1) ≤ 11) ∧ (-1 ≤ k1 ∧ k1 ≤ 11) ∧ (-1 ≤ (v23 + v27) ∧ (v23 + v27) ≤ 9999); omega) rfl
  exact L12 _ ((0)) (none) (none) h (mb) (mo) (ma) rfl rfl (by omega) (by omega) E F hy0 hm0 rfl

set_option maxRecDepth 100000 in
set_option maxHeartbeats 4000000 in
theorem cx_2 {g h : av_H} {b t c s r : Nat} {cb : Int} {u ro : Nat → Int} {a : Nat → Nat → Int} {mb mo ma : Int} (E : EB b t c s r cb u ro a mb mo ma h) (F : FN b g h) (x : Int) (qx : 0 ≤ x ∧ x ≤ 1023) (tu : ∀ q, q < s → u (21 * q + 20) = tnv u q) (hz : HZ u a) (B0 : BZ s a) (U2 : ∀ j, u j ≤ 2000 ∨ j % 21 = 20) (hb : ∀ k, k < s → ∀ i, i < 3 → -1 ≤ hrv u x k i ∧ hrv u x k i ≤ 5000) (r8 : -1 ≤ ro 8) {Q : Option av_V → av_H → Prop} (hq : ∀ (v : Int) h' a1 a' m1 m2 m3, EB b t c s r cb u ro a' m1 m2 m3 h' → FN b g h' → HX u s x a1 → HZ u a' → (∀ j, 2 ≤ j → a1 j = a j) → DEC u ro a1 s a' → brg u ro a1 s = (m1, m2, m3) → MBR (m1, m2, m3) → ((v = 1 ∧ m3 ≠ 9999) ∨ (v = 0 ∧ m3 = 9999)) → Q (some (.inl v)) h') : av_wp none cd_2 0 [some (.inr (.inr (.inl (some (b))))), some (.inl x)] [] h Q := by
  have s12 := co_s12 (ib_co E.1)
  have cbr := co_cbr (ib_co E.1)
  have mbr := eb_xr E
  have mor := eb_yr E
  refine av_wp_sqF ck_2 2 (pc' := 2) (lv' := [some (.inr (.inr (.inl (some (b))))), some (.inl x)]) (st' := [.inl x, .inr (.inr (.inl (some (b))))]) (h' := h) rfl ?_
  refine wq_cv (p' := 5) (av_qc (.invokevirtual 84) 4 1 0 0) 6 cd_4 [.inl x] (b) 0 [some (.inr (.inr (.inl (some (b))))), some (.inl x), none, none, none, none] (ck_2 _ _ rfl) rfl rfl pp_4 rfl rfl rfl (congrArg Prod.fst (ib_k0 E.1)) rfl rfl rfl rfl ?_
  refine cx_4 E F (x) (by omega) tu hz (fun h1 a2 E3 F4 X5 Z6 J7 => ?_)
  have H := HBd_x X5 hb
  have B3 := BZ_j B0 J7
  show av_wp _ cd_2 5 [some (.inr (.inr (.inl (some (b))))), some (.inl x)] [] h1 _
  refine av_wp_sqF ck_2 1 (pc' := 6) (lv' := [some (.inr (.inr (.inl (some (b))))), some (.inl x)]) (st' := [.inr (.inr (.inl (some (b))))]) (h' := h1) rfl ?_
  refine wq_cv (p' := 9) (av_qc (.invokevirtual 88) 7 0 0 0) 4 cd_7 [] (b) 0 [some (.inr (.inr (.inl (some (b))))), none, none, none] (ck_2 _ _ rfl) rfl rfl pp_7 rfl rfl rfl (congrArg Prod.fst (ib_k0 E3.1)) rfl rfl rfl rfl ?_
  refine cx_7 E3 F4 H B3 U2 (fun h8 a9 E10 F11 D12 => ?_)
  show av_wp _ cd_2 9 [some (.inr (.inr (.inl (some (b))))), some (.inl x)] [] h8 _
  refine av_wp_sqF ck_2 1 (pc' := 10) (lv' := [some (.inr (.inr (.inl (some (b))))), some (.inl x)]) (st' := [.inr (.inr (.inl (some (b))))]) (h' := h8) rfl ?_
  refine wq_cv (p' := 13) (av_qc (.invokevirtual 91) 9 0 0 0) 5 cd_9 [] (b) 0 [some (.inr (.inr (.inl (some (b))))), none, none, none, none] (ck_2 _ _ rfl) rfl rfl pp_9 rfl rfl rfl (congrArg Prod.fst (ib_k0 E10.1)) rfl rfl rfl rfl ?_
  refine cx_9 E10 F11 D12 H B3 U2 (fun h13 a14 E15 F16 D17 => ?_)
  show av_wp _ cd_2 13 [some (.inr (.inr (.inl (some (b))))), some (.inl x)] [] h13 _
  refine av_wp_sqF ck_2 1 (pc' := 14) (lv' := [some (.inr (.inr (.inl (some (b))))), some (.inl x)]) (st' := [.inr (.inr (.inl (some (b))))]) (h' := h13) rfl ?_
  refine wq_cv (p' := 17) (av_qc (.invokevirtual 94) 11 0 0 0) 4 cd_11 [] (b) 0 [some (.inr (.inr (.inl (some (b))))), none, none, none] (ck_2 _ _ rfl) rfl rfl pp_11 rfl rfl rfl (congrArg Prod.fst (ib_k0 E15.1)) rfl rfl rfl rfl ?_
  refine cx_11 E15 F16 D17 H B3 U2 (fun h18 a19 E20 F21 D22 => ?_)
  show av_wp _ cd_2 17 [some (.inr (.inr (.inl (some (b))))), some (.inl x)] [] h18 _
  refine av_wp_sqF ck_2 2 (pc' := 19) (lv' := [some (.inr (.inr (.inl (some (b))))), some (.inl x)]) (st' := [.inl (-1), .inr (.inr (.inl (some (b))))]) (h' := h18) rfl ?_
  refine xb_p13 (p' := 22) rfl rfl E20 F21 (by omega) (fun h23 E24 F25 => ?_)
  refine av_wp_sqF ck_2 2 (pc' := 24) (lv' := [some (.inr (.inr (.inl (some (b))))), some (.inl x)]) (st' := [.inl (-1), .inr (.inr (.inl (some (b))))]) (h' := h23) rfl ?_
  refine xb_p14 (p' := 27) rfl rfl E24 F25 (by omega) (fun h26 E27 F28 => ?_)
  refine av_wp_sqF ck_2 2 (pc' := 31) (lv' := [some (.inr (.inr (.inl (some (b))))), some (.inl x)]) (st' := [.inl (9999), .inr (.inr (.inl (some (b))))]) (h' := h26) rfl ?_
  refine xb_p15 (p' := 34) rfl rfl E27 F28 (fun h29 E30 F31 => ?_)
  refine av_wp_sqF ck_2 1 (pc' := 35) (lv' := [some (.inr (.inr (.inl (some (b))))), some (.inl x)]) (st' := [.inr (.inr (.inl (some (b))))]) (h' := h29) rfl ?_
  refine wq_cv (p' := 38) (av_qc (.invokevirtual 97) 12 0 0 0) 6 cd_12 [] (b) 0 [some (.inr (.inr (.inl (some (b))))), none, none, none, none, none] (ck_2 _ _ rfl) rfl rfl pp_12 rfl rfl rfl (congrArg Prod.fst (ib_k0 E30.1)) rfl rfl rfl rfl ?_
  refine cx_12 E30 F31 D22 rfl MBR_0 H B3 U2 (fun h32 m33 m34 m35 E36 F37 Y38 R39 => ?_)
  have g40 : (-1 ≤ m33 ∧ m33 ≤ 11) ∧ (-1 ≤ m34 ∧ m34 ≤ 11) ∧ (-1 ≤ m35 ∧ m35 ≤ 9999) := R39
  show av_wp _ cd_2 38 [some (.inr (.inr (.inl (some (b))))), some (.inl x)] [] h32 _
  refine av_wp_sqF ck_2 1 (pc' := 39) (lv' := [some (.inr (.inr (.inl (some (b))))), some (.inl x)]) (st' := [.inr (.inr (.inl (some (b))))]) (h' := h32) rfl ?_
  refine wq_gr (p' := 42) (ck_2 _ _ rfl) rfl (congrArg Prod.fst (ib_k0 E36.1)) rfl (ib_r E36.1) ?_
  refine av_wp_sqF ck_2 1 (pc' := 44) (lv' := [some (.inr (.inr (.inl (some (b))))), some (.inl x)]) (st' := [.inl (8), .inr (.inr (.inl (some (r))))]) (h' := h32) rfl ?_
  obtain ⟨v42, e43⟩ : ∃ v, ro 8 = v := ⟨_, rfl⟩
  have g41 := eb_rv E36 8
  rw [e43] at g41
  refine wq_al (p' := 45) (n := 14) (ck_2 _ _ rfl) rfl (ib_kr E36.1) (by omega) ((congrFun (eb_ro E36) _).trans e43) ?_
  refine av_wp_sqF ck_2 1 (pc' := 46) (lv' := [some (.inr (.inr (.inl (some (b))))), some (.inl x)]) (st' := [.inl (-1), .inl v42]) (h' := h32) rfl ?_
  refine wq_k2 (p' := 49) (ck_2 _ _ rfl) rfl ⟨by omega, by omega⟩ ⟨by omega, by omega⟩ (fun c44 => ?_) (fun c45 => ?_)
  · have c44 : v42 = (-1) := c44
    refine av_wp_sqF ck_2 1 (pc' := 54) (lv' := [some (.inr (.inr (.inl (some (b))))), some (.inl x)]) (st' := [.inr (.inr (.inl (some (b))))]) (h' := h32) rfl ?_
    refine wq_gi (p' := 57) (ck_2 _ _ rfl) rfl (congrArg Prod.fst (ib_k0 E36.1)) rfl (eb_z E36) ?_
    refine av_wp_sqF ck_2 1 (pc' := 60) (lv' := [some (.inr (.inr (.inl (some (b))))), some (.inl x)]) (st' := [.inl (9999), .inl m35]) (h' := h32) rfl ?_
    refine wq_k2 (p' := 63) (ck_2 _ _ rfl) rfl ⟨by omega, by omega⟩ ⟨by omega, by omega⟩ (fun c46 => ?_) (fun c47 => ?_)
    · have c46 : m35 = (9999) := c46
      refine av_wp_sqF ck_2 1 (pc' := 68) (lv' := [some (.inr (.inr (.inl (some (b))))), some (.inl x)]) (st' := [.inl (0)]) (h' := h32) rfl ?_
      refine av_wp_ret (v := some (.inl (0))) (ck_2 _ _ rfl) rfl rfl ?_
      exact hq _ h32 _ _ _ _ _ E36 F37 X5 (HZ_c Z6 D22.2) J7 D22 (by unfold brg; rw [e43, if_neg (by omega)]; exact Y38) R39 (by omega)
    · have c47 : m35 ≠ (9999) := c47
      refine av_wp_sqF ck_2 2 (pc' := 68) (lv' := [some (.inr (.inr (.inl (some (b))))), some (.inl x)]) (st' := [.inl (1)]) (h' := h32) rfl ?_
      refine av_wp_ret (v := some (.inl (1))) (ck_2 _ _ rfl) rfl rfl ?_
      exact hq _ h32 _ _ _ _ _ E36 F37 X5 (HZ_c Z6 D22.2) J7 D22 (by unfold brg; rw [e43, if_neg (by omega)]; exact Y38) R39 (by omega)
  · have c45 : v42 ≠ (-1) := c45
    refine av_wp_sqF ck_2 1 (pc' := 50) (lv' := [some (.inr (.inr (.inl (some (b))))), some (.inl x)]) (st' := [.inr (.inr (.inl (some (b))))]) (h' := h32) rfl ?_
    refine wq_cv (p' := 53) (av_qc (.invokevirtual 100) 14 0 0 0) 4 cd_14 [] (b) 0 [some (.inr (.inr (.inl (some (b))))), none, none, none] (ck_2 _ _ rfl) rfl rfl pp_14 rfl rfl rfl (congrArg Prod.fst (ib_k0 E36.1)) rfl rfl rfl rfl ?_
    refine cx_14 E36 F37 D22 (by omega) Y38 R39 H B3 U2 (fun h48 m49 m50 m51 E52 F53 Y54 R55 => ?_)
    have g56 : (-1 ≤ m49 ∧ m49 ≤ 11) ∧ (-1 ≤ m50 ∧ m50 ≤ 11) ∧ (-1 ≤ m51 ∧ m51 ≤ 9999) := R55
    show av_wp _ cd_2 53 [some (.inr (.inr (.inl (some (b))))), some (.inl x)] [] h48 _
    refine av_wp_sqF ck_2 1 (pc' := 54) (lv' := [some (.inr (.inr (.inl (some (b))))), some (.inl x)]) (st' := [.inr (.inr (.inl (some (b))))]) (h' := h48) rfl ?_
    refine wq_gi (p' := 57) (ck_2 _ _ rfl) rfl (congrArg Prod.fst (ib_k0 E52.1)) rfl (eb_z E52) ?_
    refine av_wp_sqF ck_2 1 (pc' := 60) (lv' := [some (.inr (.inr (.inl (some (b))))), some (.inl x)]) (st' := [.inl (9999), .inl m51]) (h' := h48) rfl ?_
    refine wq_k2 (p' := 63) (ck_2 _ _ rfl) rfl ⟨by omega, by omega⟩ ⟨by omega, by omega⟩ (fun c57 => ?_) (fun c58 => ?_)
    · have c57 : m51 = (9999) := c57
      refine av_wp_sqF ck_2 1 (pc' := 68) (lv' := [some (.inr (.inr (.inl (some (b))))), some (.inl x)]) (st' := [.inl (0)]) (h' := h48) rfl ?_
      refine av_wp_ret (v := some (.inl (0))) (ck_2 _ _ rfl) rfl rfl ?_
      exact hq _ h48 _ _ _ _ _ E52 F53 X5 (HZ_c Z6 D22.2) J7 D22 (by unfold brg; rw [e43, if_pos (by omega)]; exact Y54) R55 (by omega)
    · have c58 : m51 ≠ (9999) := c58
      refine av_wp_sqF ck_2 2 (pc' := 68) (lv' := [some (.inr (.inr (.inl (some (b))))), some (.inl x)]) (st' := [.inl (1)]) (h' := h48) rfl ?_
      refine av_wp_ret (v := some (.inl (1))) (ck_2 _ _ rfl) rfl rfl ?_
      exact hq _ h48 _ _ _ _ _ E52 F53 X5 (HZ_c Z6 D22.2) J7 D22 (by unfold brg; rw [e43, if_pos (by omega)]; exact Y54) R55 (by omega)

set_option maxRecDepth 100000 in
set_option maxHeartbeats 4000000 in
theorem cx_3 {g h : av_H} {b t c s r : Nat} {cb : Int} {u ro : Nat → Int} {a : Nat → Nat → Int} {mb mo ma : Int} (E : EB b t c s r cb u ro a mb mo ma h) (F : FN b g h) (qm : -1 ≤ ma ∧ ma ≤ 9999) {Q : Option av_V → av_H → Prop} (hq : ∀ v : Int, ((v = 1 ∧ ma ≠ 9999) ∨ (v = 0 ∧ ma = 9999)) → Q (some (.inl v)) h) : av_wp none cd_3 0 [some (.inr (.inr (.inl (some (b)))))] [] h Q := by
  have s12 := co_s12 (ib_co E.1)
  have cbr := co_cbr (ib_co E.1)
  have mbr := eb_xr E
  have mor := eb_yr E
  refine av_wp_sqF ck_3 1 (pc' := 1) (lv' := [some (.inr (.inr (.inl (some (b)))))]) (st' := [.inr (.inr (.inl (some (b))))]) (h' := h) rfl ?_
  refine wq_gi (p' := 4) (ck_3 _ _ rfl) rfl (congrArg Prod.fst (ib_k0 E.1)) rfl (eb_z E) ?_
  refine av_wp_sqF ck_3 1 (pc' := 7) (lv' := [some (.inr (.inr (.inl (some (b)))))]) (st' := [.inl (9999), .inl ma]) (h' := h) rfl ?_
  refine wq_k2 (p' := 10) (ck_3 _ _ rfl) rfl ⟨by omega, by omega⟩ ⟨by omega, by omega⟩ (fun c1 => ?_) (fun c2 => ?_)
  · have c1 : ma = (9999) := c1
    refine av_wp_sqF ck_3 1 (pc' := 15) (lv' := [some (.inr (.inr (.inl (some (b)))))]) (st' := [.inl (0)]) (h' := h) rfl ?_
    refine av_wp_ret (v := some (.inl (0))) (ck_3 _ _ rfl) rfl rfl ?_
    exact hq _ (by omega)
  · have c2 : ma ≠ (9999) := c2
    refine av_wp_sqF ck_3 2 (pc' := 15) (lv' := [some (.inr (.inr (.inl (some (b)))))]) (st' := [.inl (1)]) (h' := h) rfl ?_
    refine av_wp_ret (v := some (.inl (1))) (ck_3 _ _ rfl) rfl rfl ?_
    exact hq _ (by omega)
end
section
/-! THE REFERENCE AT A CASE: its rows are the class's cells u, its rules ro, its hours, offers, yeses as a bench's first rows a -/
def LR (u ro : Nat → Int) (a : Nat → Nat → Int) (s : Nat) (A : Nat → Nat → Int) : Prop := (∀ k, k < s → (A 96 k = u (21 * k + 0) ∧ A 97 k = u (21 * k + 4) ∧ A 99 k = u (21 * k + 5) ∧ A 100 k = u (21 * k + 3) ∧ A 101 k = u (21 * k + 1) ∧ A 102 k = u (21 * k + 2) ∧ A 103 k = a 4 k) ∧ (∀ j, j < 5 → A 104 (5 * k + j) = u (21 * k + 10 + j)) ∧ (A 109 k = a 0 (12 * 0 + k) ∧ A 110 k = a 0 (12 * 1 + k) ∧ A 111 k = a 0 (12 * 2 + k)) ∧ a 2 k = ofv u ro k ∧ a 3 k = ysv u ro k) ∧ ∀ j, j < 13 → A 95 j = ro j
/-- the rules as laws make them -/
def RLW (ro : Nat → Int) : Prop := (∀ j, j < 6 → 0 ≤ ro j ∧ ro j ≤ 2) ∧ (0 ≤ ro 6 ∧ ro 6 ≤ 1) ∧ (-1 ≤ ro 7 ∧ ro 7 ≤ 999) ∧ (-1 ≤ ro 8 ∧ ro 8 ≤ 999) ∧ (0 ≤ ro 9 ∧ ro 9 ≤ 1) ∧ (0 ≤ ro 10 ∧ ro 10 ≤ 2) ∧ (0 ≤ ro 11 ∧ ro 11 ≤ 1) ∧ (0 ≤ ro 12 ∧ ro 12 ≤ 2)
/-- a case as texts make it -/
def UW (u : Nat → Int) (s : Nat) : Prop := ∀ k, k < s → (0 ≤ u (21 * k + 0) ∧ u (21 * k + 0) ≤ 7) ∧ (-1 ≤ u (21 * k + 3) ∧ u (21 * k + 3) < (k : Int)) ∧ (2 ≤ u (21 * k + 0) → 0 ≤ u (21 * k + 3)) ∧ (u (21 * k + 0) < 2 → u (21 * k + 3) = -1) ∧ (0 ≤ u (21 * k + 4) ∧ u (21 * k + 4) ≤ 3) ∧ (-1 ≤ u (21 * k + 5) ∧ u (21 * k + 5) ≤ 1999) ∧ (∀ j, j < 5 → -1 ≤ u (21 * k + 10 + j) ∧ u (21 * k + 10 + j) ≤ 999)
section
variable {u ro : Nat → Int} {a : Nat → Nat → Int} {s k : Nat} {A A' : Nat → Nat → Int}
theorem LR_c (x : LR u ro a s A) (e : ∀ q, (95 ≤ q ∧ q ≤ 97) ∨ (99 ≤ q ∧ q ≤ 104) ∨ (109 ≤ q ∧ q ≤ 111) → A' q = A q) : LR u ro a s A' := by
  unfold LR
  rw [e 95 (by omega), e 96 (by omega), e 97 (by omega), e 99 (by omega), e 100 (by omega), e 101 (by omega), e 102 (by omega), e 103 (by omega), e 104 (by omega), e 109 (by omega), e 110 (by omega), e 111 (by omega)]
  exact x
theorem LR_w (x : LR u ro a s A) (hk : k < s) {w v : Int} (hw' : 0 ≤ w ∧ w ≤ 2) (hs : s ≤ 12) (p : (w = 0 ∧ v = A 109 k) ∨ (w = 1 ∧ v = A 110 k) ∨ (w ≠ 0 ∧ w ≠ 1 ∧ v = A 111 k)) : v = hw a k w := by
  have y := (x.1 k hk).2.2.1
  unfold hw hof
  rw [if_pos (by omega)]
  rcases p with e | e | e
  · rw [e.2, y.1, e.1]
    congr 1 <;> omega
  · rw [e.2, y.2.1, e.1]
    congr 1 <;> omega
  · rw [e.2.2, y.2.2, show w = 2 by omega]
    congr 1 <;> omega
end
def noV (u ro : Nat → Int) (k : Nat) : Int := if u (21 * k + 0) = 4 ∨ (u (21 * k + 0) = 3 ∧ smv u ro k = 0) then 1 else 0
def bkv (u ro : Nat → Int) (a : Nat → Nat → Int) (k : Nat) (o : Int) : Int := if u (21 * k + 0) = 5 ∧ u (21 * k + 3) = o then (if 0 ≤ u (21 * o.toNat + 5) ∧ ro 6 = 1 ∧ hw a k (ro 4) ≤ u (21 * o.toNat + 5) then -1 else hw a k (ro 4)) else -1
def nov (u ro : Nat → Int) (a : Nat → Nat → Int) (k : Nat) (o : Int) : Int := if noV u ro k = 1 ∧ u (21 * k + 3) = o then hw a k (ro 5) else -1
def eb2 (t : Int × Int) (h c : Int) : Int × Int := if h < 0 ∨ t.1 < h ∨ (h = t.1 ∧ 0 < t.2 ∧ t.2 ≤ c) then t else (h, c)
/-- the end of offer o: the sayings behind it, d of them -/
def frv (u ro : Nat → Int) (a : Nat → Nat → Int) (o : Nat) : Nat → Int × Int
  | 0 => (9999, 0)
  | d + 1 => eb2 (eb2 (frv u ro a o d) (bkv u ro a (o + 1 + d) (o : Int)) 1) (nov u ro a (o + 1 + d) (o : Int)) 2
def fre2 (u ro : Nat → Int) (a : Nat → Nat → Int) (s o : Nat) : Int × Int := if 0 ≤ u (21 * o + 5) then eb2 (frv u ro a o (s - (o + 1))) (u (21 * o + 5) + 1) 3 else if 0 ≤ ro 7 ∧ 0 ≤ hw a o 1 then eb2 (frv u ro a o (s - (o + 1))) (hw a o 1 + ro 7 + 1) 4 else frv u ro a o (s - (o + 1))
/-! the least of candidates -/
def LM (S : Int → Int → Prop) (e w : Int) : Prop := ((e = 9999 ∧ w = 0 ∧ ∀ h c, ¬ S h c) ∨ S e w) ∧ ∀ h c, S h c → ¬ (h < e ∨ (h = e ∧ c < w))
theorem LM_0 : LM (fun _ _ => False) 9999 0 := ⟨Or.inl ⟨rfl, rfl, fun _ _ z => z⟩, fun _ _ z => z.elim⟩
theorem LM_c {S S' : Int → Int → Prop} {e w : Int} (x : LM S e w) (h : ∀ p q, S p q ↔ S' p q) : LM S' e w := by
  refine ⟨?_, fun p q z => x.2 p q ((h p q).mpr z)⟩
  rcases x.1 with y | y
  · exact Or.inl ⟨y.1, y.2.1, fun p q z => y.2.2 p q ((h p q).mpr z)⟩
  · exact Or.inr ((h e w).mp y)
/-- one more: kept, or taken -/
theorem LM_k {S : Int → Int → Prop} {e w h c : Int} (x : LM S e w) (hn : ¬ (h < e ∨ (h = e ∧ c < w))) (hs : e = 9999 → w = 0 → h < 9999) : LM (fun p q => S p q ∨ (p = h ∧ q = c)) e w := by
  refine ⟨?_, fun p q z => ?_⟩
  · rcases x.1 with y | y
    · exact absurd (hs y.1 y.2.1) (by omega)
    · exact Or.inr (Or.inl y)
  · rcases z with z | z
    · exact x.2 p q z
    · rw [z.1, z.2]; exact hn
theorem LM_t {S : Int → Int → Prop} {e w h c : Int} (x : LM S e w) (hn : h < e ∨ (h = e ∧ c ≤ w)) : LM (fun p q => S p q ∨ (p = h ∧ q = c)) h c := by
  refine ⟨Or.inr (Or.inr ⟨rfl, rfl⟩), fun p q z => ?_⟩
  rcases z with z | z
  · have := x.2 p q z
    omega
  · omega
theorem LM_u {S : Int → Int → Prop} {e w e' w' : Int} (x : LM S e w) (y : LM S e' w') : e = e' ∧ w = w' := by
  rcases x.1 with p | p
  · rcases y.1 with q | q
    · exact ⟨by omega, by omega⟩
    · exact absurd q (p.2.2 e' w')
  · rcases y.1 with q | q
    · exact absurd p (q.2.2 e w)
    · have h1 := x.2 _ _ q
      have h2 := y.2 _ _ p
      exact ⟨by omega, by omega⟩
/-- the class's way -/
theorem LM_ea {S : Int → Int → Prop} {t : T3} {o h c b : Int} (x : LM S t.1 t.2.1) (ho : o ≠ 0) (hh : 0 ≤ h ∧ h < 9999) : LM (fun p q => S p q ∨ (p = h ∧ q = c)) (ea t o h c b).1 (ea t o h c b).2.1 := by
  unfold ea
  by_cases z : o ≠ 0 ∧ h ≠ -1 ∧ (h < t.1 ∨ (h = t.1 ∧ c < t.2.1))
  · rw [if_pos z]
    exact LM_t x (by omega)
  · rw [if_neg z]
    exact LM_k x (fun y => z ⟨ho, by omega, y⟩) (fun _ _ => by omega)
/-- the reference's way -/
theorem LM_eb {S : Int → Int → Prop} {t : Int × Int} {h c : Int} (x : LM S t.1 t.2) (ht : 0 ≤ t.2 ∧ (t.2 = 0 → t.1 = 9999)) (hc : 1 ≤ c) (hh : h < 9999) : LM (fun p q => S p q ∨ (0 ≤ h ∧ p = h ∧ q = c)) (eb2 t h c).1 (eb2 t h c).2 ∧ (0 ≤ (eb2 t h c).2 ∧ ((eb2 t h c).2 = 0 → (eb2 t h c).1 = 9999)) := by
  unfold eb2
  by_cases z : h < 0 ∨ t.1 < h ∨ (h = t.1 ∧ 0 < t.2 ∧ t.2 ≤ c)
  · rw [if_pos z]
    refine ⟨?_, ht⟩
    by_cases n : h < 0
    · exact LM_c x (fun p q => ⟨Or.inl, fun y => y.elim id (fun y => by omega)⟩)
    · refine LM_c (LM_k (h := h) (c := c) x (by omega) (fun _ _ => hh)) (fun p q => ⟨fun y => y.elim Or.inl (fun y => Or.inr ⟨by omega, y⟩), fun y => y.elim Or.inl (fun y => Or.inr y.2)⟩)
  · rw [if_neg z]
    refine ⟨?_, by show 0 ≤ c; omega, fun y => ?_⟩
    · refine LM_c (LM_t (h := h) (c := c) x (by omega)) (fun p q => ⟨fun y => y.elim Or.inl (fun y => Or.inr ⟨by omega, y⟩), fun y => y.elim Or.inl (fun y => Or.inr y.2)⟩)
    · have : c = 0 := y
      omega
theorem LM_e1 {S : Int → Int → Prop} {t : T3} {o h c b : Int} (x : LM S t.1 t.2.1) (ho : o ≠ 0) (hh : -1 ≤ h ∧ h < 9999) : LM (fun p q => S p q ∨ (0 ≤ h ∧ p = h ∧ q = c)) (ea t o h c b).1 (ea t o h c b).2.1 := by
  by_cases n : h = -1
  · have e : ea t o h c b = t := if_neg (fun z => z.2.1 n)
    rw [e]
    exact LM_c x (fun p q => ⟨Or.inl, fun y => y.elim id (fun y => by omega)⟩)
  · exact LM_c (LM_ea (b := b) (c := c) x ho (by omega)) (fun p q => ⟨fun y => y.elim Or.inl (fun y => Or.inr ⟨by omega, y⟩), fun y => y.elim Or.inl (fun y => Or.inr y.2)⟩)
section
variable {u ro : Nat → Int} {a : Nat → Nat → Int} {s : Nat}
theorem bkv_r (H : HBd s a) {k : Nat} (hk : k < s) (o : Int) : -1 ≤ bkv u ro a k o ∧ bkv u ro a k o ≤ 5000 := by
  have h := hw_r H hk (ro 4)
  unfold bkv
  split
  · split <;> omega
  · omega
theorem nov_r (H : HBd s a) {k : Nat} (hk : k < s) (o : Int) : -1 ≤ nov u ro a k o ∧ nov u ro a k o ≤ 5000 := by
  have h := hw_r H hk (ro 5)
  unfold nov
  split <;> omega
/-- a saying takes the offer back: as the class asks it -/
theorem bk_y (W : UW u s) (H : HBd s a) {k o : Nat} (hk : k < s) (h : hB u ro a k ≠ -1 ∧ u (21 * k + 3) = (o : Int) ∧ fre u ro o ≤ hB u ro a k) : bkv u ro a k (o : Int) = hB u ro a k ∧ 0 ≤ hB u ro a k ∧ o < k := by
  have hr := hw_r H hk (ro 4)
  have w := W k hk
  obtain ⟨h1, h2, h3⟩ := h
  unfold hB at h1 h3 ⊢
  unfold fre at h3
  unfold bkv
  by_cases c : u (21 * k + 0) = 5 ∧ 0 ≤ u (21 * k + 3) ∧ u (21 * k + 3) < (k : Int)
  · rw [if_pos c] at h1 h3 ⊢
    rw [if_pos ⟨c.1, h2⟩, show Int.toNat (o : Int) = o by omega]
    have ok : ¬ (0 ≤ u (21 * o + 5) ∧ ro 6 = 1 ∧ hw a k (ro 4) ≤ u (21 * o + 5)) := fun z => by
      rw [if_pos ⟨by omega, z.2.1⟩] at h3
      omega
    rw [if_neg ok]
    omega
  · rw [if_neg c] at h1
    exact absurd rfl h1
theorem bk_n (W : UW u s) (H : HBd s a) {k o : Nat} (hk : k < s) (ho : o < s) (h : ¬ (hB u ro a k ≠ -1 ∧ u (21 * k + 3) = (o : Int) ∧ fre u ro o ≤ hB u ro a k)) : bkv u ro a k (o : Int) = -1 := by
  have hr := hw_r H hk (ro 4)
  have w := W k hk
  have wo := (W o ho).2.2.2.2.2.1
  unfold bkv
  by_cases c : u (21 * k + 0) = 5 ∧ u (21 * k + 3) = (o : Int)
  · rw [if_pos c, show Int.toNat (o : Int) = o by omega]
    by_cases d : 0 ≤ u (21 * o + 5) ∧ ro 6 = 1 ∧ hw a k (ro 4) ≤ u (21 * o + 5)
    · rw [if_pos d]
    · rw [if_neg d]
      by_cases e : hw a k (ro 4) = -1
      · exact e
      · exfalso
        apply h
        have e1 : hB u ro a k = hw a k (ro 4) := if_pos ⟨c.1, by omega, by omega⟩
        rw [e1]
        refine ⟨e, c.2, ?_⟩
        unfold fre
        split <;> omega
  · rw [if_neg c]
theorem no_i (W : UW u s) {k o : Nat} (hk : k < s) (e2 : a 2 k = ofv u ro k) : (ans u k = 1 ∧ u (21 * k + 3) = (o : Int) ∧ (u (21 * k + 0) = 4 ∨ a 2 k ≠ 0)) ↔ (noV u ro k = 1 ∧ u (21 * k + 3) = (o : Int)) := by
  have w := W k hk
  have sb := smv_b u ro k
  rw [e2]
  unfold ans noV ofv
  constructor
  · intro z
    obtain ⟨z1, z2, z3⟩ := z
    split at z1
    · refine ⟨?_, z2⟩
      rw [if_pos]
      rcases z3 with y | y
      · exact Or.inl y
      · split at y
        · omega
        · omega
    · omega
  · intro z
    obtain ⟨z1, z2⟩ := z
    split at z1
    · next y =>
      refine ⟨?_, z2, ?_⟩
      · rw [if_pos]
        omega
      · rcases y with y | y
        · exact Or.inl y
        · right
          rw [if_pos (Or.inr y)]
          omega
    · omega
def CB (u ro : Nat → Int) (a : Nat → Nat → Int) (o m : Nat) (h c : Int) : Prop := ∃ k, o < k ∧ k < m ∧ bkv u ro a k (o : Int) = h ∧ 0 ≤ h ∧ c = 1
def CNo (u ro : Nat → Int) (a : Nat → Nat → Int) (o m : Nat) (h c : Int) : Prop := ∃ k, o < k ∧ k < m ∧ nov u ro a k (o : Int) = h ∧ 0 ≤ h ∧ c = 2
def CHl (u ro : Nat → Int) (a : Nat → Nat → Int) (o : Nat) (h c : Int) : Prop := (0 ≤ u (21 * o + 5) ∧ h = u (21 * o + 5) + 1 ∧ c = 3) ∨ (¬ 0 ≤ u (21 * o + 5) ∧ (0 ≤ ro 7 ∧ 0 ≤ hw a o 1) ∧ h = hw a o 1 + ro 7 + 1 ∧ c = 4)
theorem CB_s {o m : Nat} (h c : Int) (hm : o < m) : CB u ro a o (m + 1) h c ↔ (CB u ro a o m h c ∨ (0 ≤ bkv u ro a m (o : Int) ∧ h = bkv u ro a m (o : Int) ∧ c = 1)) := by
  constructor
  · rintro ⟨k, k1, k2, k3, k4, k5⟩
    by_cases e : k = m
    · subst e
      exact Or.inr ⟨by omega, k3.symm, k5⟩
    · exact Or.inl ⟨k, k1, by omega, k3, k4, k5⟩
  · rintro (⟨k, k1, k2, k3, k4, k5⟩ | ⟨z1, z2, z3⟩)
    · exact ⟨k, k1, by omega, k3, k4, k5⟩
    · exact ⟨m, hm, by omega, z2.symm, by omega, z3⟩
theorem CNo_s {o m : Nat} (h c : Int) (hm : o < m) : CNo u ro a o (m + 1) h c ↔ (CNo u ro a o m h c ∨ (0 ≤ nov u ro a m (o : Int) ∧ h = nov u ro a m (o : Int) ∧ c = 2)) := by
  constructor
  · rintro ⟨k, k1, k2, k3, k4, k5⟩
    by_cases e : k = m
    · subst e
      exact Or.inr ⟨by omega, k3.symm, k5⟩
    · exact Or.inl ⟨k, k1, by omega, k3, k4, k5⟩
  · rintro (⟨k, k1, k2, k3, k4, k5⟩ | ⟨z1, z2, z3⟩)
    · exact ⟨k, k1, by omega, k3, k4, k5⟩
    · exact ⟨m, hm, by omega, z2.symm, by omega, z3⟩
/-- the reference's end -/
theorem LM_frv (H : HBd s a) {o : Nat} : ∀ d, o + 1 + d ≤ s → LM (fun h c => CB u ro a o (o + 1 + d) h c ∨ CNo u ro a o (o + 1 + d) h c) (frv u ro a o d).1 (frv u ro a o d).2 ∧ (0 ≤ (frv u ro a o d).2 ∧ ((frv u ro a o d).2 = 0 → (frv u ro a o d).1 = 9999)) := by
  intro d
  induction d with
  | zero =>
    intro _
    refine ⟨LM_c LM_0 (fun p q => ⟨fun z => z.elim, fun z => ?_⟩), by show (0 : Int) ≤ 0; omega, fun _ => rfl⟩
    rcases z with ⟨k, k1, k2, _⟩ | ⟨k, k1, k2, _⟩ <;> omega
  | succ d ih =>
    intro hd
    have i := ih (by omega)
    have b := bkv_r (u := u) (ro := ro) H (show o + 1 + d < s by omega) (o : Int)
    have n := nov_r (u := u) (ro := ro) H (show o + 1 + d < s by omega) (o : Int)
    have x1 := LM_eb (h := bkv u ro a (o + 1 + d) (o : Int)) (c := 1) i.1 i.2 (by omega) (by omega)
    have x2 := LM_eb (h := nov u ro a (o + 1 + d) (o : Int)) (c := 2) x1.1 x1.2 (by omega) (by omega)
    refine ⟨LM_c x2.1 (fun p q => ?_), x2.2⟩
    rw [show o + 1 + (d + 1) = o + 1 + d + 1 by omega, CB_s p q (by omega), CNo_s p q (by omega)]
    constructor
    · rintro ((h | h) | h)
      · rcases h with h | h
        · exact Or.inl (Or.inl h)
        · exact Or.inr (Or.inl h)
      · exact Or.inl (Or.inr h)
      · exact Or.inr (Or.inr h)
    · rintro ((h | h) | (h | h))
      · exact Or.inl (Or.inl (Or.inl h))
      · exact Or.inl (Or.inr h)
      · exact Or.inl (Or.inl (Or.inr h))
      · exact Or.inr h
def CAN (u ro : Nat → Int) (a : Nat → Nat → Int) (s o : Nat) (h c : Int) : Prop := (CB u ro a o s h c ∨ CNo u ro a o s h c) ∨ CHl u ro a o h c
theorem LM_fre (W : UW u s) (R : RLW ro) (H : HBd s a) {o : Nat} (ho : o < s) : LM (CAN u ro a s o) (fre2 u ro a s o).1 (fre2 u ro a s o).2 := by
  have x := LM_frv (u := u) (ro := ro) H (o := o) (s - (o + 1)) (by omega)
  rw [show o + 1 + (s - (o + 1)) = s by omega] at x
  have w := (W o ho).2.2.2.2.2.1
  have hc := hw_r H ho 1
  have r7 := R.2.2.1
  unfold fre2
  by_cases c : 0 ≤ u (21 * o + 5)
  · rw [if_pos c]
    refine LM_c (LM_eb (h := u (21 * o + 5) + 1) (c := 3) x.1 x.2 (by omega) (by omega)).1 (fun p q => ⟨fun z => z.elim Or.inl (fun z => Or.inr (Or.inl ⟨c, z.2⟩)), fun z => z.elim Or.inl (fun z => Or.inr ?_)⟩)
    rcases z with z | z
    · exact ⟨by omega, z.2⟩
    · exact absurd c z.1
  · rw [if_neg c]
    by_cases d : 0 ≤ ro 7 ∧ 0 ≤ hw a o 1
    · rw [if_pos d]
      refine LM_c (LM_eb (h := hw a o 1 + ro 7 + 1) (c := 4) x.1 x.2 (by omega) (by omega)).1 (fun p q => ⟨fun z => z.elim Or.inl (fun z => Or.inr (Or.inr ⟨c, d, z.2⟩)), fun z => z.elim Or.inl (fun z => Or.inr ?_)⟩)
      rcases z with z | z
      · exact absurd z.1 c
      · exact ⟨by omega, z.2.2⟩
    · rw [if_neg d]
      refine LM_c x.1 (fun p q => ⟨Or.inl, fun z => z.elim id (fun z => ?_)⟩)
      rcases z with z | z
      · exact absurd z.1 c
      · exact absurd z.2.1 d
/-- the class's end -/
theorem LM_e0 (W : UW u s) (R : RLW ro) (H : HBd s a) {o : Nat} (ho : o < s) (h2 : a 2 o ≠ 0) : LM (CHl u ro a o) (e0 u ro a o).1 (e0 u ro a o).2.1 := by
  have w := (W o ho).2.2.2.2.2.1
  have hc := hw_r H ho 1
  have r7 := R.2.2.1
  have x0 : LM (fun _ _ => False) ((9999, 0, -1) : T3).1 ((9999, 0, -1) : T3).2.1 := LM_0
  unfold e0
  by_cases c : u (21 * o + 5) ≠ -1
  · rw [if_pos c]
    refine LM_c (LM_ea (b := -1) (c := 3) x0 h2 (show 0 ≤ u (21 * o + 5) + 1 ∧ u (21 * o + 5) + 1 < 9999 by omega)) (fun p q => ⟨fun z => z.elim (fun z => z.elim) (fun z => Or.inl ⟨by omega, z⟩), fun z => Or.inr ?_⟩)
    rcases z with z | z
    · exact z.2
    · exact absurd z.1 (by omega)
  · rw [if_neg c]
    by_cases d : ro 7 ≠ -1 ∧ hw a o 1 ≠ -1
    · rw [if_pos d]
      refine LM_c (LM_ea (b := -1) (c := 4) x0 h2 (show 0 ≤ hw a o 1 + ro 7 + 1 ∧ hw a o 1 + ro 7 + 1 < 9999 by omega)) (fun p q => ⟨fun z => z.elim (fun z => z.elim) (fun z => Or.inr ⟨by omega, by omega, z⟩), fun z => Or.inr ?_⟩)
      rcases z with z | z
      · exact absurd z.1 (by omega)
      · exact z.2.2
    · rw [if_neg d]
      refine LM_c x0 (fun p q => ⟨fun z => z.elim, fun z => ?_⟩)
      rcases z with z | z
      · omega
      · omega
theorem LM_ebv (W : UW u s) (R : RLW ro) (H : HBd s a) {o : Nat} (ho : o < s) (h2 : a 2 o ≠ 0) : ∀ k, k ≤ s → LM (fun h c => CHl u ro a o h c ∨ CB u ro a o k h c) (ebv u ro a o k).1 (ebv u ro a o k).2.1 := by
  intro k
  induction k with
  | zero =>
    intro _
    exact LM_c (LM_e0 W R H ho h2) (fun p q => ⟨Or.inl, fun z => z.elim id (fun ⟨k, _, k2, _⟩ => by omega)⟩)
  | succ k ih =>
    intro hk
    have i := ih (by omega)
    have b := hB_r (u := u) (ro := ro) H (show k < s by omega)
    show LM _ (if hB u ro a k ≠ -1 ∧ u (21 * k + 3) = (o : Int) ∧ fre u ro o ≤ hB u ro a k then ea (ebv u ro a o k) (a 2 o) (hB u ro a k) 1 (k : Int) else ebv u ro a o k).1 (if hB u ro a k ≠ -1 ∧ u (21 * k + 3) = (o : Int) ∧ fre u ro o ≤ hB u ro a k then ea (ebv u ro a o k) (a 2 o) (hB u ro a k) 1 (k : Int) else ebv u ro a o k).2.1
    by_cases c : hB u ro a k ≠ -1 ∧ u (21 * k + 3) = (o : Int) ∧ fre u ro o ≤ hB u ro a k
    · rw [if_pos c]
      have y := bk_y W H (show k < s by omega) c
      refine LM_c (LM_ea (b := (k : Int)) (c := 1) i h2 (show 0 ≤ hB u ro a k ∧ hB u ro a k < 9999 by omega)) (fun p q => ?_)
      rw [CB_s p q y.2.2, y.1]
      constructor
      · rintro ((z | z) | z)
        · exact Or.inl z
        · exact Or.inr (Or.inl z)
        · exact Or.inr (Or.inr ⟨y.2.1, z⟩)
      · rintro (z | (z | z))
        · exact Or.inl (Or.inl z)
        · exact Or.inl (Or.inr z)
        · exact Or.inr z.2
    · rw [if_neg c]
      have y := bk_n W H (show k < s by omega) ho c
      refine LM_c i (fun p q => ?_)
      constructor
      · rintro (z | ⟨k', k1, k2, k3⟩)
        · exact Or.inl z
        · exact Or.inr ⟨k', k1, by omega, k3⟩
      · rintro (z | ⟨k', k1, k2, k3, k4, k5⟩)
        · exact Or.inl z
        · by_cases e : k' = k
          · rw [e, y] at k3
            omega
          · exact Or.inr ⟨k', k1, by omega, k3, k4, k5⟩
theorem LM_eav (W : UW u s) (R : RLW ro) (H : HBd s a) (O : ∀ k, k < s → a 2 k = ofv u ro k) {o : Nat} (ho : o < s) (h2 : a 2 o ≠ 0) : ∀ k, k ≤ s → LM (fun h c => (CHl u ro a o h c ∨ CB u ro a o s h c) ∨ CNo u ro a o k h c) (eav u ro a s o k).1 (eav u ro a s o k).2.1 := by
  intro k
  induction k with
  | zero =>
    intro _
    exact LM_c (LM_ebv W R H ho h2 s (Nat.le_refl s)) (fun p q => ⟨Or.inl, fun z => z.elim id (fun ⟨k, _, k2, _⟩ => by omega)⟩)
  | succ k ih =>
    intro hk
    have i := ih (by omega)
    have b := hw_r H (show k < s by omega) (ro 5)
    have w := W k (by omega)
    have ni := no_i (o := o) W (show k < s by omega) (O k (by omega))
    show LM _ (if ans u k = 1 ∧ u (21 * k + 3) = (o : Int) ∧ (u (21 * k + 0) = 4 ∨ a 2 k ≠ 0) then ea (eav u ro a s o k) (a 2 o) (hw a k (ro 5)) 2 (k : Int) else eav u ro a s o k).1 (if ans u k = 1 ∧ u (21 * k + 3) = (o : Int) ∧ (u (21 * k + 0) = 4 ∨ a 2 k ≠ 0) then ea (eav u ro a s o k) (a 2 o) (hw a k (ro 5)) 2 (k : Int) else eav u ro a s o k).2.1
    by_cases c : ans u k = 1 ∧ u (21 * k + 3) = (o : Int) ∧ (u (21 * k + 0) = 4 ∨ a 2 k ≠ 0)
    · rw [if_pos c]
      have y : nov u ro a k (o : Int) = hw a k (ro 5) := if_pos (ni.mp c)
      refine LM_c (LM_e1 (b := (k : Int)) (c := 2) i h2 (show -1 ≤ hw a k (ro 5) ∧ hw a k (ro 5) < 9999 by omega)) (fun p q => ?_)
      rw [CNo_s p q (show o < k by have := c.2.1; omega), y]
      constructor
      · rintro ((z | z) | z)
        · exact Or.inl z
        · exact Or.inr (Or.inl z)
        · exact Or.inr (Or.inr z)
      · rintro (z | (z | z))
        · exact Or.inl (Or.inl z)
        · exact Or.inl (Or.inr z)
        · exact Or.inr z
    · rw [if_neg c]
      have y : nov u ro a k (o : Int) = -1 := if_neg (fun z => c (ni.mpr z))
      refine LM_c i (fun p q => ?_)
      constructor
      · rintro (z | ⟨k', k1, k2, k3⟩)
        · exact Or.inl z
        · exact Or.inr ⟨k', k1, by omega, k3⟩
      · rintro (z | ⟨k', k1, k2, k3, k4, k5⟩)
        · exact Or.inl z
        · by_cases e : k' = k
          · rw [e, y] at k3
            omega
          · exact Or.inr ⟨k', k1, by omega, k3, k4, k5⟩
/-- both find the same end, and the same cause -/
theorem end_eq (W : UW u s) (R : RLW ro) (H : HBd s a) (O : ∀ k, k < s → a 2 k = ofv u ro k) {o : Nat} (ho : o < s) (h2 : a 2 o ≠ 0) : (fre2 u ro a s o).1 = (eav u ro a s o s).1 ∧ (fre2 u ro a s o).2 = (eav u ro a s o s).2.1 := by
  refine LM_u (LM_fre W R H ho) (LM_c (LM_eav W R H O ho h2 s (Nat.le_refl s)) (fun p q => ?_))
  unfold CAN
  constructor
  · rintro ((z | z) | z)
    · exact Or.inr z
    · exact Or.inl (Or.inl z)
    · exact Or.inl (Or.inr z)
  · rintro ((z | z) | z)
    · exact Or.inl (Or.inr z)
    · exact Or.inr z
    · exact Or.inl (Or.inl z)
/-! taken back, answered -/
theorem tbv_i (H : HBd s a) (q : Nat) (h : Int) (hh : h ≤ 9999) : ∀ k, k ≤ s → (h ≤ tbv u ro a q k ↔ ∀ j, j < k → hB u ro a j ≠ -1 → u (21 * j + 3) = (q : Int) → h ≤ hB u ro a j) := by
  intro k
  induction k with
  | zero => intro _; exact ⟨fun _ j hj => absurd hj (by omega), fun _ => hh⟩
  | succ k ih =>
    intro hk
    have i := ih (by omega)
    show h ≤ (if hB u ro a k ≠ -1 ∧ u (21 * k + 3) = (q : Int) then mn2 (tbv u ro a q k) (hB u ro a k) else tbv u ro a q k) ↔ _
    by_cases c : hB u ro a k ≠ -1 ∧ u (21 * k + 3) = (q : Int)
    · rw [if_pos c]
      unfold mn2
      constructor
      · intro z j hj h1 h2
        by_cases e : j = k
        · subst e
          split at z <;> omega
        · exact i.mp (by split at z <;> omega) j (by omega) h1 h2
      · intro z
        have z1 := z k (by omega) c.1 c.2
        have z2 := i.mpr (fun j hj => z j (by omega))
        split <;> omega
    · rw [if_neg c, i]
      constructor
      · intro z j hj h1 h2
        by_cases e : j = k
        · subst e
          exact absurd ⟨h1, h2⟩ c
        · exact z j (by omega) h1 h2
      · intro z j hj
        exact z j (by omega)
theorem awv_i (H : HBd s a) (q : Nat) (h : Int) (hh : h < 9999) : ∀ k, k ≤ s → (h < awv u a q k ↔ ∀ j, j < k → ans u j = 1 → u (21 * j + 3) = (q : Int) → h < hw a j 0) := by
  intro k
  induction k with
  | zero => intro _; exact ⟨fun _ j hj => absurd hj (by omega), fun _ => hh⟩
  | succ k ih =>
    intro hk
    have i := ih (by omega)
    show h < (if ans u k = 1 ∧ u (21 * k + 3) = (q : Int) then mn2 (awv u a q k) (hw a k 0) else awv u a q k) ↔ _
    by_cases c : ans u k = 1 ∧ u (21 * k + 3) = (q : Int)
    · rw [if_pos c]
      unfold mn2
      constructor
      · intro z j hj h1 h2
        by_cases e : j = k
        · subst e
          split at z <;> omega
        · exact i.mp (by split at z <;> omega) j (by omega) h1 h2
      · intro z
        have z1 := z k (by omega) c.1 c.2
        have z2 := i.mpr (fun j hj => z j (by omega))
        split <;> omega
    · rw [if_neg c, i]
      constructor
      · intro z j hj h1 h2
        by_cases e : j = k
        · subst e
          exact absurd ⟨h1, h2⟩ c
        · exact z j (by omega) h1 h2
      · intro z j hj
        exact z j (by omega)
end
def opR (f e h : Int) : Int := if 0 ≤ f ∧ f ≤ h ∧ h < e then 1 else 0
def TKB (u ro : Nat → Int) (a : Nat → Nat → Int) (q : Nat) (h : Int) (i : Nat) : Prop := u (21 * i + 0) = 5 ∧ u (21 * i + 3) = (q : Int) ∧ 0 ≤ hw a i (ro 4) ∧ hw a i (ro 4) < h
def ANB (u : Nat → Int) (a : Nat → Nat → Int) (q : Nat) (h : Int) (i : Nat) : Prop := (u (21 * i + 0) = 2 ∨ u (21 * i + 0) = 3 ∨ u (21 * i + 0) = 4 ∨ u (21 * i + 0) = 6) ∧ u (21 * i + 3) = (q : Int) ∧ hw a i 0 ≤ h
theorem all_s {P : Nat → Prop} {q : Nat} {j : Int} (x : ∀ i, q < i → (i : Int) < j → ¬ P i) (hj : 0 ≤ j) (h : ¬ P (Int.toNat j)) : ∀ i, q < i → (i : Int) < j + 1 → ¬ P i := fun i h1 h2 => by
  by_cases e : i = Int.toNat j
  · rw [e]; exact h
  · exact x i h1 (by omega)
/-- an end of the reference's -/
def E2 (A : Nat → Nat → Int) (o : Nat) : Int × Int := (A 114 o, A 115 o)
theorem of_b (u ro : Nat → Int) (k : Nat) : 0 ≤ ofv u ro k ∧ ofv u ro k ≤ 1 := by
  unfold ofv
  split <;> omega
theorem ys_b (u ro : Nat → Int) (k : Nat) : 0 ≤ ysv u ro k ∧ ysv u ro k ≤ 1 := by
  unfold ysv
  split <;> omega
theorem noV_b (u ro : Nat → Int) (k : Nat) : 0 ≤ noV u ro k ∧ noV u ro k ≤ 1 := by
  unfold noV
  split <;> omega
theorem rl_2 {ro : Nat → Int} (R : RLW ro) : 0 ≤ ro 2 ∧ ro 2 ≤ 2 := R.1 2 (by omega)
theorem rl_3 {ro : Nat → Int} (R : RLW ro) : 0 ≤ ro 3 ∧ ro 3 ≤ 2 := R.1 3 (by omega)
theorem rl_4 {ro : Nat → Int} (R : RLW ro) : 0 ≤ ro 4 ∧ ro 4 ≤ 2 := R.1 4 (by omega)
theorem rl_5 {ro : Nat → Int} (R : RLW ro) : 0 ≤ ro 5 ∧ ro 5 ≤ 2 := R.1 5 (by omega)
theorem rl_6 {ro : Nat → Int} (R : RLW ro) : 0 ≤ ro 6 ∧ ro 6 ≤ 1 := R.2.1
theorem rl_7 {ro : Nat → Int} (R : RLW ro) : -1 ≤ ro 7 ∧ ro 7 ≤ 999 := R.2.2.1
theorem rl_8 {ro : Nat → Int} (R : RLW ro) : -1 ≤ ro 8 ∧ ro 8 ≤ 999 := R.2.2.2.1
theorem rl_9 {ro : Nat → Int} (R : RLW ro) : 0 ≤ ro 9 ∧ ro 9 ≤ 1 := R.2.2.2.2.1
theorem rl_10 {ro : Nat → Int} (R : RLW ro) : 0 ≤ ro 10 ∧ ro 10 ≤ 2 := R.2.2.2.2.2.1
theorem rl_11 {ro : Nat → Int} (R : RLW ro) : 0 ≤ ro 11 ∧ ro 11 ≤ 1 := R.2.2.2.2.2.2.1
theorem rl_12 {ro : Nat → Int} (R : RLW ro) : 0 ≤ ro 12 ∧ ro 12 ≤ 2 := R.2.2.2.2.2.2.2
end
