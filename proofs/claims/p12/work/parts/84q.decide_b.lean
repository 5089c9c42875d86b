set_option maxRecDepth 100000 in
set_option maxHeartbeats 4000000 in
theorem cx_11 {g h : av_H} {b t c s r : Nat} {cb : Int} {u ro : Nat → Int} {a : Nat → Nat → Int} {mb mo ma : Int} (E : EB b t c s r cb u ro a mb mo ma h) (F : FN b g h) {a0 : Nat → Nat → Int} (D : TBI u ro a0 s s a) (H : HBd s a0) (B3 : BZ s a0) (U2 : ∀ j, u j ≤ 2000 ∨ j % 21 = 20) {Q : Option av_V → av_H → Prop} (hq : ∀ h' a', EB b t c s r cb u ro a' mb mo ma h' → FN b g h' → DEC u ro a0 s a' → Q none h') : av_wp none cd_11 0 [some (.inr (.inr (.inl (some (b))))), none, none, none] [] h Q := by
  have s12 := co_s12 (ib_co E.1)
  have cbr := co_cbr (ib_co E.1)
  have mbr := eb_xr E
  have mor := eb_yr E
  have U1 := fun j => (eb_uv E j).1
  have R9 := eb_rv E
  refine av_wp_seq 2 (pc' := 2) (lv' := [some (.inr (.inr (.inl (some (b))))), some (.inl (0)), none, none]) (st' := []) (h' := h) rfl ?_
  have L10 : ∀ (m9 : Nat) (k1 : Int) (a2 : Option av_V) (a3 : Option av_V) (h4 : av_H) (a7 : Nat → Nat → Int), av_lg a2 = false → av_lg a3 = false → k1 ≤ (s : Int) → (0 ≤ k1 ∧ k1 ≤ 12) → EB b t c s r cb u ro a7 mb mo ma h4 → FN b g h4 → HAI u ro a0 s (Int.toNat k1) a7 → ((s : Int) - k1).toNat = m9 → av_wp none cd_11 2 [some (.inr (.inr (.inl (some (b))))), some (.inl k1), a2, a3] [] h4 Q := by
    intro m9
    induction m9 using Nat.strongRecOn with
    | _ m9 I11 =>
      intro k1 a2 a3 h4 a7 g13 g14 g15 g16 E5 F6 X8 e12
      have la2 := g13
      have la3 := g14
      refine av_wp_seq 2 (pc' := 4) (lv' := [some (.inr (.inr (.inl (some (b))))), some (.inl k1), a2, a3]) (st' := [.inr (.inr (.inl (some (b)))), .inl k1]) (h' := h4) rfl ?_
      refine wq_gr (p' := 7) rfl rfl (congrArg Prod.fst (ib_k0 E5.1)) rfl (ib_t E5.1) ?_
      refine wq_gi (p' := 10) rfl rfl (congrArg Prod.fst (co_kt (ib_co E5.1))) rfl (co_s (ib_co E5.1)) ?_
      refine wq_k2 (p' := 13) rfl rfl ⟨by omega, by omega⟩ ⟨by omega, by omega⟩ (fun c17 => ?_) (fun c18 => ?_)
      · have c17 : (s : Int) ≤ k1 := c17
        refine av_wp_ret (v := none) rfl rfl rfl ?_
        have z19 : Int.toNat k1 = s := by omega
        rw [z19] at X8
        exact hq h4 _ E5 F6 X8
      · have c18 : k1 < (s : Int) := c18
        refine av_wp_seq 1 (pc' := 14) (lv' := [some (.inr (.inr (.inl (some (b))))), some (.inl k1), a2, a3]) (st' := [.inr (.inr (.inl (some (b))))]) (h' := h4) rfl ?_
        refine wq_gr (p' := 17) rfl rfl (congrArg Prod.fst (ib_k0 E5.1)) rfl (ib_t E5.1) ?_
        refine wq_gr (p' := 20) rfl rfl (congrArg Prod.fst (co_kt (ib_co E5.1))) rfl (co_c (ib_co E5.1)) ?_
        refine av_wp_seq 5 (pc' := 26) (lv' := [some (.inr (.inr (.inl (some (b))))), some (.inl k1), a2, a3]) (st' := [.inl ((k1 * (21)) + (0)), .inr (.inr (.inl (some (c))))]) (h' := h4) rfl ?_
        obtain ⟨v21, e22⟩ : ∃ v, u (Int.toNat (((k1 * (21)) + (0)))) = v := ⟨_, rfl⟩
        have g20 := eb_uv E5 (Int.toNat (((k1 * (21)) + (0))))
        rw [e22] at g20
        have y23 : u (21 * Int.toNat k1 + 0) = v21 := (congrArg u (by omega)).trans e22
        refine wq_al (p' := 27) (n := 21 * s) rfl rfl (co_kc (ib_co E5.1)) (by omega) ((congrFun (eb_u E5) _).trans e22) ?_
        refine av_wp_seq 2 (pc' := 29) (lv' := [some (.inr (.inr (.inl (some (b))))), some (.inl k1), some (.inl v21), a3]) (st' := [.inr (.inr (.inl (some (b))))]) (h' := h4) rfl ?_
        refine wq_gr (p' := 32) rfl rfl (congrArg Prod.fst (ib_k0 E5.1)) rfl (ib_t E5.1) ?_
        refine wq_gr (p' := 35) rfl rfl (congrArg Prod.fst (co_kt (ib_co E5.1))) rfl (co_c (ib_co E5.1)) ?_
        refine av_wp_seq 5 (pc' := 41) (lv' := [some (.inr (.inr (.inl (some (b))))), some (.inl k1), some (.inl v21), a3]) (st' := [.inl ((k1 * (21)) + (3)), .inr (.inr (.inl (some (c))))]) (h' := h4) rfl ?_
        obtain ⟨v25, e26⟩ : ∃ v, u (Int.toNat (((k1 * (21)) + (3)))) = v := ⟨_, rfl⟩
        have g24 := eb_uv E5 (Int.toNat (((k1 * (21)) + (3))))
        rw [e26] at g24
        have y27 : u (21 * Int.toNat k1 + 3) = v25 := (congrArg u (by omega)).trans e26
        refine wq_al (p' := 42) (n := 21 * s) rfl rfl (co_kc (ib_co E5.1)) (by omega) ((congrFun (eb_u E5) _).trans e26) ?_
        refine av_wp_seq 2 (pc' := 44) (lv' := [some (.inr (.inr (.inl (some (b))))), some (.inl k1), some (.inl v21), some (.inl v25)]) (st' := [.inl v25]) (h' := h4) rfl ?_
        refine wq_k1 (p' := 47) rfl rfl ⟨by omega, by omega⟩ (fun c28 => ?_) (fun c29 => ?_)
        · have c28 : v25 < (0) := c28
          refine av_wp_seq 2 (pc' := 2) (lv' := [some (.inr (.inr (.inl (some (b))))), some (.inl (k1 + (1))), some (.inl v21), some (.inl v25)]) (st' := []) (h' := h4) rfl ?_
          exact I11 _ (by omega) ((k1 + (1))) (some (.inl v21)) (some (.inl v25)) h4 a7 rfl rfl (by omega) (by omega) E5 F6 (by rw [show Int.toNat (k1 + (1)) = Int.toNat k1 + 1 by omega]; exact HAI_n X8 (by unfold ans; rw [if_neg (by omega)])) rfl
        · have c29 : (0) ≤ v25 := c29
          refine av_wp_seq 2 (pc' := 49) (lv' := [some (.inr (.inr (.inl (some (b))))), some (.inl k1), some (.inl v21), some (.inl v25)]) (st' := [.inl k1, .inl v25]) (h' := h4) rfl ?_
          refine wq_k2 (p' := 52) rfl rfl ⟨by omega, by omega⟩ ⟨by omega, by omega⟩ (fun c30 => ?_) (fun c31 => ?_)
          · have c30 : k1 ≤ v25 := c30
            refine av_wp_seq 2 (pc' := 2) (lv' := [some (.inr (.inr (.inl (some (b))))), some (.inl (k1 + (1))), some (.inl v21), some (.inl v25)]) (st' := []) (h' := h4) rfl ?_
            exact I11 _ (by omega) ((k1 + (1))) (some (.inl v21)) (some (.inl v25)) h4 a7 rfl rfl (by omega) (by omega) E5 F6 (by rw [show Int.toNat (k1 + (1)) = Int.toNat k1 + 1 by omega]; exact HAI_n X8 (by unfold ans; rw [if_neg (by omega)])) rfl
          · have c31 : v25 < k1 := c31
            refine av_wp_seq 2 (pc' := 54) (lv' := [some (.inr (.inr (.inl (some (b))))), some (.inl k1), some (.inl v21), some (.inl v25)]) (st' := [.inl (5), .inl v21]) (h' := h4) rfl ?_
            refine wq_k2 (p' := 57) rfl rfl ⟨by omega, by omega⟩ ⟨by omega, by omega⟩ (fun c32 => ?_) (fun c33 => ?_)
            · have c32 : v21 = (5) := c32
              refine av_wp_seq 2 (pc' := 2) (lv' := [some (.inr (.inr (.inl (some (b))))), some (.inl (k1 + (1))), some (.inl v21), some (.inl v25)]) (st' := []) (h' := h4) rfl ?_
              exact I11 _ (by omega) ((k1 + (1))) (some (.inl v21)) (some (.inl v25)) h4 a7 rfl rfl (by omega) (by omega) E5 F6 (by rw [show Int.toNat (k1 + (1)) = Int.toNat k1 + 1 by omega]; exact HAI_n X8 (by unfold ans; rw [if_neg (by omega)])) rfl
            · have c33 : v21 ≠ (5) := c33
              refine av_wp_seq 2 (pc' := 60) (lv' := [some (.inr (.inr (.inl (some (b))))), some (.inl k1), some (.inl v21), some (.inl v25)]) (st' := [.inl (7), .inl v21]) (h' := h4) rfl ?_
              refine wq_k2 (p' := 63) rfl rfl ⟨by omega, by omega⟩ ⟨by omega, by omega⟩ (fun c34 => ?_) (fun c35 => ?_)
              · have c34 : v21 = (7) := c34
                refine av_wp_seq 2 (pc' := 2) (lv' := [some (.inr (.inr (.inl (some (b))))), some (.inl (k1 + (1))), some (.inl v21), some (.inl v25)]) (st' := []) (h' := h4) rfl ?_
                exact I11 _ (by omega) ((k1 + (1))) (some (.inl v21)) (some (.inl v25)) h4 a7 rfl rfl (by omega) (by omega) E5 F6 (by rw [show Int.toNat (k1 + (1)) = Int.toNat k1 + 1 by omega]; exact HAI_n X8 (by unfold ans; rw [if_neg (by omega)])) rfl
              · have c35 : v21 ≠ (7) := c35
                refine av_wp_seq 1 (pc' := 64) (lv' := [some (.inr (.inr (.inl (some (b))))), some (.inl k1), some (.inl v21), some (.inl v25)]) (st' := [.inr (.inr (.inl (some (b))))]) (h' := h4) rfl ?_
                refine wq_gr (p' := 67) rfl rfl (congrArg Prod.fst (ib_k0 E5.1)) rfl (ib_g E5.1 10 rfl) ?_
                refine av_wp_seq 2 (pc' := 69) (lv' := [some (.inr (.inr (.inl (some (b))))), some (.inl k1), some (.inl v21), some (.inl v25)]) (st' := [.inr (.inr (.inl (some (b)))), .inl v25, .inr (.inr (.inl (some (b + 1 + 10))))]) (h' := h4) rfl ?_
                refine wq_gr (p' := 72) rfl rfl (congrArg Prod.fst (ib_k0 E5.1)) rfl (ib_g E5.1 10 rfl) ?_
                refine av_wp_seq 1 (pc' := 73) (lv' := [some (.inr (.inr (.inl (some (b))))), some (.inl k1), some (.inl v21), some (.inl v25)]) (st' := [.inl v25, .inr (.inr (.inl (some (b + 1 + 10)))), .inl v25, .inr (.inr (.inl (some (b + 1 + 10))))]) (h' := h4) rfl ?_
                obtain ⟨v37, e38⟩ : ∃ v, a7 10 (Int.toNat (v25)) = v := ⟨_, rfl⟩
                have y39 := (X8.1 (Int.toNat (v25)) (by omega)).2.2.2
                rw [e38] at y39
                have g40 := awv_r (u := u) H (Int.toNat (v25)) (Int.toNat k1) (by omega)
                rw [← y39] at g40
                refine wq_al (p' := 74) (n := 12) rfl rfl (ib_k E5.1 10 rfl) (by omega) ((congrFun (eb_a E5 10 rfl) _).trans e38) ?_
                refine av_wp_seq 3 (pc' := 77) (lv' := [some (.inr (.inr (.inl (some (b))))), some (.inl k1), some (.inl v21), some (.inl v25)]) (st' := [.inl (0), .inl k1, .inr (.inr (.inl (some (b)))), .inl v37, .inl v25, .inr (.inr (.inl (some (b + 1 + 10))))]) (h' := h4) rfl ?_
                refine wq_cv (p' := 80) (av_qc (.invokevirtual 115) 6 2 0 0) 3 cd_6 [.inl (0), .inl k1] (b) 0 [some (.inr (.inr (.inl (some (b))))), some (.inl k1), some (.inl (0))] rfl rfl rfl pp_6 rfl rfl rfl (congrArg Prod.fst (ib_k0 E5.1)) rfl rfl rfl rfl ?_
                refine cx_6 E5 F6 (k1) (by omega) ((0)) (by omega) ?_
                rw [hof_c (a := a0) (X8.2 0 (by omega)) (by omega)]
                obtain ⟨v41, e42⟩ : ∃ v, hw a0 (Int.toNat (k1)) (0) = v := ⟨_, rfl⟩
                have g43 := hw_r H (k := Int.toNat (k1)) (by omega) (0)
                rw [e42] at g43
                rw [e42]
                show av_wp _ cd_11 80 [some (.inr (.inr (.inl (some (b))))), some (.inl k1), some (.inl v21), some (.inl v25)] [.inl v41, .inl v37, .inl v25, .inr (.inr (.inl (some (b + 1 + 10))))] h4 _
                refine wq_mn (p' := 83) rfl rfl rfl (fun _ _ => rfl) rfl (fun v44 e45 e46 => ?_)
                have e46 := e46 ⟨by omega, by omega⟩ ⟨by omega, by omega⟩
                refine xb_as (p' := 84) (n := 12) rfl rfl E5 F6 10 rfl rfl (by omega) (fun h47 E48 F49 => ?_)
                refine av_wp_seq 2 (pc' := 86) (lv' := [some (.inr (.inr (.inl (some (b))))), some (.inl k1), some (.inl v21), some (.inl v25)]) (st' := [.inl (4), .inl v21]) (h' := h47) rfl ?_
                refine wq_k2 (p' := 89) rfl rfl ⟨by omega, by omega⟩ ⟨by omega, by omega⟩ (fun c50 => ?_) (fun c51 => ?_)
                · have c50 : v21 = (4) := c50
                  refine av_wp_seq 5 (pc' := 103) (lv' := [some (.inr (.inr (.inl (some (b))))), some (.inl k1), some (.inl v21), some (.inl v25)]) (st' := [.inr (.inr (.inl (some (b)))), .inl k1, .inr (.inr (.inl (some (b)))), .inl v25, .inr (.inr (.inl (some (b))))]) (h' := h47) rfl ?_
                  refine wq_gr (p' := 106) rfl rfl (congrArg Prod.fst (ib_k0 E48.1)) rfl (ib_r E48.1) ?_
                  refine av_wp_seq 1 (pc' := 107) (lv' := [some (.inr (.inr (.inl (some (b))))), some (.inl k1), some (.inl v21), some (.inl v25)]) (st' := [.inl (5), .inr (.inr (.inl (some (r)))), .inl k1, .inr (.inr (.inl (some (b)))), .inl v25, .inr (.inr (.inl (some (b))))]) (h' := h47) rfl ?_
                  obtain ⟨v53, e54⟩ : ∃ v, ro 5 = v := ⟨_, rfl⟩
                  have g52 := eb_rv E48 5
                  rw [e54] at g52
                  refine wq_al (p' := 108) (n := 14) rfl rfl (ib_kr E48.1) (by omega) ((congrFun (eb_ro E48) _).trans e54) ?_
                  refine wq_cv (p' := 111) (av_qc (.invokevirtual 115) 6 2 0 0) 3 cd_6 [.inl v53, .inl k1] (b) 0 [some (.inr (.inr (.inl (some (b))))), some (.inl k1), some (.inl v53)] rfl rfl rfl pp_6 rfl rfl rfl (congrArg Prod.fst (ib_k0 E48.1)) rfl rfl rfl rfl ?_
                  refine cx_6 E48 F49 (k1) (by omega) (v53) (by omega) ?_
                  rw [hof_c (a := a0) ((av_u2_ne (by decide)).trans (X8.2 0 (by omega))) (by omega)]
                  obtain ⟨v55, e56⟩ : ∃ v, hw a0 (Int.toNat (k1)) v53 = v := ⟨_, rfl⟩
                  have g57 := hw_r H (k := Int.toNat (k1)) (by omega) v53
                  rw [e56] at g57
                  rw [e56]
                  show av_wp _ cd_11 111 [some (.inr (.inr (.inl (some (b))))), some (.inl k1), some (.inl v21), some (.inl v25)] [.inl v55, .inl v25, .inr (.inr (.inl (some (b))))] h47 _
                  refine av_wp_seq 2 (pc' := 113) (lv' := [some (.inr (.inr (.inl (some (b))))), some (.inl k1), some (.inl v21), some (.inl v25)]) (st' := [.inl k1, .inl (2), .inl v55, .inl v25, .inr (.inr (.inl (some (b))))]) (h' := h47) rfl ?_
                  refine wq_cv (p' := 116) (av_qc (.invokevirtual 118) 8 4 0 0) 5 cd_8 [.inl k1, .inl (2), .inl v55, .inl v25] (b) 0 [some (.inr (.inr (.inl (some (b))))), some (.inl v25), some (.inl v55), some (.inl (2)), some (.inl k1)] rfl rfl rfl pp_8 rfl rfl rfl (congrArg Prod.fst (ib_k0 E48.1)) rfl rfl rfl rfl ?_
                  refine cx_8 E48 F49 (v25) (by omega) (v55) (by omega) ((2)) (by omega) (k1) (by rw [ET3_9 (by decide) (by decide) (by decide), (X8.1 (Int.toNat (v25)) (by omega)).2.1]; exact eav_r H U2 U1 R9 s12 (by omega) _ (by omega)) (by rw [((av_u2_ne (by decide)).trans (X8.2 2 (by omega)))]; exact (B3 _ (by omega)).1) (fun h58 a59 E60 F61 X62 => ?_)
                  show av_wp _ cd_11 116 [some (.inr (.inr (.inl (some (b))))), some (.inl k1), some (.inl v21), some (.inl v25)] [] h58 _
                  refine av_wp_seq 2 (pc' := 2) (lv' := [some (.inr (.inr (.inl (some (b))))), some (.inl (k1 + (1))), some (.inl v21), some (.inl v25)]) (st' := []) (h' := h58) rfl ?_
                  exact I11 _ (by omega) ((k1 + (1))) (some (.inl v21)) (some (.inl v25)) h58 a59 rfl rfl (by omega) (by omega) E60 F61 (by rw [show Int.toNat (k1 + (1)) = Int.toNat k1 + 1 by omega]; exact HAI_b X8 (by unfold ans; rw [if_pos (by omega)]) y27 (by omega) (by omega) (by rw [← y39, e42]; unfold mn2; split <;> omega) (by omega) (by rw [e54]; exact e56) (by omega) X62) rfl
                · have c51 : v21 ≠ (4) := c51
                  refine av_wp_seq 1 (pc' := 90) (lv' := [some (.inr (.inr (.inl (some (b))))), some (.inl k1), some (.inl v21), some (.inl v25)]) (st' := [.inr (.inr (.inl (some (b))))]) (h' := h47) rfl ?_
                  refine wq_gr (p' := 93) rfl rfl (congrArg Prod.fst (ib_k0 E48.1)) rfl (ib_g E48.1 2 rfl) ?_
                  refine av_wp_seq 1 (pc' := 94) (lv' := [some (.inr (.inr (.inl (some (b))))), some (.inl k1), some (.inl v21), some (.inl v25)]) (st' := [.inl k1, .inr (.inr (.inl (some (b + 1 + 2))))]) (h' := h47) rfl ?_
                  obtain ⟨v64, e65⟩ : ∃ v, (av_u2 a7 10 (Int.toNat (v25)) v44) 2 (Int.toNat (k1)) = v := ⟨_, rfl⟩
                  have y66 : a0 2 (Int.toNat (k1)) = v64 := (congrFun ((av_u2_ne (by decide)).trans (X8.2 2 (by omega))) _).symm.trans e65
                  have g67 := (B3 (Int.toNat (k1)) (by omega)).1
                  rw [y66] at g67
                  refine wq_bl (p' := 95) (n := 12) rfl rfl ((Or.inr (ib_k E48.1 2 rfl))) (by omega) ((congrFun (eb_a E48 2 rfl) _).trans e65) ?_
                  refine wq_k1 (p' := 98) rfl rfl ⟨by omega, by omega⟩ (fun c68 => ?_) (fun c69 => ?_)
                  · have c68 : v64 = (0) := c68
                    refine av_wp_seq 2 (pc' := 2) (lv' := [some (.inr (.inr (.inl (some (b))))), some (.inl (k1 + (1))), some (.inl v21), some (.inl v25)]) (st' := []) (h' := h47) rfl ?_
                    exact I11 _ (by omega) ((k1 + (1))) (some (.inl v21)) (some (.inl v25)) h47 (av_u2 a7 10 (Int.toNat (v25)) v44) rfl rfl (by omega) (by omega) E48 F49 (by rw [show Int.toNat (k1 + (1)) = Int.toNat k1 + 1 by omega]; exact HAI_a X8 (by unfold ans; rw [if_pos (by omega)]) y27 (by omega) (by omega) (by rw [← y39, e42]; unfold mn2; split <;> omega) (by omega)) rfl
                  · have c69 : v64 ≠ (0) := c69
                    refine av_wp_seq 5 (pc' := 103) (lv' := [some (.inr (.inr (.inl (some (b))))), some (.inl k1), some (.inl v21), some (.inl v25)]) (st' := [.inr (.inr (.inl (some (b)))), .inl k1, .inr (.inr (.inl (some (b)))), .inl v25, .inr (.inr (.inl (some (b))))]) (h' := h47) rfl ?_
                    refine wq_gr (p' := 106) rfl rfl (congrArg Prod.fst (ib_k0 E48.1)) rfl (ib_r E48.1) ?_
                    refine av_wp_seq 1 (pc' := 107) (lv' := [some (.inr (.inr (.inl (some (b))))), some (.inl k1), some (.inl v21), some (.inl v25)]) (st' := [.inl (5), .inr (.inr (.inl (some (r)))), .inl k1, .inr (.inr (.inl (some (b)))), .inl v25, .inr (.inr (.inl (some (b))))]) (h' := h47) rfl ?_
                    obtain ⟨v71, e72⟩ : ∃ v, ro 5 = v := ⟨_, rfl⟩
                    have g70 := eb_rv E48 5
                    rw [e72] at g70
                    refine wq_al (p' := 108) (n := 14) rfl rfl (ib_kr E48.1) (by omega) ((congrFun (eb_ro E48) _).trans e72) ?_
                    refine wq_cv (p' := 111) (av_qc (.invokevirtual 115) 6 2 0 0) 3 cd_6 [.inl v71, .inl k1] (b) 0 [some (.inr (.inr (.inl (some (b))))), some (.inl k1), some (.inl v71)] rfl rfl rfl pp_6 rfl rfl rfl (congrArg Prod.fst (ib_k0 E48.1)) rfl rfl rfl rfl ?_
                    refine cx_6 E48 F49 (k1) (by omega) (v71) (by omega) ?_
                    rw [hof_c (a := a0) ((av_u2_ne (by decide)).trans (X8.2 0 (by omega))) (by omega)]
                    obtain ⟨v73, e74⟩ : ∃ v, hw a0 (Int.toNat (k1)) v71 = v := ⟨_, rfl⟩
                    have g75 := hw_r H (k := Int.toNat (k1)) (by omega) v71
                    rw [e74] at g75
                    rw [e74]
                    show av_wp _ cd_11 111 [some (.inr (.inr (.inl (some (b))))), some (.inl k1), some (.inl v21), some (.inl v25)] [.inl v73, .inl v25, .inr (.inr (.inl (some (b))))] h47 _
                    refine av_wp_seq 2 (pc' := 113) (lv' := [some (.inr (.inr (.inl (some (b))))), some (.inl k1), some (.inl v21), some (.inl v25)]) (st' := [.inl k1, .inl (2), .inl v73, .inl v25, .inr (.inr (.inl (some (b))))]) (h' := h47) rfl ?_
                    refine wq_cv (p' := 116) (av_qc (.invokevirtual 118) 8 4 0 0) 5 cd_8 [.inl k1, .inl (2), .inl v73, .inl v25] (b) 0 [some (.inr (.inr (.inl (some (b))))), some (.inl v25), some (.inl v73), some (.inl (2)), some (.inl k1)] rfl rfl rfl pp_8 rfl rfl rfl (congrArg Prod.fst (ib_k0 E48.1)) rfl rfl rfl rfl ?_
                    refine cx_8 E48 F49 (v25) (by omega) (v73) (by omega) ((2)) (by omega) (k1) (by rw [ET3_9 (by decide) (by decide) (by decide), (X8.1 (Int.toNat (v25)) (by omega)).2.1]; exact eav_r H U2 U1 R9 s12 (by omega) _ (by omega)) (by rw [((av_u2_ne (by decide)).trans (X8.2 2 (by omega)))]; exact (B3 _ (by omega)).1) (fun h76 a77 E78 F79 X80 => ?_)
                    show av_wp _ cd_11 116 [some (.inr (.inr (.inl (some (b))))), some (.inl k1), some (.inl v21), some (.inl v25)] [] h76 _
                    refine av_wp_seq 2 (pc' := 2) (lv' := [some (.inr (.inr (.inl (some (b))))), some (.inl (k1 + (1))), some (.inl v21), some (.inl v25)]) (st' := []) (h' := h76) rfl ?_
                    exact I11 _ (by omega) ((k1 + (1))) (some (.inl v21)) (some (.inl v25)) h76 a77 rfl rfl (by omega) (by omega) E78 F79 (by rw [show Int.toNat (k1 + (1)) = Int.toNat k1 + 1 by omega]; exact HAI_b X8 (by unfold ans; rw [if_pos (by omega)]) y27 (by omega) (by omega) (by rw [← y39, e42]; unfold mn2; split <;> omega) (by omega) (by rw [e72]; exact e74) (by omega) X80) rfl
  exact L10 _ ((0)) (none) (none) h a rfl rfl (by omega) (by omega) E F (HAI_0 D) rfl

set_option maxRecDepth 100000 in
set_option maxHeartbeats 4000000 in
theorem cx_12 {g h : av_H} {b t c s r : Nat} {cb : Int} {u ro : Nat → Int} {a : Nat → Nat → Int} {mb mo ma : Int} (E : EB b t c s r cb u ro a mb mo ma h) (F : FN b g h) {a0 : Nat → Nat → Int} (D : DEC u ro a0 s a) (hy0 : yv u ro a0 s 0 = (mb, mo, ma)) (hm0 : MBR (mb, mo, ma)) (H : HBd s a0) (B3 : BZ s a0) (U2 : ∀ j, u j ≤ 2000 ∨ j % 21 = 20) {Q : Option av_V → av_H → Prop} (hq : ∀ h' m1 m2 m3, EB b t c s r cb u ro a m1 m2 m3 h' → FN b g h' → yv u ro a0 s s = (m1, m2, m3) → MBR (m1, m2, m3) → Q none h') : av_wp none cd_12 0 [some (.inr (.inr (.inl (some (b))))), none, none, none, none, none] [] h Q := by
  have s12 := co_s12 (ib_co E.1)
  have cbr := co_cbr (ib_co E.1)
  have mbr := eb_xr E
  have mor := eb_yr E
  have U1 := fun j => (eb_uv E j).1
  have R9 := eb_rv E
  refine av_wp_seq 2 (pc' := 2) (lv' := [some (.inr (.inr (.inl (some (b))))), some (.inl (0)), none, none, none, none]) (st' := []) (h' := h) rfl ?_
  have L14 : ∀ (m13 : Nat) (k1 : Int) (a2 : Option av_V) (a3 : Option av_V) (a4 : Option av_V) (a5 : Option av_V) (h6 : av_H) (m10 : Int) (m11 : Int) (m12 : Int), av_lg a2 = false → av_lg a3 = false → av_lg a4 = false → av_lg a5 = false → k1 ≤ (s : Int) → (0 ≤ k1 ∧ k1 ≤ 12) → EB b t c s r cb u ro a m10 m11 m12 h6 → FN b g h6 → yv u ro a0 s (Int.toNat k1) = (m10, m11, m12) → MBR (m10, m11, m12) → ((s : Int) - k1).toNat = m13 → av_wp none cd_12 2 [some (.inr (.inr (.inl (some (b))))), some (.inl k1), a2, a3, a4, a5] [] h6 Q := by
    intro m13
    induction m13 using Nat.strongRecOn with
    | _ m13 I15 =>
      intro k1 a2 a3 a4 a5 h6 m10 m11 m12 g17 g18 g19 g20 g21 g22 E7 F8 X9 X9r e16
      have la2 := g17
      have la3 := g18
      have la4 := g19
      have la5 := g20
      refine av_wp_seq 2 (pc' := 4) (lv' := [some (.inr (.inr (.inl (some (b))))), some (.inl k1), a2, a3, a4, a5]) (st' := [.inr (.inr (.inl (some (b)))), .inl k1]) (h' := h6) rfl ?_
      refine wq_gr (p' := 7) rfl rfl (congrArg Prod.fst (ib_k0 E7.1)) rfl (ib_t E7.1) ?_
      refine wq_gi (p' := 10) rfl rfl (congrArg Prod.fst (co_kt (ib_co E7.1))) rfl (co_s (ib_co E7.1)) ?_
      refine wq_k2 (p' := 13) rfl rfl ⟨by omega, by omega⟩ ⟨by omega, by omega⟩ (fun c23 => ?_) (fun c24 => ?_)
      · have c23 : (s : Int) ≤ k1 := c23
        refine av_wp_ret (v := none) rfl rfl rfl ?_
        have z25 : Int.toNat k1 = s := by omega
        rw [z25] at X9
        exact hq h6 _ _ _ E7 F8 X9 X9r
      · have c24 : k1 < (s : Int) := c24
        have g26 : (-1 ≤ m10 ∧ m10 ≤ 11) ∧ (-1 ≤ m11 ∧ m11 ≤ 11) ∧ (-1 ≤ m12 ∧ m12 ≤ 9999) := X9r
        refine av_wp_seq 1 (pc' := 14) (lv' := [some (.inr (.inr (.inl (some (b))))), some (.inl k1), a2, a3, a4, a5]) (st' := [.inr (.inr (.inl (some (b))))]) (h' := h6) rfl ?_
        refine wq_gr (p' := 17) rfl rfl (congrArg Prod.fst (ib_k0 E7.1)) rfl (ib_t E7.1) ?_
        refine wq_gr (p' := 20) rfl rfl (congrArg Prod.fst (co_kt (ib_co E7.1))) rfl (co_c (ib_co E7.1)) ?_
        refine av_wp_seq 5 (pc' := 26) (lv' := [some (.inr (.inr (.inl (some (b))))), some (.inl k1), a2, a3, a4, a5]) (st' := [.inl ((k1 * (21)) + (3)), .inr (.inr (.inl (some (c))))]) (h' := h6) rfl ?_
        obtain ⟨v28, e29⟩ : ∃ v, u (Int.toNat (((k1 * (21)) + (3)))) = v := ⟨_, rfl⟩
        have g27 := eb_uv E7 (Int.toNat (((k1 * (21)) + (3))))
        rw [e29] at g27
        have y30 : u (21 * Int.toNat k1 + 3) = v28 := (congrArg u (by omega)).trans e29
        refine wq_al (p' := 27) (n := 21 * s) rfl rfl (co_kc (ib_co E7.1)) (by omega) ((congrFun (eb_u E7) _).trans e29) ?_
        refine av_wp_seq 2 (pc' := 29) (lv' := [some (.inr (.inr (.inl (some (b))))), some (.inl k1), some (.inl v28), a3, a4, a5]) (st' := [.inr (.inr (.inl (some (b))))]) (h' := h6) rfl ?_
        refine wq_gr (p' := 32) rfl rfl (congrArg Prod.fst (ib_k0 E7.1)) rfl (ib_g E7.1 3 rfl) ?_
        refine av_wp_seq 1 (pc' := 33) (lv' := [some (.inr (.inr (.inl (some (b))))), some (.inl k1), some (.inl v28), a3, a4, a5]) (st' := [.inl k1, .inr (.inr (.inl (some (b + 1 + 3))))]) (h' := h6) rfl ?_
        obtain ⟨v32, e33⟩ : ∃ v, a 3 (Int.toNat (k1)) = v := ⟨_, rfl⟩
        have y34 : a0 3 (Int.toNat (k1)) = v32 := (congrFun (D.2 3 (by omega)) _).symm.trans e33
        have g35 := (B3 (Int.toNat (k1)) (by omega)).2.1
        rw [y34] at g35
        refine wq_bl (p' := 34) (n := 12) rfl rfl ((Or.inr (ib_k E7.1 3 rfl))) (by omega) ((congrFun (eb_a E7 3 rfl) _).trans e33) ?_
        refine wq_k1 (p' := 37) rfl rfl ⟨by omega, by omega⟩ (fun c36 => ?_) (fun c37 => ?_)
        · have c36 : v32 = (0) := c36
          refine av_wp_seq 2 (pc' := 2) (lv' := [some (.inr (.inr (.inl (some (b))))), some (.inl (k1 + (1))), some (.inl v28), a3, a4, a5]) (st' := []) (h' := h6) rfl ?_
          exact I15 _ (by omega) ((k1 + (1))) (some (.inl v28)) (a3) (a4) (a5) h6 (m10) (m11) (m12) rfl la3 la4 la5 (by omega) (by omega) E7 F8 (by rw [show Int.toNat (k1 + (1)) = Int.toNat k1 + 1 by omega]; exact yv_n X9 (by show ¬ yc u ro a0 s (Int.toNat k1) m12 = 1; unfold yc; rw [y30]; intro zz; split at zz <;> omega)) (by unfold MBR; show (-1 ≤ m10 ∧ m10 ≤ 11) ∧ (-1 ≤ m11 ∧ m11 ≤ 11) ∧ (-1 ≤ m12 ∧ m12 ≤ 9999); omega) rfl
        · have c37 : v32 ≠ (0) := c37
          refine av_wp_seq 1 (pc' := 38) (lv' := [some (.inr (.inr (.inl (some (b))))), some (.inl k1), some (.inl v28), a3, a4, a5]) (st' := [.inl v28]) (h' := h6) rfl ?_
          refine wq_k1 (p' := 41) rfl rfl ⟨by omega, by omega⟩ (fun c38 => ?_) (fun c39 => ?_)
          · have c38 : v28 < (0) := c38
            refine av_wp_seq 2 (pc' := 2) (lv' := [some (.inr (.inr (.inl (some (b))))), some (.inl (k1 + (1))), some (.inl v28), a3, a4, a5]) (st' := []) (h' := h6) rfl ?_
            exact I15 _ (by omega) ((k1 + (1))) (some (.inl v28)) (a3) (a4) (a5) h6 (m10) (m11) (m12) rfl la3 la4 la5 (by omega) (by omega) E7 F8 (by rw [show Int.toNat (k1 + (1)) = Int.toNat k1 + 1 by omega]; exact yv_n X9 (by show ¬ yc u ro a0 s (Int.toNat k1) m12 = 1; unfold yc; rw [y30]; intro zz; split at zz <;> omega)) (by unfold MBR; show (-1 ≤ m10 ∧ m10 ≤ 11) ∧ (-1 ≤ m11 ∧ m11 ≤ 11) ∧ (-1 ≤ m12 ∧ m12 ≤ 9999); omega) rfl
          · have c39 : (0) ≤ v28 := c39
            refine av_wp_seq 2 (pc' := 43) (lv' := [some (.inr (.inr (.inl (some (b))))), some (.inl k1), some (.inl v28), a3, a4, a5]) (st' := [.inl k1, .inl v28]) (h' := h6) rfl ?_
            refine wq_k2 (p' := 46) rfl rfl ⟨by omega, by omega⟩ ⟨by omega, by omega⟩ (fun c40 => ?_) (fun c41 => ?_)
            · have c40 : k1 ≤ v28 := c40
              refine av_wp_seq 2 (pc' := 2) (lv' := [some (.inr (.inr (.inl (some (b))))), some (.inl (k1 + (1))), some (.inl v28), a3, a4, a5]) (st' := []) (h' := h6) rfl ?_
              exact I15 _ (by omega) ((k1 + (1))) (some (.inl v28)) (a3) (a4) (a5) h6 (m10) (m11) (m12) rfl la3 la4 la5 (by omega) (by omega) E7 F8 (by rw [show Int.toNat (k1 + (1)) = Int.toNat k1 + 1 by omega]; exact yv_n X9 (by show ¬ yc u ro a0 s (Int.toNat k1) m12 = 1; unfold yc; rw [y30]; intro zz; split at zz <;> omega)) (by unfold MBR; show (-1 ≤ m10 ∧ m10 ≤ 11) ∧ (-1 ≤ m11 ∧ m11 ≤ 11) ∧ (-1 ≤ m12 ∧ m12 ≤ 9999); omega) rfl
            · have c41 : v28 < k1 := c41
              refine av_wp_seq 1 (pc' := 47) (lv' := [some (.inr (.inr (.inl (some (b))))), some (.inl k1), some (.inl v28), a3, a4, a5]) (st' := [.inr (.inr (.inl (some (b))))]) (h' := h6) rfl ?_
              refine wq_gr (p' := 50) rfl rfl (congrArg Prod.fst (ib_k0 E7.1)) rfl (ib_g E7.1 2 rfl) ?_
              refine av_wp_seq 1 (pc' := 51) (lv' := [some (.inr (.inr (.inl (some (b))))), some (.inl k1), some (.inl v28), a3, a4, a5]) (st' := [.inl v28, .inr (.inr (.inl (some (b + 1 + 2))))]) (h' := h6) rfl ?_
              obtain ⟨v43, e44⟩ : ∃ v, a 2 (Int.toNat (v28)) = v := ⟨_, rfl⟩
              have y45 : a0 2 (Int.toNat (v28)) = v43 := (congrFun (D.2 2 (by omega)) _).symm.trans e44
              have g46 := (B3 (Int.toNat (v28)) (by omega)).1
              rw [y45] at g46
              refine wq_bl (p' := 52) (n := 12) rfl rfl ((Or.inr (ib_k E7.1 2 rfl))) (by omega) ((congrFun (eb_a E7 2 rfl) _).trans e44) ?_
              refine wq_k1 (p' := 55) rfl rfl ⟨by omega, by omega⟩ (fun c47 => ?_) (fun c48 => ?_)
              · have c47 : v43 = (0) := c47
                refine av_wp_seq 2 (pc' := 2) (lv' := [some (.inr (.inr (.inl (some (b))))), some (.inl (k1 + (1))), some (.inl v28), a3, a4, a5]) (st' := []) (h' := h6) rfl ?_
                exact I15 _ (by omega) ((k1 + (1))) (some (.inl v28)) (a3) (a4) (a5) h6 (m10) (m11) (m12) rfl la3 la4 la5 (by omega) (by omega) E7 F8 (by rw [show Int.toNat (k1 + (1)) = Int.toNat k1 + 1 by omega]; exact yv_n X9 (by show ¬ yc u ro a0 s (Int.toNat k1) m12 = 1; unfold yc; rw [y30]; intro zz; split at zz <;> omega)) (by unfold MBR; show (-1 ≤ m10 ∧ m10 ≤ 11) ∧ (-1 ≤ m11 ∧ m11 ≤ 11) ∧ (-1 ≤ m12 ∧ m12 ≤ 9999); omega) rfl
              · have c48 : v43 ≠ (0) := c48
                refine av_wp_seq 4 (pc' := 59) (lv' := [some (.inr (.inr (.inl (some (b))))), some (.inl k1), some (.inl v28), a3, a4, a5]) (st' := [.inl k1, .inr (.inr (.inl (some (b)))), .inl k1, .inr (.inr (.inl (some (b))))]) (h' := h6) rfl ?_
                refine wq_cv (p' := 62) (av_qc (.invokevirtual 129) 13 1 0 0) 3 cd_13 [.inl k1] (b) 0 [some (.inr (.inr (.inl (some (b))))), some (.inl k1), none] rfl rfl rfl pp_13 rfl rfl rfl (congrArg Prod.fst (ib_k0 E7.1)) rfl rfl rfl rfl ?_
                refine cx_13 E7 F8 (k1) (by omega) ?_
                obtain ⟨v49, e50⟩ : ∃ v, yw u ro (Int.toNat (k1)) = v := ⟨_, rfl⟩
                have g51 := yw_r E7 (Int.toNat (k1))
                rw [e50] at g51
                rw [e50]
                show av_wp _ cd_12 62 [some (.inr (.inr (.inl (some (b))))), some (.inl k1), some (.inl v28), a3, a4, a5] [.inl v49, .inl k1, .inr (.inr (.inl (some (b))))] h6 _
                refine wq_cv (p' := 65) (av_qc (.invokevirtual 115) 6 2 0 0) 3 cd_6 [.inl v49, .inl k1] (b) 0 [some (.inr (.inr (.inl (some (b))))), some (.inl k1), some (.inl v49)] rfl rfl rfl pp_6 rfl rfl rfl (congrArg Prod.fst (ib_k0 E7.1)) rfl rfl rfl rfl ?_
                refine cx_6 E7 F8 (k1) (by omega) (v49) (by omega) ?_
                rw [hof_c (a := a0) (D.2 0 (by omega)) (by omega)]
                obtain ⟨v52, e53⟩ : ∃ v, hw a0 (Int.toNat (k1)) v49 = v := ⟨_, rfl⟩
                have g54 := hw_r H (k := Int.toNat (k1)) (by omega) v49
                rw [e53] at g54
                rw [e53]
                show av_wp _ cd_12 65 [some (.inr (.inr (.inl (some (b))))), some (.inl k1), some (.inl v28), a3, a4, a5] [.inl v52] h6 _
                refine av_wp_seq 4 (pc' := 69) (lv' := [some (.inr (.inr (.inl (some (b))))), some (.inl k1), some (.inl v28), some (.inl v52), a4, a5]) (st' := [.inl (1), .inl v28, .inr (.inr (.inl (some (b))))]) (h' := h6) rfl ?_
                refine wq_cv (p' := 72) (av_qc (.invokevirtual 115) 6 2 0 0) 3 cd_6 [.inl (1), .inl v28] (b) 0 [some (.inr (.inr (.inl (some (b))))), some (.inl v28), some (.inl (1))] rfl rfl rfl pp_6 rfl rfl rfl (congrArg Prod.fst (ib_k0 E7.1)) rfl rfl rfl rfl ?_
                refine cx_6 E7 F8 (v28) (by omega) ((1)) (by omega) ?_
                rw [hof_c (a := a0) (D.2 0 (by omega)) (by omega)]
                obtain ⟨v55, e56⟩ : ∃ v, hw a0 (Int.toNat (v28)) (1) = v := ⟨_, rfl⟩
                have g57 := hw_r H (k := Int.toNat (v28)) (by omega) (1)
                rw [e56] at g57
                rw [e56]
                show av_wp _ cd_12 72 [some (.inr (.inr (.inl (some (b))))), some (.inl k1), some (.inl v28), some (.inl v52), a4, a5] [.inl v55] h6 _
                refine av_wp_seq 3 (pc' := 77) (lv' := [some (.inr (.inr (.inl (some (b))))), some (.inl k1), some (.inl v28), some (.inl v52), some (.inl v55), a5]) (st' := [.inl (-1), .inl v55]) (h' := h6) rfl ?_
                refine wq_k2 (p' := 80) rfl rfl ⟨by omega, by omega⟩ ⟨by omega, by omega⟩ (fun c58 => ?_) (fun c59 => ?_)
                · have c58 : v55 = (-1) := c58
                  refine av_wp_seq 4 (pc' := 100) (lv' := [some (.inr (.inr (.inl (some (b))))), some (.inl k1), some (.inl v28), some (.inl v52), some (.inl v55), some (.inl (0))]) (st' := [.inr (.inr (.inl (some (b)))), .inl v52]) (h' := h6) rfl ?_
                  refine wq_gi (p' := 103) rfl rfl (congrArg Prod.fst (ib_k0 E7.1)) rfl (eb_z E7) ?_
                  refine wq_k2 (p' := 106) rfl rfl ⟨by omega, by omega⟩ ⟨by omega, by omega⟩ (fun c60 => ?_) (fun c61 => ?_)
                  · have c60 : m12 ≤ v52 := c60
                    refine av_wp_seq 2 (pc' := 2) (lv' := [some (.inr (.inr (.inl (some (b))))), some (.inl (k1 + (1))), some (.inl v28), some (.inl v52), some (.inl v55), some (.inl (0))]) (st' := []) (h' := h6) rfl ?_
                    exact I15 _ (by omega) ((k1 + (1))) (some (.inl v28)) (some (.inl v52)) (some (.inl v55)) (some (.inl (0))) h6 (m10) (m11) (m12) rfl rfl rfl rfl (by omega) (by omega) E7 F8 (by rw [show Int.toNat (k1 + (1)) = Int.toNat k1 + 1 by omega]; exact yv_n X9 (by show ¬ yc u ro a0 s (Int.toNat k1) m12 = 1; unfold yc; rw [y30, e50, e53]; intro zz; split at zz <;> omega)) (by unfold MBR; show (-1 ≤ m10 ∧ m10 ≤ 11) ∧ (-1 ≤ m11 ∧ m11 ≤ 11) ∧ (-1 ≤ m12 ∧ m12 ≤ 9999); omega) rfl
                  · have c61 : v52 < m12 := c61
                    refine av_wp_seq 4 (pc' := 2) (lv' := [some (.inr (.inr (.inl (some (b))))), some (.inl (k1 + (1))), some (.inl v28), some (.inl v52), some (.inl v55), some (.inl (0))]) (st' := []) (h' := h6) rfl ?_
                    exact I15 _ (by omega) ((k1 + (1))) (some (.inl v28)) (some (.inl v52)) (some (.inl v55)) (some (.inl (0))) h6 (m10) (m11) (m12) rfl rfl rfl rfl (by omega) (by omega) E7 F8 (by rw [show Int.toNat (k1 + (1)) = Int.toNat k1 + 1 by omega]; exact yv_n X9 (by show ¬ yc u ro a0 s (Int.toNat k1) m12 = 1; unfold yc; rw [y30, e50, e53]; intro zz; split at zz <;> omega)) (by unfold MBR; show (-1 ≤ m10 ∧ m10 ≤ 11) ∧ (-1 ≤ m11 ∧ m11 ≤ 11) ∧ (-1 ≤ m12 ∧ m12 ≤ 9999); omega) rfl
                · have c59 : v55 ≠ (-1) := c59
                  refine av_wp_seq 4 (pc' := 85) (lv' := [some (.inr (.inr (.inl (some (b))))), some (.inl k1), some (.inl v28), some (.inl v52), some (.inl v55), a5]) (st' := [.inl (0), .inl k1, .inr (.inr (.inl (some (b)))), .inl v55]) (h' := h6) rfl ?_
                  refine wq_cv (p' := 88) (av_qc (.invokevirtual 115) 6 2 0 0) 3 cd_6 [.inl (0), .inl k1] (b) 0 [some (.inr (.inr (.inl (some (b))))), some (.inl k1), some (.inl (0))] rfl rfl rfl pp_6 rfl rfl rfl (congrArg Prod.fst (ib_k0 E7.1)) rfl rfl rfl rfl ?_
                  refine cx_6 E7 F8 (k1) (by omega) ((0)) (by omega) ?_
                  rw [hof_c (a := a0) (D.2 0 (by omega)) (by omega)]
                  obtain ⟨v62, e63⟩ : ∃ v, hw a0 (Int.toNat (k1)) (0) = v := ⟨_, rfl⟩
                  have g64 := hw_r H (k := Int.toNat (k1)) (by omega) (0)
                  rw [e63] at g64
                  rw [e63]
                  show av_wp _ cd_12 88 [some (.inr (.inr (.inl (some (b))))), some (.inl k1), some (.inl v28), some (.inl v52), some (.inl v55), a5] [.inl v62, .inl v55] h6 _
                  refine wq_k2 (p' := 91) rfl rfl ⟨by omega, by omega⟩ ⟨by omega, by omega⟩ (fun c65 => ?_) (fun c66 => ?_)
                  · have c65 : v62 < v55 := c65
                    refine av_wp_seq 4 (pc' := 100) (lv' := [some (.inr (.inr (.inl (some (b))))), some (.inl k1), some (.inl v28), some (.inl v52), some (.inl v55), some (.inl (0))]) (st' := [.inr (.inr (.inl (some (b)))), .inl v52]) (h' := h6) rfl ?_
                    refine wq_gi (p' := 103) rfl rfl (congrArg Prod.fst (ib_k0 E7.1)) rfl (eb_z E7) ?_
                    refine wq_k2 (p' := 106) rfl rfl ⟨by omega, by omega⟩ ⟨by omega, by omega⟩ (fun c67 => ?_) (fun c68 => ?_)
                    · have c67 : m12 ≤ v52 := c67
                      refine av_wp_seq 2 (pc' := 2) (lv' := [some (.inr (.inr (.inl (some (b))))), some (.inl (k1 + (1))), some (.inl v28), some (.inl v52), some (.inl v55), some (.inl (0))]) (st' := []) (h' := h6) rfl ?_
                      exact I15 _ (by omega) ((k1 + (1))) (some (.inl v28)) (some (.inl v52)) (some (.inl v55)) (some (.inl (0))) h6 (m10) (m11) (m12) rfl rfl rfl rfl (by omega) (by omega) E7 F8 (by rw [show Int.toNat (k1 + (1)) = Int.toNat k1 + 1 by omega]; exact yv_n X9 (by show ¬ yc u ro a0 s (Int.toNat k1) m12 = 1; unfold yc; rw [y30, e50, e53]; intro zz; split at zz <;> omega)) (by unfold MBR; show (-1 ≤ m10 ∧ m10 ≤ 11) ∧ (-1 ≤ m11 ∧ m11 ≤ 11) ∧ (-1 ≤ m12 ∧ m12 ≤ 9999); omega) rfl
                    · have c68 : v52 < m12 := c68
                      refine av_wp_seq 4 (pc' := 2) (lv' := [some (.inr (.inr (.inl (some (b))))), some (.inl (k1 + (1))), some (.inl v28), some (.inl v52), some (.inl v55), some (.inl (0))]) (st' := []) (h' := h6) rfl ?_
                      exact I15 _ (by omega) ((k1 + (1))) (some (.inl v28)) (some (.inl v52)) (some (.inl v55)) (some (.inl (0))) h6 (m10) (m11) (m12) rfl rfl rfl rfl (by omega) (by omega) E7 F8 (by rw [show Int.toNat (k1 + (1)) = Int.toNat k1 + 1 by omega]; exact yv_n X9 (by show ¬ yc u ro a0 s (Int.toNat k1) m12 = 1; unfold yc; rw [y30, e50, e53]; intro zz; split at zz <;> omega)) (by unfold MBR; show (-1 ≤ m10 ∧ m10 ≤ 11) ∧ (-1 ≤ m11 ∧ m11 ≤ 11) ∧ (-1 ≤ m12 ∧ m12 ≤ 9999); omega) rfl
                  · have c66 : v55 ≤ v62 := c66
                    refine av_wp_seq 5 (pc' := 100) (lv' := [some (.inr (.inr (.inl (some (b))))), some (.inl k1), some (.inl v28), some (.inl v52), some (.inl v55), some (.inl (1))]) (st' := [.inr (.inr (.inl (some (b)))), .inl v52]) (h' := h6) rfl ?_
                    refine wq_gi (p' := 103) rfl rfl (congrArg Prod.fst (ib_k0 E7.1)) rfl (eb_z E7) ?_
                    refine wq_k2 (p' := 106) rfl rfl ⟨by omega, by omega⟩ ⟨by omega, by omega⟩ (fun c69 => ?_) (fun c70 => ?_)
                    · have c69 : m12 ≤ v52 := c69
                      refine av_wp_seq 2 (pc' := 2) (lv' := [some (.inr (.inr (.inl (some (b))))), some (.inl (k1 + (1))), some (.inl v28), some (.inl v52), some (.inl v55), some (.inl (1))]) (st' := []) (h' := h6) rfl ?_
                      exact I15 _ (by omega) ((k1 + (1))) (some (.inl v28)) (some (.inl v52)) (some (.inl v55)) (some (.inl (1))) h6 (m10) (m11) (m12) rfl rfl rfl rfl (by omega) (by omega) E7 F8 (by rw [show Int.toNat (k1 + (1)) = Int.toNat k1 + 1 by omega]; exact yv_n X9 (by show ¬ yc u ro a0 s (Int.toNat k1) m12 = 1; unfold yc; rw [y30, e50, e53]; intro zz; split at zz <;> omega)) (by unfold MBR; show (-1 ≤ m10 ∧ m10 ≤ 11) ∧ (-1 ≤ m11 ∧ m11 ≤ 11) ∧ (-1 ≤ m12 ∧ m12 ≤ 9999); omega) rfl
                    · have c70 : v52 < m12 := c70
                      refine av_wp_seq 3 (pc' := 112) (lv' := [some (.inr (.inr (.inl (some (b))))), some (.inl k1), some (.inl v28), some (.inl v52), some (.inl v55), some (.inl (1))]) (st' := [.inr (.inr (.inl (some (b))))]) (h' := h6) rfl ?_
                      refine wq_gr (p' := 115) rfl rfl (congrArg Prod.fst (ib_k0 E7.1)) rfl (ib_g E7.1 9 rfl) ?_
                      refine av_wp_seq 1 (pc' := 116) (lv' := [some (.inr (.inr (.inl (some (b))))), some (.inl k1), some (.inl v28), some (.inl v52), some (.inl v55), some (.inl (1))]) (st' := [.inl k1, .inr (.inr (.inl (some (b + 1 + 9))))]) (h' := h6) rfl ?_
                      obtain ⟨v72, e73⟩ : ∃ v, a 9 (Int.toNat (k1)) = v := ⟨_, rfl⟩
                      have y74 := (D.1 (Int.toNat (k1)) (by omega)).1
                      rw [e73] at y74
                      have g75 := tbv_r (u := u) (ro := ro) H (Int.toNat (k1)) s (Nat.le_refl s)
                      rw [← y74] at g75
                      refine wq_al (p' := 117) (n := 12) rfl rfl (ib_k E7.1 9 rfl) (by omega) ((congrFun (eb_a E7 9 rfl) _).trans e73) ?_
                      refine av_wp_seq 1 (pc' := 118) (lv' := [some (.inr (.inr (.inl (some (b))))), some (.inl k1), some (.inl v28), some (.inl v52), some (.inl v55), some (.inl (1))]) (st' := [.inl v52, .inl v72]) (h' := h6) rfl ?_
                      refine wq_k2 (p' := 121) rfl rfl ⟨by omega, by omega⟩ ⟨by omega, by omega⟩ (fun c76 => ?_) (fun c77 => ?_)
                      · have c76 : v72 < v52 := c76
                        refine av_wp_seq 2 (pc' := 2) (lv' := [some (.inr (.inr (.inl (some (b))))), some (.inl (k1 + (1))), some (.inl v28), some (.inl v52), some (.inl v55), some (.inl (1))]) (st' := []) (h' := h6) rfl ?_
                        exact I15 _ (by omega) ((k1 + (1))) (some (.inl v28)) (some (.inl v52)) (some (.inl v55)) (some (.inl (1))) h6 (m10) (m11) (m12) rfl rfl rfl rfl (by omega) (by omega) E7 F8 (by rw [show Int.toNat (k1 + (1)) = Int.toNat k1 + 1 by omega]; exact yv_n X9 (by show ¬ yc u ro a0 s (Int.toNat k1) m12 = 1; unfold yc; rw [y30, e50, e53]; intro zz; split at zz <;> omega)) (by unfold MBR; show (-1 ≤ m10 ∧ m10 ≤ 11) ∧ (-1 ≤ m11 ∧ m11 ≤ 11) ∧ (-1 ≤ m12 ∧ m12 ≤ 9999); omega) rfl
                      · have c77 : v52 ≤ v72 := c77
                        refine av_wp_seq 3 (pc' := 124) (lv' := [some (.inr (.inr (.inl (some (b))))), some (.inl k1), some (.inl v28), some (.inl v52), some (.inl v55), some (.inl (1))]) (st' := [.inl v52, .inl v28, .inr (.inr (.inl (some (b))))]) (h' := h6) rfl ?_
                        refine wq_cv (p' := 127) (av_qc (.invokevirtual 132) 16 2 0 0) 3 cd_16 [.inl v52, .inl v28] (b) 0 [some (.inr (.inr (.inl (some (b))))), some (.inl v28), some (.inl v52)] rfl rfl rfl pp_16 rfl rfl rfl (congrArg Prod.fst (ib_k0 E7.1)) rfl rfl rfl rfl ?_
                        refine cx_16 E7 F8 (v28) (by omega) (v52) (by omega) (by rw [(D.1 (Int.toNat (v28)) (by omega)).2.2.1]; have := o5_r (ro := ro) H (q := (Int.toNat (v28))) (by omega); omega) (by rw [show a 6 (Int.toNat (v28)) = (eav u ro a0 s (Int.toNat (v28)) s).1 from congrArg Prod.fst (D.1 (Int.toNat (v28)) (by omega)).2.1]; have := (eav_r H U2 U1 R9 s12 (q := (Int.toNat (v28))) (by omega) s (Nat.le_refl s)).1; omega) (fun v78 p79 => ?_)
                        rw [(D.1 (Int.toNat (v28)) (by omega)).2.2.1, show a 6 (Int.toNat (v28)) = (eav u ro a0 s (Int.toNat (v28)) s).1 from congrArg Prod.fst (D.1 (Int.toNat (v28)) (by omega)).2.1] at p79
                        have g80 := opn_r (o5 ro a0 (Int.toNat (v28))) (eav u ro a0 s (Int.toNat (v28)) s).1 (v52)
                        rw [← p79] at g80
                        show av_wp _ cd_12 127 [some (.inr (.inr (.inl (some (b))))), some (.inl k1), some (.inl v28), some (.inl v52), some (.inl v55), some (.inl (1))] [.inl v78] h6 _
                        refine wq_k1 (p' := 130) rfl rfl ⟨by omega, by omega⟩ (fun c81 => ?_) (fun c82 => ?_)
                        · have c81 : v78 = (0) := c81
                          refine av_wp_seq 2 (pc' := 2) (lv' := [some (.inr (.inr (.inl (some (b))))), some (.inl (k1 + (1))), some (.inl v28), some (.inl v52), some (.inl v55), some (.inl (1))]) (st' := []) (h' := h6) rfl ?_
                          exact I15 _ (by omega) ((k1 + (1))) (some (.inl v28)) (some (.inl v52)) (some (.inl v55)) (some (.inl (1))) h6 (m10) (m11) (m12) rfl rfl rfl rfl (by omega) (by omega) E7 F8 (by rw [show Int.toNat (k1 + (1)) = Int.toNat k1 + 1 by omega]; exact yv_n X9 (by show ¬ yc u ro a0 s (Int.toNat k1) m12 = 1; unfold yc; rw [y30, e50, e53]; intro zz; split at zz <;> omega)) (by unfold MBR; show (-1 ≤ m10 ∧ m10 ≤ 11) ∧ (-1 ≤ m11 ∧ m11 ≤ 11) ∧ (-1 ≤ m12 ∧ m12 ≤ 9999); omega) rfl
                        · have c82 : v78 ≠ (0) := c82
                          refine av_wp_seq 2 (pc' := 132) (lv' := [some (.inr (.inr (.inl (some (b))))), some (.inl k1), some (.inl v28), some (.inl v52), some (.inl v55), some (.inl (1))]) (st' := [.inl k1, .inr (.inr (.inl (some (b))))]) (h' := h6) rfl ?_
                          refine xb_p13 (p' := 135) rfl rfl E7 F8 (by omega) (fun h83 E84 F85 => ?_)
                          refine av_wp_seq 2 (pc' := 137) (lv' := [some (.inr (.inr (.inl (some (b))))), some (.inl k1), some (.inl v28), some (.inl v52), some (.inl v55), some (.inl (1))]) (st' := [.inl v28, .inr (.inr (.inl (some (b))))]) (h' := h83) rfl ?_
                          refine xb_p14 (p' := 140) rfl rfl E84 F85 (by omega) (fun h86 E87 F88 => ?_)
                          refine av_wp_seq 2 (pc' := 142) (lv' := [some (.inr (.inr (.inl (some (b))))), some (.inl k1), some (.inl v28), some (.inl v52), some (.inl v55), some (.inl (1))]) (st' := [.inl v52, .inr (.inr (.inl (some (b))))]) (h' := h86) rfl ?_
                          refine xb_p15 (p' := 145) rfl rfl E87 F88 (fun h89 E90 F91 => ?_)
                          refine av_wp_seq 2 (pc' := 2) (lv' := [some (.inr (.inr (.inl (some (b))))), some (.inl (k1 + (1))), some (.inl v28), some (.inl v52), some (.inl v55), some (.inl (1))]) (st' := []) (h' := h89) rfl ?_
                          exact I15 _ (by omega) ((k1 + (1))) (some (.inl v28)) (some (.inl v52)) (some (.inl v55)) (some (.inl (1))) h89 (k1) (v28) (v52) rfl rfl rfl rfl (by omega) (by omega) E90 F91 (by rw [show Int.toNat (k1 + (1)) = Int.toNat k1 + 1 by omega, yv_y (h := v52) X9 (by show yc u ro a0 s (Int.toNat k1) m12 = 1; unfold yc; rw [y30, e50, e53]; exact if_pos (by omega)) y30 (by rw [e50]; exact e53)]; refine Prod.ext ?_ rfl; show ((Int.toNat k1 : Nat) : Int) = k1; omega) (by unfold MBR; show (-1 ≤ k1 ∧ k1 ≤ 11) ∧ (-1 ≤ v28 ∧ v28 ≤ 11) ∧ (-1 ≤ v52 ∧ v52 ≤ 9999); omega) rfl
  exact L14 _ ((0)) (none) (none) (none) (none) h (mb) (mo) (ma) rfl rfl rfl rfl (by omega) (by omega) E F hy0 hm0 rfl

set_option maxRecDepth 100000 in
set_option maxHeartbeats 4000000 in
theorem cx_14 {g h : av_H} {b t c s r : Nat} {cb : Int} {u ro : Nat → Int} {a : Nat → Nat → Int} {mb mo ma : Int} (E : EB b t c s r cb u ro a mb mo ma h) (F : FN b g h) {a0 : Nat → Nat → Int} (D : DEC u ro a0 s a) (h8 : -1 ≤ ro 8) (hy0 : sv u ro a0 s 0 = (mb, mo, ma)) (hm0 : MBR (mb, mo, ma)) (H : HBd s a0) (B3 : BZ s a0) (U2 : ∀ j, u j ≤ 2000 ∨ j % 21 = 20) {Q : Option av_V → av_H → Prop} (hq : ∀ h' m1 m2 m3, EB b t c s r cb u ro a m1 m2 m3 h' → FN b g h' → sv u ro a0 s s = (m1, m2, m3) → MBR (m1, m2, m3) → Q none h') : av_wp none cd_14 0 [some (.inr (.inr (.inl (some (b))))), none, none, none] [] h Q := by
  have s12 := co_s12 (ib_co E.1)
  have cbr := co_cbr (ib_co E.1)
  have mbr := eb_xr E
  have mor := eb_yr E
  have U1 := fun j => (eb_uv E j).1
  have R9 := eb_rv E
  refine av_wp_seq 2 (pc' := 2) (lv' := [some (.inr (.inr (.inl (some (b))))), some (.inl (0)), none, none]) (st' := []) (h' := h) rfl ?_
  have L12 : ∀ (m11 : Nat) (k1 : Int) (a2 : Option av_V) (a3 : Option av_V) (h4 : av_H) (m8 : Int) (m9 : Int) (m10 : Int), av_lg a2 = false → av_lg a3 = false → k1 ≤ (s : Int) → (0 ≤ k1 ∧ k1 ≤ 12) → EB b t c s r cb u ro a m8 m9 m10 h4 → FN b g h4 → sv u ro a0 s (Int.toNat k1) = (m8, m9, m10) → MBR (m8, m9, m10) → ((s : Int) - k1).toNat = m11 → av_wp none cd_14 2 [some (.inr (.inr (.inl (some (b))))), some (.inl k1), a2, a3] [] h4 Q := by
    intro m11
    induction m11 using Nat.strongRecOn with
    | _ m11 I13 =>
      intro k1 a2 a3 h4 m8 m9 m10 g15 g16 g17 g18 E5 F6 X7 X7r e14
      have la2 := g15
      have la3 := g16
      refine av_wp_seq 2 (pc' := 4) (lv' := [some (.inr (.inr (.inl (some (b))))), some (.inl k1), a2, a3]) (st' := [.inr (.inr (.inl (some (b)))), .inl k1]) (h' := h4) rfl ?_
      refine wq_gr (p' := 7) rfl rfl (congrArg Prod.fst (ib_k0 E5.1)) rfl (ib_t E5.1) ?_
      refine wq_gi (p' := 10) rfl rfl (congrArg Prod.fst (co_kt (ib_co E5.1))) rfl (co_s (ib_co E5.1)) ?_
      refine wq_k2 (p' := 13) rfl rfl ⟨by omega, by omega⟩ ⟨by omega, by omega⟩ (fun c19 => ?_) (fun c20 => ?_)
      · have c19 : (s : Int) ≤ k1 := c19
        refine av_wp_ret (v := none) rfl rfl rfl ?_
        have z21 : Int.toNat k1 = s := by omega
        rw [z21] at X7
        exact hq h4 _ _ _ E5 F6 X7 X7r
      · have c20 : k1 < (s : Int) := c20
        have g22 : (-1 ≤ m8 ∧ m8 ≤ 11) ∧ (-1 ≤ m9 ∧ m9 ≤ 11) ∧ (-1 ≤ m10 ∧ m10 ≤ 9999) := X7r
        refine av_wp_seq 3 (pc' := 16) (lv' := [some (.inr (.inr (.inl (some (b))))), some (.inl k1), a2, a3]) (st' := [.inl (2), .inl k1, .inr (.inr (.inl (some (b))))]) (h' := h4) rfl ?_
        refine wq_cv (p' := 19) (av_qc (.invokevirtual 115) 6 2 0 0) 3 cd_6 [.inl (2), .inl k1] (b) 0 [some (.inr (.inr (.inl (some (b))))), some (.inl k1), some (.inl (2))] rfl rfl rfl pp_6 rfl rfl rfl (congrArg Prod.fst (ib_k0 E5.1)) rfl rfl rfl rfl ?_
        refine cx_6 E5 F6 (k1) (by omega) ((2)) (by omega) ?_
        rw [hof_c (a := a0) (D.2 0 (by omega)) (by omega)]
        obtain ⟨v23, e24⟩ : ∃ v, hw a0 (Int.toNat (k1)) (2) = v := ⟨_, rfl⟩
        have g25 := hw_r H (k := Int.toNat (k1)) (by omega) (2)
        rw [e24] at g25
        rw [e24]
        show av_wp _ cd_14 19 [some (.inr (.inr (.inl (some (b))))), some (.inl k1), a2, a3] [.inl v23] h4 _
        refine av_wp_seq 3 (pc' := 22) (lv' := [some (.inr (.inr (.inl (some (b))))), some (.inl k1), some (.inl v23), a3]) (st' := [.inr (.inr (.inl (some (b)))), .inl v23]) (h' := h4) rfl ?_
        refine wq_gr (p' := 25) rfl rfl (congrArg Prod.fst (ib_k0 E5.1)) rfl (ib_r E5.1) ?_
        refine av_wp_seq 1 (pc' := 27) (lv' := [some (.inr (.inr (.inl (some (b))))), some (.inl k1), some (.inl v23), a3]) (st' := [.inl (8), .inr (.inr (.inl (some (r)))), .inl v23]) (h' := h4) rfl ?_
        obtain ⟨v27, e28⟩ : ∃ v, ro 8 = v := ⟨_, rfl⟩
        have g26 := eb_rv E5 8
        rw [e28] at g26
        refine wq_al (p' := 28) (n := 14) rfl rfl (ib_kr E5.1) (by omega) ((congrFun (eb_ro E5) _).trans e28) ?_
        refine av_wp_seq 3 (pc' := 31) (lv' := [some (.inr (.inr (.inl (some (b))))), some (.inl k1), some (.inl v23), some (.inl (v23 + v27))]) (st' := [.inr (.inr (.inl (some (b))))]) (h' := h4) rfl ?_
        refine wq_gr (p' := 34) rfl rfl (congrArg Prod.fst (ib_k0 E5.1)) rfl (ib_g E5.1 2 rfl) ?_
        refine av_wp_seq 1 (pc' := 35) (lv' := [some (.inr (.inr (.inl (some (b))))), some (.inl k1), some (.inl v23), some (.inl (v23 + v27))]) (st' := [.inl k1, .inr (.inr (.inl (some (b + 1 + 2))))]) (h' := h4) rfl ?_
        obtain ⟨v30, e31⟩ : ∃ v, a 2 (Int.toNat (k1)) = v := ⟨_, rfl⟩
        have y32 : a0 2 (Int.toNat (k1)) = v30 := (congrFun (D.2 2 (by omega)) _).symm.trans e31
        have g33 := (B3 (Int.toNat (k1)) (by omega)).1
        rw [y32] at g33
        refine wq_bl (p' := 36) (n := 12) rfl rfl ((Or.inr (ib_k E5.1 2 rfl))) (by omega) ((congrFun (eb_a E5 2 rfl) _).trans e31) ?_
        refine wq_k1 (p' := 39) rfl rfl ⟨by omega, by omega⟩ (fun c34 => ?_) (fun c35 => ?_)
        · have c34 : v30 = (0) := c34
          refine av_wp_seq 2 (pc' := 2) (lv' := [some (.inr (.inr (.inl (some (b))))), some (.inl (k1 + (1))), some (.inl v23), some (.inl (v23 + v27))]) (st' := []) (h' := h4) rfl ?_
          exact I13 _ (by omega) ((k1 + (1))) (some (.inl v23)) (some (.inl (v23 + v27))) h4 (m8) (m9) (m10) rfl rfl (by omega) (by omega) E5 F6 (by rw [show Int.toNat (k1 + (1)) = Int.toNat k1 + 1 by omega]; exact sv_n X7 (by show ¬ slc u ro a0 s (Int.toNat k1) m10 = 1; unfold slc; rw [e24, e28]; intro zz; split at zz <;> omega)) (by unfold MBR; show (-1 ≤ m8 ∧ m8 ≤ 11) ∧ (-1 ≤ m9 ∧ m9 ≤ 11) ∧ (-1 ≤ m10 ∧ m10 ≤ 9999); omega) rfl
        · have c35 : v30 ≠ (0) := c35
          refine av_wp_seq 2 (pc' := 41) (lv' := [some (.inr (.inr (.inl (some (b))))), some (.inl k1), some (.inl v23), some (.inl (v23 + v27))]) (st' := [.inl (-1), .inl v23]) (h' := h4) rfl ?_
          refine wq_k2 (p' := 44) rfl rfl ⟨by omega, by omega⟩ ⟨by omega, by omega⟩ (fun c36 => ?_) (fun c37 => ?_)
          · have c36 : v23 = (-1) := c36
            refine av_wp_seq 2 (pc' := 2) (lv' := [some (.inr (.inr (.inl (some (b))))), some (.inl (k1 + (1))), some (.inl v23), some (.inl (v23 + v27))]) (st' := []) (h' := h4) rfl ?_
            exact I13 _ (by omega) ((k1 + (1))) (some (.inl v23)) (some (.inl (v23 + v27))) h4 (m8) (m9) (m10) rfl rfl (by omega) (by omega) E5 F6 (by rw [show Int.toNat (k1 + (1)) = Int.toNat k1 + 1 by omega]; exact sv_n X7 (by show ¬ slc u ro a0 s (Int.toNat k1) m10 = 1; unfold slc; rw [e24, e28]; intro zz; split at zz <;> omega)) (by unfold MBR; show (-1 ≤ m8 ∧ m8 ≤ 11) ∧ (-1 ≤ m9 ∧ m9 ≤ 11) ∧ (-1 ≤ m10 ∧ m10 ≤ 9999); omega) rfl
          · have c37 : v23 ≠ (-1) := c37
            refine av_wp_seq 2 (pc' := 46) (lv' := [some (.inr (.inr (.inl (some (b))))), some (.inl k1), some (.inl v23), some (.inl (v23 + v27))]) (st' := [.inr (.inr (.inl (some (b)))), .inl (v23 + v27)]) (h' := h4) rfl ?_
            refine wq_gi (p' := 49) rfl rfl (congrArg Prod.fst (ib_k0 E5.1)) rfl (eb_z E5) ?_
            refine wq_k2 (p' := 52) rfl rfl ⟨by omega, by omega⟩ ⟨by omega, by omega⟩ (fun c38 => ?_) (fun c39 => ?_)
            · have c38 : m10 ≤ (v23 + v27) := c38
              refine av_wp_seq 2 (pc' := 2) (lv' := [some (.inr (.inr (.inl (some (b))))), some (.inl (k1 + (1))), some (.inl v23), some (.inl (v23 + v27))]) (st' := []) (h' := h4) rfl ?_
              exact I13 _ (by omega) ((k1 + (1))) (some (.inl v23)) (some (.inl (v23 + v27))) h4 (m8) (m9) (m10) rfl rfl (by omega) (by omega) E5 F6 (by rw [show Int.toNat (k1 + (1)) = Int.toNat k1 + 1 by omega]; exact sv_n X7 (by show ¬ slc u ro a0 s (Int.toNat k1) m10 = 1; unfold slc; rw [e24, e28]; intro zz; split at zz <;> omega)) (by unfold MBR; show (-1 ≤ m8 ∧ m8 ≤ 11) ∧ (-1 ≤ m9 ∧ m9 ≤ 11) ∧ (-1 ≤ m10 ∧ m10 ≤ 9999); omega) rfl
            · have c39 : (v23 + v27) < m10 := c39
              refine av_wp_seq 1 (pc' := 53) (lv' := [some (.inr (.inr (.inl (some (b))))), some (.inl k1), some (.inl v23), some (.inl (v23 + v27))]) (st' := [.inr (.inr (.inl (some (b))))]) (h' := h4) rfl ?_
              refine wq_gr (p' := 56) rfl rfl (congrArg Prod.fst (ib_k0 E5.1)) rfl (ib_g E5.1 10 rfl) ?_
              refine av_wp_seq 1 (pc' := 57) (lv' := [some (.inr (.inr (.inl (some (b))))), some (.inl k1), some (.inl v23), some (.inl (v23 + v27))]) (st' := [.inl k1, .inr (.inr (.inl (some (b + 1 + 10))))]) (h' := h4) rfl ?_
              obtain ⟨v41, e42⟩ : ∃ v, a 10 (Int.toNat (k1)) = v := ⟨_, rfl⟩
              have y43 := (D.1 (Int.toNat (k1)) (by omega)).2.2.2
              rw [e42] at y43
              have g44 := awv_r (u := u) H (Int.toNat (k1)) s (Nat.le_refl s)
              rw [← y43] at g44
              refine wq_al (p' := 58) (n := 12) rfl rfl (ib_k E5.1 10 rfl) (by omega) ((congrFun (eb_a E5 10 rfl) _).trans e42) ?_
              refine av_wp_seq 1 (pc' := 59) (lv' := [some (.inr (.inr (.inl (some (b))))), some (.inl k1), some (.inl v23), some (.inl (v23 + v27))]) (st' := [.inl (v23 + v27), .inl v41]) (h' := h4) rfl ?_
              refine wq_k2 (p' := 62) rfl rfl ⟨by omega, by omega⟩ ⟨by omega, by omega⟩ (fun c45 => ?_) (fun c46 => ?_)
              · have c45 : v41 ≤ (v23 + v27) := c45
                refine av_wp_seq 2 (pc' := 2) (lv' := [some (.inr (.inr (.inl (some (b))))), some (.inl (k1 + (1))), some (.inl v23), some (.inl (v23 + v27))]) (st' := []) (h' := h4) rfl ?_
                exact I13 _ (by omega) ((k1 + (1))) (some (.inl v23)) (some (.inl (v23 + v27))) h4 (m8) (m9) (m10) rfl rfl (by omega) (by omega) E5 F6 (by rw [show Int.toNat (k1 + (1)) = Int.toNat k1 + 1 by omega]; exact sv_n X7 (by show ¬ slc u ro a0 s (Int.toNat k1) m10 = 1; unfold slc; rw [e24, e28]; intro zz; split at zz <;> omega)) (by unfold MBR; show (-1 ≤ m8 ∧ m8 ≤ 11) ∧ (-1 ≤ m9 ∧ m9 ≤ 11) ∧ (-1 ≤ m10 ∧ m10 ≤ 9999); omega) rfl
              · have c46 : (v23 + v27) < v41 := c46
                refine av_wp_seq 3 (pc' := 65) (lv' := [some (.inr (.inr (.inl (some (b))))), some (.inl k1), some (.inl v23), some (.inl (v23 + v27))]) (st' := [.inl (v23 + v27), .inl k1, .inr (.inr (.inl (some (b))))]) (h' := h4) rfl ?_
                refine wq_cv (p' := 68) (av_qc (.invokevirtual 132) 16 2 0 0) 3 cd_16 [.inl (v23 + v27), .inl k1] (b) 0 [some (.inr (.inr (.inl (some (b))))), some (.inl k1), some (.inl (v23 + v27))] rfl rfl rfl pp_16 rfl rfl rfl (congrArg Prod.fst (ib_k0 E5.1)) rfl rfl rfl rfl ?_
                refine cx_16 E5 F6 (k1) (by omega) ((v23 + v27)) (by omega) (by rw [(D.1 (Int.toNat (k1)) (by omega)).2.2.1]; have := o5_r (ro := ro) H (q := (Int.toNat (k1))) (by omega); omega) (by rw [show a 6 (Int.toNat (k1)) = (eav u ro a0 s (Int.toNat (k1)) s).1 from congrArg Prod.fst (D.1 (Int.toNat (k1)) (by omega)).2.1]; have := (eav_r H U2 U1 R9 s12 (q := (Int.toNat (k1))) (by omega) s (Nat.le_refl s)).1; omega) (fun v47 p48 => ?_)
                rw [(D.1 (Int.toNat (k1)) (by omega)).2.2.1, show a 6 (Int.toNat (k1)) = (eav u ro a0 s (Int.toNat (k1)) s).1 from congrArg Prod.fst (D.1 (Int.toNat (k1)) (by omega)).2.1] at p48
                have g49 := opn_r (o5 ro a0 (Int.toNat (k1))) (eav u ro a0 s (Int.toNat (k1)) s).1 ((v23 + v27))
                rw [← p48] at g49
                show av_wp _ cd_14 68 [some (.inr (.inr (.inl (some (b))))), some (.inl k1), some (.inl v23), some (.inl (v23 + v27))] [.inl v47] h4 _
                refine wq_k1 (p' := 71) rfl rfl ⟨by omega, by omega⟩ (fun c50 => ?_) (fun c51 => ?_)
                · have c50 : v47 = (0) := c50
                  refine av_wp_seq 2 (pc' := 2) (lv' := [some (.inr (.inr (.inl (some (b))))), some (.inl (k1 + (1))), some (.inl v23), some (.inl (v23 + v27))]) (st' := []) (h' := h4) rfl ?_
                  exact I13 _ (by omega) ((k1 + (1))) (some (.inl v23)) (some (.inl (v23 + v27))) h4 (m8) (m9) (m10) rfl rfl (by omega) (by omega) E5 F6 (by rw [show Int.toNat (k1 + (1)) = Int.toNat k1 + 1 by omega]; exact sv_n X7 (by show ¬ slc u ro a0 s (Int.toNat k1) m10 = 1; unfold slc; rw [e24, e28]; intro zz; split at zz <;> omega)) (by unfold MBR; show (-1 ≤ m8 ∧ m8 ≤ 11) ∧ (-1 ≤ m9 ∧ m9 ≤ 11) ∧ (-1 ≤ m10 ∧ m10 ≤ 9999); omega) rfl
                · have c51 : v47 ≠ (0) := c51
                  refine av_wp_seq 2 (pc' := 73) (lv' := [some (.inr (.inr (.inl (some (b))))), some (.inl k1), some (.inl v23), some (.inl (v23 + v27))]) (st' := [.inl (-1), .inr (.inr (.inl (some (b))))]) (h' := h4) rfl ?_
                  refine xb_p13 (p' := 76) rfl rfl E5 F6 (by omega) (fun h52 E53 F54 => ?_)
                  refine av_wp_seq 2 (pc' := 78) (lv' := [some (.inr (.inr (.inl (some (b))))), some (.inl k1), some (.inl v23), some (.inl (v23 + v27))]) (st' := [.inl k1, .inr (.inr (.inl (some (b))))]) (h' := h52) rfl ?_
                  refine xb_p14 (p' := 81) rfl rfl E53 F54 (by omega) (fun h55 E56 F57 => ?_)
                  refine av_wp_seq 2 (pc' := 83) (lv' := [some (.inr (.inr (.inl (some (b))))), some (.inl k1), some (.inl v23), some (.inl (v23 + v27))]) (st' := [.inl (v23 + v27), .inr (.inr (.inl (some (b))))]) (h' := h55) rfl ?_
                  refine xb_p15 (p' := 86) rfl rfl E56 F57 (fun h58 E59 F60 => ?_)
                  refine av_wp_seq 2 (pc' := 2) (lv' := [some (.inr (.inr (.inl (some (b))))), some (.inl (k1 + (1))), some (.inl v23), some (.inl (v23 + v27))]) (st' := []) (h' := h58) rfl ?_
                  exact I13 _ (by omega) ((k1 + (1))) (some (.inl v23)) (some (.inl (v23 + v27))) h58 ((-1)) (k1) ((v23 + v27)) rfl rfl (by omega) (by omega) E59 F60 (by rw [show Int.toNat (k1 + (1)) = Int.toNat k1 + 1 by omega, sv_y X7 (by show slc u ro a0 s (Int.toNat k1) m10 = 1; unfold slc; rw [e24, e28]; exact if_pos (by omega)) e24 e28]; refine Prod.ext rfl (Prod.ext ?_ rfl); show ((Int.toNat k1 : Nat) : Int) = k1; omega) (by unfold MBR; show (-1 ≤ (-1) ∧ (-1) ≤ 11) ∧ (-1 ≤ k1 ∧ k1 ≤ 11) ∧ (-1 ≤ (v23 + v27) ∧ (v23 + v27) ≤ 9999); omega) rfl
  exact L12 _ ((0)) (none) (none) h (mb) (mo) (ma) rfl rfl (by omega) (by omega) E F hy0 hm0 rfl

set_option maxRecDepth 100000 in
set_option maxHeartbeats 4000000 in
theorem cx_2 {g h : av_H} {b t c s r : Nat} {cb : Int} {u ro : Nat → Int} {a : Nat → Nat → Int} {mb mo ma : Int} (E : EB b t c s r cb u ro a mb mo ma h) (F : FN b g h) (x : Int) (qx : 0 ≤ x ∧ x ≤ 1023) (tu : ∀ q, q < s → u (21 * q + 20) = tnv u q) (hz : HZ u a) (B0 : BZ s a) (U2 : ∀ j, u j ≤ 2000 ∨ j % 21 = 20) (hb : ∀ k, k < s → ∀ i, i < 3 → -1 ≤ hrv u x k i ∧ hrv u x k i ≤ 5000) (r8 : -1 ≤ ro 8) {Q : Option av_V → av_H → Prop} (hq : ∀ (v : Int) h' a1 a' m1 m2 m3, EB b t c s r cb u ro a' m1 m2 m3 h' → FN b g h' → HX u s x a1 → HZ u a' → (∀ j, 2 ≤ j → a1 j = a j) → DEC u ro a1 s a' → brg u ro a1 s = (m1, m2, m3) → MBR (m1, m2, m3) → ((v = 1 ∧ m3 ≠ 9999) ∨ (v = 0 ∧ m3 = 9999)) → Q (some (.inl v)) h') : av_wp none cd_2 0 [some (.inr (.inr (.inl (some (b))))), some (.inl x)] [] h Q := by
  have s12 := co_s12 (ib_co E.1)
  have cbr := co_cbr (ib_co E.1)
  have mbr := eb_xr E
  have mor := eb_yr E
  refine av_wp_seq 2 (pc' := 2) (lv' := [some (.inr (.inr (.inl (some (b))))), some (.inl x)]) (st' := [.inl x, .inr (.inr (.inl (some (b))))]) (h' := h) rfl ?_
  refine wq_cv (p' := 5) (av_qc (.invokevirtual 84) 4 1 0 0) 6 cd_4 [.inl x] (b) 0 [some (.inr (.inr (.inl (some (b))))), some (.inl x), none, none, none, none] rfl rfl rfl pp_4 rfl rfl rfl (congrArg Prod.fst (ib_k0 E.1)) rfl rfl rfl rfl ?_
  refine cx_4 E F (x) (by omega) tu hz (fun h1 a2 E3 F4 X5 Z6 J7 => ?_)
  have H := HBd_x X5 hb
  have B3 := BZ_j B0 J7
  show av_wp _ cd_2 5 [some (.inr (.inr (.inl (some (b))))), some (.inl x)] [] h1 _
  refine av_wp_seq 1 (pc' := 6) (lv' := [some (.inr (.inr (.inl (some (b))))), some (.inl x)]) (st' := [.inr (.inr (.inl (some (b))))]) (h' := h1) rfl ?_
  refine wq_cv (p' := 9) (av_qc (.invokevirtual 88) 7 0 0 0) 4 cd_7 [] (b) 0 [some (.inr (.inr (.inl (some (b))))), none, none, none] rfl rfl rfl pp_7 rfl rfl rfl (congrArg Prod.fst (ib_k0 E3.1)) rfl rfl rfl rfl ?_
  refine cx_7 E3 F4 H B3 U2 (fun h8 a9 E10 F11 D12 => ?_)
  show av_wp _ cd_2 9 [some (.inr (.inr (.inl (some (b))))), some (.inl x)] [] h8 _
  refine av_wp_seq 1 (pc' := 10) (lv' := [some (.inr (.inr (.inl (some (b))))), some (.inl x)]) (st' := [.inr (.inr (.inl (some (b))))]) (h' := h8) rfl ?_
  refine wq_cv (p' := 13) (av_qc (.invokevirtual 91) 9 0 0 0) 5 cd_9 [] (b) 0 [some (.inr (.inr (.inl (some (b))))), none, none, none, none] rfl rfl rfl pp_9 rfl rfl rfl (congrArg Prod.fst (ib_k0 E10.1)) rfl rfl rfl rfl ?_
  refine cx_9 E10 F11 D12 H B3 U2 (fun h13 a14 E15 F16 D17 => ?_)
  show av_wp _ cd_2 13 [some (.inr (.inr (.inl (some (b))))), some (.inl x)] [] h13 _
  refine av_wp_seq 1 (pc' := 14) (lv' := [some (.inr (.inr (.inl (some (b))))), some (.inl x)]) (st' := [.inr (.inr (.inl (some (b))))]) (h' := h13) rfl ?_
  refine wq_cv (p' := 17) (av_qc (.invokevirtual 94) 11 0 0 0) 4 cd_11 [] (b) 0 [some (.inr (.inr (.inl (some (b))))), none, none, none] rfl rfl rfl pp_11 rfl rfl rfl (congrArg Prod.fst (ib_k0 E15.1)) rfl rfl rfl rfl ?_
  refine cx_11 E15 F16 D17 H B3 U2 (fun h18 a19 E20 F21 D22 => ?_)
  show av_wp _ cd_2 17 [some (.inr (.inr (.inl (some (b))))), some (.inl x)] [] h18 _
  refine av_wp_seq 2 (pc' := 19) (lv' := [some (.inr (.inr (.inl (some (b))))), some (.inl x)]) (st' := [.inl (-1), .inr (.inr (.inl (some (b))))]) (h' := h18) rfl ?_
  refine xb_p13 (p' := 22) rfl rfl E20 F21 (by omega) (fun h23 E24 F25 => ?_)
  refine av_wp_seq 2 (pc' := 24) (lv' := [some (.inr (.inr (.inl (some (b))))), some (.inl x)]) (st' := [.inl (-1), .inr (.inr (.inl (some (b))))]) (h' := h23) rfl ?_
  refine xb_p14 (p' := 27) rfl rfl E24 F25 (by omega) (fun h26 E27 F28 => ?_)
  refine av_wp_seq 2 (pc' := 31) (lv' := [some (.inr (.inr (.inl (some (b))))), some (.inl x)]) (st' := [.inl (9999), .inr (.inr (.inl (some (b))))]) (h' := h26) rfl ?_
  refine xb_p15 (p' := 34) rfl rfl E27 F28 (fun h29 E30 F31 => ?_)
  refine av_wp_seq 1 (pc' := 35) (lv' := [some (.inr (.inr (.inl (some (b))))), some (.inl x)]) (st' := [.inr (.inr (.inl (some (b))))]) (h' := h29) rfl ?_
  refine wq_cv (p' := 38) (av_qc (.invokevirtual 97) 12 0 0 0) 6 cd_12 [] (b) 0 [some (.inr (.inr (.inl (some (b))))), none, none, none, none, none] rfl rfl rfl pp_12 rfl rfl rfl (congrArg Prod.fst (ib_k0 E30.1)) rfl rfl rfl rfl ?_
  refine cx_12 E30 F31 D22 rfl MBR_0 H B3 U2 (fun h32 m33 m34 m35 E36 F37 Y38 R39 => ?_)
  have g40 : (-1 ≤ m33 ∧ m33 ≤ 11) ∧ (-1 ≤ m34 ∧ m34 ≤ 11) ∧ (-1 ≤ m35 ∧ m35 ≤ 9999) := R39
  show av_wp _ cd_2 38 [some (.inr (.inr (.inl (some (b))))), some (.inl x)] [] h32 _
  refine av_wp_seq 1 (pc' := 39) (lv' := [some (.inr (.inr (.inl (some (b))))), some (.inl x)]) (st' := [.inr (.inr (.inl (some (b))))]) (h' := h32) rfl ?_
  refine wq_gr (p' := 42) rfl rfl (congrArg Prod.fst (ib_k0 E36.1)) rfl (ib_r E36.1) ?_
  refine av_wp_seq 1 (pc' := 44) (lv' := [some (.inr (.inr (.inl (some (b))))), some (.inl x)]) (st' := [.inl (8), .inr (.inr (.inl (some (r))))]) (h' := h32) rfl ?_
  obtain ⟨v42, e43⟩ : ∃ v, ro 8 = v := ⟨_, rfl⟩
  have g41 := eb_rv E36 8
  rw [e43] at g41
  refine wq_al (p' := 45) (n := 14) rfl rfl (ib_kr E36.1) (by omega) ((congrFun (eb_ro E36) _).trans e43) ?_
  refine av_wp_seq 1 (pc' := 46) (lv' := [some (.inr (.inr (.inl (some (b))))), some (.inl x)]) (st' := [.inl (-1), .inl v42]) (h' := h32) rfl ?_
  refine wq_k2 (p' := 49) rfl rfl ⟨by omega, by omega⟩ ⟨by omega, by omega⟩ (fun c44 => ?_) (fun c45 => ?_)
  · have c44 : v42 = (-1) := c44
    refine av_wp_seq 1 (pc' := 54) (lv' := [some (.inr (.inr (.inl (some (b))))), some (.inl x)]) (st' := [.inr (.inr (.inl (some (b))))]) (h' := h32) rfl ?_
    refine wq_gi (p' := 57) rfl rfl (congrArg Prod.fst (ib_k0 E36.1)) rfl (eb_z E36) ?_
    refine av_wp_seq 1 (pc' := 60) (lv' := [some (.inr (.inr (.inl (some (b))))), some (.inl x)]) (st' := [.inl (9999), .inl m35]) (h' := h32) rfl ?_
    refine wq_k2 (p' := 63) rfl rfl ⟨by omega, by omega⟩ ⟨by omega, by omega⟩ (fun c46 => ?_) (fun c47 => ?_)
    · have c46 : m35 = (9999) := c46
      refine av_wp_seq 1 (pc' := 68) (lv' := [some (.inr (.inr (.inl (some (b))))), some (.inl x)]) (st' := [.inl (0)]) (h' := h32) rfl ?_
      refine av_wp_ret (v := some (.inl (0))) rfl rfl rfl ?_
      exact hq _ h32 _ _ _ _ _ E36 F37 X5 (HZ_c Z6 D22.2) J7 D22 (by unfold brg; rw [e43, if_neg (by omega)]; exact Y38) R39 (by omega)
    · have c47 : m35 ≠ (9999) := c47
      refine av_wp_seq 2 (pc' := 68) (lv' := [some (.inr (.inr (.inl (some (b))))), some (.inl x)]) (st' := [.inl (1)]) (h' := h32) rfl ?_
      refine av_wp_ret (v := some (.inl (1))) rfl rfl rfl ?_
      exact hq _ h32 _ _ _ _ _ E36 F37 X5 (HZ_c Z6 D22.2) J7 D22 (by unfold brg; rw [e43, if_neg (by omega)]; exact Y38) R39 (by omega)
  · have c45 : v42 ≠ (-1) := c45
    refine av_wp_seq 1 (pc' := 50) (lv' := [some (.inr (.inr (.inl (some (b))))), some (.inl x)]) (st' := [.inr (.inr (.inl (some (b))))]) (h' := h32) rfl ?_
    refine wq_cv (p' := 53) (av_qc (.invokevirtual 100) 14 0 0 0) 4 cd_14 [] (b) 0 [some (.inr (.inr (.inl (some (b))))), none, none, none] rfl rfl rfl pp_14 rfl rfl rfl (congrArg Prod.fst (ib_k0 E36.1)) rfl rfl rfl rfl ?_
    refine cx_14 E36 F37 D22 (by omega) Y38 R39 H B3 U2 (fun h48 m49 m50 m51 E52 F53 Y54 R55 => ?_)
    have g56 : (-1 ≤ m49 ∧ m49 ≤ 11) ∧ (-1 ≤ m50 ∧ m50 ≤ 11) ∧ (-1 ≤ m51 ∧ m51 ≤ 9999) := R55
    show av_wp _ cd_2 53 [some (.inr (.inr (.inl (some (b))))), some (.inl x)] [] h48 _
    refine av_wp_seq 1 (pc' := 54) (lv' := [some (.inr (.inr (.inl (some (b))))), some (.inl x)]) (st' := [.inr (.inr (.inl (some (b))))]) (h' := h48) rfl ?_
    refine wq_gi (p' := 57) rfl rfl (congrArg Prod.fst (ib_k0 E52.1)) rfl (eb_z E52) ?_
    refine av_wp_seq 1 (pc' := 60) (lv' := [some (.inr (.inr (.inl (some (b))))), some (.inl x)]) (st' := [.inl (9999), .inl m51]) (h' := h48) rfl ?_
    refine wq_k2 (p' := 63) rfl rfl ⟨by omega, by omega⟩ ⟨by omega, by omega⟩ (fun c57 => ?_) (fun c58 => ?_)
    · have c57 : m51 = (9999) := c57
      refine av_wp_seq 1 (pc' := 68) (lv' := [some (.inr (.inr (.inl (some (b))))), some (.inl x)]) (st' := [.inl (0)]) (h' := h48) rfl ?_
      refine av_wp_ret (v := some (.inl (0))) rfl rfl rfl ?_
      exact hq _ h48 _ _ _ _ _ E52 F53 X5 (HZ_c Z6 D22.2) J7 D22 (by unfold brg; rw [e43, if_pos (by omega)]; exact Y54) R55 (by omega)
    · have c58 : m51 ≠ (9999) := c58
      refine av_wp_seq 2 (pc' := 68) (lv' := [some (.inr (.inr (.inl (some (b))))), some (.inl x)]) (st' := [.inl (1)]) (h' := h48) rfl ?_
      refine av_wp_ret (v := some (.inl (1))) rfl rfl rfl ?_
      exact hq _ h48 _ _ _ _ _ E52 F53 X5 (HZ_c Z6 D22.2) J7 D22 (by unfold brg; rw [e43, if_pos (by omega)]; exact Y54) R55 (by omega)

set_option maxRecDepth 100000 in
set_option maxHeartbeats 4000000 in
theorem cx_3 {g h : av_H} {b t c s r : Nat} {cb : Int} {u ro : Nat → Int} {a : Nat → Nat → Int} {mb mo ma : Int} (E : EB b t c s r cb u ro a mb mo ma h) (F : FN b g h) (qm : -1 ≤ ma ∧ ma ≤ 9999) {Q : Option av_V → av_H → Prop} (hq : ∀ v : Int, ((v = 1 ∧ ma ≠ 9999) ∨ (v = 0 ∧ ma = 9999)) → Q (some (.inl v)) h) : av_wp none cd_3 0 [some (.inr (.inr (.inl (some (b)))))] [] h Q := by
  have s12 := co_s12 (ib_co E.1)
  have cbr := co_cbr (ib_co E.1)
  have mbr := eb_xr E
  have mor := eb_yr E
  refine av_wp_seq 1 (pc' := 1) (lv' := [some (.inr (.inr (.inl (some (b)))))]) (st' := [.inr (.inr (.inl (some (b))))]) (h' := h) rfl ?_
  refine wq_gi (p' := 4) rfl rfl (congrArg Prod.fst (ib_k0 E.1)) rfl (eb_z E) ?_
  refine av_wp_seq 1 (pc' := 7) (lv' := [some (.inr (.inr (.inl (some (b)))))]) (st' := [.inl (9999), .inl ma]) (h' := h) rfl ?_
  refine wq_k2 (p' := 10) rfl rfl ⟨by omega, by omega⟩ ⟨by omega, by omega⟩ (fun c1 => ?_) (fun c2 => ?_)
  · have c1 : ma = (9999) := c1
    refine av_wp_seq 1 (pc' := 15) (lv' := [some (.inr (.inr (.inl (some (b)))))]) (st' := [.inl (0)]) (h' := h) rfl ?_
    refine av_wp_ret (v := some (.inl (0))) rfl rfl rfl ?_
    exact hq _ (by omega)
  · have c2 : ma ≠ (9999) := c2
    refine av_wp_seq 2 (pc' := 15) (lv' := [some (.inr (.inr (.inl (some (b)))))]) (st' := [.inl (1)]) (h' := h) rfl ?_
    refine av_wp_ret (v := some (.inl (1))) rfl rfl rfl ?_
    exact hq _ (by omega)


