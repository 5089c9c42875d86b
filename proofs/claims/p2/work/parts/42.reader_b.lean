set_option maxRecDepth 100000 in
set_option maxHeartbeats 4000000 in
theorem ct_44 {g h : av_H} {b r d : Nat → Int} {lim : Nat} {t : TT} (C : CT b lim t r d h) (F : FT g h) (x : Int) (row : Nat) (ex : x = (row : Int)) (hrow : row ≤ 231) (y : Int) (i : Nat) (ey : y = (i : Int)) (hi : i ≤ 2) (z : Int) (qz : 0 ≤ z ∧ z ≤ 1999) {Q : Option av_V → av_H → Prop} (hq : ∀ h', CT b lim (rsP b lim row i z t r).1 (rsP b lim row i z t r).2 d h' → FT g h' → Q none h') : av_wp none cd_44 0 [some (.inr (.inr (.inl (some (22))))), some (.inl x), some (.inl y), some (.inl z), none, none] [] h Q := by
  have g0 := ct_wf C
  subst ex
  subst ey
  refine av_wp_seq 1 (pc' := 1) (lv' := [some (.inr (.inr (.inl (some (22))))), some (.inl (row : Int)), some (.inl (i : Int)), some (.inl z), none, none]) (st' := [.inr (.inr (.inl (some (22))))]) (h' := h) rfl ?_
  refine wq_gr (p' := 4) rfl rfl (congrArg Prod.fst (ly_k C.1 22 rfl)) rfl (ly_g C.1 22 0 1 rfl) ?_
  refine av_wp_seq 2 (pc' := 6) (lv' := [some (.inr (.inr (.inl (some (22))))), some (.inl (row : Int)), some (.inl (i : Int)), some (.inl z), none, none]) (st' := [.inl z, .inl (0), .inr (.inr (.inl (some (1))))]) (h' := h) rfl ?_
  refine wq_cv (p' := 9) (av_qc (.invokevirtual 118) 92 2 0 6) 4 cd_92 [.inl z, .inl (0)] (1) 6 [some (.inr (.inr (.inl (some (1))))), some (.inl (0)), some (.inl z), none] rfl rfl rfl pp_92 rfl rfl rfl (congrArg Prod.fst (ly_k C.1 1 rfl)) rfl rfl rfl rfl ?_
  refine ct_92 C F ((0)) (z) (by omega) (by omega) (fun v1 h3 p2 C4 F5 => ?_)
  obtain ⟨rfl, p2⟩ := p2
  have g6 := ct_wf C4
  show av_wp _ cd_44 9 [some (.inr (.inr (.inl (some (22))))), some (.inl (row : Int)), some (.inl (i : Int)), some (.inl z), none, none] [.inl (nmv b t (0) z)] h3 _
  refine av_wp_seq 2 (pc' := 12) (lv' := [some (.inr (.inr (.inl (some (22))))), some (.inl (row : Int)), some (.inl (i : Int)), some (.inl z), some (.inl (nmv b t (0) z)), none]) (st' := [.inr (.inr (.inl (some (22))))]) (h' := h3) rfl ?_
  refine wq_gr (p' := 15) rfl rfl (congrArg Prod.fst (ly_k C4.1 22 rfl)) rfl (ly_g C4.1 22 1 23 rfl) ?_
  refine av_wp_seq 6 (pc' := 23) (lv' := [some (.inr (.inr (.inl (some (22))))), some (.inl (row : Int)), some (.inl (i : Int)), some (.inl z), some (.inl (nmv b t (0) z)), none]) (st' := [.inl (nmv b t (0) z), .inl (((row : Int) + (7)) + (i : Int)), .inr (.inr (.inl (some (23))))]) (h' := h3) rfl ?_
  refine ct_as (p' := 24) rfl rfl C4 F5 (row + 7 + i) (by omega) (by omega) (by omega) (fun h7 C8 F9 => ?_)
  refine av_wp_seq 1 (pc' := 25) (lv' := [some (.inr (.inr (.inl (some (22))))), some (.inl (row : Int)), some (.inl (i : Int)), some (.inl z), some (.inl (nmv b t (0) z)), none]) (st' := [.inr (.inr (.inl (some (22))))]) (h' := h7) rfl ?_
  refine wq_gr (p' := 28) rfl rfl (congrArg Prod.fst (ly_k C8.1 22 rfl)) rfl (ly_g C8.1 22 0 1 rfl) ?_
  refine av_wp_seq 1 (pc' := 30) (lv' := [some (.inr (.inr (.inl (some (22))))), some (.inl (row : Int)), some (.inl (i : Int)), some (.inl z), some (.inl (nmv b t (0) z)), none]) (st' := [.inr (.inr (.inr 8)), .inr (.inr (.inl (some (1))))]) (h' := h7) rfl ?_
  refine wq_cv (p' := 33) (av_qc (.invokevirtual 86) 88 1 0 6) 2 cd_88 [.inr (.inr (.inr 8))] (1) 6 [some (.inr (.inr (.inl (some (1))))), some (.inr (.inr (.inr 8)))] rfl rfl rfl pp_88 rfl rfl rfl (congrArg Prod.fst (ly_k C8.1 1 rfl)) rfl rfl rfl rfl ?_
  refine ct_88 C8 F9 8 (by decide) (fun v10 h12 p11 C13 F14 => ?_)
  have g15 := ct_wf C13
  show av_wp _ cd_44 33 [some (.inr (.inr (.inl (some (22))))), some (.inl (row : Int)), some (.inl (i : Int)), some (.inl z), some (.inl (nmv b t (0) z)), none] [.inl v10] h12 _
  refine wq_k1 (p' := 36) rfl rfl ⟨by omega, by omega⟩ (fun c16 => ?_) (fun c17 => ?_)
  · have c16 : v10 = (0) := c16
    refine av_wp_ret (v := none) rfl rfl rfl ?_
    exact hq h12 (by unfold rsP; (repeat' split) <;> first | assumption | (exfalso; omega)) F14
  · have c17 : v10 ≠ (0) := c17
    refine av_wp_seq 1 (pc' := 37) (lv' := [some (.inr (.inr (.inl (some (22))))), some (.inl (row : Int)), some (.inl (i : Int)), some (.inl z), some (.inl (nmv b t (0) z)), none]) (st' := [.inr (.inr (.inl (some (22))))]) (h' := h12) rfl ?_
    refine wq_gr (p' := 40) rfl rfl (congrArg Prod.fst (ly_k C13.1 22 rfl)) rfl (ly_g C13.1 22 0 1 rfl) ?_
    refine av_wp_seq 5 (pc' := 48) (lv' := [some (.inr (.inr (.inl (some (22))))), some (.inl (row : Int)), some (.inl (i : Int)), some (.inl z), some (.inl (nmv b t (0) z)), none]) (st' := [.inl ((nmv b t (0) z) + (15)), .inl z, .inl (nmv b t (0) z), .inr (.inr (.inl (some (1))))]) (h' := h12) rfl ?_
    refine wq_mne (p' := 51) rfl rfl rfl (fun _ _ => rfl) rfl ⟨by omega, by omega⟩ ⟨by omega, by omega⟩ ?_
    have g21 : (if ((nmv b t (0) z) + (15)) < z then ((nmv b t (0) z) + (15)) else z) ≤ z ∧ (if ((nmv b t (0) z) + (15)) < z then ((nmv b t (0) z) + (15)) else z) ≤ ((nmv b t (0) z) + (15)) ∧ ((if ((nmv b t (0) z) + (15)) < z then ((nmv b t (0) z) + (15)) else z) = z ∨ (if ((nmv b t (0) z) + (15)) < z then ((nmv b t (0) z) + (15)) else z) = ((nmv b t (0) z) + (15))) := by split <;> omega
    refine wq_cv (p' := 54) (av_qc (.invokevirtual 118) 92 2 0 6) 4 cd_92 [.inl (if ((nmv b t (0) z) + (15)) < z then ((nmv b t (0) z) + (15)) else z), .inl (nmv b t (0) z)] (1) 6 [some (.inr (.inr (.inl (some (1))))), some (.inl (nmv b t (0) z)), some (.inl (if ((nmv b t (0) z) + (15)) < z then ((nmv b t (0) z) + (15)) else z)), none] rfl rfl rfl pp_92 rfl rfl rfl (congrArg Prod.fst (ly_k C13.1 1 rfl)) rfl rfl rfl rfl ?_
    refine ct_92 C13 F14 ((nmv b t (0) z)) ((if ((nmv b t (0) z) + (15)) < z then ((nmv b t (0) z) + (15)) else z)) (by omega) (by omega) (fun v22 h24 p23 C25 F26 => ?_)
    obtain ⟨rfl, p23⟩ := p23
    have g27 := ct_wf C25
    show av_wp _ cd_44 54 [some (.inr (.inr (.inl (some (22))))), some (.inl (row : Int)), some (.inl (i : Int)), some (.inl z), some (.inl (nmv b t (0) z)), none] [.inl (nmv b (tak b lim (nmt b lim t (0) z) 8) (nmv b t (0) z) (if ((nmv b t (0) z) + (15)) < z then ((nmv b t (0) z) + (15)) else z))] h24 _
    refine av_wp_seq 2 (pc' := 57) (lv' := [some (.inr (.inr (.inl (some (22))))), some (.inl (row : Int)), some (.inl (i : Int)), some (.inl z), some (.inl (nmv b t (0) z)), some (.inl (nmv b (tak b lim (nmt b lim t (0) z) 8) (nmv b t (0) z) (if ((nmv b t (0) z) + (15)) < z then ((nmv b t (0) z) + (15)) else z)))]) (st' := [.inr (.inr (.inl (some (22))))]) (h' := h24) rfl ?_
    refine wq_gr (p' := 60) rfl rfl (congrArg Prod.fst (ly_k C25.1 22 rfl)) rfl (ly_g C25.1 22 1 23 rfl) ?_
    refine av_wp_seq 10 (pc' := 73) (lv' := [some (.inr (.inr (.inl (some (22))))), some (.inl (row : Int)), some (.inl (i : Int)), some (.inl z), some (.inl (nmv b t (0) z)), some (.inl (nmv b (tak b lim (nmt b lim t (0) z) 8) (nmv b t (0) z) (if ((nmv b t (0) z) + (15)) < z then ((nmv b t (0) z) + (15)) else z)))]) (st' := [.inl (((nmv b (tak b lim (nmt b lim t (0) z) 8) (nmv b t (0) z) (if ((nmv b t (0) z) + (15)) < z then ((nmv b t (0) z) + (15)) else z)) - (nmv b t (0) z)) + (1)), .inl (((row : Int) + (15)) + (i : Int)), .inr (.inr (.inl (some (23))))]) (h' := h24) rfl ?_
    refine ct_as (p' := 74) rfl rfl C25 F26 (row + 15 + i) (by omega) (by omega) (by omega) (fun h28 C29 F30 => ?_)
    refine av_wp_ret (v := none) rfl rfl rfl ?_
    exact hq h28 (by unfold rsP; (repeat' split) <;> first | assumption | (exfalso; omega)) F30

