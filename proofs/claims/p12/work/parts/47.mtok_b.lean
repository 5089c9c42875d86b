set_option maxRecDepth 100000 in
set_option maxHeartbeats 4000000 in
theorem ct_137 {g h : av_H} {b : Nat → Int} {lim : Nat} {t : TT} {x17 : Int} {A : Nat → Nat → Int} (N : MT b lim t x17 A h) (F : FD g h) (y : Int) (qy : -2147483648 ≤ y ∧ y ≤ 2147483647) {Q : Option av_V → av_H → Prop} (hq0 : (pkv b t 1 = -1 ∨ pkv b t 1 = y) → ∀ h', MT b lim (fal t) x17 A h' → FD g h' → Q (some (.inl 0)) h') (hq1 : ∀ v : Int, v = pkv b t 1 → pkv b t 1 ≠ -1 → pkv b t 1 ≠ y → ∀ h', MT b lim (adv b lim t) x17 A h' → FD g h' → Q (some (.inl v)) h') : av_wp none cd_137 0 [some (.inr (.inr (.inl (some (77))))), some (.inl y), none] [] h Q := by
  have gw1 : t.1 ≤ 900 ∧ t.2.1 ≤ lim ∧ lim ≤ 900 := ⟨N.2.1.1, N.2.1.2.1, N.2.1.2.2.1⟩
  have gw2 : -1 ≤ t.2.2.2 ∧ t.2.2.2 ≤ 900 := N.2.1.2.2.2.2
  have gt := tok_f t N.2.1.2.2.2.1
  have gt1 := gt.1
  have gtr := gt.2.2.2.2
  clear gt
  have gwr := wr_f t
  have gtx := txtv_r N.2.2
  have gp : ((t.2.2.2 = -1 ∧ t.2.2.1 = 1) ∧ ((pkv b t 1 = 0 ∧ txtv b t = 1) ∨ (pkv b t 1 = 1 ∧ txtv b t = 2) ∨ (pkv b t 1 = 2 ∧ txtv b t = 3) ∨ (pkv b t 1 = -1 ∧ (txtv b t < 1 ∨ 3 < txtv b t)))) ∨ (¬ (t.2.2.2 = -1 ∧ t.2.2.1 = 1) ∧ pkv b t 1 = -1) := by
    by_cases z2 : t.2.2.2 = -1 ∧ t.2.2.1 = 1
    · left
      have z3 : pkv b t 1 = pkf b t.1 t.2.1 (av_lit 1) 0 t.1 true := if_pos z2
      have z1 : txtv b t = txt b t.1 (t.2.1 - t.1) := if_pos z2.2
      rw [ltw_1 N.2.2.1 (N.2.2.2.1 z2.2), ← z1] at z3
      refine ⟨z2, ?_⟩
      clear gt1 gwr gw1 gw2 z1 z2
      (repeat' split at z3) <;> omega
    · exact Or.inr ⟨z2, if_neg z2⟩
  refine av_wp_seq 1 (pc' := 1) (lv' := [some (.inr (.inr (.inl (some (77))))), some (.inl y), none]) (st' := [.inr (.inr (.inl (some (77))))]) (h' := h) rfl ?_
  refine wq_gb (p' := 4) rfl rfl (congrArg Prod.fst (ly_k N.1.1 77 rfl)) rfl (ns_25 N.1) ?_
  refine wq_k1 (p' := 7) rfl rfl ⟨by omega, by omega⟩ (fun c1 => ?_) (fun c2 => ?_)
  · have c1 : (wrv t) = (0) := c1
    refine av_wp_seq 1 (pc' := 10) (lv' := [some (.inr (.inr (.inl (some (77))))), some (.inl y), none]) (st' := [.inr (.inr (.inl (some (77))))]) (h' := h) rfl ?_
    refine wq_gi (p' := 13) rfl rfl (congrArg Prod.fst (ly_k N.1.1 77 rfl)) rfl (ns_22 N.1) ?_
    refine av_wp_seq 1 (pc' := 14) (lv' := [some (.inr (.inr (.inl (some (77))))), some (.inl y), none]) (st' := [.inl (1), .inl (tokv t)]) (h' := h) rfl ?_
    refine wq_k2 (p' := 17) rfl rfl ⟨by omega, by omega⟩ ⟨by omega, by omega⟩ (fun c3 => ?_) (fun c4 => ?_)
    · have c3 : (tokv t) ≠ (1) := c3
      refine av_wp_seq 5 (pc' := 59) (lv' := [some (.inr (.inr (.inl (some (77))))), some (.inl y), some (.inl (-1))]) (st' := [.inr (.inr (.inl (some (77))))]) (h' := h) rfl ?_
      refine wq_cv (p' := 62) (av_qc (.invokevirtual 194) 131 0 0 8) 1 cd_131 [] (77) 8 [some (.inr (.inr (.inl (some (77)))))] rfl rfl rfl pp_131 rfl rfl rfl (congrArg Prod.fst (ly_k N.1.1 77 rfl)) rfl rfl rfl rfl ?_
      refine ct_131 N F (fun h5 N6 F7 => ?_)
      show av_wp _ cd_137 62 [some (.inr (.inr (.inl (some (77))))), some (.inl y), some (.inl (-1))] [] h5 _
      refine av_wp_seq 1 (pc' := 63) (lv' := [some (.inr (.inr (.inl (some (77))))), some (.inl y), some (.inl (-1))]) (st' := [.inl (0)]) (h' := h5) rfl ?_
      refine av_wp_ret (v := some (.inl (0))) rfl rfl rfl ?_
      exact hq0 (by omega) h5 N6 F7
    · have c4 : (tokv t) = (1) := c4
      refine av_wp_seq 1 (pc' := 18) (lv' := [some (.inr (.inr (.inl (some (77))))), some (.inl y), none]) (st' := [.inr (.inr (.inl (some (77))))]) (h' := h) rfl ?_
      refine wq_gl (p' := 21) rfl rfl (congrArg Prod.fst (ly_k N.1.1 77 rfl)) rfl (ns_24 N.1) ?_
      refine av_wp_seq 1 (pc' := 22) (lv' := [some (.inr (.inr (.inl (some (77))))), some (.inl y), none]) (st' := [.inr (.inl (1)), .inr (.inl (txtv b t))]) (h' := h) rfl ?_
      refine av_wp_seq 1 (pc' := 23) (lv' := [some (.inr (.inr (.inl (some (77))))), some (.inl y), none]) (st' := [.inl (if av_wl (1) < av_wl (txtv b t) then 1 else if av_wl (txtv b t) = av_wl (1) then 0 else -1)]) (h' := h) rfl ?_
      have g9 := lcf (x := (txtv b t)) (y := (1)) (by omega) (by omega)
      generalize (if av_wl (1) < av_wl (txtv b t) then 1 else if av_wl (txtv b t) = av_wl (1) then 0 else -1) = v8 at g9 ⊢
      have g9r := g9.2.2
      replace g9 := g9.2.1
      refine wq_k1 (p' := 26) rfl rfl ⟨by omega, by omega⟩ (fun c10 => ?_) (fun c11 => ?_)
      · have c10 : v8 < (0) := c10
        refine av_wp_seq 5 (pc' := 59) (lv' := [some (.inr (.inr (.inl (some (77))))), some (.inl y), some (.inl (-1))]) (st' := [.inr (.inr (.inl (some (77))))]) (h' := h) rfl ?_
        refine wq_cv (p' := 62) (av_qc (.invokevirtual 194) 131 0 0 8) 1 cd_131 [] (77) 8 [some (.inr (.inr (.inl (some (77)))))] rfl rfl rfl pp_131 rfl rfl rfl (congrArg Prod.fst (ly_k N.1.1 77 rfl)) rfl rfl rfl rfl ?_
        refine ct_131 N F (fun h12 N13 F14 => ?_)
        show av_wp _ cd_137 62 [some (.inr (.inr (.inl (some (77))))), some (.inl y), some (.inl (-1))] [] h12 _
        refine av_wp_seq 1 (pc' := 63) (lv' := [some (.inr (.inr (.inl (some (77))))), some (.inl y), some (.inl (-1))]) (st' := [.inl (0)]) (h' := h12) rfl ?_
        refine av_wp_ret (v := some (.inl (0))) rfl rfl rfl ?_
        exact hq0 (by omega) h12 N13 F14
      · have c11 : (0) ≤ v8 := c11
        refine av_wp_seq 1 (pc' := 27) (lv' := [some (.inr (.inr (.inl (some (77))))), some (.inl y), none]) (st' := [.inr (.inr (.inl (some (77))))]) (h' := h) rfl ?_
        refine wq_gl (p' := 30) rfl rfl (congrArg Prod.fst (ly_k N.1.1 77 rfl)) rfl (ns_24 N.1) ?_
        refine av_wp_seq 1 (pc' := 33) (lv' := [some (.inr (.inr (.inl (some (77))))), some (.inl y), none]) (st' := [.inr (.inl (3)), .inr (.inl (txtv b t))]) (h' := h) rfl ?_
        refine av_wp_seq 1 (pc' := 34) (lv' := [some (.inr (.inr (.inl (some (77))))), some (.inl y), none]) (st' := [.inl (if av_wl (3) < av_wl (txtv b t) then 1 else if av_wl (txtv b t) = av_wl (3) then 0 else -1)]) (h' := h) rfl ?_
        have g16 := lcf (x := (txtv b t)) (y := (3)) (by omega) (by omega)
        generalize (if av_wl (3) < av_wl (txtv b t) then 1 else if av_wl (txtv b t) = av_wl (3) then 0 else -1) = v15 at g16 ⊢
        refine wq_k1 (p' := 37) rfl rfl ⟨by omega, by omega⟩ (fun c17 => ?_) (fun c18 => ?_)
        · have c17 : (0) < v15 := c17
          refine av_wp_seq 5 (pc' := 59) (lv' := [some (.inr (.inr (.inl (some (77))))), some (.inl y), some (.inl (-1))]) (st' := [.inr (.inr (.inl (some (77))))]) (h' := h) rfl ?_
          refine wq_cv (p' := 62) (av_qc (.invokevirtual 194) 131 0 0 8) 1 cd_131 [] (77) 8 [some (.inr (.inr (.inl (some (77)))))] rfl rfl rfl pp_131 rfl rfl rfl (congrArg Prod.fst (ly_k N.1.1 77 rfl)) rfl rfl rfl rfl ?_
          refine ct_131 N F (fun h19 N20 F21 => ?_)
          show av_wp _ cd_137 62 [some (.inr (.inr (.inl (some (77))))), some (.inl y), some (.inl (-1))] [] h19 _
          refine av_wp_seq 1 (pc' := 63) (lv' := [some (.inr (.inr (.inl (some (77))))), some (.inl y), some (.inl (-1))]) (st' := [.inl (0)]) (h' := h19) rfl ?_
          refine av_wp_ret (v := some (.inl (0))) rfl rfl rfl ?_
          exact hq0 (by omega) h19 N20 F21
        · have c18 : v15 ≤ (0) := c18
          refine av_wp_seq 1 (pc' := 38) (lv' := [some (.inr (.inr (.inl (some (77))))), some (.inl y), none]) (st' := [.inr (.inr (.inl (some (77))))]) (h' := h) rfl ?_
          refine wq_gl (p' := 41) rfl rfl (congrArg Prod.fst (ly_k N.1.1 77 rfl)) rfl (ns_24 N.1) ?_
          refine av_wp_seq 6 (pc' := 50) (lv' := [some (.inr (.inr (.inl (some (77))))), some (.inl y), some (.inl ((txtv b t) - (1)))]) (st' := [.inl ((txtv b t) - (1))]) (h' := h) rfl ?_
          refine wq_k1 (p' := 53) rfl rfl ⟨by omega, by omega⟩ (fun c22 => ?_) (fun c23 => ?_)
          · have c22 : ((txtv b t) - (1)) < (0) := c22
            exfalso; omega
          · have c23 : (0) ≤ ((txtv b t) - (1)) := c23
            refine av_wp_seq 2 (pc' := 55) (lv' := [some (.inr (.inr (.inl (some (77))))), some (.inl y), some (.inl ((txtv b t) - (1)))]) (st' := [.inl y, .inl ((txtv b t) - (1))]) (h' := h) rfl ?_
            refine wq_k2 (p' := 58) rfl rfl ⟨by omega, by omega⟩ ⟨by omega, by omega⟩ (fun c24 => ?_) (fun c25 => ?_)
            · have c24 : ((txtv b t) - (1)) ≠ y := c24
              refine av_wp_seq 1 (pc' := 65) (lv' := [some (.inr (.inr (.inl (some (77))))), some (.inl y), some (.inl ((txtv b t) - (1)))]) (st' := [.inr (.inr (.inl (some (77))))]) (h' := h) rfl ?_
              refine wq_cv (p' := 68) (av_qc (.invokevirtual 191) 130 0 0 8) 2 cd_130 [] (77) 8 [some (.inr (.inr (.inl (some (77))))), none] rfl rfl rfl pp_130 rfl rfl rfl (congrArg Prod.fst (ly_k N.1.1 77 rfl)) rfl rfl rfl rfl ?_
              refine ct_130t N F (fun h26 N27 F28 => ?_)
              show av_wp _ cd_137 68 [some (.inr (.inr (.inl (some (77))))), some (.inl y), some (.inl ((txtv b t) - (1)))] [] h26 _
              refine av_wp_seq 1 (pc' := 69) (lv' := [some (.inr (.inr (.inl (some (77))))), some (.inl y), some (.inl ((txtv b t) - (1)))]) (st' := [.inl ((txtv b t) - (1))]) (h' := h26) rfl ?_
              refine av_wp_ret (v := some (.inl ((txtv b t) - (1)))) rfl rfl rfl ?_
              exact hq1 _ (by omega) (by omega) (by omega) h26 N27 F28
            · have c25 : ((txtv b t) - (1)) = y := c25
              refine av_wp_seq 1 (pc' := 59) (lv' := [some (.inr (.inr (.inl (some (77))))), some (.inl y), some (.inl ((txtv b t) - (1)))]) (st' := [.inr (.inr (.inl (some (77))))]) (h' := h) rfl ?_
              refine wq_cv (p' := 62) (av_qc (.invokevirtual 194) 131 0 0 8) 1 cd_131 [] (77) 8 [some (.inr (.inr (.inl (some (77)))))] rfl rfl rfl pp_131 rfl rfl rfl (congrArg Prod.fst (ly_k N.1.1 77 rfl)) rfl rfl rfl rfl ?_
              refine ct_131 N F (fun h29 N30 F31 => ?_)
              show av_wp _ cd_137 62 [some (.inr (.inr (.inl (some (77))))), some (.inl y), some (.inl ((txtv b t) - (1)))] [] h29 _
              refine av_wp_seq 1 (pc' := 63) (lv' := [some (.inr (.inr (.inl (some (77))))), some (.inl y), some (.inl ((txtv b t) - (1)))]) (st' := [.inl (0)]) (h' := h29) rfl ?_
              refine av_wp_ret (v := some (.inl (0))) rfl rfl rfl ?_
              exact hq0 (by omega) h29 N30 F31
  · have c2 : (wrv t) ≠ (0) := c2
    refine av_wp_seq 1 (pc' := 8) (lv' := [some (.inr (.inr (.inl (some (77))))), some (.inl y), none]) (st' := [.inl (0)]) (h' := h) rfl ?_
    refine av_wp_ret (v := some (.inl (0))) rfl rfl rfl ?_
    have z2 : fal t = t := by unfold fal; rw [if_neg (by omega)]
    exact hq0 (by omega) h (by rw [z2]; exact N) F

