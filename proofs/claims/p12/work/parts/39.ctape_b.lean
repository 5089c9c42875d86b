set_option maxRecDepth 100000 in
set_option maxHeartbeats 4000000 in
theorem ct_92 {g h : av_H} {b r d : Nat → Int} {lim : Nat} {t : TT} (C : CT b lim t r d h) (F : FT g h) (x y : Int) (qx : -2147483648 ≤ x ∧ x ≤ 2147483647) (qy : -2147483648 ≤ y ∧ y ≤ 2147483647) {Q : Option av_V → av_H → Prop} (hq : ∀ (v : Int) h', (v = nmv b t x y ∧ (v = -1 ∨ (x ≤ v ∧ v ≤ y))) → CT b lim (nmt b lim t x y) r d h' → FT g h' → Q (some (.inl v)) h') : av_wp none cd_92 0 [some (.inr (.inr (.inl (some (1))))), some (.inl x), some (.inl y), none] [] h Q := by
  have g0 := ct_wf C
  refine av_wp_seq 1 (pc' := 1) (lv' := [some (.inr (.inr (.inl (some (1))))), some (.inl x), some (.inl y), none]) (st' := [.inr (.inr (.inl (some (1))))]) (h' := h) rfl ?_
  refine wq_cv (p' := 4) (av_qc (.invokevirtual 61) 91 0 0 6) 3 cd_91 [] (1) 6 [some (.inr (.inr (.inl (some (1))))), none, none] rfl rfl rfl pp_91 rfl rfl rfl (congrArg Prod.fst (ly_k C.1 1 rfl)) rfl rfl rfl rfl ?_
  refine ct_91 C F (fun v1 p2 => ?_)
  show av_wp _ cd_92 4 [some (.inr (.inr (.inl (some (1))))), some (.inl x), some (.inl y), none] [.inl v1] h _
  refine av_wp_seq 3 (pc' := 7) (lv' := [some (.inr (.inr (.inl (some (1))))), some (.inl x), some (.inl y), some (.inl v1)]) (st' := [.inl (-1), .inl v1]) (h' := h) rfl ?_
  refine wq_k2 (p' := 10) rfl rfl ⟨by omega, by omega⟩ ⟨by omega, by omega⟩ (fun c3 => ?_) (fun c4 => ?_)
  · have c3 : v1 = (-1) := c3
    refine av_wp_seq 1 (pc' := 21) (lv' := [some (.inr (.inr (.inl (some (1))))), some (.inl x), some (.inl y), some (.inl v1)]) (st' := [.inr (.inr (.inl (some (1))))]) (h' := h) rfl ?_
    refine wq_cv (p' := 24) (av_qc (.invokevirtual 58) 85 0 0 6) 1 cd_85 [] (1) 6 [some (.inr (.inr (.inl (some (1)))))] rfl rfl rfl pp_85 rfl rfl rfl (congrArg Prod.fst (ly_k C.1 1 rfl)) rfl rfl rfl rfl ?_
    refine ct_85 C F (fun h5 C6 F7 => ?_)
    have g8 := ct_wf C6
    show av_wp _ cd_92 24 [some (.inr (.inr (.inl (some (1))))), some (.inl x), some (.inl y), some (.inl v1)] [] h5 _
    refine av_wp_seq 1 (pc' := 25) (lv' := [some (.inr (.inr (.inl (some (1))))), some (.inl x), some (.inl y), some (.inl v1)]) (st' := [.inl (-1)]) (h' := h5) rfl ?_
    refine av_wp_ret (v := some (.inl (-1))) rfl rfl rfl ?_
    exact hq _ h5 (by refine ⟨?_, by omega⟩; unfold nmv; (repeat' split) <;> omega) (by unfold nmt; (repeat' split) <;> first | assumption | (exfalso; omega)) F7
  · have c4 : v1 ≠ (-1) := c4
    refine av_wp_seq 2 (pc' := 12) (lv' := [some (.inr (.inr (.inl (some (1))))), some (.inl x), some (.inl y), some (.inl v1)]) (st' := [.inl x, .inl v1]) (h' := h) rfl ?_
    refine wq_k2 (p' := 15) rfl rfl ⟨by omega, by omega⟩ ⟨by omega, by omega⟩ (fun c9 => ?_) (fun c10 => ?_)
    · have c9 : v1 < x := c9
      refine av_wp_seq 1 (pc' := 21) (lv' := [some (.inr (.inr (.inl (some (1))))), some (.inl x), some (.inl y), some (.inl v1)]) (st' := [.inr (.inr (.inl (some (1))))]) (h' := h) rfl ?_
      refine wq_cv (p' := 24) (av_qc (.invokevirtual 58) 85 0 0 6) 1 cd_85 [] (1) 6 [some (.inr (.inr (.inl (some (1)))))] rfl rfl rfl pp_85 rfl rfl rfl (congrArg Prod.fst (ly_k C.1 1 rfl)) rfl rfl rfl rfl ?_
      refine ct_85 C F (fun h11 C12 F13 => ?_)
      have g14 := ct_wf C12
      show av_wp _ cd_92 24 [some (.inr (.inr (.inl (some (1))))), some (.inl x), some (.inl y), some (.inl v1)] [] h11 _
      refine av_wp_seq 1 (pc' := 25) (lv' := [some (.inr (.inr (.inl (some (1))))), some (.inl x), some (.inl y), some (.inl v1)]) (st' := [.inl (-1)]) (h' := h11) rfl ?_
      refine av_wp_ret (v := some (.inl (-1))) rfl rfl rfl ?_
      exact hq _ h11 (by refine ⟨?_, by omega⟩; unfold nmv; (repeat' split) <;> omega) (by unfold nmt; (repeat' split) <;> first | assumption | (exfalso; omega)) F13
    · have c10 : x ≤ v1 := c10
      refine av_wp_seq 2 (pc' := 17) (lv' := [some (.inr (.inr (.inl (some (1))))), some (.inl x), some (.inl y), some (.inl v1)]) (st' := [.inl y, .inl v1]) (h' := h) rfl ?_
      refine wq_k2 (p' := 20) rfl rfl ⟨by omega, by omega⟩ ⟨by omega, by omega⟩ (fun c15 => ?_) (fun c16 => ?_)
      · have c15 : v1 ≤ y := c15
        refine av_wp_seq 1 (pc' := 27) (lv' := [some (.inr (.inr (.inl (some (1))))), some (.inl x), some (.inl y), some (.inl v1)]) (st' := [.inr (.inr (.inl (some (1))))]) (h' := h) rfl ?_
        refine wq_cv (p' := 30) (av_qc (.invokevirtual 38) 82 0 0 6) 2 cd_82 [] (1) 6 [some (.inr (.inr (.inl (some (1))))), none] rfl rfl rfl pp_82 rfl rfl rfl (congrArg Prod.fst (ly_k C.1 1 rfl)) rfl rfl rfl rfl ?_
        refine ct_82 C F (fun h17 C18 F19 => ?_)
        have g20 := ct_wf C18
        show av_wp _ cd_92 30 [some (.inr (.inr (.inl (some (1))))), some (.inl x), some (.inl y), some (.inl v1)] [] h17 _
        refine av_wp_seq 1 (pc' := 31) (lv' := [some (.inr (.inr (.inl (some (1))))), some (.inl x), some (.inl y), some (.inl v1)]) (st' := [.inl v1]) (h' := h17) rfl ?_
        refine av_wp_ret (v := some (.inl v1)) rfl rfl rfl ?_
        exact hq _ h17 (by refine ⟨?_, by omega⟩; unfold nmv; (repeat' split) <;> omega) (by unfold nmt; (repeat' split) <;> first | assumption | (exfalso; omega)) F19
      · have c16 : y < v1 := c16
        refine av_wp_seq 1 (pc' := 21) (lv' := [some (.inr (.inr (.inl (some (1))))), some (.inl x), some (.inl y), some (.inl v1)]) (st' := [.inr (.inr (.inl (some (1))))]) (h' := h) rfl ?_
        refine wq_cv (p' := 24) (av_qc (.invokevirtual 58) 85 0 0 6) 1 cd_85 [] (1) 6 [some (.inr (.inr (.inl (some (1)))))] rfl rfl rfl pp_85 rfl rfl rfl (congrArg Prod.fst (ly_k C.1 1 rfl)) rfl rfl rfl rfl ?_
        refine ct_85 C F (fun h21 C22 F23 => ?_)
        have g24 := ct_wf C22
        show av_wp _ cd_92 24 [some (.inr (.inr (.inl (some (1))))), some (.inl x), some (.inl y), some (.inl v1)] [] h21 _
        refine av_wp_seq 1 (pc' := 25) (lv' := [some (.inr (.inr (.inl (some (1))))), some (.inl x), some (.inl y), some (.inl v1)]) (st' := [.inl (-1)]) (h' := h21) rfl ?_
        refine av_wp_ret (v := some (.inl (-1))) rfl rfl rfl ?_
        exact hq _ h21 (by refine ⟨?_, by omega⟩; unfold nmv; (repeat' split) <;> omega) (by unfold nmt; (repeat' split) <;> first | assumption | (exfalso; omega)) F23

