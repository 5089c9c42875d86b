/-! MORE FORGETS WHAT IS SURE -/
set_option maxRecDepth 100000 in
set_option maxHeartbeats 4000000 in
theorem cy_96 {h : av_H} (I : IC h) (K : KT h) (hcs : ∀ i : Nat, i < 16 → (i : Int) < hF h 3 3 → ∃ t c s f, CC h (hR h 4 i) t c s f) (k n : Int) (qk : -2147483648 ≤ k ∧ k ≤ 2147483647) (qn : -2147483648 ≤ n ∧ n ≤ 2147483647)  {Q : Option av_V → av_H → Prop} (hqA : (k < 0 ∨ hF h 3 3 ≤ k ∨ n < 0 ∨ hF h 1 1 < n) → Q (some (.inl (-2))) h) (hq0 : 0 ≤ k → k < hF h 3 3 → 0 ≤ n → n ≤ hF h 1 1 → ∀ ot oc os of, CC h (hR h 4 (Int.toNat k)) ot oc os of → (rbA (hA h 2) n.toNat k os (adv (hA h 2) n.toNat (0, 0, 0, -1)) (cpr h oc os (hA h 23))).2.1.2.2.2 ≠ -1 → ∀ h', FQ rdA2 (fun q => q = 4) (rdF2 3) nun2 h h' 0 0 → KT h' → hF h' 1 1 = 0 → hF h' 0 8 = (rbA (hA h 2) n.toNat k os (adv (hA h 2) n.toNat (0, 0, 0, -1)) (cpr h oc os (hA h 23))).2.1.2.2.2 → hF h' 3 3 = hF h 3 3 → hR h' 4 = hR h 4 → hA h' 25 = hA h 25 → Q (some (.inl (-1))) h') (hq1 : 0 ≤ k → k < hF h 3 3 → 0 ≤ n → n ≤ hF h 1 1 → ∀ ot oc os of, CC h (hR h 4 (Int.toNat k)) ot oc os of → (rbA (hA h 2) n.toNat k os (adv (hA h 2) n.toNat (0, 0, 0, -1)) (cpr h oc os (hA h 23))).2.1.2.2.2 = -1 → ∀ h' t c f, FQ moA (fun q => q = 4) (rdF2 3) nun2 h h' 2 (4 + 21 * (rbA (hA h 2) n.toNat k os (adv (hA h 2) n.toNat (0, 0, 0, -1)) (cpr h oc os (hA h 23))).1) → KT h' → hF h' 1 1 = 0 → hF h' 0 8 = -1 → hF h' 3 3 = hF h 3 3 → hR h' 4 = av_u1 (hR h 4) (Int.toNat k) (some t) → CC h' (some t) t c (rbA (hA h 2) n.toNat k os (adv (hA h 2) n.toNat (0, 0, 0, -1)) (cpr h oc os (hA h 23))).1 f → (∀ j, j < 21 * (rbA (hA h 2) n.toNat k os (adv (hA h 2) n.toNat (0, 0, 0, -1)) (cpr h oc os (hA h 23))).1 → f j = (rbA (hA h 2) n.toNat k os (adv (hA h 2) n.toNat (0, 0, 0, -1)) (cpr h oc os (hA h 23))).2.2 j) → hA h' 25 = hA h 25 → (∀ j, j < 144 → hA h' 27 j = 0) → Q (some (.inl ((rbA (hA h 2) n.toNat k os (adv (hA h 2) n.toNat (0, 0, 0, -1)) (cpr h oc os (hA h 23))).1 : Int))) h') : av_wp none cd_96 0 [some (.inr (.inr (.inl (some (0))))), some (.inl k), some (.inl n), none, none] [] h Q := by
  refine gd_of (fun hg => ?_)
  obtain ⟨⟨lim0, t0, C⟩, ql, hz, x74⟩ := K
  have L := I.1
  obtain ⟨len, hl⟩ : ∃ v, hF h 1 1 = v := ⟨_, rfl⟩
  rw [hl] at ql
  have cn := ic_cc I
  have ln := ic_lc I
  have kn := ic_kc I
  obtain ⟨cnt, hc⟩ : ∃ v, hF h 3 3 = v := ⟨_, rfl⟩
  obtain ⟨lnt, hlc⟩ : ∃ v, hF h 3 4 = v := ⟨_, rfl⟩
  obtain ⟨knt, hkc⟩ : ∃ v, hF h 3 5 = v := ⟨_, rfl⟩
  rw [hc] at cn
  rw [hlc] at ln
  rw [hkc] at kn
  rw [hc] at hcs
  rw [hl, hc] at hqA
  rw [hl, hc] at hq0 hq1
  refine av_wp_seq 1 (pc' := 1) (lv' := [some (.inr (.inr (.inl (some (0))))), some (.inl k), some (.inl n), none, none]) (st' := [.inr (.inr (.inl (some (0))))]) (h' := h) rfl ?_
  refine wq_gr (p' := 4) rfl rfl (congrArg Prod.fst (ly_k L 0 rfl)) rfl (ly_g L 0 1 3 rfl) ?_
  refine av_wp_seq 1 (pc' := 5) (lv' := [some (.inr (.inr (.inl (some (0))))), some (.inl k), some (.inl n), none, none]) (st' := [.inl k, .inr (.inr (.inl (some (3))))]) (h' := h) rfl ?_
  refine wq_cv (p' := 8) (av_qc (.invokevirtual 96) 69 1 0 5) 2 cd_69 [.inl k] (3) 5 [some (.inr (.inr (.inl (some (3))))), some (.inl k)] rfl rfl rfl pp_69 rfl rfl rfl (congrArg Prod.fst (ly_k L 3 rfl)) rfl rfl rfl rfl ?_
  refine ct_69x L hc cn k (by omega) (fun z0 => ?_) (fun z1 z2 => ?_)
  · show av_wp _ cd_96 8 [some (.inr (.inr (.inl (some (0))))), some (.inl k), some (.inl n), none, none] [.inr (.inr (.inl none))] h _
    refine av_wp_seq 4 (pc' := 26) (lv' := [some (.inr (.inr (.inl (some (0))))), some (.inl k), some (.inl n), some (.inr (.inr (.inl none))), none]) (st' := [.inl (-2)]) (h' := h) rfl ?_
    refine av_wp_ret (v := some (.inl (-2))) rfl rfl rfl ?_
    exact hqA (by omega)
  · obtain ⟨ot, oc, os, of, occ⟩ := hcs (Int.toNat k) (by omega) (by omega)
    rw [occ.1]
    show av_wp _ cd_96 8 [some (.inr (.inr (.inl (some (0))))), some (.inl k), some (.inl n), none, none] [.inr (.inr (.inl (some (ot))))] h _
    refine av_wp_seq 4 (pc' := 14) (lv' := [some (.inr (.inr (.inl (some (0))))), some (.inl k), some (.inl n), some (.inr (.inr (.inl (some (ot))))), none]) (st' := [.inr (.inr (.inl (some (0))))]) (h' := h) rfl ?_
    refine wq_gr (p' := 17) rfl rfl (congrArg Prod.fst (ly_k L 0 rfl)) rfl (ly_g L 0 0 1 rfl) ?_
    refine av_wp_seq 1 (pc' := 18) (lv' := [some (.inr (.inr (.inl (some (0))))), some (.inl k), some (.inl n), some (.inr (.inr (.inl (some (ot))))), none]) (st' := [.inl n, .inr (.inr (.inl (some (1))))]) (h' := h) rfl ?_
    refine wq_cv (p' := 21) (av_qc (.invokevirtual 75) 80 1 0 6) 2 cd_80 [.inl n] (1) 6 [some (.inr (.inr (.inl (some (1))))), some (.inl n)] rfl rfl rfl pp_80 rfl rfl rfl (congrArg Prod.fst (ly_k L 1 rfl)) rfl rfl rfl rfl ?_
    refine ct_80 L hl ql n (by omega) (fun v1 p2 => ?_)
    show av_wp _ cd_96 21 [some (.inr (.inr (.inl (some (0))))), some (.inl k), some (.inl n), some (.inr (.inr (.inl (some (ot))))), none] [.inl v1] h _
    refine wq_k1 (p' := 24) rfl rfl ⟨by omega, by omega⟩ (fun c3 => ?_) (fun c4 => ?_)
    · have c3 : v1 ≠ (0) := c3
      refine av_wp_seq 1 (pc' := 28) (lv' := [some (.inr (.inr (.inl (some (0))))), some (.inl k), some (.inl n), some (.inr (.inr (.inl (some (ot))))), none]) (st' := [.inr (.inr (.inl (some (0))))]) (h' := h) rfl ?_
      refine wq_gr (p' := 31) rfl rfl (congrArg Prod.fst (ly_k L 0 rfl)) rfl (ly_g L 0 0 1 rfl) ?_
      refine av_wp_seq 1 (pc' := 32) (lv' := [some (.inr (.inr (.inl (some (0))))), some (.inl k), some (.inl n), some (.inr (.inr (.inl (some (ot))))), none]) (st' := [.inl n, .inr (.inr (.inl (some (1))))]) (h' := h) rfl ?_
      refine wq_cv (p' := 35) (av_qc (.invokevirtual 82) 81 1 0 6) 2 cd_81 [.inl n] (1) 6 [some (.inr (.inr (.inl (some (1))))), some (.inl n)] rfl rfl rfl pp_81 rfl rfl rfl (congrArg Prod.fst (ly_k L 1 rfl)) rfl rfl rfl rfl ?_
      refine ct_81 C (FT_rf h) hl ql n (by omega) (fun h1 C1 F1 => ?_)
      show av_wp _ cd_96 35 [some (.inr (.inr (.inl (some (0))))), some (.inl k), some (.inl n), some (.inr (.inr (.inl (some (ot))))), none] [] h1 _
      refine av_wp_seq 1 (pc' := 36) (lv' := [some (.inr (.inr (.inl (some (0))))), some (.inl k), some (.inl n), some (.inr (.inr (.inl (some (ot))))), none]) (st' := [.inr (.inr (.inl (some (0))))]) (h' := h1) rfl ?_
      refine wq_gr (p' := 39) rfl rfl (congrArg Prod.fst (ly_k C1.1 0 rfl)) rfl (ly_g C1.1 0 3 22 rfl) ?_
      refine av_wp_seq 2 (pc' := 41) (lv' := [some (.inr (.inr (.inl (some (0))))), some (.inl k), some (.inl n), some (.inr (.inr (.inl (some (ot))))), none]) (st' := [.inl k, .inr (.inr (.inl (some (ot)))), .inr (.inr (.inl (some (22))))]) (h' := h1) rfl ?_
      have q0 : FQ rdA2 (fun q => q = 4) (rdF2 3) nun2 h h1 0 0 := FQ_T F1 (Or.inl rfl) (Or.inr rfl) (fun _ => Or.inl rfl)
      have l1 := occ.2.2.2.2.1
      have l2 := occ.2.2.2.2.2.1
      have v0 := occ.2.2.1
      have d0 := occ.2.2.2.1
      have oX : CX h1 ot oc os of := CX_fq hg q0 (fun j z => by unfold rdF2 at z; omega) (fun j z => z) (fun z => by unfold rdA2 at z; omega) occ.2.1
      have ea : hA h1 oc = hA h oc := (oX.2.2.2.2.2).trans occ.2.1.2.2.2.2.2.symm
      have ec : cpr h1 oc os (hA h 23) = cpr h oc os (hA h 23) := by unfold cpr; rw [ea]
      have Hq0 := hq0 (by omega) (by omega) (by omega) (by omega) ot oc os of occ
      have Hq1 := hq1 (by omega) (by omega) (by omega) (by omega) ot oc os of occ
      clear hq0 hq1
      rw [← ec] at Hq0 Hq1
      refine wq_cv (p' := 44) (av_qc (.invokevirtual 85) 35 2 0 2) 6 cd_35 [.inl k, .inr (.inr (.inl (some (ot))))] (22) 2 [some (.inr (.inr (.inl (some (22))))), some (.inr (.inr (.inl (some (ot))))), some (.inl k), none, none, none] rfl rfl rfl pp_35 rfl rfl rfl (congrArg Prod.fst (ly_k C1.1 22 rfl)) rfl rfl rfl rfl ?_
      refine ct_35 C1 (cx_co oX v0 (by omega)) (fun j hj h20 => by rw [oX.2.2.2.2.2, ctn_o h20]; exact v0.2.2.2 j h20) (fun q hq h2 => by rw [oX.2.2.2.2.2, ctn_o (by omega)] at h2; rw [oX.2.2.2.2.2, ctn_o (by omega)]; exact d0 q hq h2) hz (k) (by omega) (fun x0 h2 C2 B2 f2 l2 r2 a2 z2 => ?_) (fun x1 h5 h4 f C4 A4 C5 B4 f4 l4 r4 a4 z4 cx fv sd s1 fj l122 => ?_)
      · show av_wp _ cd_96 44 [some (.inr (.inr (.inl (some (0))))), some (.inl k), some (.inl n), some (.inr (.inr (.inl (some (ot))))), none] [.inr (.inr (.inl none))] h2 _
        refine av_wp_seq 2 (pc' := 47) (lv' := [some (.inr (.inr (.inl (some (0))))), some (.inl k), some (.inl n), some (.inr (.inr (.inl (some (ot))))), some (.inr (.inr (.inl none)))]) (st' := [.inr (.inr (.inl (some (0))))]) (h' := h2) rfl ?_
        refine wq_cv (p' := 50) (av_qc (.invokevirtual 89) 99 0 0 7) 1 cd_99 [] (0) 7 [some (.inr (.inr (.inl (some (0)))))] rfl rfl rfl pp_99 rfl rfl rfl (congrArg Prod.fst (ly_k C2.1 0 rfl)) rfl rfl rfl rfl ?_
        refine ct_99 C2.1 C2 ?_
        show av_wp _ cd_96 50 [some (.inr (.inr (.inl (some (0))))), some (.inl k), some (.inl n), some (.inr (.inr (.inl (some (ot))))), some (.inr (.inr (.inl none)))] [] (hwF (hwF h2 0 8 (rbA (hA h 2) n.toNat k os (adv (hA h 2) n.toNat (0, 0, 0, -1)) (cpr h1 oc os (hA h 23))).2.1.2.2.2) 1 1 (0)) _
        refine av_wp_seq 3 (pc' := 56) (lv' := [some (.inr (.inr (.inl (some (0))))), some (.inl k), some (.inl n), some (.inr (.inr (.inl (some (ot))))), some (.inr (.inr (.inl none)))]) (st' := [.inl (-1)]) (h' := (hwF (hwF h2 0 8 (rbA (hA h 2) n.toNat k os (adv (hA h 2) n.toNat (0, 0, 0, -1)) (cpr h1 oc os (hA h 23))).2.1.2.2.2) 1 1 (0))) rfl ?_
        refine av_wp_ret (v := some (.inl (-1))) rfl rfl rfl ?_
        have q1 := q0
        have q2 : FQ rdA2 (fun q => q = 4) (rdF2 3) nun2 h1 h2 0 0 := FQ_35 B2 f2 r2 a2 (Or.inl rfl) (fun _ => ⟨Or.inl rfl, Or.inr (Or.inl rfl)⟩)
        have q3 : FQ rdA2 (fun q => q = 4) (rdF2 3) nun2 h (hwF (hwF h2 0 8 (rbA (hA h 2) n.toNat k os (adv (hA h 2) n.toNat (0, 0, 0, -1)) (cpr h1 oc os (hA h 23))).2.1.2.2.2) 1 1 (0)) 0 0 := FQ_tr (FQ_tr (FQ_tr q1 q2) (FQ_wF (Or.inr (Or.inr (Or.inl ⟨rfl, rfl⟩))))) (FQ_wF (Or.inl rfl))
        have k3 : KT (hwF (hwF h2 0 8 (rbA (hA h 2) n.toNat k os (adv (hA h 2) n.toNat (0, 0, 0, -1)) (cpr h1 oc os (hA h 23))).2.1.2.2.2) 1 1 (0)) := KT_of (CT_wF0 (CT_wF0 C2 (Or.inl (by decide))) (Or.inr rfl)) (by show (0 : Int) ≤ 0 ∧ (0 : Int) ≤ 900; omega) z2 (CX_fq hg q3 (fun j z => by unfold rdF2 at z; omega) (fun j z => z) (fun z => by unfold rdA2 at z; omega) x74)
        exact Hq0 x0 (hwF (hwF h2 0 8 (rbA (hA h 2) n.toNat k os (adv (hA h 2) n.toNat (0, 0, 0, -1)) (cpr h1 oc os (hA h 23))).2.1.2.2.2) 1 1 (0)) q3 k3 rfl rfl ((f2 3 3 (by decide) (by decide)).trans ((F1.2.2.2.2.2.1 3 3 rfl).trans hc)) ((congrFun r2 4).trans (congrFun F1.2.2.2.1 4)) ((a2 25 (by decide)).trans ((ct_d C1).trans (ct_d C).symm))
      · have f45 : ∀ q k, q ≠ 1 → q ≠ 22 → q < 122 → hF h5 q k = hF h1 q k := fun q k h1 h2 h3 => (congrFun (A4.2.2 q (by omega)).2.2.1 k).trans (f4 q k h1 h2)
        show av_wp _ cd_96 44 [some (.inr (.inr (.inl (some (0))))), some (.inl k), some (.inl n), some (.inr (.inr (.inl (some (ot))))), none] [.inr (.inr (.inl (some (h4.1))))] h5 _
        refine av_wp_seq 2 (pc' := 47) (lv' := [some (.inr (.inr (.inl (some (0))))), some (.inl k), some (.inl n), some (.inr (.inr (.inl (some (ot))))), some (.inr (.inr (.inl (some (h4.1)))))]) (st' := [.inr (.inr (.inl (some (0))))]) (h' := h5) rfl ?_
        refine wq_cv (p' := 50) (av_qc (.invokevirtual 89) 99 0 0 7) 1 cd_99 [] (0) 7 [some (.inr (.inr (.inl (some (0)))))] rfl rfl rfl pp_99 rfl rfl rfl (congrArg Prod.fst (ly_k C5.1 0 rfl)) rfl rfl rfl rfl ?_
        refine ct_99 C5.1 C5 ?_
        show av_wp _ cd_96 50 [some (.inr (.inr (.inl (some (0))))), some (.inl k), some (.inl n), some (.inr (.inr (.inl (some (ot))))), some (.inr (.inr (.inl (some (h4.1)))))] [] (hwF (hwF h5 0 8 (rbA (hA h 2) n.toNat k os (adv (hA h 2) n.toNat (0, 0, 0, -1)) (cpr h1 oc os (hA h 23))).2.1.2.2.2) 1 1 (0)) _
        refine av_wp_seq 3 (pc' := 58) (lv' := [some (.inr (.inr (.inl (some (0))))), some (.inl k), some (.inl n), some (.inr (.inr (.inl (some (ot))))), some (.inr (.inr (.inl (some (h4.1)))))]) (st' := [.inr (.inr (.inl (some (0))))]) (h' := (hwF (hwF h5 0 8 (rbA (hA h 2) n.toNat k os (adv (hA h 2) n.toNat (0, 0, 0, -1)) (cpr h1 oc os (hA h 23))).2.1.2.2.2) 1 1 (0))) rfl ?_
        refine wq_gr (p' := 61) rfl rfl (congrArg Prod.fst (ly_k C5.1 0 rfl)) rfl (ly_g C5.1 0 1 3 rfl) ?_
        refine wq_gr (p' := 64) rfl rfl (congrArg Prod.fst (ly_k C5.1 3 rfl)) rfl (ly_g C5.1 3 0 4 rfl) ?_
        refine av_wp_seq 2 (pc' := 67) (lv' := [some (.inr (.inr (.inl (some (0))))), some (.inl k), some (.inl n), some (.inr (.inr (.inl (some (ot))))), some (.inr (.inr (.inl (some (h4.1)))))]) (st' := [.inr (.inr (.inl (some (h4.1)))), .inl k, .inr (.inr (.inl (some (4))))]) (h' := (hwF (hwF h5 0 8 (rbA (hA h 2) n.toNat k os (adv (hA h 2) n.toNat (0, 0, 0, -1)) (cpr h1 oc os (hA h 23))).2.1.2.2.2) 1 1 (0))) rfl ?_
        refine wq_rs (p' := 68) (n := 16) rfl rfl (ly_k C5.1 4 rfl) (Or.inl rfl) (by omega) (fun q hq => by cases hq; exact congrArg Prod.fst cx.1) ?_
        refine av_wp_seq 1 (pc' := 69) (lv' := [some (.inr (.inr (.inl (some (0))))), some (.inl k), some (.inl n), some (.inr (.inr (.inl (some (ot))))), some (.inr (.inr (.inl (some (h4.1)))))]) (st' := [.inr (.inr (.inl (some (0))))]) (h' := (hwR (hwF (hwF h5 0 8 (rbA (hA h 2) n.toNat k os (adv (hA h 2) n.toNat (0, 0, 0, -1)) (cpr h1 oc os (hA h 23))).2.1.2.2.2) 1 1 (0)) 4 (Int.toNat k) (some h4.1))) rfl ?_
        refine wq_gr (p' := 72) rfl rfl (congrArg Prod.fst (ly_k C5.1 0 rfl)) rfl (ly_g C5.1 0 5 26 rfl) ?_
        refine wq_cv (p' := 75) (av_qc (.invokevirtual 104) 46 0 0 3) 1 cd_46 [] (26) 3 [some (.inr (.inr (.inl (some (26)))))] rfl rfl rfl pp_46 rfl rfl rfl (congrArg Prod.fst (ly_k C5.1 26 rfl)) rfl rfl rfl rfl ?_
        refine ct_46x (h := (hwR (hwF (hwF h5 0 8 (rbA (hA h 2) n.toNat k os (adv (hA h 2) n.toNat (0, 0, 0, -1)) (cpr h1 oc os (hA h 23))).2.1.2.2.2) 1 1 (0)) 4 (Int.toNat k) (some h4.1))) (LY_wR C5.1 (by decide) (by decide)) ?_
        show av_wp _ cd_96 75 [some (.inr (.inr (.inl (some (0))))), some (.inl k), some (.inl n), some (.inr (.inr (.inl (some (ot))))), some (.inr (.inr (.inl (some (h4.1)))))] [] (hfil (hwR (hwF (hwF h5 0 8 (rbA (hA h 2) n.toNat k os (adv (hA h 2) n.toNat (0, 0, 0, -1)) (cpr h1 oc os (hA h 23))).2.1.2.2.2) 1 1 (0)) 4 (Int.toNat k) (some h4.1)) 27 0 144 (0)) _
        refine av_wp_seq 1 (pc' := 77) (lv' := [some (.inr (.inr (.inl (some (0))))), some (.inl k), some (.inl n), some (.inr (.inr (.inl (some (ot))))), some (.inr (.inr (.inl (some (h4.1)))))]) (st' := [.inr (.inr (.inl (some (h4.1))))]) (h' := (hfil (hwR (hwF (hwF h5 0 8 (rbA (hA h 2) n.toNat k os (adv (hA h 2) n.toNat (0, 0, 0, -1)) (cpr h1 oc os (hA h 23))).2.1.2.2.2) 1 1 (0)) 4 (Int.toNat k) (some h4.1)) 27 0 144 (0))) rfl ?_
        have cc : CC (hfil (hwR (hwF (hwF h5 0 8 (rbA (hA h 2) n.toNat k os (adv (hA h 2) n.toNat (0, 0, 0, -1)) (cpr h1 oc os (hA h 23))).2.1.2.2.2) 1 1 (0)) 4 (Int.toNat k) (some h4.1)) 27 0 144 (0)) (some h4.1) h4.1 (h4.1 + 1) (rbA (hA h 2) n.toNat k os (adv (hA h 2) n.toNat (0, 0, 0, -1)) (cpr h1 oc os (hA h 23))).1 f := CC_fil (by omega) (CC_wR (CC_wF (by omega) (CC_wF (by omega) ⟨rfl, cx, fv, sd, l122, by omega, s1⟩)))
        refine wq_gi (p' := 80) (v := ((rbA (hA h 2) n.toNat k os (adv (hA h 2) n.toNat (0, 0, 0, -1)) (cpr h1 oc os (hA h 23))).1 : Int)) rfl rfl (congrArg Prod.fst cc.2.1.1) rfl cc.2.1.2.1 ?_
        refine av_wp_ret (v := some (.inl ((rbA (hA h 2) n.toNat k os (adv (hA h 2) n.toNat (0, 0, 0, -1)) (cpr h1 oc os (hA h 23))).1 : Int))) rfl rfl rfl ?_
        have q1 := q0
        have q2 : FQ rdA2 (fun q => q = 4) (rdF2 3) nun2 h1 h4 0 0 := FQ_35 B4 f4 r4 a4 (Or.inl rfl) (fun _ => ⟨Or.inl rfl, Or.inr (Or.inl rfl)⟩)
        have q3 : FQ moA (fun q => q = 4) (rdF2 3) nun2 h (hfil (hwR (hwF (hwF h5 0 8 (rbA (hA h 2) n.toNat k os (adv (hA h 2) n.toNat (0, 0, 0, -1)) (cpr h1 oc os (hA h 23))).2.1.2.2.2) 1 1 (0)) 4 (Int.toNat k) (some h4.1)) 27 0 144 (0)) 2 (4 + 21 * (rbA (hA h 2) n.toNat k os (adv (hA h 2) n.toNat (0, 0, 0, -1)) (cpr h1 oc os (hA h 23))).1) := FQ_eq (FQ_tr (FQ_tr (FQ_tr (FQ_tr (FQ_tr (rd_mo (FQ_tr q1 q2)) (FQ_al A4)) (FQ_wF (Or.inr (Or.inr (Or.inl ⟨rfl, rfl⟩))))) (FQ_wF (Or.inl rfl))) (FQ_wR rfl)) (FQ_fil (Or.inr (Or.inr rfl)))) (by omega) (by omega)
        have k3 : KT (hfil (hwR (hwF (hwF h5 0 8 (rbA (hA h 2) n.toNat k os (adv (hA h 2) n.toNat (0, 0, 0, -1)) (cpr h1 oc os (hA h 23))).2.1.2.2.2) 1 1 (0)) 4 (Int.toNat k) (some h4.1)) 27 0 144 (0)) := KT_of (CT_fil (CT_wR (CT_wF0 (CT_wF0 C5 (Or.inl (by decide))) (Or.inr rfl)) (by decide) (by decide))) (by show (0 : Int) ≤ 0 ∧ (0 : Int) ≤ 900; omega) z4 (CX_fq hg q3 (fun j z => by unfold rdF2 at z; omega) (fun j z => z) (fun z => by unfold moA at z; omega) x74)
        have er : hR h5 4 = hR h 4 := ((A4.2.2 4 (by omega)).2.2.2.2).trans ((congrFun r4 4).trans (congrFun F1.2.2.2.1 4))
        have er2 : hR (hfil (hwR (hwF (hwF h5 0 8 (rbA (hA h 2) n.toNat k os (adv (hA h 2) n.toNat (0, 0, 0, -1)) (cpr h1 oc os (hA h 23))).2.1.2.2.2) 1 1 (0)) 4 (Int.toNat k) (some h4.1)) 27 0 144 (0)) 4 = av_u1 (hR h 4) (Int.toNat k) (some h4.1) := by
          rw [← er]
          funext j
          show av_u2 h5.2.2.2.2.2.2.1 4 (Int.toNat k) (some h4.1) 4 j = av_u1 (hR h5 4) (Int.toNat k) (some h4.1) j
          unfold av_u2 av_u1
          by_cases e : j = Int.toNat k
          · rw [if_pos ⟨rfl, e⟩, if_pos e]
          · rw [if_neg (fun z => e z.2), if_neg e]
        exact Hq1 x1 (hfil (hwR (hwF (hwF h5 0 8 (rbA (hA h 2) n.toNat k os (adv (hA h 2) n.toNat (0, 0, 0, -1)) (cpr h1 oc os (hA h 23))).2.1.2.2.2) 1 1 (0)) 4 (Int.toNat k) (some h4.1)) 27 0 144 (0)) h4.1 (h4.1 + 1) f q3 k3 rfl x1 ((f45 3 3 (by decide) (by decide) (by omega)).trans ((F1.2.2.2.2.2.1 3 3 rfl).trans hc)) er2 cc fj ((fil_o (by decide)).trans (((A4.2.2 25 (by omega)).2.1).trans ((a4 25 (by decide)).trans ((ct_d C1).trans (ct_d C).symm)))) (fun j hj => if_pos ⟨rfl, Nat.zero_le j, hj⟩)
    · have c4 : v1 = (0) := c4
      refine av_wp_seq 1 (pc' := 26) (lv' := [some (.inr (.inr (.inl (some (0))))), some (.inl k), some (.inl n), some (.inr (.inr (.inl (some (ot))))), none]) (st' := [.inl (-2)]) (h' := h) rfl ?_
      refine av_wp_ret (v := some (.inl (-2))) rfl rfl rfl ?_
      exact hqA (by omega)
