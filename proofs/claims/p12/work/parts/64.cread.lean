/-! THE CLASS READS: tell, more, law, clause -/
set_option maxRecDepth 100000 in
set_option maxHeartbeats 4000000 in
theorem ct_95 {h : av_H} (I : IC h) (K : KT h) (n : Int) (qn : -2147483648 ≤ n ∧ n ≤ 2147483647)  {Q : Option av_V → av_H → Prop} (hqA : (n < 0 ∨ hF h 1 1 < n) → Q (some (.inl (-2))) h) (hqB : 0 ≤ n → n ≤ hF h 1 1 → hF h 3 3 = 16 → Q (some (.inl (-3))) h) (hq0 : 0 ≤ n → n ≤ hF h 1 1 → hF h 3 3 < 16 → (rbA (hA h 2) n.toNat (hF h 3 3) 0 (adv (hA h 2) n.toNat (0, 0, 0, -1)) (hA h 23)).2.1.2.2.2 ≠ -1 → ∀ h', FQ rdA2 (fun q => q = 4) (rdF2 3) nun2 h h' 0 0 → KT h' → hF h' 1 1 = 0 → hF h' 0 8 = (rbA (hA h 2) n.toNat (hF h 3 3) 0 (adv (hA h 2) n.toNat (0, 0, 0, -1)) (hA h 23)).2.1.2.2.2 → hF h' 3 3 = hF h 3 3 → hR h' 4 = hR h 4 → hA h' 25 = hA h 25 → Q (some (.inl (-1))) h') (hq1 : 0 ≤ n → n ≤ hF h 1 1 → hF h 3 3 < 16 → (rbA (hA h 2) n.toNat (hF h 3 3) 0 (adv (hA h 2) n.toNat (0, 0, 0, -1)) (hA h 23)).2.1.2.2.2 = -1 → ∀ h' t c f, FQ rdA2 (fun q => q = 4) (rdF2 3) nun2 h h' 2 (4 + 21 * (rbA (hA h 2) n.toNat (hF h 3 3) 0 (adv (hA h 2) n.toNat (0, 0, 0, -1)) (hA h 23)).1) → KT h' → hF h' 1 1 = 0 → hF h' 0 8 = -1 → hF h' 3 3 = hF h 3 3 + 1 → hR h' 4 = av_u1 (hR h 4) (hF h 3 3).toNat (some t) → CC h' (some t) t c (rbA (hA h 2) n.toNat (hF h 3 3) 0 (adv (hA h 2) n.toNat (0, 0, 0, -1)) (hA h 23)).1 f → (∀ j, j < 21 * (rbA (hA h 2) n.toNat (hF h 3 3) 0 (adv (hA h 2) n.toNat (0, 0, 0, -1)) (hA h 23)).1 → f j = (rbA (hA h 2) n.toNat (hF h 3 3) 0 (adv (hA h 2) n.toNat (0, 0, 0, -1)) (hA h 23)).2.2 j) → hA h' 25 = hA h 25 → Q (some (.inl (hF h 3 3))) h') : av_wp none cd_95 0 [some (.inr (.inr (.inl (some (0))))), some (.inl n), none] [] h Q := by
  refine gd_of (fun hg => ?_)
  obtain ⟨⟨lim0, t0, C⟩, ql, hz, x74⟩ := K
  have L := I.1
  obtain ⟨len, hl⟩ : ∃ v, hF h 1 1 = v := ⟨_, rfl⟩
  rw [hl] at ql
  have cn := ic_cc I
  have ln := ic_lc I
  have kn := ic_kc I
  obtain ⟨cnt, hc⟩ : ∃ v, hF h 3 3 = v := ⟨_, rfl⟩
  obtain ⟨lnt, hlc⟩ : ∃ v, hF h 3 4 = v := ⟨_, rfl⟩
  obtain ⟨knt, hkc⟩ : ∃ v, hF h 3 5 = v := ⟨_, rfl⟩
  rw [hc] at cn
  rw [hlc] at ln
  rw [hkc] at kn
  rw [hl] at hqA
  rw [hl, hc] at hqB
  rw [hl, hc] at hq0 hq1
  refine av_wp_seq 1 (pc' := 1) (lv' := [some (.inr (.inr (.inl (some (0))))), some (.inl n), none]) (st' := [.inr (.inr (.inl (some (0))))]) (h' := h) rfl ?_
  refine wq_gr (p' := 4) rfl rfl (congrArg Prod.fst (ly_k L 0 rfl)) rfl (ly_g L 0 0 1 rfl) ?_
  refine av_wp_seq 1 (pc' := 5) (lv' := [some (.inr (.inr (.inl (some (0))))), some (.inl n), none]) (st' := [.inl n, .inr (.inr (.inl (some (1))))]) (h' := h) rfl ?_
  refine wq_cv (p' := 8) (av_qc (.invokevirtual 75) 80 1 0 6) 2 cd_80 [.inl n] (1) 6 [some (.inr (.inr (.inl (some (1))))), some (.inl n)] rfl rfl rfl pp_80 rfl rfl rfl (congrArg Prod.fst (ly_k L 1 rfl)) rfl rfl rfl rfl ?_
  refine ct_80 L hl ql n (by omega) (fun v1 p2 => ?_)
  show av_wp _ cd_95 8 [some (.inr (.inr (.inl (some (0))))), some (.inl n), none] [.inl v1] h _
  refine wq_k1 (p' := 11) rfl rfl ⟨by omega, by omega⟩ (fun c3 => ?_) (fun c4 => ?_)
  · have c3 : v1 ≠ (0) := c3
    refine av_wp_seq 1 (pc' := 15) (lv' := [some (.inr (.inr (.inl (some (0))))), some (.inl n), none]) (st' := [.inr (.inr (.inl (some (0))))]) (h' := h) rfl ?_
    refine wq_gr (p' := 18) rfl rfl (congrArg Prod.fst (ly_k L 0 rfl)) rfl (ly_g L 0 1 3 rfl) ?_
    refine wq_gi (p' := 21) rfl rfl (congrArg Prod.fst (ly_k L 3 rfl)) rfl (hc) ?_
    refine av_wp_seq 1 (pc' := 23) (lv' := [some (.inr (.inr (.inl (some (0))))), some (.inl n), none]) (st' := [.inl (16), .inl cnt]) (h' := h) rfl ?_
    refine wq_k2 (p' := 26) rfl rfl ⟨by omega, by omega⟩ ⟨by omega, by omega⟩ (fun c5 => ?_) (fun c6 => ?_)
    · have c5 : cnt < (16) := c5
      refine av_wp_seq 1 (pc' := 30) (lv' := [some (.inr (.inr (.inl (some (0))))), some (.inl n), none]) (st' := [.inr (.inr (.inl (some (0))))]) (h' := h) rfl ?_
      refine wq_gr (p' := 33) rfl rfl (congrArg Prod.fst (ly_k L 0 rfl)) rfl (ly_g L 0 0 1 rfl) ?_
      refine av_wp_seq 1 (pc' := 34) (lv' := [some (.inr (.inr (.inl (some (0))))), some (.inl n), none]) (st' := [.inl n, .inr (.inr (.inl (some (1))))]) (h' := h) rfl ?_
      refine wq_cv (p' := 37) (av_qc (.invokevirtual 82) 81 1 0 6) 2 cd_81 [.inl n] (1) 6 [some (.inr (.inr (.inl (some (1))))), some (.inl n)] rfl rfl rfl pp_81 rfl rfl rfl (congrArg Prod.fst (ly_k L 1 rfl)) rfl rfl rfl rfl ?_
      refine ct_81 C (FT_rf h) hl ql n (by omega) (fun h1 C1 F1 => ?_)
      show av_wp _ cd_95 37 [some (.inr (.inr (.inl (some (0))))), some (.inl n), none] [] h1 _
      refine av_wp_seq 1 (pc' := 38) (lv' := [some (.inr (.inr (.inl (some (0))))), some (.inl n), none]) (st' := [.inr (.inr (.inl (some (0))))]) (h' := h1) rfl ?_
      refine wq_gr (p' := 41) rfl rfl (congrArg Prod.fst (ly_k C1.1 0 rfl)) rfl (ly_g C1.1 0 3 22 rfl) ?_
      refine av_wp_seq 1 (pc' := 42) (lv' := [some (.inr (.inr (.inl (some (0))))), some (.inl n), none]) (st' := [.inr (.inr (.inl (some (0)))), .inr (.inr (.inl (some (22))))]) (h' := h1) rfl ?_
      refine wq_gr (p' := 45) rfl rfl (congrArg Prod.fst (ly_k C1.1 0 rfl)) rfl (ly_g C1.1 0 6 74 rfl) ?_
      refine av_wp_seq 1 (pc' := 46) (lv' := [some (.inr (.inr (.inl (some (0))))), some (.inl n), none]) (st' := [.inr (.inr (.inl (some (0)))), .inr (.inr (.inl (some (74)))), .inr (.inr (.inl (some (22))))]) (h' := h1) rfl ?_
      refine wq_gr (p' := 49) rfl rfl (congrArg Prod.fst (ly_k C1.1 0 rfl)) rfl (ly_g C1.1 0 1 3 rfl) ?_
      refine wq_gi (p' := 52) rfl rfl (congrArg Prod.fst (ly_k C1.1 3 rfl)) rfl (((F1.2.2.2.2.2.1 3 3 rfl).trans hc)) ?_
      have x74b : CX h1 74 76 0 (fun _ => 0) := CX_fq hg (FQ_T (eA := rdA2) (eR := nun1) (eF := rdF2 3) (eG := nun2) F1 (Or.inl rfl) (Or.inr rfl) (fun _ => Or.inl rfl)) (fun j z => by unfold rdF2 at z; omega) (fun j z => z) (fun z => by unfold rdA2 at z; omega) x74
      have ec : cpr h1 76 0 (hA h 23) = hA h 23 := cpr_0
      rw [← ec] at hq0 hq1
      refine wq_cv (p' := 55) (av_qc (.invokevirtual 85) 35 2 0 2) 6 cd_35 [.inl cnt, .inr (.inr (.inl (some (74))))] (22) 2 [some (.inr (.inr (.inl (some (22))))), some (.inr (.inr (.inl (some (74))))), some (.inl cnt), none, none, none] rfl rfl rfl pp_35 rfl rfl rfl (congrArg Prod.fst (ly_k C1.1 22 rfl)) rfl rfl rfl rfl ?_
      refine ct_35 C1 (co_nt x74b) (fun j hj => by omega) (fun q hq => by omega) hz (cnt) (by omega) (fun x0 h2 C2 B2 f2 l2 r2 a2 z2 => ?_) (fun x1 h5 h4 f C4 A4 C5 B4 f4 l4 r4 a4 z4 cx fv sd s1 fj l122 => ?_)
      · show av_wp _ cd_95 55 [some (.inr (.inr (.inl (some (0))))), some (.inl n), none] [.inr (.inr (.inl none))] h2 _
        refine av_wp_seq 2 (pc' := 57) (lv' := [some (.inr (.inr (.inl (some (0))))), some (.inl n), some (.inr (.inr (.inl none)))]) (st' := [.inr (.inr (.inl (some (0))))]) (h' := h2) rfl ?_
        refine wq_cv (p' := 60) (av_qc (.invokevirtual 89) 99 0 0 7) 1 cd_99 [] (0) 7 [some (.inr (.inr (.inl (some (0)))))] rfl rfl rfl pp_99 rfl rfl rfl (congrArg Prod.fst (ly_k C2.1 0 rfl)) rfl rfl rfl rfl ?_
        refine ct_99 C2.1 C2 ?_
        show av_wp _ cd_95 60 [some (.inr (.inr (.inl (some (0))))), some (.inl n), some (.inr (.inr (.inl none)))] [] (hwF (hwF h2 0 8 (rbA (hA h 2) n.toNat cnt 0 (adv (hA h 2) n.toNat (0, 0, 0, -1)) (cpr h1 76 0 (hA h 23))).2.1.2.2.2) 1 1 (0)) _
        refine av_wp_seq 4 (pc' := 76) (lv' := [some (.inr (.inr (.inl (some (0))))), some (.inl n), some (.inr (.inr (.inl none)))]) (st' := [.inl (-1)]) (h' := (hwF (hwF h2 0 8 (rbA (hA h 2) n.toNat cnt 0 (adv (hA h 2) n.toNat (0, 0, 0, -1)) (cpr h1 76 0 (hA h 23))).2.1.2.2.2) 1 1 (0))) rfl ?_
        refine av_wp_ret (v := some (.inl (-1))) rfl rfl rfl ?_
        have q1 : FQ rdA2 (fun q => q = 4) (rdF2 3) nun2 h h1 0 0 := FQ_T F1 (Or.inl rfl) (Or.inr rfl) (fun _ => Or.inl rfl)
        have q2 : FQ rdA2 (fun q => q = 4) (rdF2 3) nun2 h1 h2 0 0 := FQ_35 B2 f2 r2 a2 (Or.inl rfl) (fun _ => ⟨Or.inl rfl, Or.inr (Or.inl rfl)⟩)
        have q3 : FQ rdA2 (fun q => q = 4) (rdF2 3) nun2 h (hwF (hwF h2 0 8 (rbA (hA h 2) n.toNat cnt 0 (adv (hA h 2) n.toNat (0, 0, 0, -1)) (cpr h1 76 0 (hA h 23))).2.1.2.2.2) 1 1 (0)) 0 0 := FQ_tr (FQ_tr (FQ_tr q1 q2) (FQ_wF (Or.inr (Or.inr (Or.inl ⟨rfl, rfl⟩))))) (FQ_wF (Or.inl rfl))
        have k3 : KT (hwF (hwF h2 0 8 (rbA (hA h 2) n.toNat cnt 0 (adv (hA h 2) n.toNat (0, 0, 0, -1)) (cpr h1 76 0 (hA h 23))).2.1.2.2.2) 1 1 (0)) := KT_of (CT_wF0 (CT_wF0 C2 (Or.inl (by decide))) (Or.inr rfl)) (by show (0 : Int) ≤ 0 ∧ (0 : Int) ≤ 900; omega) z2 (CX_fq hg q3 (fun j z => by unfold rdF2 at z; omega) (fun j z => z) (fun z => by unfold rdA2 at z; omega) x74)
        exact hq0 (by omega) (by omega) (by omega) x0 (hwF (hwF h2 0 8 (rbA (hA h 2) n.toNat cnt 0 (adv (hA h 2) n.toNat (0, 0, 0, -1)) (cpr h1 76 0 (hA h 23))).2.1.2.2.2) 1 1 (0)) q3 k3 rfl rfl ((f2 3 3 (by decide) (by decide)).trans ((F1.2.2.2.2.2.1 3 3 rfl).trans hc)) ((congrFun r2 4).trans (congrFun F1.2.2.2.1 4)) ((a2 25 (by decide)).trans ((ct_d C1).trans (ct_d C).symm))
      · have f45 : ∀ q k, q ≠ 1 → q ≠ 22 → q < 122 → hF h5 q k = hF h1 q k := fun q k h1 h2 h3 => (congrFun (A4.2.2 q (by omega)).2.2.1 k).trans (f4 q k h1 h2)
        show av_wp _ cd_95 55 [some (.inr (.inr (.inl (some (0))))), some (.inl n), none] [.inr (.inr (.inl (some (h4.1))))] h5 _
        refine av_wp_seq 2 (pc' := 57) (lv' := [some (.inr (.inr (.inl (some (0))))), some (.inl n), some (.inr (.inr (.inl (some (h4.1)))))]) (st' := [.inr (.inr (.inl (some (0))))]) (h' := h5) rfl ?_
        refine wq_cv (p' := 60) (av_qc (.invokevirtual 89) 99 0 0 7) 1 cd_99 [] (0) 7 [some (.inr (.inr (.inl (some (0)))))] rfl rfl rfl pp_99 rfl rfl rfl (congrArg Prod.fst (ly_k C5.1 0 rfl)) rfl rfl rfl rfl ?_
        refine ct_99 C5.1 C5 ?_
        show av_wp _ cd_95 60 [some (.inr (.inr (.inl (some (0))))), some (.inl n), some (.inr (.inr (.inl (some (h4.1)))))] [] (hwF (hwF h5 0 8 (rbA (hA h 2) n.toNat cnt 0 (adv (hA h 2) n.toNat (0, 0, 0, -1)) (cpr h1 76 0 (hA h 23))).2.1.2.2.2) 1 1 (0)) _
        refine av_wp_seq 3 (pc' := 69) (lv' := [some (.inr (.inr (.inl (some (0))))), some (.inl n), some (.inr (.inr (.inl (some (h4.1)))))]) (st' := [.inr (.inr (.inl (some (0))))]) (h' := (hwF (hwF h5 0 8 (rbA (hA h 2) n.toNat cnt 0 (adv (hA h 2) n.toNat (0, 0, 0, -1)) (cpr h1 76 0 (hA h 23))).2.1.2.2.2) 1 1 (0))) rfl ?_
        refine wq_gr (p' := 72) rfl rfl (congrArg Prod.fst (ly_k C5.1 0 rfl)) rfl (ly_g C5.1 0 1 3 rfl) ?_
        refine av_wp_seq 1 (pc' := 73) (lv' := [some (.inr (.inr (.inl (some (0))))), some (.inl n), some (.inr (.inr (.inl (some (h4.1)))))]) (st' := [.inr (.inr (.inl (some (h4.1)))), .inr (.inr (.inl (some (3))))]) (h' := (hwF (hwF h5 0 8 (rbA (hA h 2) n.toNat cnt 0 (adv (hA h 2) n.toNat (0, 0, 0, -1)) (cpr h1 76 0 (hA h 23))).2.1.2.2.2) 1 1 (0))) rfl ?_
        refine wq_cv (p' := 76) (av_qc (.invokevirtual 92) 71 1 0 5) 2 cd_71 [.inr (.inr (.inl (some (h4.1))))] (3) 5 [some (.inr (.inr (.inl (some (3))))), some (.inr (.inr (.inl (some (h4.1)))))] rfl rfl rfl pp_71 rfl rfl rfl (congrArg Prod.fst (ly_k C5.1 3 rfl)) rfl rfl rfl rfl ?_
        refine ct_71 (h := (hwF (hwF h5 0 8 (rbA (hA h 2) n.toNat cnt 0 (adv (hA h 2) n.toNat (0, 0, 0, -1)) (cpr h1 76 0 (hA h 23))).2.1.2.2.2) 1 1 (0))) C5.1 (cnt := cnt) (((f45 3 3 (by decide) (by decide) (by omega)).trans ((F1.2.2.2.2.2.1 3 3 rfl).trans hc))) (by omega) (by omega) (t := h4.1) cx.1 ?_
        show av_wp _ cd_95 76 [some (.inr (.inr (.inl (some (0))))), some (.inl n), some (.inr (.inr (.inl (some (h4.1)))))] [.inl cnt] (hwF (hwR (hwF (hwF h5 0 8 (rbA (hA h 2) n.toNat cnt 0 (adv (hA h 2) n.toNat (0, 0, 0, -1)) (cpr h1 76 0 (hA h 23))).2.1.2.2.2) 1 1 (0)) 4 (Int.toNat cnt) (some h4.1)) 3 3 (cnt + 1)) _
        refine av_wp_ret (v := some (.inl cnt)) rfl rfl rfl ?_
        have q1 : FQ rdA2 (fun q => q = 4) (rdF2 3) nun2 h h1 0 0 := FQ_T F1 (Or.inl rfl) (Or.inr rfl) (fun _ => Or.inl rfl)
        have q2 : FQ rdA2 (fun q => q = 4) (rdF2 3) nun2 h1 h4 0 0 := FQ_35 B4 f4 r4 a4 (Or.inl rfl) (fun _ => ⟨Or.inl rfl, Or.inr (Or.inl rfl)⟩)
        have q3 : FQ rdA2 (fun q => q = 4) (rdF2 3) nun2 h (hwF (hwR (hwF (hwF h5 0 8 (rbA (hA h 2) n.toNat cnt 0 (adv (hA h 2) n.toNat (0, 0, 0, -1)) (cpr h1 76 0 (hA h 23))).2.1.2.2.2) 1 1 (0)) 4 (Int.toNat cnt) (some h4.1)) 3 3 (cnt + 1)) 2 (4 + 21 * (rbA (hA h 2) n.toNat cnt 0 (adv (hA h 2) n.toNat (0, 0, 0, -1)) (cpr h1 76 0 (hA h 23))).1) := FQ_eq (FQ_tr (FQ_tr (FQ_tr (FQ_tr (FQ_tr (FQ_tr q1 q2) (FQ_al A4)) (FQ_wF (Or.inr (Or.inr (Or.inl ⟨rfl, rfl⟩))))) (FQ_wF (Or.inl rfl))) (FQ_wR rfl)) (FQ_wF (Or.inr (Or.inr (Or.inr ⟨rfl, rfl⟩))))) (by omega) (by omega)
        have k3 : KT (hwF (hwR (hwF (hwF h5 0 8 (rbA (hA h 2) n.toNat cnt 0 (adv (hA h 2) n.toNat (0, 0, 0, -1)) (cpr h1 76 0 (hA h 23))).2.1.2.2.2) 1 1 (0)) 4 (Int.toNat cnt) (some h4.1)) 3 3 (cnt + 1)) := KT_of (CT_wF0 (CT_wR (CT_wF0 (CT_wF0 C5 (Or.inl (by decide))) (Or.inr rfl)) (by decide) (by decide)) (Or.inl (by decide))) (by show (0 : Int) ≤ 0 ∧ (0 : Int) ≤ 900; omega) z4 (CX_fq hg q3 (fun j z => by unfold rdF2 at z; omega) (fun j z => z) (fun z => by unfold rdA2 at z; omega) x74)
        have er : hR h5 4 = hR h 4 := ((A4.2.2 4 (by omega)).2.2.2.2).trans ((congrFun r4 4).trans (congrFun F1.2.2.2.1 4))
        have er2 : hR (hwF (hwR (hwF (hwF h5 0 8 (rbA (hA h 2) n.toNat cnt 0 (adv (hA h 2) n.toNat (0, 0, 0, -1)) (cpr h1 76 0 (hA h 23))).2.1.2.2.2) 1 1 (0)) 4 (Int.toNat cnt) (some h4.1)) 3 3 (cnt + 1)) 4 = av_u1 (hR h 4) (Int.toNat cnt) (some h4.1) := by
          rw [← er]
          funext j
          show av_u2 h5.2.2.2.2.2.2.1 4 (Int.toNat cnt) (some h4.1) 4 j = av_u1 (hR h5 4) (Int.toNat cnt) (some h4.1) j
          unfold av_u2 av_u1
          by_cases e : j = Int.toNat cnt
          · rw [if_pos ⟨rfl, e⟩, if_pos e]
          · rw [if_neg (fun z => e z.2), if_neg e]
        have cc : CC (hwF (hwR (hwF (hwF h5 0 8 (rbA (hA h 2) n.toNat cnt 0 (adv (hA h 2) n.toNat (0, 0, 0, -1)) (cpr h1 76 0 (hA h 23))).2.1.2.2.2) 1 1 (0)) 4 (Int.toNat cnt) (some h4.1)) 3 3 (cnt + 1)) (some h4.1) h4.1 (h4.1 + 1) (rbA (hA h 2) n.toNat cnt 0 (adv (hA h 2) n.toNat (0, 0, 0, -1)) (cpr h1 76 0 (hA h 23))).1 f := CC_wF (by omega) (CC_wR (CC_wF (by omega) (CC_wF (by omega) ⟨rfl, cx, fv, sd, l122, by omega, s1⟩)))
        exact hq1 (by omega) (by omega) (by omega) x1 (hwF (hwR (hwF (hwF h5 0 8 (rbA (hA h 2) n.toNat cnt 0 (adv (hA h 2) n.toNat (0, 0, 0, -1)) (cpr h1 76 0 (hA h 23))).2.1.2.2.2) 1 1 (0)) 4 (Int.toNat cnt) (some h4.1)) 3 3 (cnt + 1)) h4.1 (h4.1 + 1) f q3 k3 rfl x1 rfl er2 cc fj (((A4.2.2 25 (by omega)).2.1).trans ((a4 25 (by decide)).trans ((ct_d C1).trans (ct_d C).symm)))
    · have c6 : (16) ≤ cnt := c6
      refine av_wp_seq 1 (pc' := 28) (lv' := [some (.inr (.inr (.inl (some (0))))), some (.inl n), none]) (st' := [.inl (-3)]) (h' := h) rfl ?_
      refine av_wp_ret (v := some (.inl (-3))) rfl rfl rfl ?_
      exact hqB (by omega) (by omega) (by omega)
  · have c4 : v1 = (0) := c4
    refine av_wp_seq 1 (pc' := 13) (lv' := [some (.inr (.inr (.inl (some (0))))), some (.inl n), none]) (st' := [.inl (-2)]) (h' := h) rfl ?_
    refine av_wp_ret (v := some (.inl (-2))) rfl rfl rfl ?_
    exact hqA (by omega)

set_option maxRecDepth 100000 in
set_option maxHeartbeats 4000000 in
theorem ct_69x {h : av_H} (L : LY h) {cnt : Int} (hc : hF h 3 3 = cnt) (qc : 0 ≤ cnt ∧ cnt ≤ 16) (k : Int) (qk : -2147483648 ≤ k ∧ k ≤ 2147483647) {Q : Option av_V → av_H → Prop} (hq0 : (k < 0 ∨ cnt ≤ k) → Q (some (.inr (.inr (.inl none)))) h) (hq1 : 0 ≤ k → k < cnt → Q (some (.inr (.inr (.inl (hR h 4 (Int.toNat k)))))) h) : av_wp none cd_69 0 [some (.inr (.inr (.inl (some (3))))), some (.inl k)] [] h Q := by
  refine av_wp_seq 1 (pc' := 1) (lv' := [some (.inr (.inr (.inl (some (3))))), some (.inl k)]) (st' := [.inl k]) (h' := h) rfl ?_
  refine wq_k1 (p' := 4) rfl rfl ⟨by omega, by omega⟩ (fun c1 => ?_) (fun c2 => ?_)
  · have c1 : k < (0) := c1
    refine av_wp_seq 1 (pc' := 22) (lv' := [some (.inr (.inr (.inl (some (3))))), some (.inl k)]) (st' := [.inr (.inr (.inl none))]) (h' := h) rfl ?_
    refine av_wp_ret (v := some (.inr (.inr (.inl none)))) rfl rfl rfl ?_
    exact hq0 (by omega)
  · have c2 : (0) ≤ k := c2
    refine av_wp_seq 2 (pc' := 6) (lv' := [some (.inr (.inr (.inl (some (3))))), some (.inl k)]) (st' := [.inr (.inr (.inl (some (3)))), .inl k]) (h' := h) rfl ?_
    refine wq_gi (p' := 9) rfl rfl (congrArg Prod.fst (ly_k L 3 rfl)) rfl (hc) ?_
    refine wq_k2 (p' := 12) rfl rfl ⟨by omega, by omega⟩ ⟨by omega, by omega⟩ (fun c3 => ?_) (fun c4 => ?_)
    · have c3 : cnt ≤ k := c3
      refine av_wp_seq 1 (pc' := 22) (lv' := [some (.inr (.inr (.inl (some (3))))), some (.inl k)]) (st' := [.inr (.inr (.inl none))]) (h' := h) rfl ?_
      refine av_wp_ret (v := some (.inr (.inr (.inl none)))) rfl rfl rfl ?_
      exact hq0 (by omega)
    · have c4 : k < cnt := c4
      refine av_wp_seq 1 (pc' := 13) (lv' := [some (.inr (.inr (.inl (some (3))))), some (.inl k)]) (st' := [.inr (.inr (.inl (some (3))))]) (h' := h) rfl ?_
      refine wq_gr (p' := 16) rfl rfl (congrArg Prod.fst (ly_k L 3 rfl)) rfl (ly_g L 3 0 4 rfl) ?_
      refine av_wp_seq 1 (pc' := 17) (lv' := [some (.inr (.inr (.inl (some (3))))), some (.inl k)]) (st' := [.inl k, .inr (.inr (.inl (some (4))))]) (h' := h) rfl ?_
      refine wq_ar (p' := 18) (n := 16) (k := 30) rfl rfl (ly_k L 4 rfl) (Or.inl rfl) (by omega) rfl ?_
      refine av_wp_seq 1 (pc' := 22) (lv' := [some (.inr (.inr (.inl (some (3))))), some (.inl k)]) (st' := [.inr (.inr (.inl (hR h 4 (Int.toNat k))))]) (h' := h) rfl ?_
      refine av_wp_ret (v := some (.inr (.inr (.inl (hR h 4 (Int.toNat k)))))) rfl rfl rfl ?_
      exact hq1 (by omega) (by omega)

set_option maxRecDepth 100000 in
set_option maxHeartbeats 4000000 in
theorem ct_46x {h : av_H} (L : LY h)  {Q : Option av_V → av_H → Prop} (hq : Q none (hfil h 27 0 144 (0))) : av_wp none cd_46 0 [some (.inr (.inr (.inl (some (26)))))] [] h Q := by
  refine av_wp_seq 1 (pc' := 1) (lv' := [some (.inr (.inr (.inl (some (26)))))]) (st' := [.inr (.inr (.inl (some (26))))]) (h' := h) rfl ?_
  refine wq_gr (p' := 4) rfl rfl (congrArg Prod.fst (ly_k L 26 rfl)) rfl (ly_g L 26 4 27 rfl) ?_
  refine av_wp_seq 1 (pc' := 5) (lv' := [some (.inr (.inr (.inl (some (26)))))]) (st' := [.inl (0), .inr (.inr (.inl (some (27))))]) (h' := h) rfl ?_
  refine wq_cs (p' := 8) (av_qc (.invokestatic 59) 220 2 2 10) 4 cd_220 [.inr (.inr (.inl (some (27)))), .inl (0)] [.inl (0), .inr (.inr (.inl (some (27))))] [some (.inr (.inr (.inl (some (27))))), some (.inl (0)), none, none] rfl rfl rfl pp_220 (fun _ => rfl) rfl rfl ?_
  refine ct_220 (n := 144) (ly_k L 27 rfl) (by omega) ?_
  show av_wp _ cd_46 8 [some (.inr (.inr (.inl (some (26)))))] [] (hfil h 27 0 144 (0)) _
  refine av_wp_ret (v := none) rfl rfl rfl ?_
  exact hq

theorem FQ_fil {eA eR : Nat → Prop} {eF eG : Nat → Nat → Prop} {h : av_H} {a lo hi : Nat} {v : Int} (e : eA a) : FQ eA eR eF eG h (hfil h a lo hi v) 0 0 := FQ_A (fun q hq => by
  funext j
  show (if q = a ∧ lo ≤ j ∧ j < hi then v else h.2.2.2.1 q j) = _
  rw [if_neg (fun z => by rw [z.1] at hq; exact hq e)])
theorem fil_o {h : av_H} {a lo hi q : Nat} {v : Int} (e : q ≠ a) : hA (hfil h a lo hi v) q = hA h q := by
  funext j
  show (if q = a ∧ lo ≤ j ∧ j < hi then v else h.2.2.2.1 q j) = _
  rw [if_neg (fun z => e z.1)]
theorem CT_fil {h : av_H} {b r d : Nat → Int} {lim : Nat} {t : TT} {lo hi : Nat} {v : Int} (C : CT b lim t r d h) : CT b lim t r d (hfil h 27 lo hi v) := by
  obtain ⟨c1, c2, c3, c4, c5, c6, c7, c8, c9, c10, c11⟩ := C
  exact ⟨c1, (fil_o (by decide)).trans c2, c3, c4, c5, c6, c7, c8, (fil_o (by decide)).trans c9, (fil_o (by decide)).trans c10, c11⟩
theorem CC_fil {h : av_H} {w : Option Nat} {t c s a lo hi : Nat} {v : Int} {f : Nat → Int} (ha : a < 122) (X : CC h w t c s f) : CC (hfil h a lo hi v) w t c s f := by
  obtain ⟨y1, ⟨o1, o2, o3, o4, o5, o6⟩, y3, y4, y5, y6, y7⟩ := X
  exact ⟨y1, ⟨o1, o2, o3, o4, o5, (fil_o (by omega)).trans o6⟩, y3, y4, y5, y6, y7⟩
def moA (a : Nat) : Prop := a = 23 ∨ a = 25 ∨ a = 27
theorem rd_mo {R : Nat → Prop} {x n m : Nat} {g h : av_H} (a : FQ rdA2 R (rdF2 x) nun2 g h n m) : FQ moA R (rdF2 x) nun2 g h n m := FQ_mo a (fun q e => by unfold rdA2 at e; unfold moA; omega) (fun _ e => e) (fun _ _ e => e) (fun _ _ e => e)

set_option maxRecDepth 100000 in
set_option maxHeartbeats 4000000 in
theorem ct_96 {h : av_H} (I : IC h) (K : KT h) (hcs : ∀ i : Nat, i < 16 → (i : Int) < hF h 3 3 → ∃ t c s f, CC h (hR h 4 i) t c s f) (k n : Int) (qk : -2147483648 ≤ k ∧ k ≤ 2147483647) (qn : -2147483648 ≤ n ∧ n ≤ 2147483647)  {Q : Option av_V → av_H → Prop} (hqA : (k < 0 ∨ hF h 3 3 ≤ k ∨ n < 0 ∨ hF h 1 1 < n) → Q (some (.inl (-2))) h) (hq0 : 0 ≤ k → k < hF h 3 3 → 0 ≤ n → n ≤ hF h 1 1 → ∀ ot oc os of, CC h (hR h 4 (Int.toNat k)) ot oc os of → (rbA (hA h 2) n.toNat k os (adv (hA h 2) n.toNat (0, 0, 0, -1)) (cpr h oc os (hA h 23))).2.1.2.2.2 ≠ -1 → ∀ h', FQ rdA2 (fun q => q = 4) (rdF2 3) nun2 h h' 0 0 → KT h' → hF h' 1 1 = 0 → hF h' 0 8 = (rbA (hA h 2) n.toNat k os (adv (hA h 2) n.toNat (0, 0, 0, -1)) (cpr h oc os (hA h 23))).2.1.2.2.2 → hF h' 3 3 = hF h 3 3 → hR h' 4 = hR h 4 → hA h' 25 = hA h 25 → Q (some (.inl (-1))) h') (hq1 : 0 ≤ k → k < hF h 3 3 → 0 ≤ n → n ≤ hF h 1 1 → ∀ ot oc os of, CC h (hR h 4 (Int.toNat k)) ot oc os of → (rbA (hA h 2) n.toNat k os (adv (hA h 2) n.toNat (0, 0, 0, -1)) (cpr h oc os (hA h 23))).2.1.2.2.2 = -1 → ∀ h' t c f, FQ moA (fun q => q = 4) (rdF2 3) nun2 h h' 2 (4 + 21 * (rbA (hA h 2) n.toNat k os (adv (hA h 2) n.toNat (0, 0, 0, -1)) (cpr h oc os (hA h 23))).1) → KT h' → hF h' 1 1 = 0 → hF h' 0 8 = -1 → hF h' 3 3 = hF h 3 3 → hR h' 4 = av_u1 (hR h 4) (Int.toNat k) (some t) → CC h' (some t) t c (rbA (hA h 2) n.toNat k os (adv (hA h 2) n.toNat (0, 0, 0, -1)) (cpr h oc os (hA h 23))).1 f → (∀ j, j < 21 * (rbA (hA h 2) n.toNat k os (adv (hA h 2) n.toNat (0, 0, 0, -1)) (cpr h oc os (hA h 23))).1 → f j = (rbA (hA h 2) n.toNat k os (adv (hA h 2) n.toNat (0, 0, 0, -1)) (cpr h oc os (hA h 23))).2.2 j) → hA h' 25 = hA h 25 → Q (some (.inl ((rbA (hA h 2) n.toNat k os (adv (hA h 2) n.toNat (0, 0, 0, -1)) (cpr h oc os (hA h 23))).1 : Int))) h') : av_wp none cd_96 0 [some (.inr (.inr (.inl (some (0))))), some (.inl k), some (.inl n), none, none] [] h Q := by
  refine gd_of (fun hg => ?_)
  obtain ⟨⟨lim0, t0, C⟩, ql, hz, x74⟩ := K
  have L := I.1
  obtain ⟨len, hl⟩ : ∃ v, hF h 1 1 = v := ⟨_, rfl⟩
  rw [hl] at ql
  have cn := ic_cc I
  have ln := ic_lc I
  have kn := ic_kc I
  obtain ⟨cnt, hc⟩ : ∃ v, hF h 3 3 = v := ⟨_, rfl⟩
  obtain ⟨lnt, hlc⟩ : ∃ v, hF h 3 4 = v := ⟨_, rfl⟩
  obtain ⟨knt, hkc⟩ : ∃ v, hF h 3 5 = v := ⟨_, rfl⟩
  rw [hc] at cn
  rw [hlc] at ln
  rw [hkc] at kn
  rw [hc] at hcs
  rw [hl, hc] at hqA
  rw [hl, hc] at hq0 hq1
  refine av_wp_seq 1 (pc' := 1) (lv' := [some (.inr (.inr (.inl (some (0))))), some (.inl k), some (.inl n), none, none]) (st' := [.inr (.inr (.inl (some (0))))]) (h' := h) rfl ?_
  refine wq_gr (p' := 4) rfl rfl (congrArg Prod.fst (ly_k L 0 rfl)) rfl (ly_g L 0 1 3 rfl) ?_
  refine av_wp_seq 1 (pc' := 5) (lv' := [some (.inr (.inr (.inl (some (0))))), some (.inl k), some (.inl n), none, none]) (st' := [.inl k, .inr (.inr (.inl (some (3))))]) (h' := h) rfl ?_
  refine wq_cv (p' := 8) (av_qc (.invokevirtual 96) 69 1 0 5) 2 cd_69 [.inl k] (3) 5 [some (.inr (.inr (.inl (some (3))))), some (.inl k)] rfl rfl rfl pp_69 rfl rfl rfl (congrArg Prod.fst (ly_k L 3 rfl)) rfl rfl rfl rfl ?_
  refine ct_69x L hc cn k (by omega) (fun z0 => ?_) (fun z1 z2 => ?_)
  · show av_wp _ cd_96 8 [some (.inr (.inr (.inl (some (0))))), some (.inl k), some (.inl n), none, none] [.inr (.inr (.inl none))] h _
    refine av_wp_seq 4 (pc' := 26) (lv' := [some (.inr (.inr (.inl (some (0))))), some (.inl k), some (.inl n), some (.inr (.inr (.inl none))), none]) (st' := [.inl (-2)]) (h' := h) rfl ?_
    refine av_wp_ret (v := some (.inl (-2))) rfl rfl rfl ?_
    exact hqA (by omega)
  · obtain ⟨ot, oc, os, of, occ⟩ := hcs (Int.toNat k) (by omega) (by omega)
    rw [occ.1]
    show av_wp _ cd_96 8 [some (.inr (.inr (.inl (some (0))))), some (.inl k), some (.inl n), none, none] [.inr (.inr (.inl (some (ot))))] h _
    refine av_wp_seq 4 (pc' := 14) (lv' := [some (.inr (.inr (.inl (some (0))))), some (.inl k), some (.inl n), some (.inr (.inr (.inl (some (ot))))), none]) (st' := [.inr (.inr (.inl (some (0))))]) (h' := h) rfl ?_
    refine wq_gr (p' := 17) rfl rfl (congrArg Prod.fst (ly_k L 0 rfl)) rfl (ly_g L 0 0 1 rfl) ?_
    refine av_wp_seq 1 (pc' := 18) (lv' := [some (.inr (.inr (.inl (some (0))))), some (.inl k), some (.inl n), some (.inr (.inr (.inl (some (ot))))), none]) (st' := [.inl n, .inr (.inr (.inl (some (1))))]) (h' := h) rfl ?_
    refine wq_cv (p' := 21) (av_qc (.invokevirtual 75) 80 1 0 6) 2 cd_80 [.inl n] (1) 6 [some (.inr (.inr (.inl (some (1))))), some (.inl n)] rfl rfl rfl pp_80 rfl rfl rfl (congrArg Prod.fst (ly_k L 1 rfl)) rfl rfl rfl rfl ?_
    refine ct_80 L hl ql n (by omega) (fun v1 p2 => ?_)
    show av_wp _ cd_96 21 [some (.inr (.inr (.inl (some (0))))), some (.inl k), some (.inl n), some (.inr (.inr (.inl (some (ot))))), none] [.inl v1] h _
    refine wq_k1 (p' := 24) rfl rfl ⟨by omega, by omega⟩ (fun c3 => ?_) (fun c4 => ?_)
    · have c3 : v1 ≠ (0) := c3
      refine av_wp_seq 1 (pc' := 28) (lv' := [some (.inr (.inr (.inl (some (0))))), some (.inl k), some (.inl n), some (.inr (.inr (.inl (some (ot))))), none]) (st' := [.inr (.inr (.inl (some (0))))]) (h' := h) rfl ?_
      refine wq_gr (p' := 31) rfl rfl (congrArg Prod.fst (ly_k L 0 rfl)) rfl (ly_g L 0 0 1 rfl) ?_
      refine av_wp_seq 1 (pc' := 32) (lv' := [some (.inr (.inr (.inl (some (0))))), some (.inl k), some (.inl n), some (.inr (.inr (.inl (some (ot))))), none]) (st' := [.inl n, .inr (.inr (.inl (some (1))))]) (h' := h) rfl ?_
      refine wq_cv (p' := 35) (av_qc (.invokevirtual 82) 81 1 0 6) 2 cd_81 [.inl n] (1) 6 [some (.inr (.inr (.inl (some (1))))), some (.inl n)] rfl rfl rfl pp_81 rfl rfl rfl (congrArg Prod.fst (ly_k L 1 rfl)) rfl rfl rfl rfl ?_
      refine ct_81 C (FT_rf h) hl ql n (by omega) (fun h1 C1 F1 => ?_)
      show av_wp _ cd_96 35 [some (.inr (.inr (.inl (some (0))))), some (.inl k), some (.inl n), some (.inr (.inr (.inl (some (ot))))), none] [] h1 _
      refine av_wp_seq 1 (pc' := 36) (lv' := [some (.inr (.inr (.inl (some (0))))), some (.inl k), some (.inl n), some (.inr (.inr (.inl (some (ot))))), none]) (st' := [.inr (.inr (.inl (some (0))))]) (h' := h1) rfl ?_
      refine wq_gr (p' := 39) rfl rfl (congrArg Prod.fst (ly_k C1.1 0 rfl)) rfl (ly_g C1.1 0 3 22 rfl) ?_
      refine av_wp_seq 2 (pc' := 41) (lv' := [some (.inr (.inr (.inl (some (0))))), some (.inl k), some (.inl n), some (.inr (.inr (.inl (some (ot))))), none]) (st' := [.inl k, .inr (.inr (.inl (some (ot)))), .inr (.inr (.inl (some (22))))]) (h' := h1) rfl ?_
      have q0 : FQ rdA2 (fun q => q = 4) (rdF2 3) nun2 h h1 0 0 := FQ_T F1 (Or.inl rfl) (Or.inr rfl) (fun _ => Or.inl rfl)
      have l1 := occ.2.2.2.2.1
      have l2 := occ.2.2.2.2.2.1
      have v0 := occ.2.2.1
      have d0 := occ.2.2.2.1
      have oX : CX h1 ot oc os of := CX_fq hg q0 (fun j z => by unfold rdF2 at z; omega) (fun j z => z) (fun z => by unfold rdA2 at z; omega) occ.2.1
      have ea : hA h1 oc = hA h oc := (oX.2.2.2.2.2).trans occ.2.1.2.2.2.2.2.symm
      have ec : cpr h1 oc os (hA h 23) = cpr h oc os (hA h 23) := by unfold cpr; rw [ea]
      have Hq0 := hq0 (by omega) (by omega) (by omega) (by omega) ot oc os of occ
      have Hq1 := hq1 (by omega) (by omega) (by omega) (by omega) ot oc os of occ
      clear hq0 hq1
      rw [← ec] at Hq0 Hq1
      refine wq_cv (p' := 44) (av_qc (.invokevirtual 85) 35 2 0 2) 6 cd_35 [.inl k, .inr (.inr (.inl (some (ot))))] (22) 2 [some (.inr (.inr (.inl (some (22))))), some (.inr (.inr (.inl (some (ot))))), some (.inl k), none, none, none] rfl rfl rfl pp_35 rfl rfl rfl (congrArg Prod.fst (ly_k C1.1 22 rfl)) rfl rfl rfl rfl ?_
      refine ct_35 C1 (cx_co oX v0 (by omega)) (fun j hj h20 => by rw [oX.2.2.2.2.2, ctn_o h20]; exact v0.2.2.2 j h20) (fun q hq h2 => by rw [oX.2.2.2.2.2, ctn_o (by omega)] at h2; rw [oX.2.2.2.2.2, ctn_o (by omega)]; exact d0 q hq h2) hz (k) (by omega) (fun x0 h2 C2 B2 f2 l2 r2 a2 z2 => ?_) (fun x1 h5 h4 f C4 A4 C5 B4 f4 l4 r4 a4 z4 cx fv sd s1 fj l122 => ?_)
      · show av_wp _ cd_96 44 [some (.inr (.inr (.inl (some (0))))), some (.inl k), some (.inl n), some (.inr (.inr (.inl (some (ot))))), none] [.inr (.inr (.inl none))] h2 _
        refine av_wp_seq 2 (pc' := 47) (lv' := [some (.inr (.inr (.inl (some (0))))), some (.inl k), some (.inl n), some (.inr (.inr (.inl (some (ot))))), some (.inr (.inr (.inl none)))]) (st' := [.inr (.inr (.inl (some (0))))]) (h' := h2) rfl ?_
        refine wq_cv (p' := 50) (av_qc (.invokevirtual 89) 99 0 0 7) 1 cd_99 [] (0) 7 [some (.inr (.inr (.inl (some (0)))))] rfl rfl rfl pp_99 rfl rfl rfl (congrArg Prod.fst (ly_k C2.1 0 rfl)) rfl rfl rfl rfl ?_
        refine ct_99 C2.1 C2 ?_
        show av_wp _ cd_96 50 [some (.inr (.inr (.inl (some (0))))), some (.inl k), some (.inl n), some (.inr (.inr (.inl (some (ot))))), some (.inr (.inr (.inl none)))] [] (hwF (hwF h2 0 8 (rbA (hA h 2) n.toNat k os (adv (hA h 2) n.toNat (0, 0, 0, -1)) (cpr h1 oc os (hA h 23))).2.1.2.2.2) 1 1 (0)) _
        refine av_wp_seq 3 (pc' := 56) (lv' := [some (.inr (.inr (.inl (some (0))))), some (.inl k), some (.inl n), some (.inr (.inr (.inl (some (ot))))), some (.inr (.inr (.inl none)))]) (st' := [.inl (-1)]) (h' := (hwF (hwF h2 0 8 (rbA (hA h 2) n.toNat k os (adv (hA h 2) n.toNat (0, 0, 0, -1)) (cpr h1 oc os (hA h 23))).2.1.2.2.2) 1 1 (0))) rfl ?_
        refine av_wp_ret (v := some (.inl (-1))) rfl rfl rfl ?_
        have q1 := q0
        have q2 : FQ rdA2 (fun q => q = 4) (rdF2 3) nun2 h1 h2 0 0 := FQ_35 B2 f2 r2 a2 (Or.inl rfl) (fun _ => ⟨Or.inl rfl, Or.inr (Or.inl rfl)⟩)
        have q3 : FQ rdA2 (fun q => q = 4) (rdF2 3) nun2 h (hwF (hwF h2 0 8 (rbA (hA h 2) n.toNat k os (adv (hA h 2) n.toNat (0, 0, 0, -1)) (cpr h1 oc os (hA h 23))).2.1.2.2.2) 1 1 (0)) 0 0 := FQ_tr (FQ_tr (FQ_tr q1 q2) (FQ_wF (Or.inr (Or.inr (Or.inl ⟨rfl, rfl⟩))))) (FQ_wF (Or.inl rfl))
        have k3 : KT (hwF (hwF h2 0 8 (rbA (hA h 2) n.toNat k os (adv (hA h 2) n.toNat (0, 0, 0, -1)) (cpr h1 oc os (hA h 23))).2.1.2.2.2) 1 1 (0)) := KT_of (CT_wF0 (CT_wF0 C2 (Or.inl (by decide))) (Or.inr rfl)) (by show (0 : Int) ≤ 0 ∧ (0 : Int) ≤ 900; omega) z2 (CX_fq hg q3 (fun j z => by unfold rdF2 at z; omega) (fun j z => z) (fun z => by unfold rdA2 at z; omega) x74)
        exact Hq0 x0 (hwF (hwF h2 0 8 (rbA (hA h 2) n.toNat k os (adv (hA h 2) n.toNat (0, 0, 0, -1)) (cpr h1 oc os (hA h 23))).2.1.2.2.2) 1 1 (0)) q3 k3 rfl rfl ((f2 3 3 (by decide) (by decide)).trans ((F1.2.2.2.2.2.1 3 3 rfl).trans hc)) ((congrFun r2 4).trans (congrFun F1.2.2.2.1 4)) ((a2 25 (by decide)).trans ((ct_d C1).trans (ct_d C).symm))
      · have f45 : ∀ q k, q ≠ 1 → q ≠ 22 → q < 122 → hF h5 q k = hF h1 q k := fun q k h1 h2 h3 => (congrFun (A4.2.2 q (by omega)).2.2.1 k).trans (f4 q k h1 h2)
        show av_wp _ cd_96 44 [some (.inr (.inr (.inl (some (0))))), some (.inl k), some (.inl n), some (.inr (.inr (.inl (some (ot))))), none] [.inr (.inr (.inl (some (h4.1))))] h5 _
        refine av_wp_seq 2 (pc' := 47) (lv' := [some (.inr (.inr (.inl (some (0))))), some (.inl k), some (.inl n), some (.inr (.inr (.inl (some (ot))))), some (.inr (.inr (.inl (some (h4.1)))))]) (st' := [.inr (.inr (.inl (some (0))))]) (h' := h5) rfl ?_
        refine wq_cv (p' := 50) (av_qc (.invokevirtual 89) 99 0 0 7) 1 cd_99 [] (0) 7 [some (.inr (.inr (.inl (some (0)))))] rfl rfl rfl pp_99 rfl rfl rfl (congrArg Prod.fst (ly_k C5.1 0 rfl)) rfl rfl rfl rfl ?_
        refine ct_99 C5.1 C5 ?_
        show av_wp _ cd_96 50 [some (.inr (.inr (.inl (some (0))))), some (.inl k), some (.inl n), some (.inr (.inr (.inl (some (ot))))), some (.inr (.inr (.inl (some (h4.1)))))] [] (hwF (hwF h5 0 8 (rbA (hA h 2) n.toNat k os (adv (hA h 2) n.toNat (0, 0, 0, -1)) (cpr h1 oc os (hA h 23))).2.1.2.2.2) 1 1 (0)) _
        refine av_wp_seq 3 (pc' := 58) (lv' := [some (.inr (.inr (.inl (some (0))))), some (.inl k), some (.inl n), some (.inr (.inr (.inl (some (ot))))), some (.inr (.inr (.inl (some (h4.1)))))]) (st' := [.inr (.inr (.inl (some (0))))]) (h' := (hwF (hwF h5 0 8 (rbA (hA h 2) n.toNat k os (adv (hA h 2) n.toNat (0, 0, 0, -1)) (cpr h1 oc os (hA h 23))).2.1.2.2.2) 1 1 (0))) rfl ?_
        refine wq_gr (p' := 61) rfl rfl (congrArg Prod.fst (ly_k C5.1 0 rfl)) rfl (ly_g C5.1 0 1 3 rfl) ?_
        refine wq_gr (p' := 64) rfl rfl (congrArg Prod.fst (ly_k C5.1 3 rfl)) rfl (ly_g C5.1 3 0 4 rfl) ?_
        refine av_wp_seq 2 (pc' := 67) (lv' := [some (.inr (.inr (.inl (some (0))))), some (.inl k), some (.inl n), some (.inr (.inr (.inl (some (ot))))), some (.inr (.inr (.inl (some (h4.1)))))]) (st' := [.inr (.inr (.inl (some (h4.1)))), .inl k, .inr (.inr (.inl (some (4))))]) (h' := (hwF (hwF h5 0 8 (rbA (hA h 2) n.toNat k os (adv (hA h 2) n.toNat (0, 0, 0, -1)) (cpr h1 oc os (hA h 23))).2.1.2.2.2) 1 1 (0))) rfl ?_
        refine wq_rs (p' := 68) (n := 16) rfl rfl (ly_k C5.1 4 rfl) (Or.inl rfl) (by omega) (fun q hq => by cases hq; exact congrArg Prod.fst cx.1) ?_
        refine av_wp_seq 1 (pc' := 69) (lv' := [some (.inr (.inr (.inl (some (0))))), some (.inl k), some (.inl n), some (.inr (.inr (.inl (some (ot))))), some (.inr (.inr (.inl (some (h4.1)))))]) (st' := [.inr (.inr (.inl (some (0))))]) (h' := (hwR (hwF (hwF h5 0 8 (rbA (hA h 2) n.toNat k os (adv (hA h 2) n.toNat (0, 0, 0, -1)) (cpr h1 oc os (hA h 23))).2.1.2.2.2) 1 1 (0)) 4 (Int.toNat k) (some h4.1))) rfl ?_
        refine wq_gr (p' := 72) rfl rfl (congrArg Prod.fst (ly_k C5.1 0 rfl)) rfl (ly_g C5.1 0 5 26 rfl) ?_
        refine wq_cv (p' := 75) (av_qc (.invokevirtual 104) 46 0 0 3) 1 cd_46 [] (26) 3 [some (.inr (.inr (.inl (some (26)))))] rfl rfl rfl pp_46 rfl rfl rfl (congrArg Prod.fst (ly_k C5.1 26 rfl)) rfl rfl rfl rfl ?_
        refine ct_46x (h := (hwR (hwF (hwF h5 0 8 (rbA (hA h 2) n.toNat k os (adv (hA h 2) n.toNat (0, 0, 0, -1)) (cpr h1 oc os (hA h 23))).2.1.2.2.2) 1 1 (0)) 4 (Int.toNat k) (some h4.1))) (LY_wR C5.1 (by decide) (by decide)) ?_
        show av_wp _ cd_96 75 [some (.inr (.inr (.inl (some (0))))), some (.inl k), some (.inl n), some (.inr (.inr (.inl (some (ot))))), some (.inr (.inr (.inl (some (h4.1)))))] [] (hfil (hwR (hwF (hwF h5 0 8 (rbA (hA h 2) n.toNat k os (adv (hA h 2) n.toNat (0, 0, 0, -1)) (cpr h1 oc os (hA h 23))).2.1.2.2.2) 1 1 (0)) 4 (Int.toNat k) (some h4.1)) 27 0 144 (0)) _
        refine av_wp_seq 1 (pc' := 77) (lv' := [some (.inr (.inr (.inl (some (0))))), some (.inl k), some (.inl n), some (.inr (.inr (.inl (some (ot))))), some (.inr (.inr (.inl (some (h4.1)))))]) (st' := [.inr (.inr (.inl (some (h4.1))))]) (h' := (hfil (hwR (hwF (hwF h5 0 8 (rbA (hA h 2) n.toNat k os (adv (hA h 2) n.toNat (0, 0, 0, -1)) (cpr h1 oc os (hA h 23))).2.1.2.2.2) 1 1 (0)) 4 (Int.toNat k) (some h4.1)) 27 0 144 (0))) rfl ?_
        have cc : CC (hfil (hwR (hwF (hwF h5 0 8 (rbA (hA h 2) n.toNat k os (adv (hA h 2) n.toNat (0, 0, 0, -1)) (cpr h1 oc os (hA h 23))).2.1.2.2.2) 1 1 (0)) 4 (Int.toNat k) (some h4.1)) 27 0 144 (0)) (some h4.1) h4.1 (h4.1 + 1) (rbA (hA h 2) n.toNat k os (adv (hA h 2) n.toNat (0, 0, 0, -1)) (cpr h1 oc os (hA h 23))).1 f := CC_fil (by omega) (CC_wR (CC_wF (by omega) (CC_wF (by omega) ⟨rfl, cx, fv, sd, l122, by omega, s1⟩)))
        refine wq_gi (p' := 80) (v := ((rbA (hA h 2) n.toNat k os (adv (hA h 2) n.toNat (0, 0, 0, -1)) (cpr h1 oc os (hA h 23))).1 : Int)) rfl rfl (congrArg Prod.fst cc.2.1.1) rfl cc.2.1.2.1 ?_
        refine av_wp_ret (v := some (.inl ((rbA (hA h 2) n.toNat k os (adv (hA h 2) n.toNat (0, 0, 0, -1)) (cpr h1 oc os (hA h 23))).1 : Int))) rfl rfl rfl ?_
        have q1 := q0
        have q2 : FQ rdA2 (fun q => q = 4) (rdF2 3) nun2 h1 h4 0 0 := FQ_35 B4 f4 r4 a4 (Or.inl rfl) (fun _ => ⟨Or.inl rfl, Or.inr (Or.inl rfl)⟩)
        have q3 : FQ moA (fun q => q = 4) (rdF2 3) nun2 h (hfil (hwR (hwF (hwF h5 0 8 (rbA (hA h 2) n.toNat k os (adv (hA h 2) n.toNat (0, 0, 0, -1)) (cpr h1 oc os (hA h 23))).2.1.2.2.2) 1 1 (0)) 4 (Int.toNat k) (some h4.1)) 27 0 144 (0)) 2 (4 + 21 * (rbA (hA h 2) n.toNat k os (adv (hA h 2) n.toNat (0, 0, 0, -1)) (cpr h1 oc os (hA h 23))).1) := FQ_eq (FQ_tr (FQ_tr (FQ_tr (FQ_tr (FQ_tr (rd_mo (FQ_tr q1 q2)) (FQ_al A4)) (FQ_wF (Or.inr (Or.inr (Or.inl ⟨rfl, rfl⟩))))) (FQ_wF (Or.inl rfl))) (FQ_wR rfl)) (FQ_fil (Or.inr (Or.inr rfl)))) (by omega) (by omega)
        have k3 : KT (hfil (hwR (hwF (hwF h5 0 8 (rbA (hA h 2) n.toNat k os (adv (hA h 2) n.toNat (0, 0, 0, -1)) (cpr h1 oc os (hA h 23))).2.1.2.2.2) 1 1 (0)) 4 (Int.toNat k) (some h4.1)) 27 0 144 (0)) := KT_of (CT_fil (CT_wR (CT_wF0 (CT_wF0 C5 (Or.inl (by decide))) (Or.inr rfl)) (by decide) (by decide))) (by show (0 : Int) ≤ 0 ∧ (0 : Int) ≤ 900; omega) z4 (CX_fq hg q3 (fun j z => by unfold rdF2 at z; omega) (fun j z => z) (fun z => by unfold moA at z; omega) x74)
        have er : hR h5 4 = hR h 4 := ((A4.2.2 4 (by omega)).2.2.2.2).trans ((congrFun r4 4).trans (congrFun F1.2.2.2.1 4))
        have er2 : hR (hfil (hwR (hwF (hwF h5 0 8 (rbA (hA h 2) n.toNat k os (adv (hA h 2) n.toNat (0, 0, 0, -1)) (cpr h1 oc os (hA h 23))).2.1.2.2.2) 1 1 (0)) 4 (Int.toNat k) (some h4.1)) 27 0 144 (0)) 4 = av_u1 (hR h 4) (Int.toNat k) (some h4.1) := by
          rw [← er]
          funext j
          show av_u2 h5.2.2.2.2.2.2.1 4 (Int.toNat k) (some h4.1) 4 j = av_u1 (hR h5 4) (Int.toNat k) (some h4.1) j
          unfold av_u2 av_u1
          by_cases e : j = Int.toNat k
          · rw [if_pos ⟨rfl, e⟩, if_pos e]
          · rw [if_neg (fun z => e z.2), if_neg e]
        exact Hq1 x1 (hfil (hwR (hwF (hwF h5 0 8 (rbA (hA h 2) n.toNat k os (adv (hA h 2) n.toNat (0, 0, 0, -1)) (cpr h1 oc os (hA h 23))).2.1.2.2.2) 1 1 (0)) 4 (Int.toNat k) (some h4.1)) 27 0 144 (0)) h4.1 (h4.1 + 1) f q3 k3 rfl x1 ((f45 3 3 (by decide) (by decide) (by omega)).trans ((F1.2.2.2.2.2.1 3 3 rfl).trans hc)) er2 cc fj ((fil_o (by decide)).trans (((A4.2.2 25 (by omega)).2.1).trans ((a4 25 (by decide)).trans ((ct_d C1).trans (ct_d C).symm))))
    · have c4 : v1 = (0) := c4
      refine av_wp_seq 1 (pc' := 26) (lv' := [some (.inr (.inr (.inl (some (0))))), some (.inl k), some (.inl n), some (.inr (.inr (.inl (some (ot))))), none]) (st' := [.inl (-2)]) (h' := h) rfl ?_
      refine av_wp_ret (v := some (.inl (-2))) rfl rfl rfl ?_
      exact hqA (by omega)
