section
/-! APART, exactly: the class -/
noncomputable def apv (P : Int → Prop) (c : Nat) (w : Int) : Int := if w = 0 then cnP P c else fsP P c
set_option maxRecDepth 100000 in
set_option maxHeartbeats 4000000 in
theorem cx_50 {h : av_H} {U : Nat → Nat → Int} {S : Nat → Nat} {n : Int} {sr nd : Nat → Int} (C : CJ U S n sr nd h) (k : Int) (qk : -2147483648 ≤ k ∧ k ≤ 2147483647) (l : Int) (ql : -2147483648 ≤ l ∧ l ≤ 2147483647) (m : Int) (qm : -2147483648 ≤ m ∧ m ≤ 2147483647) (CR : CRT U S n (hF h 3 4) (fun k => hA h (6 + k))) (SU : SUA U S n (hF h 3 4) (fun k => hA h (6 + k)) sr) {Q : Option av_V → av_H → Prop} (hq0 : ∀ h' sr' nd', CJ U S n sr' nd' h' → Fr h h' → SUA U S n (hF h 3 4) (fun k => hA h (6 + k)) sr' → ¬ ((0 ≤ k ∧ k < n) ∧ (cbv (U (Int.toNat k)) (S (Int.toNat k))) ≠ -1 ∧ (0 ≤ l ∧ l < hF h 3 4) ∧ (0 ≤ m ∧ m < hF h 3 4)) → Q (some (.inl 0)) h') (hq1 : ((0 ≤ k ∧ k < n) ∧ (cbv (U (Int.toNat k)) (S (Int.toNat k))) ≠ -1 ∧ (0 ≤ l ∧ l < hF h 3 4) ∧ (0 ≤ m ∧ m < hF h 3 4)) → ∀ h' sr' nd' t c, SBX U S n sr' nd' t c (S (Int.toNat k)) (cbv (U (Int.toNat k)) (S (Int.toNat k))) (U (Int.toNat k)) (6 + Int.toNat l) (hA h (6 + Int.toNat l)) (bxx U S (hA h (6 + Int.toNat l)) (Int.toNat k)) (6 + Int.toNat m) (hA h (6 + Int.toNat m)) (bxx U S (hA h (6 + Int.toNat m)) (Int.toNat k)) h h' → SUA U S n (hF h 3 4) (fun k => hA h (6 + k)) sr' → Q (some (.inl 1)) h') : av_wp none cd_50 0 [some (.inr (.inr (.inl (some (26))))), some (.inl k), some (.inl l), some (.inl m), none] [] h Q := by
  have F := Fr_rf h
  have nr := C.2.1.2.1
  refine av_wp_sqF ck_50 1 (pc' := 1) (lv' := [some (.inr (.inr (.inl (some (26))))), some (.inl k), some (.inl l), some (.inl m), none]) (st' := [.inr (.inr (.inl (some (26))))]) (h' := h) rfl ?_
  refine wq_gr (p' := 4) (ck_50 _ _ rfl) rfl (congrArg Prod.fst (ly_k C.1.1 26 rfl)) rfl (ly_g C.1.1 26 0 3 rfl) ?_
  refine av_wp_sqF ck_50 1 (pc' := 5) (lv' := [some (.inr (.inr (.inl (some (26))))), some (.inl k), some (.inl l), some (.inl m), none]) (st' := [.inl k, .inr (.inr (.inl (some (3))))]) (h' := h) rfl ?_
  refine wq_cv (p' := 8) (av_qc (.invokevirtual 76) 69 1 0 5) 2 cd_69 [.inl k] (3) 5 [some (.inr (.inr (.inl (some (3))))), some (.inl k)] (ck_50 _ _ rfl) rfl rfl pp_69 rfl rfl rfl (congrArg Prod.fst (ly_k C.1.1 3 rfl)) rfl rfl rfl rfl ?_
  refine cz_69 C (k) (by omega) (fun z1 => ?_) (fun z1 z2 t3 c4 y5 y6 => ?_)
  · show av_wp _ cd_50 8 [some (.inr (.inr (.inl (some (26))))), some (.inl k), some (.inl l), some (.inl m), none] [.inr (.inr (.inl none))] h _
    refine av_wp_sqF ck_50 3 (pc' := 12) (lv' := [some (.inr (.inr (.inl (some (26))))), some (.inl k), some (.inl l), some (.inl m), some (.inr (.inr (.inl none)))]) (st' := [.inr (.inr (.inl (some (26)))), .inr (.inr (.inl (some (26))))]) (h' := h) rfl ?_
    refine wq_gr (p' := 15) (ck_50 _ _ rfl) rfl (congrArg Prod.fst (ly_k C.1.1 26 rfl)) rfl (ly_g C.1.1 26 1 35 rfl) ?_
    refine av_wp_sqF ck_50 3 (pc' := 19) (lv' := [some (.inr (.inr (.inl (some (26))))), some (.inl k), some (.inl l), some (.inl m), some (.inr (.inr (.inl none)))]) (st' := [.inl l, .inl k, .inr (.inr (.inl none)), .inr (.inr (.inl (some (35)))), .inr (.inr (.inl (some (26))))]) (h' := h) rfl ?_
    refine wq_cv (p' := 22) (av_qc (.invokevirtual 85) 51 4 0 3) 5 cd_51 [.inl l, .inl k, .inr (.inr (.inl none)), .inr (.inr (.inl (some (35))))] (26) 3 [some (.inr (.inr (.inl (some (26))))), some (.inr (.inr (.inl (some (35))))), some (.inr (.inr (.inl none))), some (.inl k), some (.inl l)] (ck_50 _ _ rfl) rfl rfl pp_51 rfl rfl rfl (congrArg Prod.fst (ly_k C.1.1 26 rfl)) rfl rfl rfl rfl ?_
    refine cz_51n C ?_
    show av_wp _ cd_50 22 [some (.inr (.inr (.inl (some (26))))), some (.inl k), some (.inl l), some (.inl m), some (.inr (.inr (.inl none)))] [.inl (0)] h _
    refine av_wp_sqF ck_50 2 (pc' := 45) (lv' := [some (.inr (.inr (.inl (some (26))))), some (.inl k), some (.inl l), some (.inl m), some (.inr (.inr (.inl none)))]) (st' := [.inl (0)]) (h' := h) rfl ?_
    refine av_wp_ret (v := some (.inl (0))) (ck_50 _ _ rfl) rfl rfl ?_
    exact hq0 h _ _ C F SU (by omega)
  · have g7 := co_s12 y5
    have g8 := co_cbr y5
    show av_wp _ cd_50 8 [some (.inr (.inr (.inl (some (26))))), some (.inl k), some (.inl l), some (.inl m), none] [.inr (.inr (.inl (some (t3))))] h _
    refine av_wp_sqF ck_50 3 (pc' := 12) (lv' := [some (.inr (.inr (.inl (some (26))))), some (.inl k), some (.inl l), some (.inl m), some (.inr (.inr (.inl (some (t3)))))]) (st' := [.inr (.inr (.inl (some (26)))), .inr (.inr (.inl (some (26))))]) (h' := h) rfl ?_
    refine wq_gr (p' := 15) (ck_50 _ _ rfl) rfl (congrArg Prod.fst (ly_k C.1.1 26 rfl)) rfl (ly_g C.1.1 26 1 35 rfl) ?_
    refine av_wp_sqF ck_50 3 (pc' := 19) (lv' := [some (.inr (.inr (.inl (some (26))))), some (.inl k), some (.inl l), some (.inl m), some (.inr (.inr (.inl (some (t3)))))]) (st' := [.inl l, .inl k, .inr (.inr (.inl (some (t3)))), .inr (.inr (.inl (some (35)))), .inr (.inr (.inl (some (26))))]) (h' := h) rfl ?_
    refine wq_cv (p' := 22) (av_qc (.invokevirtual 85) 51 4 0 3) 5 cd_51 [.inl l, .inl k, .inr (.inr (.inl (some (t3)))), .inr (.inr (.inl (some (35))))] (26) 3 [some (.inr (.inr (.inl (some (26))))), some (.inr (.inr (.inl (some (35))))), some (.inr (.inr (.inl (some (t3))))), some (.inl k), some (.inl l)] (ck_50 _ _ rfl) rfl rfl pp_51 rfl rfl rfl (congrArg Prod.fst (ly_k C.1.1 26 rfl)) rfl rfl rfl rfl ?_
    refine cz_51 C (Or.inl rfl) y5 y6 (k) (by omega) (by omega) CR.1 (fun q hq => (CR.1 (Int.toNat k) (by omega)).2.2.1 q hq |> fun w => ⟨w.1, by omega⟩) CR.2.1 CR.2.2.1 (l) (by omega) SU (fun l h1 h2 => (rl_8 (CR.2.2.2 l h1 h2)).1) (fun z9 => ?_) (fun z9 z10 z11 h12 r13 n14 a15 C16 F17 U18 E19 Z20 T21 => ?_)
    · show av_wp _ cd_50 22 [some (.inr (.inr (.inl (some (26))))), some (.inl k), some (.inl l), some (.inl m), some (.inr (.inr (.inl (some (t3)))))] [.inl (0)] h _
      refine av_wp_sqF ck_50 2 (pc' := 45) (lv' := [some (.inr (.inr (.inl (some (26))))), some (.inl k), some (.inl l), some (.inl m), some (.inr (.inr (.inl (some (t3)))))]) (st' := [.inl (0)]) (h' := h) rfl ?_
      refine av_wp_ret (v := some (.inl (0))) (ck_50 _ _ rfl) rfl rfl ?_
      exact hq0 h _ _ C F SU (by omega)
    · show av_wp _ cd_50 22 [some (.inr (.inr (.inl (some (26))))), some (.inl k), some (.inl l), some (.inl m), some (.inr (.inr (.inl (some (t3)))))] [.inl (1)] h12 _
      refine av_wp_sqF ck_50 3 (pc' := 27) (lv' := [some (.inr (.inr (.inl (some (26))))), some (.inl k), some (.inl l), some (.inl m), some (.inr (.inr (.inl (some (t3)))))]) (st' := [.inr (.inr (.inl (some (26)))), .inr (.inr (.inl (some (26))))]) (h' := h12) rfl ?_
      refine wq_gr (p' := 30) (ck_50 _ _ rfl) rfl (congrArg Prod.fst (ly_k C16.1.1 26 rfl)) rfl (ly_g C16.1.1 26 2 48 rfl) ?_
      refine av_wp_sqF ck_50 3 (pc' := 34) (lv' := [some (.inr (.inr (.inl (some (26))))), some (.inl k), some (.inl l), some (.inl m), some (.inr (.inr (.inl (some (t3)))))]) (st' := [.inl m, .inl k, .inr (.inr (.inl (some (t3)))), .inr (.inr (.inl (some (48)))), .inr (.inr (.inl (some (26))))]) (h' := h12) rfl ?_
      refine wq_cv (p' := 37) (av_qc (.invokevirtual 85) 51 4 0 3) 5 cd_51 [.inl m, .inl k, .inr (.inr (.inl (some (t3)))), .inr (.inr (.inl (some (48))))] (26) 3 [some (.inr (.inr (.inl (some (26))))), some (.inr (.inr (.inl (some (48))))), some (.inr (.inr (.inl (some (t3))))), some (.inl k), some (.inl m)] (ck_50 _ _ rfl) rfl rfl pp_51 rfl rfl rfl (congrArg Prod.fst (ly_k C16.1.1 26 rfl)) rfl rfl rfl rfl ?_
      have cr2 : CRT U S n (hF h12 3 4) (fun k => hA h12 (6 + k)) := (by rw [Fr_34 F17.1]; exact CRT_c CR (by have := ic_lc C.1; omega) (Fr_6 F17.1))
      have su2 : SUA U S n (hF h12 3 4) (fun k => hA h12 (6 + k)) r13 := (by rw [Fr_34 F17.1]; exact SUA_c U18 (fun l hl _ => Fr_6 F17.1 l hl))
      refine cz_51 C16 (Or.inr (Or.inl rfl)) (ib_co E19.1) E19.2.1 (k) (by omega) (by omega) CR.1 (fun q hq => (CR.1 (Int.toNat k) (by omega)).2.2.1 q hq |> fun w => ⟨w.1, by omega⟩) CR.2.1 CR.2.2.1 (m) (by omega) su2 (fun l h1 h2 => (rl_8 (cr2.2.2.2 l h1 h2)).1) (fun z22 => ?_) (fun z22 z23 z24 h25 r26 n27 a28 C29 F30 U31 E32 Z33 T34 => ?_)
      · rw [Fr_34 F17.1] at z22
        show av_wp _ cd_50 37 [some (.inr (.inr (.inl (some (26))))), some (.inl k), some (.inl l), some (.inl m), some (.inr (.inr (.inl (some (t3)))))] [.inl (0)] h12 _
        refine av_wp_sqF ck_50 2 (pc' := 45) (lv' := [some (.inr (.inr (.inl (some (26))))), some (.inl k), some (.inl l), some (.inl m), some (.inr (.inr (.inl (some (t3)))))]) (st' := [.inl (0)]) (h' := h12) rfl ?_
        refine av_wp_ret (v := some (.inl (0))) (ck_50 _ _ rfl) rfl rfl ?_
        exact hq0 h12 _ _ C16 F17.1 U18 (by omega)
      · rw [Fr_34 F17.1] at z24
        have E35 := EB_fp E19 (Or.inr (Or.inl rfl)) (by decide) (by decide) F30 C29.1
        rw [Fr_6 F17.1 (Int.toNat m) (by have := ic_lc C.1; omega)] at E32 T34
        rw [Fr_34 F17.1] at U31
        show av_wp _ cd_50 37 [some (.inr (.inr (.inl (some (26))))), some (.inl k), some (.inl l), some (.inl m), some (.inr (.inr (.inl (some (t3)))))] [.inl (1)] h25 _
        refine av_wp_sqF ck_50 3 (pc' := 45) (lv' := [some (.inr (.inr (.inl (some (26))))), some (.inl k), some (.inl l), some (.inl m), some (.inr (.inr (.inl (some (t3)))))]) (st' := [.inl (1)]) (h' := h25) rfl ?_
        refine av_wp_ret (v := some (.inl (1))) (ck_50 _ _ rfl) rfl rfl ?_
        exact hq1 (by omega) h25 _ _ _ _ ⟨C29, Fr_tr F17.1 F30.1, ⟨_, _, _, _, E35, T21, Z20⟩, ⟨_, _, _, _, E32, T34, Z33⟩⟩ (SUA_c U31 (fun l hl _ => (Fr_6 F17.1 l hl).symm))

set_option maxRecDepth 100000 in
set_option maxHeartbeats 4000000 in
theorem cx_113 {h : av_H} {U : Nat → Nat → Int} {S : Nat → Nat} {n : Int} {sr nd : Nat → Int} (C : CJ U S n sr nd h) (k : Int) (qk : -2147483648 ≤ k ∧ k ≤ 2147483647) (l : Int) (ql : -2147483648 ≤ l ∧ l ≤ 2147483647) (m : Int) (qm : -2147483648 ≤ m ∧ m ≤ 2147483647) (w : Int) (qw : -2147483648 ≤ w ∧ w ≤ 2147483647) (CR : CRT U S n (hF h 3 4) (fun k => hA h (6 + k))) (SU : SUA U S n (hF h 3 4) (fun k => hA h (6 + k)) sr) {Q : Option av_V → av_H → Prop} (hq : ∀ (v : Int) h' sr' nd', CJ U S n sr' nd' h' → Fr h h' → SUA U S n (hF h 3 4) (fun k => hA h (6 + k)) sr' → RSP (((0 ≤ k ∧ k < n) ∧ (cbv (U (Int.toNat k)) (S (Int.toNat k))) ≠ -1 ∧ (0 ≤ l ∧ l < hF h 3 4) ∧ (0 ≤ m ∧ m < hF h 3 4)) ∧ 0 ≤ w ∧ w ≤ 1) (-2) (apv (PRT (U (Int.toNat k)) (hA h (6 + Int.toNat l)) (bxx U S (hA h (6 + Int.toNat l)) (Int.toNat k)) (hA h (6 + Int.toNat m)) (bxx U S (hA h (6 + Int.toNat m)) (Int.toNat k)) (S (Int.toNat k))) (Int.toNat (cbv (U (Int.toNat k)) (S (Int.toNat k)))) w) v → Q (some (.inl v)) h') : av_wp none cd_113 0 [some (.inr (.inr (.inl (some (0))))), some (.inl k), some (.inl l), some (.inl m), some (.inl w)] [] h Q := by
  have F := Fr_rf h
  have nr := C.2.1.2.1
  refine av_wp_sqF ck_113 1 (pc' := 2) (lv' := [some (.inr (.inr (.inl (some (0))))), some (.inl k), some (.inl l), some (.inl m), some (.inl w)]) (st' := [.inl w]) (h' := h) rfl ?_
  refine wq_k1 (p' := 5) (ck_113 _ _ rfl) rfl ⟨by omega, by omega⟩ (fun c1 => ?_) (fun c2 => ?_)
  · have c1 : w < (0) := c1
    refine av_wp_sqF ck_113 1 (pc' := 26) (lv' := [some (.inr (.inr (.inl (some (0))))), some (.inl k), some (.inl l), some (.inl m), some (.inl w)]) (st' := [.inl (-2)]) (h' := h) rfl ?_
    refine av_wp_ret (v := some (.inl (-2))) (ck_113 _ _ rfl) rfl rfl ?_
    exact hq _ h _ _ C F SU (Or.inr ⟨by omega, rfl⟩)
  · have c2 : (0) ≤ w := c2
    refine av_wp_sqF ck_113 2 (pc' := 8) (lv' := [some (.inr (.inr (.inl (some (0))))), some (.inl k), some (.inl l), some (.inl m), some (.inl w)]) (st' := [.inl (1), .inl w]) (h' := h) rfl ?_
    refine wq_k2 (p' := 11) (ck_113 _ _ rfl) rfl ⟨by omega, by omega⟩ ⟨by omega, by omega⟩ (fun c3 => ?_) (fun c4 => ?_)
    · have c3 : (1) < w := c3
      refine av_wp_sqF ck_113 1 (pc' := 26) (lv' := [some (.inr (.inr (.inl (some (0))))), some (.inl k), some (.inl l), some (.inl m), some (.inl w)]) (st' := [.inl (-2)]) (h' := h) rfl ?_
      refine av_wp_ret (v := some (.inl (-2))) (ck_113 _ _ rfl) rfl rfl ?_
      exact hq _ h _ _ C F SU (Or.inr ⟨by omega, rfl⟩)
    · have c4 : w ≤ (1) := c4
      refine av_wp_sqF ck_113 1 (pc' := 12) (lv' := [some (.inr (.inr (.inl (some (0))))), some (.inl k), some (.inl l), some (.inl m), some (.inl w)]) (st' := [.inr (.inr (.inl (some (0))))]) (h' := h) rfl ?_
      refine wq_gr (p' := 15) (ck_113 _ _ rfl) rfl (congrArg Prod.fst (ly_k C.1.1 0 rfl)) rfl (ly_g C.1.1 0 5 26 rfl) ?_
      refine av_wp_sqF ck_113 3 (pc' := 18) (lv' := [some (.inr (.inr (.inl (some (0))))), some (.inl k), some (.inl l), some (.inl m), some (.inl w)]) (st' := [.inl m, .inl l, .inl k, .inr (.inr (.inl (some (26))))]) (h' := h) rfl ?_
      refine wq_cv (p' := 21) (av_qc (.invokevirtual 222) 50 3 0 3) 5 cd_50 [.inl m, .inl l, .inl k] (26) 3 [some (.inr (.inr (.inl (some (26))))), some (.inl k), some (.inl l), some (.inl m), none] (ck_113 _ _ rfl) rfl rfl pp_50 rfl rfl rfl (congrArg Prod.fst (ly_k C.1.1 26 rfl)) rfl rfl rfl rfl ?_
      refine cx_50 C (k) (by omega) (l) (by omega) (m) (by omega) CR SU (fun h5 r6 n7 C8 F9 U10 z11 => ?_) (fun z12 h13 r14 n15 t16 c17 X18 U19 => ?_)
      · show av_wp _ cd_113 21 [some (.inr (.inr (.inl (some (0))))), some (.inl k), some (.inl l), some (.inl m), some (.inl w)] [.inl (0)] h5 _
        refine av_wp_sqF ck_113 2 (pc' := 26) (lv' := [some (.inr (.inr (.inl (some (0))))), some (.inl k), some (.inl l), some (.inl m), some (.inl w)]) (st' := [.inl (-2)]) (h' := h5) rfl ?_
        refine av_wp_ret (v := some (.inl (-2))) (ck_113 _ _ rfl) rfl rfl ?_
        exact hq _ h5 _ _ C8 F9 U10 (Or.inr ⟨by omega, rfl⟩)
      · have G201 := CWF_sea (ro := (hA h (6 + Int.toNat l))) (CR.1 (Int.toNat k) (by omega)) (rl_8 (CR.2.2.2 l (by omega) (by omega))).1 (brv_b (U (Int.toNat k)) (srt U S (hA h (6 + Int.toNat l)) (Int.toNat k)))
        have G202 := CWF_sea (ro := (hA h (6 + Int.toNat m))) (CR.1 (Int.toNat k) (by omega)) (rl_8 (CR.2.2.2 m (by omega) (by omega))).1 (brv_b (U (Int.toNat k)) (srt U S (hA h (6 + Int.toNat m)) (Int.toNat k)))
        have G20c := cbv_d (U (Int.toNat k)) (S (Int.toNat k))
        have G20d := CR.2.2.1 (Int.toNat k) (by omega)
        show av_wp _ cd_113 21 [some (.inr (.inr (.inl (some (0))))), some (.inl k), some (.inl l), some (.inl m), some (.inl w)] [.inl (1)] h13 _
        refine av_wp_sqF ck_113 2 (pc' := 29) (lv' := [some (.inr (.inr (.inl (some (0))))), some (.inl k), some (.inl l), some (.inl m), some (.inl w)]) (st' := [.inl w]) (h' := h13) rfl ?_
        refine wq_k1 (p' := 32) (ck_113 _ _ rfl) rfl ⟨by omega, by omega⟩ (fun c21 => ?_) (fun c22 => ?_)
        · have c21 : w ≠ (0) := c21
          refine av_wp_sqF ck_113 1 (pc' := 43) (lv' := [some (.inr (.inr (.inl (some (0))))), some (.inl k), some (.inl l), some (.inl m), some (.inl w)]) (st' := [.inr (.inr (.inl (some (0))))]) (h' := h13) rfl ?_
          refine wq_gr (p' := 46) (ck_113 _ _ rfl) rfl (congrArg Prod.fst (ly_k X18.1.1.1 0 rfl)) rfl (ly_g X18.1.1.1 0 5 26 rfl) ?_
          refine wq_cv (p' := 49) (av_qc (.invokevirtual 228) 61 0 0 3) 2 cd_61 [] (26) 3 [some (.inr (.inr (.inl (some (26))))), none] (ck_113 _ _ rfl) rfl rfl pp_61 rfl rfl rfl (congrArg Prod.fst (ly_k X18.1.1.1 26 rfl)) rfl rfl rfl rfl ?_
          refine cx_61 X18 G201 G202 (CR.1 (Int.toNat k) (by omega)).1 (CR.2.2.2 l (by omega) (by omega)) (CR.2.2.2 m (by omega) (by omega)) (by omega) (fun v23 h24 X25 p26 => ?_)
          show av_wp _ cd_113 49 [some (.inr (.inr (.inl (some (0))))), some (.inl k), some (.inl l), some (.inl m), some (.inl w)] [.inl v23] h24 _
          refine av_wp_ret (v := some (.inl v23)) (ck_113 _ _ rfl) rfl rfl ?_
          exact hq _ h24 _ _ X25.1 X25.2.1 U19 (Or.inl ⟨by omega, by unfold apv; rw [if_neg (by omega)]; exact p26⟩)
        · have c22 : w = (0) := c22
          refine av_wp_sqF ck_113 1 (pc' := 33) (lv' := [some (.inr (.inr (.inl (some (0))))), some (.inl k), some (.inl l), some (.inl m), some (.inl w)]) (st' := [.inr (.inr (.inl (some (0))))]) (h' := h13) rfl ?_
          refine wq_gr (p' := 36) (ck_113 _ _ rfl) rfl (congrArg Prod.fst (ly_k X18.1.1.1 0 rfl)) rfl (ly_g X18.1.1.1 0 5 26 rfl) ?_
          refine wq_cv (p' := 39) (av_qc (.invokevirtual 225) 60 0 0 3) 3 cd_60 [] (26) 3 [some (.inr (.inr (.inl (some (26))))), none, none] (ck_113 _ _ rfl) rfl rfl pp_60 rfl rfl rfl (congrArg Prod.fst (ly_k X18.1.1.1 26 rfl)) rfl rfl rfl rfl ?_
          refine cx_60 X18 G201 G202 (CR.1 (Int.toNat k) (by omega)).1 (CR.2.2.2 l (by omega) (by omega)) (CR.2.2.2 m (by omega) (by omega)) (by omega) (fun v27 h28 X29 p30 => ?_)
          show av_wp _ cd_113 39 [some (.inr (.inr (.inl (some (0))))), some (.inl k), some (.inl l), some (.inl m), some (.inl w)] [.inl v27] h28 _
          refine av_wp_sqF ck_113 1 (pc' := 49) (lv' := [some (.inr (.inr (.inl (some (0))))), some (.inl k), some (.inl l), some (.inl m), some (.inl w)]) (st' := [.inl v27]) (h' := h28) rfl ?_
          refine av_wp_ret (v := some (.inl v27)) (ck_113 _ _ rfl) rfl rfl ?_
          exact hq _ h28 _ _ X29.1 X29.2.1 U19 (Or.inl ⟨by omega, by unfold apv; rw [if_pos (by omega)]; exact p30⟩)
end
section
/-! PART, exactly: the class -/
set_option maxRecDepth 100000 in
set_option maxHeartbeats 4000000 in
theorem cx_114 {h : av_H} {U : Nat → Nat → Int} {S : Nat → Nat} {n : Int} {sr nd : Nat → Int} (C : CJ U S n sr nd h) (l : Int) (ql : -2147483648 ≤ l ∧ l ≤ 2147483647) (m : Int) (qm : -2147483648 ≤ m ∧ m ≤ 2147483647) (CR : CRT U S n (hF h 3 4) (fun k => hA h (6 + k))) (SU : SUA U S n (hF h 3 4) (fun k => hA h (6 + k)) sr) {Q : Option av_V → av_H → Prop} (hq : ∀ (v : Int) h' sr' nd', CJ U S n sr' nd' h' → Fr h h' → SUA U S n (hF h 3 4) (fun k => hA h (6 + k)) sr' → RSP ((0 ≤ l ∧ l < hF h 3 4) ∧ (0 ≤ m ∧ m < hF h 3 4)) (-2) (ptv S (PTQ U S (hA h (6 + Int.toNat l)) (hA h (6 + Int.toNat m))) (Int.toNat n)) v → Q (some (.inl v)) h') : av_wp none cd_114 0 [some (.inr (.inr (.inl (some (0))))), some (.inl l), some (.inl m), none, none, none, none, none] [] h Q := by
  have F := Fr_rf h
  have nr := C.2.1.2.1
  have l8 := ic_lc C.1
  refine av_wp_sqF ck_114 1 (pc' := 1) (lv' := [some (.inr (.inr (.inl (some (0))))), some (.inl l), some (.inl m), none, none, none, none, none]) (st' := [.inr (.inr (.inl (some (0))))]) (h' := h) rfl ?_
  refine wq_gr (p' := 4) (ck_114 _ _ rfl) rfl (congrArg Prod.fst (ly_k C.1.1 0 rfl)) rfl (ly_g C.1.1 0 1 3 rfl) ?_
  refine av_wp_sqF ck_114 1 (pc' := 5) (lv' := [some (.inr (.inr (.inl (some (0))))), some (.inl l), some (.inl m), none, none, none, none, none]) (st' := [.inl l, .inr (.inr (.inl (some (3))))]) (h' := h) rfl ?_
  refine wq_cv (p' := 8) (av_qc (.invokevirtual 153) 70 1 0 5) 2 cd_70 [.inl l] (3) 5 [some (.inr (.inr (.inl (some (3))))), some (.inl l)] (ck_114 _ _ rfl) rfl rfl pp_70 rfl rfl rfl (congrArg Prod.fst (ly_k C.1.1 3 rfl)) rfl rfl rfl rfl ?_
  refine cx_70 C.1 (l) (by omega) (fun v1 p2 => ?_)
  show av_wp _ cd_114 8 [some (.inr (.inr (.inl (some (0))))), some (.inl l), some (.inl m), none, none, none, none, none] [.inl v1] h _
  refine wq_k1 (p' := 11) (ck_114 _ _ rfl) rfl ⟨by omega, by omega⟩ (fun c3 => ?_) (fun c4 => ?_)
  · have c3 : v1 = (0) := c3
    refine av_wp_sqF ck_114 1 (pc' := 24) (lv' := [some (.inr (.inr (.inl (some (0))))), some (.inl l), some (.inl m), none, none, none, none, none]) (st' := [.inl (-2)]) (h' := h) rfl ?_
    refine av_wp_ret (v := some (.inl (-2))) (ck_114 _ _ rfl) rfl rfl ?_
    exact hq _ h _ _ C F SU (Or.inr ⟨by omega, rfl⟩)
  · have c4 : v1 ≠ (0) := c4
    refine av_wp_sqF ck_114 1 (pc' := 12) (lv' := [some (.inr (.inr (.inl (some (0))))), some (.inl l), some (.inl m), none, none, none, none, none]) (st' := [.inr (.inr (.inl (some (0))))]) (h' := h) rfl ?_
    refine wq_gr (p' := 15) (ck_114 _ _ rfl) rfl (congrArg Prod.fst (ly_k C.1.1 0 rfl)) rfl (ly_g C.1.1 0 1 3 rfl) ?_
    refine av_wp_sqF ck_114 1 (pc' := 16) (lv' := [some (.inr (.inr (.inl (some (0))))), some (.inl l), some (.inl m), none, none, none, none, none]) (st' := [.inl m, .inr (.inr (.inl (some (3))))]) (h' := h) rfl ?_
    refine wq_cv (p' := 19) (av_qc (.invokevirtual 153) 70 1 0 5) 2 cd_70 [.inl m] (3) 5 [some (.inr (.inr (.inl (some (3))))), some (.inl m)] (ck_114 _ _ rfl) rfl rfl pp_70 rfl rfl rfl (congrArg Prod.fst (ly_k C.1.1 3 rfl)) rfl rfl rfl rfl ?_
    refine cx_70 C.1 (m) (by omega) (fun v5 p6 => ?_)
    show av_wp _ cd_114 19 [some (.inr (.inr (.inl (some (0))))), some (.inl l), some (.inl m), none, none, none, none, none] [.inl v5] h _
    refine wq_k1 (p' := 22) (ck_114 _ _ rfl) rfl ⟨by omega, by omega⟩ (fun c7 => ?_) (fun c8 => ?_)
    · have c7 : v5 ≠ (0) := c7
      refine av_wp_sqF ck_114 6 (pc' := 34) (lv' := [some (.inr (.inr (.inl (some (0))))), some (.inl l), some (.inl m), some (.inl (-1)), some (.inl (13)), some (.inl (0)), none, none]) (st' := []) (h' := h) rfl ?_
      have L21 : ∀ (m20 : Nat) (k9 : Int) (k10 : Int) (k11 : Int) (a12 : Option av_V) (a13 : Option av_V) (h14 : av_H) (r15 : Nat → Int) (n16 : Nat → Int), av_lg a12 = false → av_lg a13 = false → (k9 = (ptv S (PTQ U S (hA h (6 + Int.toNat l)) (hA h (6 + Int.toNat m))) (Int.toNat k11)) ∧ (((ptv S (PTQ U S (hA h (6 + Int.toNat l)) (hA h (6 + Int.toNat m))) (Int.toNat k11)) = -1 ∧ k10 = 13) ∨ ((ptv S (PTQ U S (hA h (6 + Int.toNat l)) (hA h (6 + Int.toNat m))) (Int.toNat k11)) ≠ -1 ∧ k10 = (S (Int.toNat (ptv S (PTQ U S (hA h (6 + Int.toNat l)) (hA h (6 + Int.toNat m))) (Int.toNat k11))) : Int)))) → k11 ≤ n → (-1 ≤ k9 ∧ k9 ≤ 15) → (0 ≤ k10 ∧ k10 ≤ 13) → (0 ≤ k11 ∧ k11 ≤ 16) → CJ U S n r15 n16 h14 → Fr h h14 → SUA U S n (hF h 3 4) (fun k => hA h (6 + k)) r15 → (16 - k11).toNat = m20 → av_wp none cd_114 34 [some (.inr (.inr (.inl (some (0))))), some (.inl l), some (.inl m), some (.inl k9), some (.inl k10), some (.inl k11), a12, a13] [] h14 Q := by
        intro m20
        induction m20 using Nat.strongRecOn with
        | _ m20 I22 =>
          intro k9 k10 k11 a12 a13 h14 r15 n16 g24 g25 g26 g27 g28 g29 g30 C17 F18 U19 e23
          have la12 := g24
          have la13 := g25
          refine av_wp_sqF ck_114 2 (pc' := 37) (lv' := [some (.inr (.inr (.inl (some (0))))), some (.inl l), some (.inl m), some (.inl k9), some (.inl k10), some (.inl k11), a12, a13]) (st' := [.inr (.inr (.inl (some (0)))), .inl k11]) (h' := h14) rfl ?_
          refine wq_gr (p' := 40) (ck_114 _ _ rfl) rfl (congrArg Prod.fst (ly_k C17.1.1 0 rfl)) rfl (ly_g C17.1.1 0 1 3 rfl) ?_
          obtain ⟨v31, e32⟩ : ∃ v, hF h14 3 3 = v := ⟨_, rfl⟩
          have g33 := ic_cc C17.1
          rw [e32] at g33
          have u34 : v31 = n := e32.symm.trans C17.2.1.1
          refine wq_gi (p' := 43) (ck_114 _ _ rfl) rfl (congrArg Prod.fst (ly_k C17.1.1 3 rfl)) rfl (e32) ?_
          refine wq_k2 (p' := 46) (ck_114 _ _ rfl) rfl ⟨by omega, by omega⟩ ⟨by omega, by omega⟩ (fun c35 => ?_) (fun c36 => ?_)
          · have c35 : v31 ≤ k11 := c35
            refine av_wp_sqF ck_114 1 (pc' := 126) (lv' := [some (.inr (.inr (.inl (some (0))))), some (.inl l), some (.inl m), some (.inl k9), some (.inl k10), some (.inl k11), a12, a13]) (st' := [.inl k9]) (h' := h14) rfl ?_
            refine av_wp_ret (v := some (.inl k9)) (ck_114 _ _ rfl) rfl rfl ?_
            exact hq _ h14 _ _ C17 F18 U19 (Or.inl ⟨by omega, by rw [show Int.toNat n = Int.toNat k11 by omega]; exact g26.1⟩)
          · have c36 : k11 < v31 := c36
            refine av_wp_sqF ck_114 1 (pc' := 47) (lv' := [some (.inr (.inr (.inl (some (0))))), some (.inl l), some (.inl m), some (.inl k9), some (.inl k10), some (.inl k11), a12, a13]) (st' := [.inr (.inr (.inl (some (0))))]) (h' := h14) rfl ?_
            refine wq_gr (p' := 50) (ck_114 _ _ rfl) rfl (congrArg Prod.fst (ly_k C17.1.1 0 rfl)) rfl (ly_g C17.1.1 0 1 3 rfl) ?_
            refine av_wp_sqF ck_114 1 (pc' := 52) (lv' := [some (.inr (.inr (.inl (some (0))))), some (.inl l), some (.inl m), some (.inl k9), some (.inl k10), some (.inl k11), a12, a13]) (st' := [.inl k11, .inr (.inr (.inl (some (3))))]) (h' := h14) rfl ?_
            refine wq_cv (p' := 55) (av_qc (.invokevirtual 96) 69 1 0 5) 2 cd_69 [.inl k11] (3) 5 [some (.inr (.inr (.inl (some (3))))), some (.inl k11)] (ck_114 _ _ rfl) rfl rfl pp_69 rfl rfl rfl (congrArg Prod.fst (ly_k C17.1.1 3 rfl)) rfl rfl rfl rfl ?_
            refine cz_69 C17 (k11) (by omega) (fun z37 => ?_) (fun z37 z38 t39 c40 y41 y42 => ?_)
            · show av_wp _ cd_114 55 [some (.inr (.inr (.inl (some (0))))), some (.inl l), some (.inl m), some (.inl k9), some (.inl k10), some (.inl k11), a12, a13] [.inr (.inr (.inl none))] h14 _
              refine av_wp_sqF ck_114 9 (pc' := 34) (lv' := [some (.inr (.inr (.inl (some (0))))), some (.inl l), some (.inl m), some (.inl k9), some (.inl k10), some (.inl (k11 + (1))), some (.inr (.inr (.inl none))), some (.inl (0))]) (st' := []) (h' := h14) rfl ?_
              exact I22 _ (by omega) (k9) (k10) ((k11 + (1))) (some (.inr (.inr (.inl none)))) (some (.inl (0))) h14 r15 n16 rfl rfl (by have pr := ptv_r (S := S) (Q := (PTQ U S (hA h (6 + Int.toNat l)) (hA h (6 + Int.toNat m)))) (Int.toNat k11); rw [show Int.toNat (k11 + (1)) = Int.toNat k11 + 1 by omega, ptv_n (fun z => by have := z.1; omega)]; exact g26) (by omega) (by omega) (by omega) (by omega) C17 F18 U19 rfl
            · have g43 := co_s12 y41
              have g44 := co_cbr y41
              show av_wp _ cd_114 55 [some (.inr (.inr (.inl (some (0))))), some (.inl l), some (.inl m), some (.inl k9), some (.inl k10), some (.inl k11), a12, a13] [.inr (.inr (.inl (some (t39))))] h14 _
              refine av_wp_sqF ck_114 4 (pc' := 64) (lv' := [some (.inr (.inr (.inl (some (0))))), some (.inl l), some (.inl m), some (.inl k9), some (.inl k10), some (.inl k11), some (.inr (.inr (.inl (some (t39))))), a13]) (st' := [.inr (.inr (.inl (some (t39))))]) (h' := h14) rfl ?_
              refine wq_gi (p' := 67) (ck_114 _ _ rfl) rfl (congrArg Prod.fst (co_kt y41)) rfl (co_s y41) ?_
              refine av_wp_sqF ck_114 1 (pc' := 69) (lv' := [some (.inr (.inr (.inl (some (0))))), some (.inl l), some (.inl m), some (.inl k9), some (.inl k10), some (.inl k11), some (.inr (.inr (.inl (some (t39))))), a13]) (st' := [.inl k10, .inl ((S (Int.toNat (k11))) : Int)]) (h' := h14) rfl ?_
              refine wq_k2 (p' := 72) (ck_114 _ _ rfl) rfl ⟨by omega, by omega⟩ ⟨by omega, by omega⟩ (fun c45 => ?_) (fun c46 => ?_)
              · have c45 : k10 ≤ ((S (Int.toNat (k11))) : Int) := c45
                refine av_wp_sqF ck_114 6 (pc' := 34) (lv' := [some (.inr (.inr (.inl (some (0))))), some (.inl l), some (.inl m), some (.inl k9), some (.inl k10), some (.inl (k11 + (1))), some (.inr (.inr (.inl (some (t39))))), some (.inl (0))]) (st' := []) (h' := h14) rfl ?_
                exact I22 _ (by omega) (k9) (k10) ((k11 + (1))) (some (.inr (.inr (.inl (some (t39)))))) (some (.inl (0))) h14 r15 n16 rfl rfl (by have pr := ptv_r (S := S) (Q := (PTQ U S (hA h (6 + Int.toNat l)) (hA h (6 + Int.toNat m)))) (Int.toNat k11); rw [show Int.toNat (k11 + (1)) = Int.toNat k11 + 1 by omega, ptv_n (fun z => by have := z.1; omega)]; exact g26) (by omega) (by omega) (by omega) (by omega) C17 F18 U19 rfl
              · have c46 : ((S (Int.toNat (k11))) : Int) < k10 := c46
                refine av_wp_sqF ck_114 6 (pc' := 85) (lv' := [some (.inr (.inr (.inl (some (0))))), some (.inl l), some (.inl m), some (.inl k9), some (.inl k10), some (.inl k11), some (.inr (.inr (.inl (some (t39))))), some (.inl (1))]) (st' := [.inr (.inr (.inl (some (0))))]) (h' := h14) rfl ?_
                refine wq_gr (p' := 88) (ck_114 _ _ rfl) rfl (congrArg Prod.fst (ly_k C17.1.1 0 rfl)) rfl (ly_g C17.1.1 0 5 26 rfl) ?_
                refine av_wp_sqF ck_114 3 (pc' := 92) (lv' := [some (.inr (.inr (.inl (some (0))))), some (.inl l), some (.inl m), some (.inl k9), some (.inl k10), some (.inl k11), some (.inr (.inr (.inl (some (t39))))), some (.inl (1))]) (st' := [.inl m, .inl l, .inl k11, .inr (.inr (.inl (some (26))))]) (h' := h14) rfl ?_
                refine wq_cv (p' := 95) (av_qc (.invokevirtual 222) 50 3 0 3) 5 cd_50 [.inl m, .inl l, .inl k11] (26) 3 [some (.inr (.inr (.inl (some (26))))), some (.inl k11), some (.inl l), some (.inl m), none] (ck_114 _ _ rfl) rfl rfl pp_50 rfl rfl rfl (congrArg Prod.fst (ly_k C17.1.1 26 rfl)) rfl rfl rfl rfl ?_
                have G62cr : CRT U S n (hF h14 3 4) (fun k => hA h14 (6 + k)) := by rw [Fr_34 F18]; exact CRT_c CR (by have := ic_lc C.1; omega) (Fr_6 F18)
                have G62su : SUA U S n (hF h14 3 4) (fun k => hA h14 (6 + k)) r15 := by rw [Fr_34 F18]; exact SUA_c U19 (fun l hl _ => Fr_6 F18 l hl)
                refine cx_50 C17 (k11) (by omega) (l) (by omega) (m) (by omega) G62cr G62su (fun h47 r48 n49 C50 F51 U52 z53 => ?_) (fun z54 h55 r56 n57 t58 c59 X60 U61 => ?_)
                · rw [Fr_34 F18] at U52 z53
                  have F63 := Fr_tr F18 F51
                  have U52 := SUA_c U52 (fun l hl _ => (Fr_6 F18 l hl).symm)
                  show av_wp _ cd_114 95 [some (.inr (.inr (.inl (some (0))))), some (.inl l), some (.inl m), some (.inl k9), some (.inl k10), some (.inl k11), some (.inr (.inr (.inl (some (t39))))), some (.inl (1))] [.inl (0)] h47 _
                  refine av_wp_sqF ck_114 3 (pc' := 34) (lv' := [some (.inr (.inr (.inl (some (0))))), some (.inl l), some (.inl m), some (.inl k9), some (.inl k10), some (.inl (k11 + (1))), some (.inr (.inr (.inl (some (t39))))), some (.inl (1))]) (st' := []) (h' := h47) rfl ?_
                  exact I22 _ (by omega) (k9) (k10) ((k11 + (1))) (some (.inr (.inr (.inl (some (t39)))))) (some (.inl (1))) h47 r48 n49 rfl rfl (by have pr := ptv_r (S := S) (Q := (PTQ U S (hA h (6 + Int.toNat l)) (hA h (6 + Int.toNat m)))) (Int.toNat k11); rw [show Int.toNat (k11 + (1)) = Int.toNat k11 + 1 by omega, ptv_n (fun z => z53 ⟨by omega, z.2.1, by omega, by omega⟩)]; exact g26) (by omega) (by omega) (by omega) (by omega) C50 F63 U52 rfl
                · rw [Fr_34 F18] at z54 U61
                  have U61 := SUA_c U61 (fun l hl _ => (Fr_6 F18 l hl).symm)
                  rw [Fr_6 F18 (Int.toNat l) (by have := ic_lc C.1; omega), Fr_6 F18 (Int.toNat m) (by have := ic_lc C.1; omega)] at X60
                  have G621 := CWF_sea (ro := (hA h (6 + Int.toNat l))) (CR.1 (Int.toNat k11) (by omega)) (rl_8 (CR.2.2.2 l (by omega) (by omega))).1 (brv_b (U (Int.toNat k11)) (srt U S (hA h (6 + Int.toNat l)) (Int.toNat k11)))
                  have G622 := CWF_sea (ro := (hA h (6 + Int.toNat m))) (CR.1 (Int.toNat k11) (by omega)) (rl_8 (CR.2.2.2 m (by omega) (by omega))).1 (brv_b (U (Int.toNat k11)) (srt U S (hA h (6 + Int.toNat m)) (Int.toNat k11)))
                  have G62c := cbv_d (U (Int.toNat k11)) (S (Int.toNat k11))
                  have G62d := CR.2.2.1 (Int.toNat k11) (by omega)
                  show av_wp _ cd_114 95 [some (.inr (.inr (.inl (some (0))))), some (.inl l), some (.inl m), some (.inl k9), some (.inl k10), some (.inl k11), some (.inr (.inr (.inl (some (t39))))), some (.inl (1))] [.inl (1)] h55 _
                  refine av_wp_sqF ck_114 2 (pc' := 99) (lv' := [some (.inr (.inr (.inl (some (0))))), some (.inl l), some (.inl m), some (.inl k9), some (.inl k10), some (.inl k11), some (.inr (.inr (.inl (some (t39))))), some (.inl (1))]) (st' := [.inr (.inr (.inl (some (0))))]) (h' := h55) rfl ?_
                  refine wq_gr (p' := 102) (ck_114 _ _ rfl) rfl (congrArg Prod.fst (ly_k X60.1.1.1 0 rfl)) rfl (ly_g X60.1.1.1 0 5 26 rfl) ?_
                  refine wq_cv (p' := 105) (av_qc (.invokevirtual 228) 61 0 0 3) 2 cd_61 [] (26) 3 [some (.inr (.inr (.inl (some (26))))), none] (ck_114 _ _ rfl) rfl rfl pp_61 rfl rfl rfl (congrArg Prod.fst (ly_k X60.1.1.1 26 rfl)) rfl rfl rfl rfl ?_
                  refine cx_61 X60 G621 G622 (CR.1 (Int.toNat k11) (by omega)).1 (CR.2.2.2 l (by omega) (by omega)) (CR.2.2.2 m (by omega) (by omega)) (by omega) (fun v65 h66 X67 p68 => ?_)
                  have F69 := Fr_tr F18 X67.2.1
                  have g70 : -1 ≤ v65 ∧ v65 < (Int.toNat (cbv (U (Int.toNat k11)) (S (Int.toNat k11))) : Int) := by rw [p68]; exact fsP_r
                  have y71 := CO_fr C17.1.1 y41 X67.2.1
                  show av_wp _ cd_114 105 [some (.inr (.inr (.inl (some (0))))), some (.inl l), some (.inl m), some (.inl k9), some (.inl k10), some (.inl k11), some (.inr (.inr (.inl (some (t39))))), some (.inl (1))] [.inl v65] h66 _
                  refine av_wp_sqF ck_114 1 (pc' := 106) (lv' := [some (.inr (.inr (.inl (some (0))))), some (.inl l), some (.inl m), some (.inl k9), some (.inl k10), some (.inl k11), some (.inr (.inr (.inl (some (t39))))), some (.inl (1))]) (st' := [.inl (-1), .inl v65]) (h' := h66) rfl ?_
                  refine wq_k2 (p' := 109) (ck_114 _ _ rfl) rfl ⟨by omega, by omega⟩ ⟨by omega, by omega⟩ (fun c72 => ?_) (fun c73 => ?_)
                  · have c72 : v65 = (-1) := c72
                    refine av_wp_sqF ck_114 2 (pc' := 34) (lv' := [some (.inr (.inr (.inl (some (0))))), some (.inl l), some (.inl m), some (.inl k9), some (.inl k10), some (.inl (k11 + (1))), some (.inr (.inr (.inl (some (t39))))), some (.inl (1))]) (st' := []) (h' := h66) rfl ?_
                    exact I22 _ (by omega) (k9) (k10) ((k11 + (1))) (some (.inr (.inr (.inl (some (t39)))))) (some (.inl (1))) h66 r56 n57 rfl rfl (by have pr := ptv_r (S := S) (Q := (PTQ U S (hA h (6 + Int.toNat l)) (hA h (6 + Int.toNat m)))) (Int.toNat k11); rw [show Int.toNat (k11 + (1)) = Int.toNat k11 + 1 by omega, ptv_n (fun z => z.2.2 (by rw [← p68]; omega))]; exact g26) (by omega) (by omega) (by omega) (by omega) X67.1 F69 U61 rfl
                  · have c73 : v65 ≠ (-1) := c73
                    refine av_wp_sqF ck_114 3 (pc' := 114) (lv' := [some (.inr (.inr (.inl (some (0))))), some (.inl l), some (.inl m), some (.inl k11), some (.inl k10), some (.inl k11), some (.inr (.inr (.inl (some (t39))))), some (.inl (1))]) (st' := [.inr (.inr (.inl (some (t39))))]) (h' := h66) rfl ?_
                    refine wq_gi (p' := 117) (ck_114 _ _ rfl) rfl (congrArg Prod.fst (co_kt y71)) rfl (co_s y71) ?_
                    refine av_wp_sqF ck_114 3 (pc' := 34) (lv' := [some (.inr (.inr (.inl (some (0))))), some (.inl l), some (.inl m), some (.inl k11), some (.inl ((S (Int.toNat (k11))) : Int)), some (.inl (k11 + (1))), some (.inr (.inr (.inl (some (t39))))), some (.inl (1))]) (st' := []) (h' := h66) rfl ?_
                    exact I22 _ (by omega) (k11) (((S (Int.toNat (k11))) : Int)) ((k11 + (1))) (some (.inr (.inr (.inl (some (t39)))))) (some (.inl (1))) h66 r56 n57 rfl rfl (by have pr := ptv_r (S := S) (Q := (PTQ U S (hA h (6 + Int.toNat l)) (hA h (6 + Int.toNat m)))) (Int.toNat k11); rw [show Int.toNat (k11 + (1)) = Int.toNat k11 + 1 by omega, ptv_y (by omega) ⟨by omega, by rw [← p68]; omega⟩]; refine ⟨by omega, Or.inr ⟨by omega, ?_⟩⟩; rw [show ((((Int.toNat k11) : Nat) : Int)).toNat = (Int.toNat k11) by omega]) (by omega) (by omega) (by omega) (by omega) X67.1 F69 U61 rfl
      exact L21 _ ((-1)) ((13)) ((0)) (none) (none) h sr nd rfl rfl ⟨rfl, Or.inl ⟨rfl, rfl⟩⟩ (by omega) (by omega) (by omega) (by omega) C F SU rfl
    · have c8 : v5 = (0) := c8
      refine av_wp_sqF ck_114 1 (pc' := 24) (lv' := [some (.inr (.inr (.inl (some (0))))), some (.inl l), some (.inl m), none, none, none, none, none]) (st' := [.inl (-2)]) (h' := h) rfl ?_
      refine av_wp_ret (v := some (.inl (-2))) (ck_114 _ _ rfl) rfl rfl ?_
      exact hq _ h _ _ C F SU (Or.inr ⟨by omega, rfl⟩)
end
section
/-! WRITE: clauses behind a law -/
def mxf (R : Nat → Nat → Int) (b : Nat → Int) (x : Int) : Nat → Nat → Int
  | 0 => b
  | c + 1 => if av_w (av_and (av_shr x (c : Int)) 1) = 1 then lov (mxf R b x c) (R c) 14 else mxf R b x c
theorem mxf_y {R : Nat → Nat → Int} {b : Nat → Int} {x : Int} {c : Nat} (h : av_w (av_and (av_shr x (c : Int)) 1) = 1) : mxf R b x (c + 1) = lov (mxf R b x c) (R c) 14 := if_pos h
theorem mxf_n {R : Nat → Nat → Int} {b : Nat → Int} {x : Int} {c : Nat} (h : ¬ av_w (av_and (av_shr x (c : Int)) 1) = 1) : mxf R b x (c + 1) = mxf R b x c := if_neg h
theorem lov_bd {f d : Nat → Int} {n : Nat} (hf : ∀ j, -2 ≤ f j ∧ f j ≤ 999) (hd : ∀ j, -2 ≤ d j ∧ d j ≤ 999) (j : Nat) : -2 ≤ lov f d n j ∧ lov f d n j ≤ 999 := by
  unfold lov
  split
  · exact hd j
  · exact hf j
theorem mxf_bd {R : Nat → Nat → Int} {b : Nat → Int} {x : Int} (hb : ∀ j, -2 ≤ b j ∧ b j ≤ 999) : ∀ c : Nat, (∀ q, q < c → ∀ j, -2 ≤ R q j ∧ R q j ≤ 999) → ∀ j, -2 ≤ mxf R b x c j ∧ mxf R b x c j ≤ 999 := by
  intro c
  induction c with
  | zero => intro _ j; exact hb j
  | succ c ih =>
    intro hR j
    have i := ih (fun q hq => hR q (by omega))
    by_cases e : av_w (av_and (av_shr x (c : Int)) 1) = 1
    · rw [mxf_y e]
      exact lov_bd i (hR c (by omega)) j
    · rw [mxf_n e]
      exact i j
theorem IC_30 {h : av_H} {f : Nat → Int} (I : IC h) (hf : ∀ j, -2 ≤ f j ∧ f j ≤ 999) : IC (hrw h 30 f) ∧ Fr1 h (hrw h 30 f) := by
  refine IC_A (A := av_u1 h.2.2.2.1 30 f) I (fun a ha => ?_) (fun a ha j => ?_)
  · have hne : a ≠ 30 := fun z => by rw [z] at ha; cases ha
    exact if_neg hne
  · by_cases c : a = 30
    · rw [c, show av_u1 h.2.2.2.1 30 f 30 = f from if_pos rfl]
      exact hf j
    · rw [show av_u1 h.2.2.2.1 30 f a = h.2.2.2.1 a from if_neg c]
      exact I.2.1 a ha j
/-- the class lays a law and clauses behind it -/
theorem cx_75 {h : av_H} (I : IC h) (l : Int) (ql : 0 ≤ l ∧ l < hF h 3 4) (x : Int) {Q : Option av_V → av_H → Prop} (hq : ∀ h', h' = hrw h 30 (mxf (fun c => hA h (15 + c)) (plr (hA h 30) (hA h (6 + Int.toNat l))) x (Int.toNat (hF h 3 5))) → Q none h') : av_wp none cd_75 0 [some (.inr (.inr (.inl (some (3))))), some (.inr (.inr (.inl (some (30))))), some (.inl l), some (.inl x), none] [] h Q := by
  have l8 := ic_lc I
  have k6 := ic_kc I
  have u5 : (Int.toNat (l)) < 8 := by omega
  have bb : ∀ j, -2 ≤ plr (hA h 30) (hA h (6 + Int.toNat l)) j ∧ plr (hA h 30) (hA h (6 + Int.toNat l)) j ≤ 999 := plr_bd (I.2.1 30 rfl) (I.2.1 _ (rwc_l u5))
  have bc : ∀ q, q < 6 → ∀ j, -2 ≤ hA h (15 + q) j ∧ hA h (15 + q) j ≤ 999 := fun q hq => I.2.1 _ (rwc_q hq)
  refine av_wp_sqF ck_75 2 (pc' := 2) (lv' := [some (.inr (.inr (.inl (some (3))))), some (.inr (.inr (.inl (some (30))))), some (.inl l), some (.inl x), none]) (st' := [.inl l, .inr (.inr (.inl (some (3))))]) (h' := h) rfl ?_
  refine wq_cv (p' := 5) (av_qc (.invokevirtual 49) 70 1 0 5) 2 cd_70 [.inl l] (3) 5 [some (.inr (.inr (.inl (some (3))))), some (.inl l)] (ck_75 _ _ rfl) rfl rfl pp_70 rfl rfl rfl (congrArg Prod.fst (ly_k I.1 3 rfl)) rfl rfl rfl rfl ?_
  refine cx_70 I (l) (by omega) (fun v1 p2 => ?_)
  show av_wp _ cd_75 5 [some (.inr (.inr (.inl (some (3))))), some (.inr (.inr (.inl (some (30))))), some (.inl l), some (.inl x), none] [.inl v1] h _
  refine wq_k1 (p' := 8) (ck_75 _ _ rfl) rfl ⟨by omega, by omega⟩ (fun c3 => ?_) (fun c4 => ?_)
  · refine av_wp_sqF ck_75 1 (pc' := 10) (lv' := [some (.inr (.inr (.inl (some (3))))), some (.inr (.inr (.inl (some (30))))), some (.inl l), some (.inl x), none]) (st' := [.inr (.inr (.inl (some (3))))]) (h' := h) rfl ?_
    refine wq_gr (p' := 13) (ck_75 _ _ rfl) rfl (congrArg Prod.fst (ly_k I.1 3 rfl)) rfl (ly_g I.1 3 1 5 rfl) ?_
    refine av_wp_sqF ck_75 1 (pc' := 14) (lv' := [some (.inr (.inr (.inl (some (3))))), some (.inr (.inr (.inl (some (30))))), some (.inl l), some (.inl x), none]) (st' := [.inl l, .inr (.inr (.inl (some (5))))]) (h' := h) rfl ?_
    refine wq_ar (p' := 15) (n := 8) (k := 32) (ck_75 _ _ rfl) rfl (ly_k I.1 5 rfl) (by omega) (by omega) (I.1.2.2.1 _ u5) ?_
    refine av_wp_sqF ck_75 4 (pc' := 20) (lv' := [some (.inr (.inr (.inl (some (3))))), some (.inr (.inr (.inl (some (30))))), some (.inl l), some (.inl x), none]) (st' := [.inl (14), .inl (0), .inr (.inr (.inl (some (30)))), .inl (0), .inr (.inr (.inl (some (6 + (Int.toNat (l))))))]) (h' := h) rfl ?_
    refine wq_ac (p' := 23) (ck_75 _ _ rfl) rfl rfl (fun _ _ => rfl) rfl (ly_k I.1 30 rfl) (ly_l I.1 u5) (by omega) (by omega) (by omega) (by omega) ?_
    rw [show hcp h 30 (0 : Int).toNat (0 : Int).toNat (14 : Int).toNat (hA h (6 + Int.toNat l)) = hrw h 30 (plr (hA h 30) (hA h (6 + Int.toNat l))) from hcp_rw]
    refine av_wp_sqF ck_75 2 (pc' := 26) (lv' := [some (.inr (.inr (.inl (some (3))))), some (.inr (.inr (.inl (some (30))))), some (.inl l), some (.inl x), some (.inl (0))]) (st' := []) (h' := hrw h 30 (plr (hA h 30) (hA h (6 + Int.toNat l)))) rfl ?_
    obtain ⟨B, eB⟩ : ∃ B, plr (hA h 30) (hA h (6 + Int.toNat l)) = B := ⟨_, rfl⟩
    rw [eB] at hq bb ⊢
    have lp : ∀ (m k : Nat), (k : Int) + (m : Int) = hF h 3 5 → av_wp none cd_75 26 [some (.inr (.inr (.inl (some (3))))), some (.inr (.inr (.inl (some (30))))), some (.inl l), some (.inl x), some (.inl (k : Int))] [] (hrw h 30 (mxf (fun c => hA h (15 + c)) B x k)) Q := by
      intro m
      induction m with
      | zero =>
        intro k hk
        have J := (IC_30 (f := mxf (fun c => hA h (15 + c)) B x k) I (mxf_bd bb k (fun q hq => bc q (by omega)))).1
        refine av_wp_sqF ck_75 2 (pc' := 29) (lv' := [some (.inr (.inr (.inl (some (3))))), some (.inr (.inr (.inl (some (30))))), some (.inl l), some (.inl x), some (.inl (k : Int))]) (st' := [.inr (.inr (.inl (some (3)))), .inl (k : Int)]) (h' := hrw h 30 (mxf (fun c => hA h (15 + c)) B x k)) rfl ?_
        refine wq_gi (p' := 32) (ck_75 _ _ rfl) rfl (congrArg Prod.fst (ly_k J.1 3 rfl)) rfl (show hF (hrw h 30 _) 3 5 = hF h 3 5 from rfl) ?_
        refine wq_k2 (p' := 35) (ck_75 _ _ rfl) rfl ⟨by omega, by omega⟩ ⟨by omega, by omega⟩ (fun c22 => ?_) (fun c23 => ?_)
        · refine av_wp_ret (v := none) (ck_75 _ _ rfl) rfl rfl ?_
          rw [show k = Int.toNat (hF h 3 5) by omega]
          exact hq _ rfl
        · have c23 : (k : Int) < hF h 3 5 := c23
          exfalso
          omega
      | succ m ih =>
        intro k hk
        have u28 : k < 6 := by omega
        have J := (IC_30 (f := mxf (fun c => hA h (15 + c)) B x k) I (mxf_bd bb k (fun q hq => bc q (by omega)))).1
        have nx : ∀ f, f = mxf (fun c => hA h (15 + c)) B x (k + 1) → av_wp none cd_75 56 [some (.inr (.inr (.inl (some (3))))), some (.inr (.inr (.inl (some (30))))), some (.inl l), some (.inl x), some (.inl (k : Int))] [] (hrw h 30 f) Q := by
          intro f ef
          rw [ef]
          refine av_wp_sqF ck_75 2 (pc' := 26) (lv' := [some (.inr (.inr (.inl (some (3))))), some (.inr (.inr (.inl (some (30))))), some (.inl l), some (.inl x), some (.inl ((k : Int) + 1))]) (st' := []) (h' := hrw h 30 (mxf (fun c => hA h (15 + c)) B x (k + 1))) rfl ?_
          have i := ih (k + 1) (by omega)
          rw [show ((k + 1 : Nat) : Int) = (k : Int) + 1 by omega] at i
          exact i
        refine av_wp_sqF ck_75 2 (pc' := 29) (lv' := [some (.inr (.inr (.inl (some (3))))), some (.inr (.inr (.inl (some (30))))), some (.inl l), some (.inl x), some (.inl (k : Int))]) (st' := [.inr (.inr (.inl (some (3)))), .inl (k : Int)]) (h' := hrw h 30 (mxf (fun c => hA h (15 + c)) B x k)) rfl ?_
        refine wq_gi (p' := 32) (ck_75 _ _ rfl) rfl (congrArg Prod.fst (ly_k J.1 3 rfl)) rfl (show hF (hrw h 30 _) 3 5 = hF h 3 5 from rfl) ?_
        refine wq_k2 (p' := 35) (ck_75 _ _ rfl) rfl ⟨by omega, by omega⟩ ⟨by omega, by omega⟩ (fun c22 => ?_) (fun c23 => ?_)
        · have c22 : hF h 3 5 ≤ (k : Int) := c22
          exfalso
          omega
        · refine av_wp_sqF ck_75 6 (pc' := 42) (lv' := [some (.inr (.inr (.inl (some (3))))), some (.inr (.inr (.inl (some (30))))), some (.inl l), some (.inl x), some (.inl (k : Int))]) (st' := [.inl (1), .inl (av_and (av_shr x (k : Int)) (1))]) (h' := hrw h 30 (mxf (fun c => hA h (15 + c)) B x k)) rfl ?_
          refine wq_w2 (p' := 45) (ck_75 _ _ rfl) rfl (fun c60 => ?_) (fun c61 => ?_)
          · exact nx _ (mxf_n c60).symm
          · refine av_wp_sqF ck_75 2 (pc' := 47) (lv' := [some (.inr (.inr (.inl (some (3))))), some (.inr (.inr (.inl (some (30))))), some (.inl l), some (.inl x), some (.inl (k : Int))]) (st' := [.inr (.inr (.inl (some (3)))), .inr (.inr (.inl (some (30))))]) (h' := hrw h 30 (mxf (fun c => hA h (15 + c)) B x k)) rfl ?_
            refine wq_gr (p' := 50) (ck_75 _ _ rfl) rfl (congrArg Prod.fst (ly_k J.1 3 rfl)) rfl (ly_g J.1 3 2 14 rfl) ?_
            refine av_wp_sqF ck_75 1 (pc' := 52) (lv' := [some (.inr (.inr (.inl (some (3))))), some (.inr (.inr (.inl (some (30))))), some (.inl l), some (.inl x), some (.inl (k : Int))]) (st' := [.inl (k : Int), .inr (.inr (.inl (some (14)))), .inr (.inr (.inl (some (30))))]) (h' := hrw h 30 (mxf (fun c => hA h (15 + c)) B x k)) rfl ?_
            refine wq_ar (p' := 53) (n := 6) (k := 32) (ck_75 _ _ rfl) rfl (ly_k J.1 14 rfl) (by omega) (by omega) (J.1.2.2.2 _ u28) ?_
            refine wq_cs (p' := 56) (av_qc (.invokestatic 45) 74 2 2 5) 3 cd_74 [.inr (.inr (.inl (some (30)))), .inr (.inr (.inl (some (15 + k))))] [.inr (.inr (.inl (some (15 + k)))), .inr (.inr (.inl (some (30))))] [some (.inr (.inr (.inl (some (30))))), some (.inr (.inr (.inl (some (15 + k))))), none] (ck_75 _ _ rfl) rfl rfl pp_74 (fun _ => rfl) rfl rfl ?_
            refine ct_74x (ly_k I.1 30 rfl) (ly_q I.1 u28) (by omega) (bc k u28) ?_
            exact nx _ (mxf_y c61).symm
    exact lp (Int.toNat (hF h 3 5)) 0 (by omega)
  · have c4 : v1 = (0) := c4
    exfalso
    omega
/-- how many bits -/
def pcn (x : Nat) : Nat := x % 2 + x / 2 % 2 + x / 4 % 2 + x / 8 % 2 + x / 16 % 2 + x / 32 % 2
theorem pcn_r : ∀ k : Nat, k < 64 → pcn k ≤ 6 := by decide +kernel
theorem pcn_c : ∀ c : Nat, c ≤ 6 → ∀ k : Nat, k < 2 ^ c → pcn k ≤ c := by decide +kernel
/-- the first of the fewest -/
theorem ptv_no {S : Nat → Nat} {Q : Nat → Prop} : ∀ i, (∀ j, j < i → ¬ Q j) → ptv S Q i = -1 := by
  intro i
  induction i with
  | zero => intro _; rfl
  | succ i ih => intro h; rw [ptv_n (S := S) (Q := Q) (i := i) (fun z => h i (by omega) z.2)]; exact ih (fun j hj => h j (by omega))
theorem ptv_is {S : Nat → Nat} {Q : Nat → Prop} {b : Nat} (qb : Q b) : ∀ i, b < i → (∀ j, j < i → Q j → S b < S j ∨ (S b = S j ∧ b ≤ j)) → ptv S Q i = (b : Int) := by
  intro i
  induction i with
  | zero => intro h; exact absurd h (Nat.not_lt_zero _)
  | succ i ih =>
    intro hb h
    by_cases c : b = i
    · subst c
      refine ptv_y ?_ qb
      have r := ptv_r (S := S) (Q := Q) b
      by_cases e : ptv S Q b = -1
      · exact Or.inl e
      · refine Or.inr ?_
        have w : ∀ k, ptv S Q k = -1 ∨ Q (ptv S Q k).toNat := by
          intro k
          induction k with
          | zero => exact Or.inl rfl
          | succ k ik =>
            by_cases d : (ptv S Q k = -1 ∨ S k < S (ptv S Q k).toNat) ∧ Q k
            · rw [ptv_y d.1 d.2]
              exact Or.inr d.2
            · rw [ptv_n d]
              exact ik
        have y := h (ptv S Q b).toNat (by omega) ((w b).resolve_left e)
        omega
    · have i1 := ih (by omega) (fun j hj => h j (by omega))
      have nn : ¬ ((ptv S Q i = -1 ∨ S i < S (ptv S Q i).toNat) ∧ Q i) := fun z => by
        have y := h i (by omega) z.2
        have z1 := z.1
        rw [i1, show ((b : Nat) : Int).toNat = b from rfl] at z1
        omega
      rw [ptv_n nn]
      exact i1
/-- rows that a look leaves -/
theorem Fr_15 {g h : av_H} (F : Fr g h) : ∀ c, c < 6 → hA h (15 + c) = hA g (15 + c) := fun c hc => F.2.2.2.2.2.2 _ (by
  have hh : ∀ l, l < 6 → sA (15 + l) = false := by decide
  exact hh c hc)
theorem Fr_35 {g h : av_H} (F : Fr g h) : hF h 3 5 = hF g 3 5 := F.2.2.2.2.2.1 3 5 rfl
theorem mxf_c {R R' : Nat → Nat → Int} {b : Nat → Int} {x : Int} : ∀ c : Nat, (∀ q, q < c → R q = R' q) → mxf R b x c = mxf R' b x c := by
  intro c
  induction c with
  | zero => intro _; rfl
  | succ c ih =>
    intro e
    have i := ih (fun q hq => e q (by omega))
    by_cases y : av_w (av_and (av_shr x (c : Int)) 1) = 1
    · rw [mxf_y y, mxf_y y, i, e c (by omega)]
    · rw [mxf_n y, mxf_n y, i]
theorem mxf_hi {R : Nat → Nat → Int} {b : Nat → Int} {x : Int} {j : Nat} (hj : 14 ≤ j) : ∀ c : Nat, mxf R b x c j = b j := by
  intro c
  induction c with
  | zero => rfl
  | succ c ih =>
    by_cases y : av_w (av_and (av_shr x (c : Int)) 1) = 1
    · rw [mxf_y y]
      show (if j < 14 ∧ R c j ≠ -2 then R c j else mxf R b x c j) = _
      rw [if_neg (by omega)]
      exact ih
    · rw [mxf_n y]
      exact ih
theorem plr_hi {f p : Nat → Int} {j : Nat} (hj : 14 ≤ j) : plr f p j = f j := if_neg (by omega)
theorem plr_c {f f' p : Nat → Int} (e : ∀ j, 14 ≤ j → f j = f' j) : plr f p = plr f' p := by
  funext j
  unfold plr
  split
  · rfl
  · exact e j (by omega)
/-- a law with the clauses of x behind it, as the class lays it -/
def MXL (g : av_H) (f30 : Nat → Int) (x : Int) (l : Nat) : Nat → Int := mxf (fun c => hA g (15 + c)) (plr f30 (hA g (6 + l))) x (Int.toNat (hF g 3 5))
section
variable {U : Nat → Nat → Int} {S : Nat → Nat} {n : Int} {sr nd f30 : Nat → Int} {g h h' : av_H} {x : Int} {l : Nat}
theorem MXL_c (F : Fr g h) (I : IC g) (e : ∀ j, 14 ≤ j → hA h 30 j = f30 j) (hl : l < 8) : mxf (fun c => hA h (15 + c)) (plr (hA h 30) (hA h (6 + l))) x (Int.toNat (hF h 3 5)) = MXL g f30 x l := by
  have k6 := ic_kc I
  unfold MXL
  rw [Fr_35 F, plr_c e, Fr_6 F l hl]
  exact mxf_c _ (fun q hq => Fr_15 F q (by omega))
theorem MXL_h (j : Nat) (hj : 14 ≤ j) : MXL g f30 x l j = f30 j := by
  unfold MXL
  rw [mxf_hi hj, plr_hi hj]
theorem CJ_30 {f : Nat → Int} (C : CJ U S n sr nd h) (hf : ∀ j, -2 ≤ f j ∧ f j ≤ 999) (e : h' = hrw h 30 f) : CJ U S n sr nd h' ∧ Fr1 h h' := by
  subst e
  obtain ⟨i, F⟩ := IC_30 C.1 hf
  exact ⟨⟨i, CSP_fr C.1.1 C.2.1 F.1, (hrw_o (by decide)).trans C.2.2.1, (hrw_o (by decide)).trans C.2.2.2⟩, F⟩
theorem CJ_fl (C : CJ U S n sr nd h) (e : h' = hfil h 27 128 144 0) : CJ U S n (hA h' 27) nd h' ∧ Fr1 h h' := by
  subst e
  obtain ⟨i, F⟩ := IC_fil (a := 27) (lo := 128) (hi := 144) (v := (0)) C.1 rfl (fun z => by cases z) (by omega)
  exact ⟨⟨i, CSP_fr C.1.1 C.2.1 F.1, rfl, (fil_o (by decide)).trans C.2.2.2⟩, F⟩
theorem SUA_hi {L : Int} {ro : Nat → Nat → Int} {sr' : Nat → Int} (X : SUA U S n L ro sr) (z : ∀ q, q < 128 → sr' q = sr q) : SUA U S n L ro sr' := fun k hk => ⟨fun h1 i hi => by rw [z _ (by omega)]; exact (X k hk).1 h1 i hi, fun h1 i hi => by rw [z _ (by omega)]; exact (X k hk).2 h1 i hi⟩
theorem SUA_fl {L : Int} {ro : Nat → Nat → Int} (X : SUA U S n L ro sr) (e27 : hA h 27 = sr) (e : h' = hfil h 27 128 144 0) : SUA U S n L ro (hA h' 27) := SUA_hi X (fun q hq => by rw [e, fil_s, if_neg (by omega), e27])
theorem SUI_fl {ro : Nat → Int} {m : Nat} (hm : m ≤ 16) (e : h' = hfil h 27 128 144 0) : SUI U S ro 128 m (hA h' 27) := fun i hi => Or.inl (by rw [e, fil_s, if_pos ⟨by show 128 ≤ 128 + i; omega, by show 128 + i < 144; omega⟩])
theorem SRE_cb {u ro bar : Nat → Int} {s : Nat} (h : cbv u s ≠ -1) : SRE u ro bar s ↔ ∀ y : Int, 0 ≤ y → y < cbv u s → (bgn u ro bar s y).2.2 ≠ 9999 := by
  have d := cbv_d u s
  have e : cbv u s = cbf u s ∧ cbf u s ≤ 1024 := by omega
  constructor
  · intro z y h0 h1
    exact z.2 y h0 (by omega)
  · intro z
    exact ⟨e.2, fun y h0 h1 => z y h0 (by omega)⟩
end
section
variable {sc : av_Sr} {cd : List (Nat × av_E)} {Q : Option av_V → av_H → Prop} {pc p' : Nat} {lv : av_L} {r' : List av_V} {h : av_H} {U : Nat → Nat → Int} {S : Nat → Nat} {n : Int} {sr nd : Nat → Int}
theorem xj_ph {idx f : Nat} {v : Int} (hx : cd.lookup pc = some (av_qf (.putfield idx) 3 f 0)) (hp : pc + 3 = p') (C : CJ U S n sr nd h) (hf : (f = 9 ∧ 0 ≤ v ∧ v ≤ 7) ∨ (f = 10 ∧ 0 ≤ v ∧ v ≤ 1023)) (hw : ∀ h', CJ U S n sr nd h' → Fr h h' → hA h' = hA h → av_wp sc cd p' lv r' h' Q) : av_wp sc cd pc lv (.inl v :: .inr (.inr (.inl (some 26))) :: r') h Q :=
  wq_pi hx hp (congrArg Prod.fst (ly_k C.1.1 26 rfl)) rfl (hw _ ⟨IC_wH C.1 hf, CSP_fr C.1.1 C.2.1 (Fr1_wF (Fr1_rf h) (by rcases hf with e | e <;> rw [e.1] <;> rfl)).1, C.2.2.1, C.2.2.2⟩ (Fr1_wF (Fr1_rf h) (by rcases hf with e | e <;> rw [e.1] <;> rfl)).1 rfl)
theorem cy_221 (C : CJ U S n sr nd h) {Q : Option av_V → av_H → Prop} (hq : ∀ h', h' = hfil h 27 128 144 0 → Q none h') : av_wp none cd_221 0 [some (.inr (.inr (.inl (some (27))))), some (.inl (128)), some (.inl (144)), some (.inl (0)), none] [] h Q :=
  ct_221 (n := 144) 128 144 rfl rfl (ly_k C.1.1 27 rfl) (by omega) (by omega) (by omega) (hq _ rfl)
end
end
section
/-! WRITE, exactly: the class -/
theorem pw_64 : ∀ c : Nat, c ≤ 6 → 2 ^ c ≤ 64 := by decide
theorem shl_k : ∀ c : Nat, c ≤ 6 → av_shl 1 (c : Int) = ((2 ^ c : Nat) : Int) := by decide +kernel
theorem shl_2 {y z : Int} (h : 0 ≤ y ∧ y ≤ 6) (e : y = z) : av_shl 1 y = ((2 ^ Int.toNat z : Nat) : Int) := by
  subst e
  have w := shl_k y.toNat (by omega)
  rw [Int.toNat_of_nonneg h.1] at w
  exact w
theorem MXL_f {g h : av_H} {f30 : Nat → Int} {x : Int} {l : Nat} (F : Fr g h) (I : IC g) (hl : l < 8) : MXL h f30 x l = MXL g f30 x l := by
  have k6 := ic_kc I
  unfold MXL
  rw [Fr_35 F, Fr_6 F l hl]
  exact mxf_c _ (fun q hq => Fr_15 F q (by omega))
theorem MXL_all {U : Nat → Nat → Int} {S : Nat → Nat} {f30 : Nat → Int} {k : Nat} {b : Int} {g h : av_H} (F : Fr g h) (I : IC g) : (∀ l : Int, 0 ≤ l → l < hF h 3 4 → SRE (U k) (MXL h f30 b (Int.toNat l)) (bxx U S (MXL h f30 b (Int.toNat l)) k) (S k)) = (∀ l : Int, 0 ≤ l → l < hF g 3 4 → SRE (U k) (MXL g f30 b (Int.toNat l)) (bxx U S (MXL g f30 b (Int.toNat l)) k) (S k)) := by
  have l8 := ic_lc I
  refine propext ⟨fun z l h0 h1 => ?_, fun z l h0 h1 => ?_⟩
  · rw [← MXL_f F I (l := Int.toNat l) (by omega)]
    exact z l h0 (by rw [Fr_34 F]; exact h1)
  · rw [Fr_34 F] at h1
    rw [MXL_f F I (l := Int.toNat l) (by omega)]
    exact z l h0 h1
theorem bc_k : ∀ k : Nat, k < 64 → (av_and (((av_and (((av_and ((k : Int) - (av_and (av_ushr (k : Int) (1)) (1431655765))) (858993459)) + (av_and (av_ushr ((k : Int) - (av_and (av_ushr (k : Int) (1)) (1431655765))) (2)) (858993459))) + (av_ushr ((av_and ((k : Int) - (av_and (av_ushr (k : Int) (1)) (1431655765))) (858993459)) + (av_and (av_ushr ((k : Int) - (av_and (av_ushr (k : Int) (1)) (1431655765))) (2)) (858993459))) (4))) (252645135)) + (av_ushr (av_and (((av_and ((k : Int) - (av_and (av_ushr (k : Int) (1)) (1431655765))) (858993459)) + (av_and (av_ushr ((k : Int) - (av_and (av_ushr (k : Int) (1)) (1431655765))) (2)) (858993459))) + (av_ushr ((av_and ((k : Int) - (av_and (av_ushr (k : Int) (1)) (1431655765))) (858993459)) + (av_and (av_ushr ((k : Int) - (av_and (av_ushr (k : Int) (1)) (1431655765))) (2)) (858993459))) (4))) (252645135)) (8))) + (av_ushr ((av_and (((av_and ((k : Int) - (av_and (av_ushr (k : Int) (1)) (1431655765))) (858993459)) + (av_and (av_ushr ((k : Int) - (av_and (av_ushr (k : Int) (1)) (1431655765))) (2)) (858993459))) + (av_ushr ((av_and ((k : Int) - (av_and (av_ushr (k : Int) (1)) (1431655765))) (858993459)) + (av_and (av_ushr ((k : Int) - (av_and (av_ushr (k : Int) (1)) (1431655765))) (2)) (858993459))) (4))) (252645135)) + (av_ushr (av_and (((av_and ((k : Int) - (av_and (av_ushr (k : Int) (1)) (1431655765))) (858993459)) + (av_and (av_ushr ((k : Int) - (av_and (av_ushr (k : Int) (1)) (1431655765))) (2)) (858993459))) + (av_ushr ((av_and ((k : Int) - (av_and (av_ushr (k : Int) (1)) (1431655765))) (858993459)) + (av_and (av_ushr ((k : Int) - (av_and (av_ushr (k : Int) (1)) (1431655765))) (2)) (858993459))) (4))) (252645135)) (8))) (16))) (63)) = (pcn k : Int) := by decide +kernel
theorem bc_v {x : Int} (q : 0 ≤ x ∧ x ≤ 63) : (av_and (((av_and (((av_and (x - (av_and (av_ushr x (1)) (1431655765))) (858993459)) + (av_and (av_ushr (x - (av_and (av_ushr x (1)) (1431655765))) (2)) (858993459))) + (av_ushr ((av_and (x - (av_and (av_ushr x (1)) (1431655765))) (858993459)) + (av_and (av_ushr (x - (av_and (av_ushr x (1)) (1431655765))) (2)) (858993459))) (4))) (252645135)) + (av_ushr (av_and (((av_and (x - (av_and (av_ushr x (1)) (1431655765))) (858993459)) + (av_and (av_ushr (x - (av_and (av_ushr x (1)) (1431655765))) (2)) (858993459))) + (av_ushr ((av_and (x - (av_and (av_ushr x (1)) (1431655765))) (858993459)) + (av_and (av_ushr (x - (av_and (av_ushr x (1)) (1431655765))) (2)) (858993459))) (4))) (252645135)) (8))) + (av_ushr ((av_and (((av_and (x - (av_and (av_ushr x (1)) (1431655765))) (858993459)) + (av_and (av_ushr (x - (av_and (av_ushr x (1)) (1431655765))) (2)) (858993459))) + (av_ushr ((av_and (x - (av_and (av_ushr x (1)) (1431655765))) (858993459)) + (av_and (av_ushr (x - (av_and (av_ushr x (1)) (1431655765))) (2)) (858993459))) (4))) (252645135)) + (av_ushr (av_and (((av_and (x - (av_and (av_ushr x (1)) (1431655765))) (858993459)) + (av_and (av_ushr (x - (av_and (av_ushr x (1)) (1431655765))) (2)) (858993459))) + (av_ushr ((av_and (x - (av_and (av_ushr x (1)) (1431655765))) (858993459)) + (av_and (av_ushr (x - (av_and (av_ushr x (1)) (1431655765))) (2)) (858993459))) (4))) (252645135)) (8))) (16))) (63)) = (pcn x.toNat : Int) := by
  have z := bc_k x.toNat (by omega)
  rw [Int.toNat_of_nonneg q.1] at z
  exact z

set_option maxRecDepth 100000 in
set_option maxHeartbeats 4000000 in
theorem cx_218 {h : av_H}  (x : Int) (qx : 0 ≤ x ∧ x ≤ 63) {Q : Option av_V → av_H → Prop} (hq : ∀ v : Int, v = (pcn (Int.toNat x) : Int) → Q (some (.inl v)) h) : av_wp none cd_218 0 [some (.inl x)] [] h Q := by
  refine av_wp_sqF ck_218 12 (pc' := 16) (lv' := [some (.inl (x - (av_and (av_ushr x (1)) (1431655765))))]) (st' := [.inl (x - (av_and (av_ushr x (1)) (1431655765))), .inl (av_and (x - (av_and (av_ushr x (1)) (1431655765))) (858993459))]) (h' := h) rfl ?_
  refine av_wp_sqF ck_218 12 (pc' := 32) (lv' := [some (.inl ((av_and (x - (av_and (av_ushr x (1)) (1431655765))) (858993459)) + (av_and (av_ushr (x - (av_and (av_ushr x (1)) (1431655765))) (2)) (858993459))))]) (st' := [.inl (252645135), .inl (((av_and (x - (av_and (av_ushr x (1)) (1431655765))) (858993459)) + (av_and (av_ushr (x - (av_and (av_ushr x (1)) (1431655765))) (2)) (858993459))) + (av_ushr ((av_and (x - (av_and (av_ushr x (1)) (1431655765))) (858993459)) + (av_and (av_ushr (x - (av_and (av_ushr x (1)) (1431655765))) (2)) (858993459))) (4)))]) (h' := h) rfl ?_
  refine av_wp_sqF ck_218 12 (pc' := 46) (lv' := [some (.inl ((av_and (((av_and (x - (av_and (av_ushr x (1)) (1431655765))) (858993459)) + (av_and (av_ushr (x - (av_and (av_ushr x (1)) (1431655765))) (2)) (858993459))) + (av_ushr ((av_and (x - (av_and (av_ushr x (1)) (1431655765))) (858993459)) + (av_and (av_ushr (x - (av_and (av_ushr x (1)) (1431655765))) (2)) (858993459))) (4))) (252645135)) + (av_ushr (av_and (((av_and (x - (av_and (av_ushr x (1)) (1431655765))) (858993459)) + (av_and (av_ushr (x - (av_and (av_ushr x (1)) (1431655765))) (2)) (858993459))) + (av_ushr ((av_and (x - (av_and (av_ushr x (1)) (1431655765))) (858993459)) + (av_and (av_ushr (x - (av_and (av_ushr x (1)) (1431655765))) (2)) (858993459))) (4))) (252645135)) (8))))]) (st' := [.inl (av_ushr ((av_and (((av_and (x - (av_and (av_ushr x (1)) (1431655765))) (858993459)) + (av_and (av_ushr (x - (av_and (av_ushr x (1)) (1431655765))) (2)) (858993459))) + (av_ushr ((av_and (x - (av_and (av_ushr x (1)) (1431655765))) (858993459)) + (av_and (av_ushr (x - (av_and (av_ushr x (1)) (1431655765))) (2)) (858993459))) (4))) (252645135)) + (av_ushr (av_and (((av_and (x - (av_and (av_ushr x (1)) (1431655765))) (858993459)) + (av_and (av_ushr (x - (av_and (av_ushr x (1)) (1431655765))) (2)) (858993459))) + (av_ushr ((av_and (x - (av_and (av_ushr x (1)) (1431655765))) (858993459)) + (av_and (av_ushr (x - (av_and (av_ushr x (1)) (1431655765))) (2)) (858993459))) (4))) (252645135)) (8))) (16)), .inl ((av_and (((av_and (x - (av_and (av_ushr x (1)) (1431655765))) (858993459)) + (av_and (av_ushr (x - (av_and (av_ushr x (1)) (1431655765))) (2)) (858993459))) + (av_ushr ((av_and (x - (av_and (av_ushr x (1)) (1431655765))) (858993459)) + (av_and (av_ushr (x - (av_and (av_ushr x (1)) (1431655765))) (2)) (858993459))) (4))) (252645135)) + (av_ushr (av_and (((av_and (x - (av_and (av_ushr x (1)) (1431655765))) (858993459)) + (av_and (av_ushr (x - (av_and (av_ushr x (1)) (1431655765))) (2)) (858993459))) + (av_ushr ((av_and (x - (av_and (av_ushr x (1)) (1431655765))) (858993459)) + (av_and (av_ushr (x - (av_and (av_ushr x (1)) (1431655765))) (2)) (858993459))) (4))) (252645135)) (8)))]) (h' := h) rfl ?_
  refine av_wp_sqF ck_218 5 (pc' := 52) (lv' := [some (.inl (((av_and (((av_and (x - (av_and (av_ushr x (1)) (1431655765))) (858993459)) + (av_and (av_ushr (x - (av_and (av_ushr x (1)) (1431655765))) (2)) (858993459))) + (av_ushr ((av_and (x - (av_and (av_ushr x (1)) (1431655765))) (858993459)) + (av_and (av_ushr (x - (av_and (av_ushr x (1)) (1431655765))) (2)) (858993459))) (4))) (252645135)) + (av_ushr (av_and (((av_and (x - (av_and (av_ushr x (1)) (1431655765))) (858993459)) + (av_and (av_ushr (x - (av_and (av_ushr x (1)) (1431655765))) (2)) (858993459))) + (av_ushr ((av_and (x - (av_and (av_ushr x (1)) (1431655765))) (858993459)) + (av_and (av_ushr (x - (av_and (av_ushr x (1)) (1431655765))) (2)) (858993459))) (4))) (252645135)) (8))) + (av_ushr ((av_and (((av_and (x - (av_and (av_ushr x (1)) (1431655765))) (858993459)) + (av_and (av_ushr (x - (av_and (av_ushr x (1)) (1431655765))) (2)) (858993459))) + (av_ushr ((av_and (x - (av_and (av_ushr x (1)) (1431655765))) (858993459)) + (av_and (av_ushr (x - (av_and (av_ushr x (1)) (1431655765))) (2)) (858993459))) (4))) (252645135)) + (av_ushr (av_and (((av_and (x - (av_and (av_ushr x (1)) (1431655765))) (858993459)) + (av_and (av_ushr (x - (av_and (av_ushr x (1)) (1431655765))) (2)) (858993459))) + (av_ushr ((av_and (x - (av_and (av_ushr x (1)) (1431655765))) (858993459)) + (av_and (av_ushr (x - (av_and (av_ushr x (1)) (1431655765))) (2)) (858993459))) (4))) (252645135)) (8))) (16))))]) (st' := [.inl (av_and (((av_and (((av_and (x - (av_and (av_ushr x (1)) (1431655765))) (858993459)) + (av_and (av_ushr (x - (av_and (av_ushr x (1)) (1431655765))) (2)) (858993459))) + (av_ushr ((av_and (x - (av_and (av_ushr x (1)) (1431655765))) (858993459)) + (av_and (av_ushr (x - (av_and (av_ushr x (1)) (1431655765))) (2)) (858993459))) (4))) (252645135)) + (av_ushr (av_and (((av_and (x - (av_and (av_ushr x (1)) (1431655765))) (858993459)) + (av_and (av_ushr (x - (av_and (av_ushr x (1)) (1431655765))) (2)) (858993459))) + (av_ushr ((av_and (x - (av_and (av_ushr x (1)) (1431655765))) (858993459)) + (av_and (av_ushr (x - (av_and (av_ushr x (1)) (1431655765))) (2)) (858993459))) (4))) (252645135)) (8))) + (av_ushr ((av_and (((av_and (x - (av_and (av_ushr x (1)) (1431655765))) (858993459)) + (av_and (av_ushr (x - (av_and (av_ushr x (1)) (1431655765))) (2)) (858993459))) + (av_ushr ((av_and (x - (av_and (av_ushr x (1)) (1431655765))) (858993459)) + (av_and (av_ushr (x - (av_and (av_ushr x (1)) (1431655765))) (2)) (858993459))) (4))) (252645135)) + (av_ushr (av_and (((av_and (x - (av_and (av_ushr x (1)) (1431655765))) (858993459)) + (av_and (av_ushr (x - (av_and (av_ushr x (1)) (1431655765))) (2)) (858993459))) + (av_ushr ((av_and (x - (av_and (av_ushr x (1)) (1431655765))) (858993459)) + (av_and (av_ushr (x - (av_and (av_ushr x (1)) (1431655765))) (2)) (858993459))) (4))) (252645135)) (8))) (16))) (63))]) (h' := h) rfl ?_
  refine av_wp_ret (v := some (.inl (av_and (((av_and (((av_and (x - (av_and (av_ushr x (1)) (1431655765))) (858993459)) + (av_and (av_ushr (x - (av_and (av_ushr x (1)) (1431655765))) (2)) (858993459))) + (av_ushr ((av_and (x - (av_and (av_ushr x (1)) (1431655765))) (858993459)) + (av_and (av_ushr (x - (av_and (av_ushr x (1)) (1431655765))) (2)) (858993459))) (4))) (252645135)) + (av_ushr (av_and (((av_and (x - (av_and (av_ushr x (1)) (1431655765))) (858993459)) + (av_and (av_ushr (x - (av_and (av_ushr x (1)) (1431655765))) (2)) (858993459))) + (av_ushr ((av_and (x - (av_and (av_ushr x (1)) (1431655765))) (858993459)) + (av_and (av_ushr (x - (av_and (av_ushr x (1)) (1431655765))) (2)) (858993459))) (4))) (252645135)) (8))) + (av_ushr ((av_and (((av_and (x - (av_and (av_ushr x (1)) (1431655765))) (858993459)) + (av_and (av_ushr (x - (av_and (av_ushr x (1)) (1431655765))) (2)) (858993459))) + (av_ushr ((av_and (x - (av_and (av_ushr x (1)) (1431655765))) (858993459)) + (av_and (av_ushr (x - (av_and (av_ushr x (1)) (1431655765))) (2)) (858993459))) (4))) (252645135)) + (av_ushr (av_and (((av_and (x - (av_and (av_ushr x (1)) (1431655765))) (858993459)) + (av_and (av_ushr (x - (av_and (av_ushr x (1)) (1431655765))) (2)) (858993459))) + (av_ushr ((av_and (x - (av_and (av_ushr x (1)) (1431655765))) (858993459)) + (av_and (av_ushr (x - (av_and (av_ushr x (1)) (1431655765))) (2)) (858993459))) (4))) (252645135)) (8))) (16))) (63)))) (ck_218 _ _ rfl) rfl rfl ?_
  exact hq _ (bc_v qx)

set_option maxRecDepth 100000 in
set_option maxHeartbeats 4000000 in
theorem cx_63 {h : av_H} {U : Nat → Nat → Int} {S : Nat → Nat} {n : Int} {sr nd : Nat → Int} (C : CJ U S n sr nd h) (k : Int) (qk : 0 ≤ k ∧ k < n) (x : Int) (CR : CRT U S n (hF h 3 4) (fun k => hA h (6 + k))) (SU : SUA U S n (hF h 3 4) (fun k => hA h (6 + k)) sr) {f30 : Nat → Int} (e30 : (∀ j, 14 ≤ j → hA h 30 j = f30 j)) (RM : ∀ l : Int, 0 ≤ l → l < (hF h 3 4) → RLW (MXL h f30 x (Int.toNat l))) (L1 : 1 ≤ (hF h 3 4)) {t c : Nat} (o : CO h t c (S (Int.toNat k)) (cbv (U (Int.toNat k)) (S (Int.toNat k)))) (hu : hA h c = U (Int.toNat k)) (cb1 : (cbv (U (Int.toNat k)) (S (Int.toNat k))) ≠ -1) {Q : Option av_V → av_H → Prop} (hq : ∀ (v : Int) h' sr' nd', CJ U S n sr' nd' h' → Fr h h' → SUA U S n (hF h 3 4) (fun k => hA h (6 + k)) sr' → (∀ j, 14 ≤ j → hA h' 30 j = f30 j) → ((v = 1 ∧ (∀ l : Int, 0 ≤ l → l < (hF h 3 4) → SRE (U (Int.toNat k)) (MXL h f30 x (Int.toNat l)) (bxx U S (MXL h f30 x (Int.toNat l)) (Int.toNat k)) (S (Int.toNat k)))) ∨ (v = 0 ∧ ¬ (∀ l : Int, 0 ≤ l → l < (hF h 3 4) → SRE (U (Int.toNat k)) (MXL h f30 x (Int.toNat l)) (bxx U S (MXL h f30 x (Int.toNat l)) (Int.toNat k)) (S (Int.toNat k))))) → Q (some (.inl v)) h') : av_wp none cd_63 0 [some (.inr (.inr (.inl (some (26))))), some (.inr (.inr (.inl (some (t))))), some (.inl k), some (.inl x), none, none, none] [] h Q := by
  have F := Fr_rf h
  have nr := C.2.1.2.1
  have l8 := ic_lc C.1
  have cbr := co_cbr o
  have s12 := co_s12 o
  refine av_wp_sqF ck_63 1 (pc' := 1) (lv' := [some (.inr (.inr (.inl (some (26))))), some (.inr (.inr (.inl (some (t))))), some (.inl k), some (.inl x), none, none, none]) (st' := [.inr (.inr (.inl (some (26))))]) (h' := h) rfl ?_
  obtain ⟨v1, e2⟩ : ∃ v, hF h 26 9 = v := ⟨_, rfl⟩
  have g3 := ic_hl C.1
  rw [e2] at g3
  refine wq_gi (p' := 4) (ck_63 _ _ rfl) rfl (congrArg Prod.fst (ly_k C.1.1 26 rfl)) rfl (e2) ?_
  refine av_wp_sqF ck_63 1 (pc' := 6) (lv' := [some (.inr (.inr (.inl (some (26))))), some (.inr (.inr (.inl (some (t))))), some (.inl k), some (.inl x), some (.inl v1), none, none]) (st' := []) (h' := h) rfl ?_
  obtain ⟨l0, hl0⟩ : ∃ l0 : Int, (v1 < (hF h 3 4) ∧ l0 = v1) ∨ ((hF h 3 4) ≤ v1 ∧ l0 = 0) := by
    by_cases c : v1 < (hF h 3 4)
    · exact ⟨v1, Or.inl ⟨c, rfl⟩⟩
    · exact ⟨0, Or.inr ⟨by omega, rfl⟩⟩
  refine av_wp_sqF ck_63 2 (pc' := 9) (lv' := [some (.inr (.inr (.inl (some (26))))), some (.inr (.inr (.inl (some (t))))), some (.inl k), some (.inl x), some (.inl v1), some (.inl (0)), none]) (st' := []) (h' := h) rfl ?_
  have L18 : ∀ (m17 : Nat) (k4 : Int) (k5 : Int) (a6 : Option av_V) (h7 : av_H) (r8 : Nat → Int) (n9 : Nat → Int) (l14 : Int), av_lg a6 = false → (0 ≤ k5 ∧ k5 ≤ 8) → (0 ≤ k4 ∧ k4 ≤ 8) → CJ U S n r8 n9 h7 → Fr h h7 → SUA U S n (hF h 3 4) (fun k => hA h (6 + k)) r8 → (∀ j, 14 ≤ j → hA h7 30 j = f30 j) → ((0 ≤ l14 ∧ l14 < (hF h 3 4)) ∧ k5 ≤ (hF h 3 4) ∧ ((k4 < (hF h 3 4) ∧ (k4 = l14 + k5 ∨ k4 = l14 + k5 - (hF h 3 4))) ∨ ((hF h 3 4) ≤ k4 ∧ (l14 + k5 = (hF h 3 4) ∨ (k5 = 0 ∧ l14 = 0))))) → (∀ l : Int, 0 ≤ l → l < (hF h 3 4) → ((l14 ≤ l ∧ l < l14 + k5) ∨ l + (hF h 3 4) < l14 + k5) → SRE (U (Int.toNat k)) (MXL h f30 x (Int.toNat l)) (bxx U S (MXL h f30 x (Int.toNat l)) (Int.toNat k)) (S (Int.toNat k))) → (8 - k5).toNat = m17 → av_wp none cd_63 9 [some (.inr (.inr (.inl (some (26))))), some (.inr (.inr (.inl (some (t))))), some (.inl k), some (.inl x), some (.inl k4), some (.inl k5), a6] [] h7 Q := by
    intro m17
    induction m17 using Nat.strongRecOn with
    | _ m17 I19 =>
      intro k4 k5 a6 h7 r8 n9 l14 g21 g22 g23 C10 F11 U12 x13 X15 X16 e20
      have la6 := g21
      refine av_wp_sqF ck_63 2 (pc' := 12) (lv' := [some (.inr (.inr (.inl (some (26))))), some (.inr (.inr (.inl (some (t))))), some (.inl k), some (.inl x), some (.inl k4), some (.inl k5), a6]) (st' := [.inr (.inr (.inl (some (26)))), .inl k5]) (h' := h7) rfl ?_
      refine wq_gr (p' := 15) (ck_63 _ _ rfl) rfl (congrArg Prod.fst (ly_k C10.1.1 26 rfl)) rfl (ly_g C10.1.1 26 0 3 rfl) ?_
      obtain ⟨v24, e25⟩ : ∃ v, hF h7 3 4 = v := ⟨_, rfl⟩
      have g26 := ic_lc C10.1
      rw [e25] at g26
      have y27 : v24 = hF h 3 4 := e25.symm.trans (Fr_34 F11)
      refine wq_gi (p' := 18) (ck_63 _ _ rfl) rfl (congrArg Prod.fst (ly_k C10.1.1 3 rfl)) rfl (e25) ?_
      refine wq_k2 (p' := 21) (ck_63 _ _ rfl) rfl ⟨by omega, by omega⟩ ⟨by omega, by omega⟩ (fun c28 => ?_) (fun c29 => ?_)
      · have c28 : v24 ≤ k5 := c28
        refine av_wp_sqF ck_63 1 (pc' := 144) (lv' := [some (.inr (.inr (.inl (some (26))))), some (.inr (.inr (.inl (some (t))))), some (.inl k), some (.inl x), some (.inl k4), some (.inl k5), a6]) (st' := [.inl (1)]) (h' := h7) rfl ?_
        refine av_wp_ret (v := some (.inl (1))) (ck_63 _ _ rfl) rfl rfl ?_
        exact hq _ h7 _ _ C10 F11 U12 x13 (Or.inl ⟨rfl, fun l h0 h1 => X16 l h0 h1 (by omega)⟩)
      · have c29 : k5 < v24 := c29
        refine av_wp_sqF ck_63 1 (pc' := 22) (lv' := [some (.inr (.inr (.inl (some (26))))), some (.inr (.inr (.inl (some (t))))), some (.inl k), some (.inl x), some (.inl k4), some (.inl k5), a6]) (st' := [.inr (.inr (.inl (some (26))))]) (h' := h7) rfl ?_
        refine wq_gr (p' := 25) (ck_63 _ _ rfl) rfl (congrArg Prod.fst (ly_k C10.1.1 26 rfl)) rfl (ly_g C10.1.1 26 0 3 rfl) ?_
        refine av_wp_sqF ck_63 1 (pc' := 27) (lv' := [some (.inr (.inr (.inl (some (26))))), some (.inr (.inr (.inl (some (t))))), some (.inl k), some (.inl x), some (.inl k4), some (.inl k5), a6]) (st' := [.inl k4, .inr (.inr (.inl (some (3))))]) (h' := h7) rfl ?_
        refine wq_cv (p' := 30) (av_qc (.invokevirtual 93) 70 1 0 5) 2 cd_70 [.inl k4] (3) 5 [some (.inr (.inr (.inl (some (3))))), some (.inl k4)] (ck_63 _ _ rfl) rfl rfl pp_70 rfl rfl rfl (congrArg Prod.fst (ly_k C10.1.1 3 rfl)) rfl rfl rfl rfl ?_
        refine cx_70 C10.1 (k4) (by omega) (fun v30 p31 => ?_)
        have g32 := Fr_34 F11
        show av_wp _ cd_63 30 [some (.inr (.inr (.inl (some (26))))), some (.inr (.inr (.inl (some (t))))), some (.inl k), some (.inl x), some (.inl k4), some (.inl k5), a6] [.inl v30] h7 _
        have J36 : ∀ (j33 : Int), (0 ≤ j33 ∧ j33 ≤ 8) → (j33 < (hF h 3 4) ∧ (j33 = l14 + k5 ∨ j33 = l14 + k5 - (hF h 3 4))) →  av_wp none cd_63 39 [some (.inr (.inr (.inl (some (26))))), some (.inr (.inr (.inl (some (t))))), some (.inl k), some (.inl x), some (.inl k4), some (.inl k5), a6] [.inl j33] h7 Q := by
          intro j33 g34 g35
          refine av_wp_sqF ck_63 2 (pc' := 42) (lv' := [some (.inr (.inr (.inl (some (26))))), some (.inr (.inr (.inl (some (t))))), some (.inl k), some (.inl x), some (.inl j33), some (.inl k5), a6]) (st' := [.inr (.inr (.inl (some (26))))]) (h' := h7) rfl ?_
          refine wq_gr (p' := 45) (ck_63 _ _ rfl) rfl (congrArg Prod.fst (ly_k C10.1.1 26 rfl)) rfl (ly_g C10.1.1 26 0 3 rfl) ?_
          refine av_wp_sqF ck_63 1 (pc' := 46) (lv' := [some (.inr (.inr (.inl (some (26))))), some (.inr (.inr (.inl (some (t))))), some (.inl k), some (.inl x), some (.inl j33), some (.inl k5), a6]) (st' := [.inr (.inr (.inl (some (26)))), .inr (.inr (.inl (some (3))))]) (h' := h7) rfl ?_
          refine wq_gr (p' := 49) (ck_63 _ _ rfl) rfl (congrArg Prod.fst (ly_k C10.1.1 26 rfl)) rfl (ly_g C10.1.1 26 7 30 rfl) ?_
          refine av_wp_sqF ck_63 2 (pc' := 52) (lv' := [some (.inr (.inr (.inl (some (26))))), some (.inr (.inr (.inl (some (t))))), some (.inl k), some (.inl x), some (.inl j33), some (.inl k5), a6]) (st' := [.inl x, .inl j33, .inr (.inr (.inl (some (30)))), .inr (.inr (.inl (some (3))))]) (h' := h7) rfl ?_
          refine wq_cv (p' := 55) (av_qc (.invokevirtual 161) 75 3 0 5) 5 cd_75 [.inl x, .inl j33, .inr (.inr (.inl (some (30))))] (3) 5 [some (.inr (.inr (.inl (some (3))))), some (.inr (.inr (.inl (some (30))))), some (.inl j33), some (.inl x), none] (ck_63 _ _ rfl) rfl rfl pp_75 rfl rfl rfl (congrArg Prod.fst (ly_k C10.1.1 3 rfl)) rfl rfl rfl rfl ?_
          have g44 := Fr_34 F11
          refine cx_75 C10.1 (j33) (by omega) (x) (fun h37 e38 => ?_)
          have B39 := mxf_bd (R := fun c => hA h7 (15 + c)) (b := plr (hA h7 30) (hA h7 (6 + Int.toNat j33))) (x := x) (plr_bd (C10.1.2.1 30 rfl) (C10.1.2.1 _ (rwc_l (by omega)))) (Int.toNat (hF h7 3 5)) (fun q hq => C10.1.2.1 _ (rwc_q (by have := ic_kc C10.1; omega)))
          obtain ⟨C40, F41⟩ := CJ_30 C10 B39 e38
          have M42 : hA h37 30 = (MXL h f30 x (Int.toNat j33)) := by rw [e38, hrw_s]; exact MXL_c F11 C.1 x13 (by omega)
          have x43 : (∀ j, 14 ≤ j → hA h37 30 j = f30 j) := fun j hj => by rw [M42]; exact MXL_h j hj
          have F45 := Fr_tr F11 F41.1
          show av_wp _ cd_63 55 [some (.inr (.inr (.inl (some (26))))), some (.inr (.inr (.inl (some (t))))), some (.inl k), some (.inl x), some (.inl j33), some (.inl k5), a6] [] h37 _
          refine av_wp_sqF ck_63 1 (pc' := 56) (lv' := [some (.inr (.inr (.inl (some (26))))), some (.inr (.inr (.inl (some (t))))), some (.inl k), some (.inl x), some (.inl j33), some (.inl k5), a6]) (st' := [.inr (.inr (.inl (some (26))))]) (h' := h37) rfl ?_
          refine wq_gr (p' := 59) (ck_63 _ _ rfl) rfl (congrArg Prod.fst (ly_k C40.1.1 26 rfl)) rfl (ly_g C40.1.1 26 4 27 rfl) ?_
          refine av_wp_sqF ck_63 3 (pc' := 66) (lv' := [some (.inr (.inr (.inl (some (26))))), some (.inr (.inr (.inl (some (t))))), some (.inl k), some (.inl x), some (.inl j33), some (.inl k5), a6]) (st' := [.inl (0), .inl (144), .inl (128), .inr (.inr (.inl (some (27))))]) (h' := h37) rfl ?_
          refine wq_cs (p' := 69) (av_qc (.invokestatic 126) 221 4 2 10) 5 cd_221 [.inr (.inr (.inl (some (27)))), .inl (128), .inl (144), .inl (0)] [.inl (0), .inl (144), .inl (128), .inr (.inr (.inl (some (27))))] [some (.inr (.inr (.inl (some (27))))), some (.inl (128)), some (.inl (144)), some (.inl (0)), none] (ck_63 _ _ rfl) rfl rfl pp_221 (fun _ => rfl) rfl rfl ?_
          refine cy_221 C40 (fun h46 e47 => ?_)
          obtain ⟨C48, F49⟩ := CJ_fl C40 e47
          have U50 := SUA_fl U12 C40.2.2.1 e47
          have u51 := SUI_fl (U := U) (S := S) (ro := (MXL h f30 x (Int.toNat j33))) (m := Int.toNat k) (by omega) e47
          have F52 := Fr_tr F45 F49.1
          have M53 := (show hA h46 30 = hA h37 30 by rw [e47]; exact hfil_ne (by decide)).trans M42
          have x54 : (∀ j, 14 ≤ j → hA h46 30 j = f30 j) := fun j hj => by rw [M53]; exact MXL_h j hj
          show av_wp _ cd_63 69 [some (.inr (.inr (.inl (some (26))))), some (.inr (.inr (.inl (some (t))))), some (.inl k), some (.inl x), some (.inl j33), some (.inl k5), a6] [] h46 _
          refine av_wp_sqF ck_63 4 (pc' := 73) (lv' := [some (.inr (.inr (.inl (some (26))))), some (.inr (.inr (.inl (some (t))))), some (.inl k), some (.inl x), some (.inl j33), some (.inl k5), a6]) (st' := [.inr (.inr (.inl (some (26)))), .inl k, .inr (.inr (.inl (some (t)))), .inr (.inr (.inl (some (26))))]) (h' := h46) rfl ?_
          refine wq_gr (p' := 76) (ck_63 _ _ rfl) rfl (congrArg Prod.fst (ly_k C48.1.1 26 rfl)) rfl (ly_g C48.1.1 26 7 30 rfl) ?_
          refine av_wp_sqF ck_63 1 (pc' := 79) (lv' := [some (.inr (.inr (.inl (some (26))))), some (.inr (.inr (.inl (some (t))))), some (.inl k), some (.inl x), some (.inl j33), some (.inl k5), a6]) (st' := [.inl (128), .inr (.inr (.inl (some (30)))), .inl k, .inr (.inr (.inl (some (t)))), .inr (.inr (.inl (some (26))))]) (h' := h46) rfl ?_
          refine wq_cv (p' := 82) (av_qc (.invokevirtual 100) 52 4 0 3) 8 cd_52 [.inl (128), .inr (.inr (.inl (some (30)))), .inl k, .inr (.inr (.inl (some (t))))] (26) 3 [some (.inr (.inr (.inl (some (26))))), some (.inr (.inr (.inl (some (t))))), some (.inl k), some (.inr (.inr (.inl (some (30))))), some (.inl (128)), none, none, none] (ck_63 _ _ rfl) rfl rfl pp_52 rfl rfl rfl (congrArg Prod.fst (ly_k C48.1.1 26 rfl)) rfl rfl rfl rfl ?_
          have r63 : -1 ≤ (MXL h f30 x (Int.toNat j33)) 8 := (rl_8 (RM j33 (by omega) (by omega))).1
          refine cx_52 C48 (CO_fr C.1.1 o F52) ((F52.2.2.2.2.2.2 c (sA_cells o.2.2.2.2.2.2.2.1)).trans hu) (k) (by omega) (by omega) CR.1 (fun q hq => (CR.1 (Int.toNat k) (by omega)).2.2.1 q hq |> fun w => ⟨w.1, by omega⟩) CR.2.1 CR.2.2.1 (r := 30) (ly_k C48.1.1 30 rfl) rfl M53 r63 (128) (by omega) u51 (fun h55 r56 n57 C58 F59 u60 o61 K62 => ?_)
          have U64 := SUA_hi U50 (fun q hq => o61 q (Or.inl (by omega)))
          have F65 := Fr_tr F52 F59.1
          have M66 := (FS_row F59 rfl).trans M53
          have x67 : (∀ j, 14 ≤ j → hA h55 30 j = f30 j) := fun j hj => by rw [M66]; exact MXL_h j hj
          show av_wp _ cd_63 82 [some (.inr (.inr (.inl (some (26))))), some (.inr (.inr (.inl (some (t))))), some (.inl k), some (.inl x), some (.inl j33), some (.inl k5), a6] [] h55 _
          refine av_wp_sqF ck_63 1 (pc' := 83) (lv' := [some (.inr (.inr (.inl (some (26))))), some (.inr (.inr (.inl (some (t))))), some (.inl k), some (.inl x), some (.inl j33), some (.inl k5), a6]) (st' := [.inr (.inr (.inl (some (26))))]) (h' := h55) rfl ?_
          refine wq_gr (p' := 86) (ck_63 _ _ rfl) rfl (congrArg Prod.fst (ly_k C58.1.1 26 rfl)) rfl (ly_g C58.1.1 26 1 35 rfl) ?_
          refine av_wp_sqF ck_63 2 (pc' := 88) (lv' := [some (.inr (.inr (.inl (some (26))))), some (.inr (.inr (.inl (some (t))))), some (.inl k), some (.inl x), some (.inl j33), some (.inl k5), a6]) (st' := [.inr (.inr (.inl (some (26)))), .inr (.inr (.inl (some (t)))), .inr (.inr (.inl (some (35))))]) (h' := h55) rfl ?_
          refine wq_gr (p' := 91) (ck_63 _ _ rfl) rfl (congrArg Prod.fst (ly_k C58.1.1 26 rfl)) rfl (ly_g C58.1.1 26 7 30 rfl) ?_
          refine av_wp_sqF ck_63 1 (pc' := 92) (lv' := [some (.inr (.inr (.inl (some (26))))), some (.inr (.inr (.inl (some (t))))), some (.inl k), some (.inl x), some (.inl j33), some (.inl k5), a6]) (st' := [.inr (.inr (.inl (some (26)))), .inr (.inr (.inl (some (30)))), .inr (.inr (.inl (some (t)))), .inr (.inr (.inl (some (35))))]) (h' := h55) rfl ?_
          refine wq_gr (p' := 95) (ck_63 _ _ rfl) rfl (congrArg Prod.fst (ly_k C58.1.1 26 rfl)) rfl (ly_g C58.1.1 26 4 27 rfl) ?_
          refine av_wp_sqF ck_63 1 (pc' := 98) (lv' := [some (.inr (.inr (.inl (some (26))))), some (.inr (.inr (.inl (some (t))))), some (.inl k), some (.inl x), some (.inl j33), some (.inl k5), a6]) (st' := [.inl (128), .inr (.inr (.inl (some (27)))), .inr (.inr (.inl (some (30)))), .inr (.inr (.inl (some (t)))), .inr (.inr (.inl (some (35))))]) (h' := h55) rfl ?_
          refine wq_cv (p' := 101) (av_qc (.invokevirtual 64) 1 4 0 0) 9 cd_1 [.inl (128), .inr (.inr (.inl (some (27)))), .inr (.inr (.inl (some (30)))), .inr (.inr (.inl (some (t))))] (35) 0 [some (.inr (.inr (.inl (some (35))))), some (.inr (.inr (.inl (some (t))))), some (.inr (.inr (.inl (some (30))))), some (.inr (.inr (.inl (some (27))))), some (.inl (128)), none, none, none, none] (ck_63 _ _ rfl) rfl rfl pp_1 rfl rfl rfl (congrArg Prod.fst (bn_k0 C58.1.1 (Or.inl rfl))) rfl rfl rfl rfl ?_
          refine cx_1 C58.1 (Or.inl rfl) (CO_fr C.1.1 o F65) (ly_k C58.1.1 30 rfl) rfl (128) (by omega) (fun h68 a69 E70 Y71 T72 => ?_)
          have w73 := ((F65.2.2.2.2.2.2 c (sA_cells o.2.2.2.2.2.2.2.1)).trans hu)
          rw [w73, M66] at E70
          rw [w73, M66, C58.2.2.1] at T72
          have C74 := CJ_by (Or.inl rfl) C58 Y71 (ib_ic E70.1)
          have T75 := TKR_of T72 (by omega) K62
          have G76 := CWF_sea (ro := (MXL h f30 x (Int.toNat j33))) (CR.1 (Int.toNat k) (by omega)) r63 (brv_b (U (Int.toNat k)) (srt U S (MXL h f30 x (Int.toNat j33)) (Int.toNat k)))
          have F77 := Fr_tr F65 Y71.1.1
          have M78 := (Y71.2.1 30 (fun j hj => by omega)).trans M66
          have x79 : (∀ j, 14 ≤ j → hA h68 30 j = f30 j) := fun j hj => by rw [M78]; exact MXL_h j hj
          show av_wp _ cd_63 101 [some (.inr (.inr (.inl (some (26))))), some (.inr (.inr (.inl (some (t))))), some (.inl k), some (.inl x), some (.inl j33), some (.inl k5), a6] [] h68 _
          refine av_wp_sqF ck_63 1 (pc' := 102) (lv' := [some (.inr (.inr (.inl (some (26))))), some (.inr (.inr (.inl (some (t))))), some (.inl k), some (.inl x), some (.inl j33), some (.inl k5), a6]) (st' := [.inr (.inr (.inl (some (26))))]) (h' := h68) rfl ?_
          refine wq_gr (p' := 105) (ck_63 _ _ rfl) rfl (congrArg Prod.fst (ly_k C74.1.1 26 rfl)) rfl (ly_g C74.1.1 26 1 35 rfl) ?_
          refine av_wp_sqF ck_63 1 (pc' := 106) (lv' := [some (.inr (.inr (.inl (some (26))))), some (.inr (.inr (.inl (some (t))))), some (.inl k), some (.inl x), some (.inl j33), some (.inl k5), a6]) (st' := [.inr (.inr (.inl (some (26)))), .inr (.inr (.inl (some (35))))]) (h' := h68) rfl ?_
          obtain ⟨v80, e81⟩ : ∃ v, hF h68 26 10 = v := ⟨_, rfl⟩
          have g82 := ic_hc C74.1
          rw [e81] at g82
          refine wq_gi (p' := 109) (ck_63 _ _ rfl) rfl (congrArg Prod.fst (ly_k C74.1.1 26 rfl)) rfl (e81) ?_
          refine wq_cs (p' := 112) (av_qc (.invokestatic 108) 55 2 2 3) 4 cd_55 [.inr (.inr (.inl (some (35)))), .inl v80] [.inl v80, .inr (.inr (.inl (some (35))))] [some (.inr (.inr (.inl (some (35))))), some (.inl v80), none, none] (ck_63 _ _ rfl) rfl rfl pp_55 (fun _ => rfl) rfl rfl ?_
          refine cx_55 E70 (FN_rf 35 h68) G76 T75 (fun q hq => Or.inl (T72.1 q hq)) (v80) (by omega) (fun v83 h84 a85 m86 m87 m88 E89 F90 Z91 T92 p93 => ?_)
          have C94 := CJ_bn (Or.inl rfl) C74 F90 (ib_ic E89.1)
          have g95 : -1 ≤ v83 ∧ v83 ≤ 1023 := by rcases p93 with z | z <;> omega
          have F96 := Fr_tr F77 F90.1.1
          have M97 := (F90.2.1 30 (fun j hj => by omega)).trans M78
          have x98 : (∀ j, 14 ≤ j → hA h84 30 j = f30 j) := fun j hj => by rw [M97]; exact MXL_h j hj
          show av_wp _ cd_63 112 [some (.inr (.inr (.inl (some (26))))), some (.inr (.inr (.inl (some (t))))), some (.inl k), some (.inl x), some (.inl j33), some (.inl k5), a6] [.inl v83] h84 _
          refine av_wp_sqF ck_63 3 (pc' := 117) (lv' := [some (.inr (.inr (.inl (some (26))))), some (.inr (.inr (.inl (some (t))))), some (.inl k), some (.inl x), some (.inl j33), some (.inl k5), some (.inl v83)]) (st' := [.inl (-1), .inl v83]) (h' := h84) rfl ?_
          refine wq_k2 (p' := 120) (ck_63 _ _ rfl) rfl ⟨by omega, by omega⟩ ⟨by omega, by omega⟩ (fun c99 => ?_) (fun c100 => ?_)
          · have c99 : v83 = (-1) := c99
            have G101 : SRE (U (Int.toNat k)) (MXL h f30 x (Int.toNat j33)) (bxx U S (MXL h f30 x (Int.toNat j33)) (Int.toNat k)) (S (Int.toNat k)) := (SRE_cb cb1).mpr (p93.elim (fun y => y.2) (fun y => absurd y.1.1 (by omega)))
            refine av_wp_sqF ck_63 3 (pc' := 9) (lv' := [some (.inr (.inr (.inl (some (26))))), some (.inr (.inr (.inl (some (t))))), some (.inl k), some (.inl x), some (.inl (j33 + (1))), some (.inl (k5 + (1))), some (.inl v83)]) (st' := []) (h' := h84) rfl ?_
            exact I19 _ (by omega) ((j33 + (1))) ((k5 + (1))) (some (.inl v83)) h84 r56 n57 l14 rfl (by omega) (by omega) C94 F96 U64 x98 (by omega) (fun l h0 h1 hv => by by_cases c : l = j33; (· rw [c]; exact G101); exact X16 l h0 h1 (by omega)) rfl
          · have c100 : v83 ≠ (-1) := c100
            refine av_wp_sqF ck_63 2 (pc' := 123) (lv' := [some (.inr (.inr (.inl (some (26))))), some (.inr (.inr (.inl (some (t))))), some (.inl k), some (.inl x), some (.inl j33), some (.inl k5), some (.inl v83)]) (st' := [.inl j33, .inr (.inr (.inl (some (26))))]) (h' := h84) rfl ?_
            refine xj_ph (p' := 126) rfl rfl C94 (by omega) (fun h102 C103 F104 e105 => ?_)
            have F106 := Fr_tr F96 F104
            have x107 : (∀ j, 14 ≤ j → hA h102 30 j = f30 j) := by rw [e105]; exact x98
            refine av_wp_sqF ck_63 2 (pc' := 129) (lv' := [some (.inr (.inr (.inl (some (26))))), some (.inr (.inr (.inl (some (t))))), some (.inl k), some (.inl x), some (.inl j33), some (.inl k5), some (.inl v83)]) (st' := [.inl v83, .inr (.inr (.inl (some (26))))]) (h' := h102) rfl ?_
            refine xj_ph (p' := 132) rfl rfl C103 (by omega) (fun h108 C109 F110 e111 => ?_)
            have F112 := Fr_tr F106 F110
            have x113 : (∀ j, 14 ≤ j → hA h108 30 j = f30 j) := by rw [e111]; exact x107
            refine av_wp_sqF ck_63 1 (pc' := 133) (lv' := [some (.inr (.inr (.inl (some (26))))), some (.inr (.inr (.inl (some (t))))), some (.inl k), some (.inl x), some (.inl j33), some (.inl k5), some (.inl v83)]) (st' := [.inl (0)]) (h' := h108) rfl ?_
            refine av_wp_ret (v := some (.inl (0))) (ck_63 _ _ rfl) rfl rfl ?_
            exact hq _ h108 _ _ C109 F112 U64 x113 (Or.inr ⟨rfl, fun z => p93.elim (fun y => absurd y.1 (by omega)) (fun y => y.2 ((SRE_cb cb1).mp (z j33 (by omega) (by omega)) _ y.1.1 y.1.2))⟩)
        refine wq_k1 (p' := 33) (ck_63 _ _ rfl) rfl ⟨by omega, by omega⟩ (fun c114 => ?_) (fun c115 => ?_)
        · have c114 : v30 = (0) := c114
          refine av_wp_sqF ck_63 1 (pc' := 39) (lv' := [some (.inr (.inr (.inl (some (26))))), some (.inr (.inr (.inl (some (t))))), some (.inl k), some (.inl x), some (.inl k4), some (.inl k5), a6]) (st' := [.inl (0)]) (h' := h7) rfl ?_
          exact J36 ((0)) (by omega) (by omega)
        · have c115 : v30 ≠ (0) := c115
          refine av_wp_sqF ck_63 2 (pc' := 39) (lv' := [some (.inr (.inr (.inl (some (26))))), some (.inr (.inr (.inl (some (t))))), some (.inl k), some (.inl x), some (.inl k4), some (.inl k5), a6]) (st' := [.inl k4]) (h' := h7) rfl ?_
          exact J36 (k4) (by omega) (by omega)
  exact L18 _ (v1) ((0)) (none) h sr nd l0 rfl (by omega) (by omega) C F SU e30 (by omega) (fun l h0 h1 hv => absurd hv (by omega)) rfl

set_option maxRecDepth 100000 in
set_option maxHeartbeats 4000000 in
theorem cx_115 {h : av_H} {U : Nat → Nat → Int} {S : Nat → Nat} {n : Int} {sr nd : Nat → Int} (C : CJ U S n sr nd h) (k : Int) (qk : -2147483648 ≤ k ∧ k ≤ 2147483647) (CR : CRT U S n (hF h 3 4) (fun k => hA h (6 + k))) (SU : SUA U S n (hF h 3 4) (fun k => hA h (6 + k)) sr) {f30 : Nat → Int} (e30 : (∀ j, 14 ≤ j → hA h 30 j = f30 j)) (RM : ∀ b : Nat, b < 64 → ∀ l : Int, 0 ≤ l → l < (hF h 3 4) → RLW (MXL h f30 (b : Int) (Int.toNat l))) {Q : Option av_V → av_H → Prop} (hq : ∀ (v : Int) h' sr' nd', CJ U S n sr' nd' h' → Fr h h' → SUA U S n (hF h 3 4) (fun k => hA h (6 + k)) sr' → RSP ((0 ≤ k ∧ k < n) ∧ (cbv (U (Int.toNat k)) (S (Int.toNat k))) ≠ -1 ∧ (hF h 3 4) ≠ 0) (-2) (ptv pcn (fun b => ∀ l : Int, 0 ≤ l → l < (hF h 3 4) → SRE (U (Int.toNat k)) (MXL h f30 (b : Int) (Int.toNat l)) (bxx U S (MXL h f30 (b : Int) (Int.toNat l)) (Int.toNat k)) (S (Int.toNat k))) (2 ^ Int.toNat (hF h 3 5))) v → Q (some (.inl v)) h') : av_wp none cd_115 0 [some (.inr (.inr (.inl (some (0))))), some (.inl k), none, none, none, none] [] h Q := by
  have F := Fr_rf h
  have nr := C.2.1.2.1
  have l8 := ic_lc C.1
  have k6 := ic_kc C.1
  have p64 : (2 ^ Int.toNat (hF h 3 5)) ≤ 64 := pw_64 _ (by omega)
  refine av_wp_sqF ck_115 1 (pc' := 1) (lv' := [some (.inr (.inr (.inl (some (0))))), some (.inl k), none, none, none, none]) (st' := [.inr (.inr (.inl (some (0))))]) (h' := h) rfl ?_
  refine wq_gr (p' := 4) (ck_115 _ _ rfl) rfl (congrArg Prod.fst (ly_k C.1.1 0 rfl)) rfl (ly_g C.1.1 0 1 3 rfl) ?_
  refine av_wp_sqF ck_115 1 (pc' := 5) (lv' := [some (.inr (.inr (.inl (some (0))))), some (.inl k), none, none, none, none]) (st' := [.inl k, .inr (.inr (.inl (some (3))))]) (h' := h) rfl ?_
  refine wq_cv (p' := 8) (av_qc (.invokevirtual 96) 69 1 0 5) 2 cd_69 [.inl k] (3) 5 [some (.inr (.inr (.inl (some (3))))), some (.inl k)] (ck_115 _ _ rfl) rfl rfl pp_69 rfl rfl rfl (congrArg Prod.fst (ly_k C.1.1 3 rfl)) rfl rfl rfl rfl ?_
  refine cz_69 C (k) (by omega) (fun z1 => ?_) (fun z1 z2 t3 c4 y5 y6 => ?_)
  · show av_wp _ cd_115 8 [some (.inr (.inr (.inl (some (0))))), some (.inl k), none, none, none, none] [.inr (.inr (.inl none))] h _
    refine av_wp_sqF ck_115 4 (pc' := 33) (lv' := [some (.inr (.inr (.inl (some (0))))), some (.inl k), some (.inr (.inr (.inl none))), none, none, none]) (st' := [.inl (-2)]) (h' := h) rfl ?_
    refine av_wp_ret (v := some (.inl (-2))) (ck_115 _ _ rfl) rfl rfl ?_
    exact hq _ h _ _ C F SU (Or.inr ⟨by omega, rfl⟩)
  · have g7 := co_s12 y5
    have g8 := co_cbr y5
    show av_wp _ cd_115 8 [some (.inr (.inr (.inl (some (0))))), some (.inl k), none, none, none, none] [.inr (.inr (.inl (some (t3))))] h _
    refine av_wp_sqF ck_115 4 (pc' := 14) (lv' := [some (.inr (.inr (.inl (some (0))))), some (.inl k), some (.inr (.inr (.inl (some (t3))))), none, none, none]) (st' := [.inr (.inr (.inl (some (t3))))]) (h' := h) rfl ?_
    refine wq_gi (p' := 17) (ck_115 _ _ rfl) rfl (congrArg Prod.fst (co_kt (CO_fr C.1.1 y5 F))) rfl (co_cb (CO_fr C.1.1 y5 F)) ?_
    refine av_wp_sqF ck_115 1 (pc' := 18) (lv' := [some (.inr (.inr (.inl (some (0))))), some (.inl k), some (.inr (.inr (.inl (some (t3))))), none, none, none]) (st' := [.inl (-1), .inl (cbv (U (Int.toNat (k))) (S (Int.toNat (k))))]) (h' := h) rfl ?_
    refine wq_k2 (p' := 21) (ck_115 _ _ rfl) rfl ⟨by omega, by omega⟩ ⟨by omega, by omega⟩ (fun c9 => ?_) (fun c10 => ?_)
    · have c9 : (cbv (U (Int.toNat (k))) (S (Int.toNat (k)))) = (-1) := c9
      refine av_wp_sqF ck_115 1 (pc' := 33) (lv' := [some (.inr (.inr (.inl (some (0))))), some (.inl k), some (.inr (.inr (.inl (some (t3))))), none, none, none]) (st' := [.inl (-2)]) (h' := h) rfl ?_
      refine av_wp_ret (v := some (.inl (-2))) (ck_115 _ _ rfl) rfl rfl ?_
      exact hq _ h _ _ C F SU (Or.inr ⟨by omega, rfl⟩)
    · have c10 : (cbv (U (Int.toNat (k))) (S (Int.toNat (k)))) ≠ (-1) := c10
      refine av_wp_sqF ck_115 1 (pc' := 22) (lv' := [some (.inr (.inr (.inl (some (0))))), some (.inl k), some (.inr (.inr (.inl (some (t3))))), none, none, none]) (st' := [.inr (.inr (.inl (some (0))))]) (h' := h) rfl ?_
      refine wq_gr (p' := 25) (ck_115 _ _ rfl) rfl (congrArg Prod.fst (ly_k C.1.1 0 rfl)) rfl (ly_g C.1.1 0 1 3 rfl) ?_
      obtain ⟨v11, e12⟩ : ∃ v, hF h 3 4 = v := ⟨_, rfl⟩
      have g13 := ic_lc C.1
      rw [e12] at g13
      have y14 : v11 = hF h 3 4 := e12.symm.trans (Fr_34 F)
      refine wq_gi (p' := 28) (ck_115 _ _ rfl) rfl (congrArg Prod.fst (ly_k C.1.1 3 rfl)) rfl (e12) ?_
      refine wq_k1 (p' := 31) (ck_115 _ _ rfl) rfl ⟨by omega, by omega⟩ (fun c15 => ?_) (fun c16 => ?_)
      · have c15 : v11 ≠ (0) := c15
        refine av_wp_sqF ck_115 2 (pc' := 36) (lv' := [some (.inr (.inr (.inl (some (0))))), some (.inl k), some (.inr (.inr (.inl (some (t3))))), none, none, none]) (st' := [.inr (.inr (.inl (some (0)))), .inl (1)]) (h' := h) rfl ?_
        refine wq_gr (p' := 39) (ck_115 _ _ rfl) rfl (congrArg Prod.fst (ly_k C.1.1 0 rfl)) rfl (ly_g C.1.1 0 1 3 rfl) ?_
        obtain ⟨v17, e18⟩ : ∃ v, hF h 3 5 = v := ⟨_, rfl⟩
        have g19 := ic_kc C.1
        rw [e18] at g19
        have y20 : v17 = hF h 3 5 := e18.symm.trans (Fr_35 F)
        refine wq_gi (p' := 42) (ck_115 _ _ rfl) rfl (congrArg Prod.fst (ly_k C.1.1 3 rfl)) rfl (e18) ?_
        refine av_wp_sqF ck_115 1 (pc' := 43) (lv' := [some (.inr (.inr (.inl (some (0))))), some (.inl k), some (.inr (.inr (.inl (some (t3))))), none, none, none]) (st' := [.inl (av_shl (1) v17)]) (h' := h) rfl ?_
        have g23 := shl_le (n := v17) (by omega)
        generalize e22 : av_shl (1) v17 = v21 at g23 ⊢
        refine av_wp_sqF ck_115 1 (pc' := 44) (lv' := [some (.inr (.inr (.inl (some (0))))), some (.inl k), some (.inr (.inr (.inl (some (t3))))), some (.inl v21), none, none]) (st' := []) (h' := h) rfl ?_
        have y24 : v21 = (((2 ^ Int.toNat (hF h 3 5)) : Nat) : Int) := by rw [← e22]; exact shl_2 (by omega) (by omega)
        refine av_wp_sqF ck_115 2 (pc' := 47) (lv' := [some (.inr (.inr (.inl (some (0))))), some (.inl k), some (.inr (.inr (.inl (some (t3))))), some (.inl v21), some (.inl (0)), none]) (st' := []) (h' := h) rfl ?_
        have L36 : ∀ (m35 : Nat) (k25 : Int) (a26 : Option av_V) (h27 : av_H) (r28 : Nat → Int) (n29 : Nat → Int), av_lg a26 = false → (0 ≤ k25 ∧ k25 ≤ 7) → CJ U S n r28 n29 h27 → Fr h h27 → SUA U S n (hF h 3 4) (fun k => hA h (6 + k)) r28 → (∀ j, 14 ≤ j → hA h27 30 j = f30 j) → (∀ q : Nat, q < (2 ^ Int.toNat (hF h 3 5)) → ((pcn q : Int) < k25 ∨ ((pcn q : Int) = k25 ∧ (q : Int) < 0)) → ¬ (fun b => ∀ l : Int, 0 ≤ l → l < (hF h 3 4) → SRE (U (Int.toNat k)) (MXL h f30 (b : Int) (Int.toNat l)) (bxx U S (MXL h f30 (b : Int) (Int.toNat l)) (Int.toNat k)) (S (Int.toNat k))) q) → (7 - k25).toNat = m35 → av_wp none cd_115 47 [some (.inr (.inr (.inl (some (0))))), some (.inl k), some (.inr (.inr (.inl (some (t3))))), some (.inl v21), some (.inl k25), a26] [] h27 Q := by
          intro m35
          induction m35 using Nat.strongRecOn with
          | _ m35 I37 =>
            intro k25 a26 h27 r28 n29 g39 g40 C30 F31 U32 x33 X34 e38
            have la26 := g39
            refine av_wp_sqF ck_115 2 (pc' := 50) (lv' := [some (.inr (.inr (.inl (some (0))))), some (.inl k), some (.inr (.inr (.inl (some (t3))))), some (.inl v21), some (.inl k25), a26]) (st' := [.inr (.inr (.inl (some (0)))), .inl k25]) (h' := h27) rfl ?_
            refine wq_gr (p' := 53) (ck_115 _ _ rfl) rfl (congrArg Prod.fst (ly_k C30.1.1 0 rfl)) rfl (ly_g C30.1.1 0 1 3 rfl) ?_
            obtain ⟨v41, e42⟩ : ∃ v, hF h27 3 5 = v := ⟨_, rfl⟩
            have g43 := ic_kc C30.1
            rw [e42] at g43
            have y44 : v41 = hF h 3 5 := e42.symm.trans (Fr_35 F31)
            refine wq_gi (p' := 56) (ck_115 _ _ rfl) rfl (congrArg Prod.fst (ly_k C30.1.1 3 rfl)) rfl (e42) ?_
            refine wq_k2 (p' := 59) (ck_115 _ _ rfl) rfl ⟨by omega, by omega⟩ ⟨by omega, by omega⟩ (fun c45 => ?_) (fun c46 => ?_)
            · have c45 : v41 < k25 := c45
              refine av_wp_sqF ck_115 1 (pc' := 108) (lv' := [some (.inr (.inr (.inl (some (0))))), some (.inl k), some (.inr (.inr (.inl (some (t3))))), some (.inl v21), some (.inl k25), a26]) (st' := [.inl (-1)]) (h' := h27) rfl ?_
              refine av_wp_ret (v := some (.inl (-1))) (ck_115 _ _ rfl) rfl rfl ?_
              exact hq _ h27 _ _ C30 F31 U32 (Or.inl ⟨by omega, (ptv_no (S := pcn) (Q := (fun b => ∀ l : Int, 0 ≤ l → l < (hF h 3 4) → SRE (U (Int.toNat k)) (MXL h f30 (b : Int) (Int.toNat l)) (bxx U S (MXL h f30 (b : Int) (Int.toNat l)) (Int.toNat k)) (S (Int.toNat k)))) (2 ^ Int.toNat (hF h 3 5)) (fun q hq => X34 q hq (Or.inl (by have := pcn_c (Int.toNat (hF h 3 5)) (by omega) q hq; omega)))).symm⟩)
            · have c46 : k25 ≤ v41 := c46
              refine av_wp_sqF ck_115 2 (pc' := 62) (lv' := [some (.inr (.inr (.inl (some (0))))), some (.inl k), some (.inr (.inr (.inl (some (t3))))), some (.inl v21), some (.inl k25), some (.inl (0))]) (st' := []) (h' := h27) rfl ?_
              have L57 : ∀ (m56 : Nat) (k47 : Int) (h48 : av_H) (r49 : Nat → Int) (n50 : Nat → Int), k47 ≤ v21 → (0 ≤ k47 ∧ k47 ≤ 64) → CJ U S n r49 n50 h48 → Fr h h48 → SUA U S n (hF h 3 4) (fun k => hA h (6 + k)) r49 → (∀ j, 14 ≤ j → hA h48 30 j = f30 j) → (∀ q : Nat, q < (2 ^ Int.toNat (hF h 3 5)) → ((pcn q : Int) < k25 ∨ ((pcn q : Int) = k25 ∧ (q : Int) < k47)) → ¬ (fun b => ∀ l : Int, 0 ≤ l → l < (hF h 3 4) → SRE (U (Int.toNat k)) (MXL h f30 (b : Int) (Int.toNat l)) (bxx U S (MXL h f30 (b : Int) (Int.toNat l)) (Int.toNat k)) (S (Int.toNat k))) q) → (64 - k47).toNat = m56 → av_wp none cd_115 62 [some (.inr (.inr (.inl (some (0))))), some (.inl k), some (.inr (.inr (.inl (some (t3))))), some (.inl v21), some (.inl k25), some (.inl k47)] [] h48 Q := by
                intro m56
                induction m56 using Nat.strongRecOn with
                | _ m56 I58 =>
                  intro k47 h48 r49 n50 g60 g61 C51 F52 U53 x54 X55 e59
                  refine av_wp_sqF ck_115 2 (pc' := 65) (lv' := [some (.inr (.inr (.inl (some (0))))), some (.inl k), some (.inr (.inr (.inl (some (t3))))), some (.inl v21), some (.inl k25), some (.inl k47)]) (st' := [.inl v21, .inl k47]) (h' := h48) rfl ?_
                  refine wq_k2 (p' := 68) (ck_115 _ _ rfl) rfl ⟨by omega, by omega⟩ ⟨by omega, by omega⟩ (fun c62 => ?_) (fun c63 => ?_)
                  · have c62 : v21 ≤ k47 := c62
                    refine av_wp_sqF ck_115 2 (pc' := 47) (lv' := [some (.inr (.inr (.inl (some (0))))), some (.inl k), some (.inr (.inr (.inl (some (t3))))), some (.inl v21), some (.inl (k25 + (1))), some (.inl k47)]) (st' := []) (h' := h48) rfl ?_
                    exact I37 _ (by omega) ((k25 + (1))) (some (.inl k47)) h48 r49 n50 rfl (by omega) C51 F52 U53 x54 (fun q hq hv => X55 q hq (by omega)) rfl
                  · have c63 : k47 < v21 := c63
                    refine av_wp_sqF ck_115 1 (pc' := 70) (lv' := [some (.inr (.inr (.inl (some (0))))), some (.inl k), some (.inr (.inr (.inl (some (t3))))), some (.inl v21), some (.inl k25), some (.inl k47)]) (st' := [.inl k47]) (h' := h48) rfl ?_
                    refine wq_cs (p' := 73) (av_qc (.invokestatic 231) 218 1 2 11) 1 cd_218 [.inl k47] [.inl k47] [some (.inl k47)] (ck_115 _ _ rfl) rfl rfl pp_218 (fun _ => rfl) rfl rfl ?_
                    refine cx_218 (k47) (by omega) (fun v64 p65 => ?_)
                    have g66 := pcn_r (Int.toNat k47) (by omega)
                    show av_wp _ cd_115 73 [some (.inr (.inr (.inl (some (0))))), some (.inl k), some (.inr (.inr (.inl (some (t3))))), some (.inl v21), some (.inl k25), some (.inl k47)] [.inl v64] h48 _
                    refine av_wp_sqF ck_115 1 (pc' := 75) (lv' := [some (.inr (.inr (.inl (some (0))))), some (.inl k), some (.inr (.inr (.inl (some (t3))))), some (.inl v21), some (.inl k25), some (.inl k47)]) (st' := [.inl k25, .inl v64]) (h' := h48) rfl ?_
                    refine wq_k2 (p' := 78) (ck_115 _ _ rfl) rfl ⟨by omega, by omega⟩ ⟨by omega, by omega⟩ (fun c67 => ?_) (fun c68 => ?_)
                    · have c67 : v64 ≠ k25 := c67
                      refine av_wp_sqF ck_115 2 (pc' := 62) (lv' := [some (.inr (.inr (.inl (some (0))))), some (.inl k), some (.inr (.inr (.inl (some (t3))))), some (.inl v21), some (.inl k25), some (.inl (k47 + (1)))]) (st' := []) (h' := h48) rfl ?_
                      exact I58 _ (by omega) ((k47 + (1))) h48 r49 n50 (by omega) (by omega) C51 F52 U53 x54 (fun q hq hv => X55 q hq (by have c : (q : Int) = k47 → (pcn q : Int) = v64 := (fun y => by rw [p65, show Int.toNat k47 = q by omega]); omega)) rfl
                    · have c68 : v64 = k25 := c68
                      refine av_wp_sqF ck_115 1 (pc' := 79) (lv' := [some (.inr (.inr (.inl (some (0))))), some (.inl k), some (.inr (.inr (.inl (some (t3))))), some (.inl v21), some (.inl k25), some (.inl k47)]) (st' := [.inr (.inr (.inl (some (0))))]) (h' := h48) rfl ?_
                      refine wq_gr (p' := 82) (ck_115 _ _ rfl) rfl (congrArg Prod.fst (ly_k C51.1.1 0 rfl)) rfl (ly_g C51.1.1 0 5 26 rfl) ?_
                      refine av_wp_sqF ck_115 3 (pc' := 86) (lv' := [some (.inr (.inr (.inl (some (0))))), some (.inl k), some (.inr (.inr (.inl (some (t3))))), some (.inl v21), some (.inl k25), some (.inl k47)]) (st' := [.inl k47, .inl k, .inr (.inr (.inl (some (t3)))), .inr (.inr (.inl (some (26))))]) (h' := h48) rfl ?_
                      refine wq_cv (p' := 89) (av_qc (.invokevirtual 236) 63 3 0 3) 7 cd_63 [.inl k47, .inl k, .inr (.inr (.inl (some (t3))))] (26) 3 [some (.inr (.inr (.inl (some (26))))), some (.inr (.inr (.inl (some (t3))))), some (.inl k), some (.inl k47), none, none, none] (ck_115 _ _ rfl) rfl rfl pp_63 rfl rfl rfl (congrArg Prod.fst (ly_k C51.1.1 26 rfl)) rfl rfl rfl rfl ?_
                      have R78 : CRT U S n (hF h48 3 4) (fun k => hA h48 (6 + k)) := by rw [Fr_34 F52]; exact CRT_c CR (by omega) (Fr_6 F52)
                      have U79 : SUA U S n (hF h48 3 4) (fun k => hA h48 (6 + k)) r49 := by rw [Fr_34 F52]; exact SUA_c U53 (fun l hl _ => Fr_6 F52 l hl)
                      have M80 : ∀ l : Int, 0 ≤ l → l < hF h48 3 4 → RLW (MXL h48 f30 k47 (Int.toNat l)) := fun l h0 h1 => by rw [MXL_f (l := Int.toNat l) F52 C.1 (by have := Fr_34 F52; omega)]; exact RM (Int.toNat k47) (by omega) l h0 (by have := Fr_34 F52; omega) |> fun w => by rw [show ((Int.toNat k47 : Nat) : Int) = k47 by omega] at w; exact w
                      refine cx_63 C51 (k) (by omega) (k47) R78 U79 x54 M80 (by have := Fr_34 F52; omega) (CO_fr C.1.1 y5 F52) ((F52.2.2.2.2.2.2 c4 (sA_cells y5.2.2.2.2.2.2.2.1)).trans y6) (by omega) (fun v69 h70 r71 n72 C73 F74 U75 x76 p77 => ?_)
                      have p77 : (v69 = 1 ∧ (∀ l : Int, 0 ≤ l → l < (hF h 3 4) → SRE (U (Int.toNat k)) (MXL h f30 k47 (Int.toNat l)) (bxx U S (MXL h f30 k47 (Int.toNat l)) (Int.toNat k)) (S (Int.toNat k)))) ∨ (v69 = 0 ∧ ¬ (∀ l : Int, 0 ≤ l → l < (hF h 3 4) → SRE (U (Int.toNat k)) (MXL h f30 k47 (Int.toNat l)) (bxx U S (MXL h f30 k47 (Int.toNat l)) (Int.toNat k)) (S (Int.toNat k)))) := p77.elim (fun z => Or.inl ⟨z.1, (MXL_all F52 C.1).mp z.2⟩) (fun z => Or.inr ⟨z.1, fun y => z.2 ((MXL_all F52 C.1).mpr y)⟩)
                      rw [Fr_34 F52] at U75
                      have U81 := SUA_c U75 (fun l hl _ => (Fr_6 F52 l hl).symm)
                      have g82 : v69 = 0 ∨ v69 = 1 := p77.elim (fun z => Or.inr z.1) (fun z => Or.inl z.1)
                      have F83 := Fr_tr F52 F74
                      show av_wp _ cd_115 89 [some (.inr (.inr (.inl (some (0))))), some (.inl k), some (.inr (.inr (.inl (some (t3))))), some (.inl v21), some (.inl k25), some (.inl k47)] [.inl v69] h70 _
                      refine wq_k1 (p' := 92) (ck_115 _ _ rfl) rfl ⟨by omega, by omega⟩ (fun c84 => ?_) (fun c85 => ?_)
                      · have c84 : v69 = (0) := c84
                        refine av_wp_sqF ck_115 2 (pc' := 62) (lv' := [some (.inr (.inr (.inl (some (0))))), some (.inl k), some (.inr (.inr (.inl (some (t3))))), some (.inl v21), some (.inl k25), some (.inl (k47 + (1)))]) (st' := []) (h' := h70) rfl ?_
                        exact I58 _ (by omega) ((k47 + (1))) h70 r71 n72 (by omega) (by omega) C73 F83 U81 x76 (fun q hq hv => by by_cases c : (q : Int) = k47; (· intro w; exact (p77.elim (fun z => absurd z.1 (by omega)) (fun z => z.2)) (by rw [← c]; exact w)); exact X55 q hq (by omega)) rfl
                      · have c85 : v69 ≠ (0) := c85
                        refine av_wp_sqF ck_115 1 (pc' := 94) (lv' := [some (.inr (.inr (.inl (some (0))))), some (.inl k), some (.inr (.inr (.inl (some (t3))))), some (.inl v21), some (.inl k25), some (.inl k47)]) (st' := [.inl k47]) (h' := h70) rfl ?_
                        refine av_wp_ret (v := some (.inl k47)) (ck_115 _ _ rfl) rfl rfl ?_
                        exact hq _ h70 _ _ C73 F83 U81 (Or.inl ⟨by omega, by rw [ptv_is (S := pcn) (Q := (fun b => ∀ l : Int, 0 ≤ l → l < (hF h 3 4) → SRE (U (Int.toNat k)) (MXL h f30 (b : Int) (Int.toNat l)) (bxx U S (MXL h f30 (b : Int) (Int.toNat l)) (Int.toNat k)) (S (Int.toNat k)))) (b := Int.toNat k47) (by have w := p77.elim (fun z => z.2) (fun z => absurd z.1 (by omega)); rw [show k47 = ((Int.toNat k47 : Nat) : Int) by omega] at w; exact w) (2 ^ Int.toNat (hF h 3 5)) (by omega) (fun q hq w => Classical.byContradiction (fun y => X55 q hq (by omega) w))]; omega⟩)
              exact L57 _ ((0)) h27 r28 n29 (by omega) (by omega) C30 F31 U32 x33 X34 rfl
        exact L36 _ ((0)) (none) h sr nd rfl (by omega) C F SU e30 (fun q hq hv => absurd hv (by omega)) rfl
      · have c16 : v11 = (0) := c16
        refine av_wp_sqF ck_115 1 (pc' := 33) (lv' := [some (.inr (.inr (.inl (some (0))))), some (.inl k), some (.inr (.inr (.inl (some (t3))))), none, none, none]) (st' := [.inl (-2)]) (h' := h) rfl ?_
        refine av_wp_ret (v := some (.inl (-2))) (ck_115 _ _ rfl) rfl rfl ?_
        exact hq _ h _ _ C F SU (Or.inr ⟨by omega, rfl⟩)
end
