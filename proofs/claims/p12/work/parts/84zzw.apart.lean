/-! APART, exactly: the class -/
noncomputable def apv (P : Int → Prop) (c : Nat) (w : Int) : Int := if w = 0 then cnP P c else fsP P c
set_option maxRecDepth 100000 in
set_option maxHeartbeats 4000000 in
theorem cx_50 {h : av_H} {U : Nat → Nat → Int} {S : Nat → Nat} {n : Int} {sr nd : Nat → Int} (C : CJ U S n sr nd h) (k : Int) (qk : -2147483648 ≤ k ∧ k ≤ 2147483647) (l : Int) (ql : -2147483648 ≤ l ∧ l ≤ 2147483647) (m : Int) (qm : -2147483648 ≤ m ∧ m ≤ 2147483647) (CR : CRT U S n (hF h 3 4) (fun k => hA h (6 + k))) (SU : SUA U S n (hF h 3 4) (fun k => hA h (6 + k)) sr) {Q : Option av_V → av_H → Prop} (hq0 : ∀ h' sr' nd', CJ U S n sr' nd' h' → Fr h h' → SUA U S n (hF h 3 4) (fun k => hA h (6 + k)) sr' → ¬ ((0 ≤ k ∧ k < n) ∧ (cbv (U (Int.toNat k)) (S (Int.toNat k))) ≠ -1 ∧ (0 ≤ l ∧ l < hF h 3 4) ∧ (0 ≤ m ∧ m < hF h 3 4)) → Q (some (.inl 0)) h') (hq1 : ((0 ≤ k ∧ k < n) ∧ (cbv (U (Int.toNat k)) (S (Int.toNat k))) ≠ -1 ∧ (0 ≤ l ∧ l < hF h 3 4) ∧ (0 ≤ m ∧ m < hF h 3 4)) → ∀ h' sr' nd' t c, SBX U S n sr' nd' t c (S (Int.toNat k)) (cbv (U (Int.toNat k)) (S (Int.toNat k))) (U (Int.toNat k)) (6 + Int.toNat l) (hA h (6 + Int.toNat l)) (bxx U S (hA h (6 + Int.toNat l)) (Int.toNat k)) (6 + Int.toNat m) (hA h (6 + Int.toNat m)) (bxx U S (hA h (6 + Int.toNat m)) (Int.toNat k)) h h' → SUA U S n (hF h 3 4) (fun k => hA h (6 + k)) sr' → Q (some (.inl 1)) h') : av_wp none cd_50 0 [some (.inr (.inr (.inl (some (26))))), some (.inl k), some (.inl l), some (.inl m), none] [] h Q := by
  have F := Fr_rf h
  have nr := C.2.1.2.1
  refine av_wp_seq 1 (pc' := 1) (lv' := [some (.inr (.inr (.inl (some (26))))), some (.inl k), some (.inl l), some (.inl m), none]) (st' := [.inr (.inr (.inl (some (26))))]) (h' := h) rfl ?_
  refine wq_gr (p' := 4) rfl rfl (congrArg Prod.fst (ly_k C.1.1 26 rfl)) rfl (ly_g C.1.1 26 0 3 rfl) ?_
  refine av_wp_seq 1 (pc' := 5) (lv' := [some (.inr (.inr (.inl (some (26))))), some (.inl k), some (.inl l), some (.inl m), none]) (st' := [.inl k, .inr (.inr (.inl (some (3))))]) (h' := h) rfl ?_
  refine wq_cv (p' := 8) (av_qc (.invokevirtual 76) 69 1 0 5) 2 cd_69 [.inl k] (3) 5 [some (.inr (.inr (.inl (some (3))))), some (.inl k)] rfl rfl rfl pp_69 rfl rfl rfl (congrArg Prod.fst (ly_k C.1.1 3 rfl)) rfl rfl rfl rfl ?_
  refine cz_69 C (k) (by omega) (fun z1 => ?_) (fun z1 z2 t3 c4 y5 y6 => ?_)
  · show av_wp _ cd_50 8 [some (.inr (.inr (.inl (some (26))))), some (.inl k), some (.inl l), some (.inl m), none] [.inr (.inr (.inl none))] h _
    refine av_wp_seq 3 (pc' := 12) (lv' := [some (.inr (.inr (.inl (some (26))))), some (.inl k), some (.inl l), some (.inl m), some (.inr (.inr (.inl none)))]) (st' := [.inr (.inr (.inl (some (26)))), .inr (.inr (.inl (some (26))))]) (h' := h) rfl ?_
    refine wq_gr (p' := 15) rfl rfl (congrArg Prod.fst (ly_k C.1.1 26 rfl)) rfl (ly_g C.1.1 26 1 35 rfl) ?_
    refine av_wp_seq 3 (pc' := 19) (lv' := [some (.inr (.inr (.inl (some (26))))), some (.inl k), some (.inl l), some (.inl m), some (.inr (.inr (.inl none)))]) (st' := [.inl l, .inl k, .inr (.inr (.inl none)), .inr (.inr (.inl (some (35)))), .inr (.inr (.inl (some (26))))]) (h' := h) rfl ?_
    refine wq_cv (p' := 22) (av_qc (.invokevirtual 85) 51 4 0 3) 5 cd_51 [.inl l, .inl k, .inr (.inr (.inl none)), .inr (.inr (.inl (some (35))))] (26) 3 [some (.inr (.inr (.inl (some (26))))), some (.inr (.inr (.inl (some (35))))), some (.inr (.inr (.inl none))), some (.inl k), some (.inl l)] rfl rfl rfl pp_51 rfl rfl rfl (congrArg Prod.fst (ly_k C.1.1 26 rfl)) rfl rfl rfl rfl ?_
    refine cz_51n C ?_
    show av_wp _ cd_50 22 [some (.inr (.inr (.inl (some (26))))), some (.inl k), some (.inl l), some (.inl m), some (.inr (.inr (.inl none)))] [.inl (0)] h _
    refine av_wp_seq 2 (pc' := 45) (lv' := [some (.inr (.inr (.inl (some (26))))), some (.inl k), some (.inl l), some (.inl m), some (.inr (.inr (.inl none)))]) (st' := [.inl (0)]) (h' := h) rfl ?_
    refine av_wp_ret (v := some (.inl (0))) rfl rfl rfl ?_
    exact hq0 h _ _ C F SU (by omega)
  · have g7 := co_s12 y5
    have g8 := co_cbr y5
    show av_wp _ cd_50 8 [some (.inr (.inr (.inl (some (26))))), some (.inl k), some (.inl l), some (.inl m), none] [.inr (.inr (.inl (some (t3))))] h _
    refine av_wp_seq 3 (pc' := 12) (lv' := [some (.inr (.inr (.inl (some (26))))), some (.inl k), some (.inl l), some (.inl m), some (.inr (.inr (.inl (some (t3)))))]) (st' := [.inr (.inr (.inl (some (26)))), .inr (.inr (.inl (some (26))))]) (h' := h) rfl ?_
    refine wq_gr (p' := 15) rfl rfl (congrArg Prod.fst (ly_k C.1.1 26 rfl)) rfl (ly_g C.1.1 26 1 35 rfl) ?_
    refine av_wp_seq 3 (pc' := 19) (lv' := [some (.inr (.inr (.inl (some (26))))), some (.inl k), some (.inl l), some (.inl m), some (.inr (.inr (.inl (some (t3)))))]) (st' := [.inl l, .inl k, .inr (.inr (.inl (some (t3)))), .inr (.inr (.inl (some (35)))), .inr (.inr (.inl (some (26))))]) (h' := h) rfl ?_
    refine wq_cv (p' := 22) (av_qc (.invokevirtual 85) 51 4 0 3) 5 cd_51 [.inl l, .inl k, .inr (.inr (.inl (some (t3)))), .inr (.inr (.inl (some (35))))] (26) 3 [some (.inr (.inr (.inl (some (26))))), some (.inr (.inr (.inl (some (35))))), some (.inr (.inr (.inl (some (t3))))), some (.inl k), some (.inl l)] rfl rfl rfl pp_51 rfl rfl rfl (congrArg Prod.fst (ly_k C.1.1 26 rfl)) rfl rfl rfl rfl ?_
    refine cz_51 C (Or.inl rfl) y5 y6 (k) (by omega) (by omega) CR.1 (fun q hq => (CR.1 (Int.toNat k) (by omega)).2.2.1 q hq |> fun w => ⟨w.1, by omega⟩) CR.2.1 CR.2.2.1 (l) (by omega) SU (fun l h1 h2 => (rl_8 (CR.2.2.2 l h1 h2)).1) (fun z9 => ?_) (fun z9 z10 z11 h12 r13 n14 a15 C16 F17 U18 E19 Z20 T21 => ?_)
    · show av_wp _ cd_50 22 [some (.inr (.inr (.inl (some (26))))), some (.inl k), some (.inl l), some (.inl m), some (.inr (.inr (.inl (some (t3)))))] [.inl (0)] h _
      refine av_wp_seq 2 (pc' := 45) (lv' := [some (.inr (.inr (.inl (some (26))))), some (.inl k), some (.inl l), some (.inl m), some (.inr (.inr (.inl (some (t3)))))]) (st' := [.inl (0)]) (h' := h) rfl ?_
      refine av_wp_ret (v := some (.inl (0))) rfl rfl rfl ?_
      exact hq0 h _ _ C F SU (by omega)
    · show av_wp _ cd_50 22 [some (.inr (.inr (.inl (some (26))))), some (.inl k), some (.inl l), some (.inl m), some (.inr (.inr (.inl (some (t3)))))] [.inl (1)] h12 _
      refine av_wp_seq 3 (pc' := 27) (lv' := [some (.inr (.inr (.inl (some (26))))), some (.inl k), some (.inl l), some (.inl m), some (.inr (.inr (.inl (some (t3)))))]) (st' := [.inr (.inr (.inl (some (26)))), .inr (.inr (.inl (some (26))))]) (h' := h12) rfl ?_
      refine wq_gr (p' := 30) rfl rfl (congrArg Prod.fst (ly_k C16.1.1 26 rfl)) rfl (ly_g C16.1.1 26 2 48 rfl) ?_
      refine av_wp_seq 3 (pc' := 34) (lv' := [some (.inr (.inr (.inl (some (26))))), some (.inl k), some (.inl l), some (.inl m), some (.inr (.inr (.inl (some (t3)))))]) (st' := [.inl m, .inl k, .inr (.inr (.inl (some (t3)))), .inr (.inr (.inl (some (48)))), .inr (.inr (.inl (some (26))))]) (h' := h12) rfl ?_
      refine wq_cv (p' := 37) (av_qc (.invokevirtual 85) 51 4 0 3) 5 cd_51 [.inl m, .inl k, .inr (.inr (.inl (some (t3)))), .inr (.inr (.inl (some (48))))] (26) 3 [some (.inr (.inr (.inl (some (26))))), some (.inr (.inr (.inl (some (48))))), some (.inr (.inr (.inl (some (t3))))), some (.inl k), some (.inl m)] rfl rfl rfl pp_51 rfl rfl rfl (congrArg Prod.fst (ly_k C16.1.1 26 rfl)) rfl rfl rfl rfl ?_
      have cr2 : CRT U S n (hF h12 3 4) (fun k => hA h12 (6 + k)) := (by rw [Fr_34 F17.1]; exact CRT_c CR (by have := ic_lc C.1; omega) (Fr_6 F17.1))
      have su2 : SUA U S n (hF h12 3 4) (fun k => hA h12 (6 + k)) r13 := (by rw [Fr_34 F17.1]; exact SUA_c U18 (fun l hl _ => Fr_6 F17.1 l hl))
      refine cz_51 C16 (Or.inr (Or.inl rfl)) (ib_co E19.1) E19.2.1 (k) (by omega) (by omega) CR.1 (fun q hq => (CR.1 (Int.toNat k) (by omega)).2.2.1 q hq |> fun w => ⟨w.1, by omega⟩) CR.2.1 CR.2.2.1 (m) (by omega) su2 (fun l h1 h2 => (rl_8 (cr2.2.2.2 l h1 h2)).1) (fun z22 => ?_) (fun z22 z23 z24 h25 r26 n27 a28 C29 F30 U31 E32 Z33 T34 => ?_)
      · rw [Fr_34 F17.1] at z22
        show av_wp _ cd_50 37 [some (.inr (.inr (.inl (some (26))))), some (.inl k), some (.inl l), some (.inl m), some (.inr (.inr (.inl (some (t3)))))] [.inl (0)] h12 _
        refine av_wp_seq 2 (pc' := 45) (lv' := [some (.inr (.inr (.inl (some (26))))), some (.inl k), some (.inl l), some (.inl m), some (.inr (.inr (.inl (some (t3)))))]) (st' := [.inl (0)]) (h' := h12) rfl ?_
        refine av_wp_ret (v := some (.inl (0))) rfl rfl rfl ?_
        exact hq0 h12 _ _ C16 F17.1 U18 (by omega)
      · rw [Fr_34 F17.1] at z24
        have E35 := EB_fp E19 (Or.inr (Or.inl rfl)) (by decide) (by decide) F30 C29.1
        rw [Fr_6 F17.1 (Int.toNat m) (by have := ic_lc C.1; omega)] at E32 T34
        rw [Fr_34 F17.1] at U31
        show av_wp _ cd_50 37 [some (.inr (.inr (.inl (some (26))))), some (.inl k), some (.inl l), some (.inl m), some (.inr (.inr (.inl (some (t3)))))] [.inl (1)] h25 _
        refine av_wp_seq 3 (pc' := 45) (lv' := [some (.inr (.inr (.inl (some (26))))), some (.inl k), some (.inl l), some (.inl m), some (.inr (.inr (.inl (some (t3)))))]) (st' := [.inl (1)]) (h' := h25) rfl ?_
        refine av_wp_ret (v := some (.inl (1))) rfl rfl rfl ?_
        exact hq1 (by omega) h25 _ _ _ _ ⟨C29, Fr_tr F17.1 F30.1, ⟨_, _, _, _, E35, T21, Z20⟩, ⟨_, _, _, _, E32, T34, Z33⟩⟩ (SUA_c U31 (fun l hl _ => (Fr_6 F17.1 l hl).symm))

set_option maxRecDepth 100000 in
set_option maxHeartbeats 4000000 in
theorem cx_113 {h : av_H} {U : Nat → Nat → Int} {S : Nat → Nat} {n : Int} {sr nd : Nat → Int} (C : CJ U S n sr nd h) (k : Int) (qk : -2147483648 ≤ k ∧ k ≤ 2147483647) (l : Int) (ql : -2147483648 ≤ l ∧ l ≤ 2147483647) (m : Int) (qm : -2147483648 ≤ m ∧ m ≤ 2147483647) (w : Int) (qw : -2147483648 ≤ w ∧ w ≤ 2147483647) (CR : CRT U S n (hF h 3 4) (fun k => hA h (6 + k))) (SU : SUA U S n (hF h 3 4) (fun k => hA h (6 + k)) sr) {Q : Option av_V → av_H → Prop} (hq : ∀ (v : Int) h' sr' nd', CJ U S n sr' nd' h' → Fr h h' → SUA U S n (hF h 3 4) (fun k => hA h (6 + k)) sr' → RSP (((0 ≤ k ∧ k < n) ∧ (cbv (U (Int.toNat k)) (S (Int.toNat k))) ≠ -1 ∧ (0 ≤ l ∧ l < hF h 3 4) ∧ (0 ≤ m ∧ m < hF h 3 4)) ∧ 0 ≤ w ∧ w ≤ 1) (-2) (apv (PRT (U (Int.toNat k)) (hA h (6 + Int.toNat l)) (bxx U S (hA h (6 + Int.toNat l)) (Int.toNat k)) (hA h (6 + Int.toNat m)) (bxx U S (hA h (6 + Int.toNat m)) (Int.toNat k)) (S (Int.toNat k))) (Int.toNat (cbv (U (Int.toNat k)) (S (Int.toNat k)))) w) v → Q (some (.inl v)) h') : av_wp none cd_113 0 [some (.inr (.inr (.inl (some (0))))), some (.inl k), some (.inl l), some (.inl m), some (.inl w)] [] h Q := by
  have F := Fr_rf h
  have nr := C.2.1.2.1
  refine av_wp_seq 1 (pc' := 2) (lv' := [some (.inr (.inr (.inl (some (0))))), some (.inl k), some (.inl l), some (.inl m), some (.inl w)]) (st' := [.inl w]) (h' := h) rfl ?_
  refine wq_k1 (p' := 5) rfl rfl ⟨by omega, by omega⟩ (fun c1 => ?_) (fun c2 => ?_)
  · have c1 : w < (0) := c1
    refine av_wp_seq 1 (pc' := 26) (lv' := [some (.inr (.inr (.inl (some (0))))), some (.inl k), some (.inl l), some (.inl m), some (.inl w)]) (st' := [.inl (-2)]) (h' := h) rfl ?_
    refine av_wp_ret (v := some (.inl (-2))) rfl rfl rfl ?_
    exact hq _ h _ _ C F SU (Or.inr ⟨by omega, rfl⟩)
  · have c2 : (0) ≤ w := c2
    refine av_wp_seq 2 (pc' := 8) (lv' := [some (.inr (.inr (.inl (some (0))))), some (.inl k), some (.inl l), some (.inl m), some (.inl w)]) (st' := [.inl (1), .inl w]) (h' := h) rfl ?_
    refine wq_k2 (p' := 11) rfl rfl ⟨by omega, by omega⟩ ⟨by omega, by omega⟩ (fun c3 => ?_) (fun c4 => ?_)
    · have c3 : (1) < w := c3
      refine av_wp_seq 1 (pc' := 26) (lv' := [some (.inr (.inr (.inl (some (0))))), some (.inl k), some (.inl l), some (.inl m), some (.inl w)]) (st' := [.inl (-2)]) (h' := h) rfl ?_
      refine av_wp_ret (v := some (.inl (-2))) rfl rfl rfl ?_
      exact hq _ h _ _ C F SU (Or.inr ⟨by omega, rfl⟩)
    · have c4 : w ≤ (1) := c4
      refine av_wp_seq 1 (pc' := 12) (lv' := [some (.inr (.inr (.inl (some (0))))), some (.inl k), some (.inl l), some (.inl m), some (.inl w)]) (st' := [.inr (.inr (.inl (some (0))))]) (h' := h) rfl ?_
      refine wq_gr (p' := 15) rfl rfl (congrArg Prod.fst (ly_k C.1.1 0 rfl)) rfl (ly_g C.1.1 0 5 26 rfl) ?_
      refine av_wp_seq 3 (pc' := 18) (lv' := [some (.inr (.inr (.inl (some (0))))), some (.inl k), some (.inl l), some (.inl m), some (.inl w)]) (st' := [.inl m, .inl l, .inl k, .inr (.inr (.inl (some (26))))]) (h' := h) rfl ?_
      refine wq_cv (p' := 21) (av_qc (.invokevirtual 222) 50 3 0 3) 5 cd_50 [.inl m, .inl l, .inl k] (26) 3 [some (.inr (.inr (.inl (some (26))))), some (.inl k), some (.inl l), some (.inl m), none] rfl rfl rfl pp_50 rfl rfl rfl (congrArg Prod.fst (ly_k C.1.1 26 rfl)) rfl rfl rfl rfl ?_
      refine cx_50 C (k) (by omega) (l) (by omega) (m) (by omega) CR SU (fun h5 r6 n7 C8 F9 U10 z11 => ?_) (fun z12 h13 r14 n15 t16 c17 X18 U19 => ?_)
      · show av_wp _ cd_113 21 [some (.inr (.inr (.inl (some (0))))), some (.inl k), some (.inl l), some (.inl m), some (.inl w)] [.inl (0)] h5 _
        refine av_wp_seq 2 (pc' := 26) (lv' := [some (.inr (.inr (.inl (some (0))))), some (.inl k), some (.inl l), some (.inl m), some (.inl w)]) (st' := [.inl (-2)]) (h' := h5) rfl ?_
        refine av_wp_ret (v := some (.inl (-2))) rfl rfl rfl ?_
        exact hq _ h5 _ _ C8 F9 U10 (Or.inr ⟨by omega, rfl⟩)
      · have G201 := CWF_sea (ro := (hA h (6 + Int.toNat l))) (CR.1 (Int.toNat k) (by omega)) (rl_8 (CR.2.2.2 l (by omega) (by omega))).1 (brv_b (U (Int.toNat k)) (srt U S (hA h (6 + Int.toNat l)) (Int.toNat k)))
        have G202 := CWF_sea (ro := (hA h (6 + Int.toNat m))) (CR.1 (Int.toNat k) (by omega)) (rl_8 (CR.2.2.2 m (by omega) (by omega))).1 (brv_b (U (Int.toNat k)) (srt U S (hA h (6 + Int.toNat m)) (Int.toNat k)))
        have G20c := cbv_d (U (Int.toNat k)) (S (Int.toNat k))
        have G20d := CR.2.2.1 (Int.toNat k) (by omega)
        show av_wp _ cd_113 21 [some (.inr (.inr (.inl (some (0))))), some (.inl k), some (.inl l), some (.inl m), some (.inl w)] [.inl (1)] h13 _
        refine av_wp_seq 2 (pc' := 29) (lv' := [some (.inr (.inr (.inl (some (0))))), some (.inl k), some (.inl l), some (.inl m), some (.inl w)]) (st' := [.inl w]) (h' := h13) rfl ?_
        refine wq_k1 (p' := 32) rfl rfl ⟨by omega, by omega⟩ (fun c21 => ?_) (fun c22 => ?_)
        · have c21 : w ≠ (0) := c21
          refine av_wp_seq 1 (pc' := 43) (lv' := [some (.inr (.inr (.inl (some (0))))), some (.inl k), some (.inl l), some (.inl m), some (.inl w)]) (st' := [.inr (.inr (.inl (some (0))))]) (h' := h13) rfl ?_
          refine wq_gr (p' := 46) rfl rfl (congrArg Prod.fst (ly_k X18.1.1.1 0 rfl)) rfl (ly_g X18.1.1.1 0 5 26 rfl) ?_
          refine wq_cv (p' := 49) (av_qc (.invokevirtual 228) 61 0 0 3) 2 cd_61 [] (26) 3 [some (.inr (.inr (.inl (some (26))))), none] rfl rfl rfl pp_61 rfl rfl rfl (congrArg Prod.fst (ly_k X18.1.1.1 26 rfl)) rfl rfl rfl rfl ?_
          refine cx_61 X18 G201 G202 (CR.1 (Int.toNat k) (by omega)).1 (CR.2.2.2 l (by omega) (by omega)) (CR.2.2.2 m (by omega) (by omega)) (by omega) (fun v23 h24 X25 p26 => ?_)
          show av_wp _ cd_113 49 [some (.inr (.inr (.inl (some (0))))), some (.inl k), some (.inl l), some (.inl m), some (.inl w)] [.inl v23] h24 _
          refine av_wp_ret (v := some (.inl v23)) rfl rfl rfl ?_
          exact hq _ h24 _ _ X25.1 X25.2.1 U19 (Or.inl ⟨by omega, by unfold apv; rw [if_neg (by omega)]; exact p26⟩)
        · have c22 : w = (0) := c22
          refine av_wp_seq 1 (pc' := 33) (lv' := [some (.inr (.inr (.inl (some (0))))), some (.inl k), some (.inl l), some (.inl m), some (.inl w)]) (st' := [.inr (.inr (.inl (some (0))))]) (h' := h13) rfl ?_
          refine wq_gr (p' := 36) rfl rfl (congrArg Prod.fst (ly_k X18.1.1.1 0 rfl)) rfl (ly_g X18.1.1.1 0 5 26 rfl) ?_
          refine wq_cv (p' := 39) (av_qc (.invokevirtual 225) 60 0 0 3) 3 cd_60 [] (26) 3 [some (.inr (.inr (.inl (some (26))))), none, none] rfl rfl rfl pp_60 rfl rfl rfl (congrArg Prod.fst (ly_k X18.1.1.1 26 rfl)) rfl rfl rfl rfl ?_
          refine cx_60 X18 G201 G202 (CR.1 (Int.toNat k) (by omega)).1 (CR.2.2.2 l (by omega) (by omega)) (CR.2.2.2 m (by omega) (by omega)) (by omega) (fun v27 h28 X29 p30 => ?_)
          show av_wp _ cd_113 39 [some (.inr (.inr (.inl (some (0))))), some (.inl k), some (.inl l), some (.inl m), some (.inl w)] [.inl v27] h28 _
          refine av_wp_seq 1 (pc' := 49) (lv' := [some (.inr (.inr (.inl (some (0))))), some (.inl k), some (.inl l), some (.inl m), some (.inl w)]) (st' := [.inl v27]) (h' := h28) rfl ?_
          refine av_wp_ret (v := some (.inl v27)) rfl rfl rfl ?_
          exact hq _ h28 _ _ X29.1 X29.2.1 U19 (Or.inl ⟨by omega, by unfold apv; rw [if_pos (by omega)]; exact p30⟩)

