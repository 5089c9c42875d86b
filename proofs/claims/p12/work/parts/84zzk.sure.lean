/-! SURE, exactly: the class -/
theorem t5_v {f : Int → Int} {A : Nat → Int} {t0 t1 t2 t3 t4 v w : Int} {c : Nat} (x : T5 A t0 t1 t2 t3 t4) (y : t0 = ta f c 0 ∧ t1 = ta f c 1 ∧ t2 = ta f c 2 ∧ t3 = ta f c 3 ∧ t4 = ta f c 4) (h : A (Int.toNat w) = v) (hw : 0 ≤ w ∧ w ≤ 4) : v = ta f c (Int.toNat w) := by
  obtain ⟨x0, x1, x2, x3, x4⟩ := x
  obtain ⟨y0, y1, y2, y3, y4⟩ := y
  rw [← h]
  rcases (show w = 0 ∨ w = 1 ∨ w = 2 ∨ w = 3 ∨ w = 4 by omega) with e | e | e | e | e <;> subst e
  · exact x0.trans y0
  · exact x1.trans y1
  · exact x2.trans y2
  · exact x3.trans y3
  · exact x4.trans y4
set_option maxRecDepth 100000 in
set_option maxHeartbeats 4000000 in
theorem cz_51n {h : av_H} {U : Nat → Nat → Int} {S : Nat → Nat} {n : Int} {sr nd : Nat → Int} (C : CJ U S n sr nd h) {b : Nat} {m l : Int} {Q : Option av_V → av_H → Prop} (hq : Q (some (.inl 0)) h) : av_wp none cd_51 0 [some (.inr (.inr (.inl (some (26))))), some (.inr (.inr (.inl (some (b))))), some (.inr (.inr (.inl none))), some (.inl m), some (.inl l)] [] h Q := by
  refine av_wp_seq 3 (pc' := 25) (lv' := [some (.inr (.inr (.inl (some (26))))), some (.inr (.inr (.inl (some (b))))), some (.inr (.inr (.inl none))), some (.inl m), some (.inl l)]) (st' := [.inl (0)]) (h' := h) rfl ?_
  refine av_wp_ret (v := some (.inl (0))) rfl rfl rfl ?_
  exact hq

set_option maxRecDepth 100000 in
set_option maxHeartbeats 4000000 in
theorem cx_49 {h : av_H} {U : Nat → Nat → Int} {S : Nat → Nat} {n : Int} {sr nd : Nat → Int} (C : CJ U S n sr nd h) (k : Int) (qk : -2147483648 ≤ k ∧ k ≤ 2147483647) (l : Int) (ql : -2147483648 ≤ l ∧ l ≤ 2147483647) (CR : CRT U S n (hF h 3 4) (fun k => hA h (6 + k))) (SU : SUA U S n (hF h 3 4) (fun k => hA h (6 + k)) sr) {Q : Option av_V → av_H → Prop} (hq0 : (k < 0 ∨ n ≤ k ∨ (cbv (U (Int.toNat k)) (S (Int.toNat k))) = -1 ∨ l < 0 ∨ hF h 3 4 ≤ l) → Q (some (.inl 0)) h) (hq1 : (0 ≤ k ∧ k < n) → (cbv (U (Int.toNat k)) (S (Int.toNat k))) ≠ -1 → (0 ≤ l ∧ l < hF h 3 4) → ∀ h' sr' nd' t c a', CJ U S n sr' nd' h' → FP 35 h h' → SUA U S n (hF h 3 4) (fun k => hA h (6 + k)) sr' → EB 35 t c (S (Int.toNat k)) (6 + Int.toNat l) (cbv (U (Int.toNat k)) (S (Int.toNat k))) (U (Int.toNat k)) (hA h (6 + Int.toNat l)) a' (hF h' 35 13) (hF h' 35 14) (hF h' 35 15) h' → HZ (U (Int.toNat k)) a' → TKR (U (Int.toNat k)) (hA h (6 + Int.toNat l)) (bxx U S (hA h (6 + Int.toNat l)) (Int.toNat k)) (S (Int.toNat k)) a' → Q (some (.inl 1)) h') : av_wp none cd_49 0 [some (.inr (.inr (.inl (some (26))))), some (.inl k), some (.inl l)] [] h Q := by
  have F := Fr_rf h
  have nr := C.2.1.2.1
  refine av_wp_seq 2 (pc' := 2) (lv' := [some (.inr (.inr (.inl (some (26))))), some (.inl k), some (.inl l)]) (st' := [.inr (.inr (.inl (some (26)))), .inr (.inr (.inl (some (26))))]) (h' := h) rfl ?_
  refine wq_gr (p' := 5) rfl rfl (congrArg Prod.fst (ly_k C.1.1 26 rfl)) rfl (ly_g C.1.1 26 1 35 rfl) ?_
  refine av_wp_seq 1 (pc' := 6) (lv' := [some (.inr (.inr (.inl (some (26))))), some (.inl k), some (.inl l)]) (st' := [.inr (.inr (.inl (some (26)))), .inr (.inr (.inl (some (35)))), .inr (.inr (.inl (some (26))))]) (h' := h) rfl ?_
  refine wq_gr (p' := 9) rfl rfl (congrArg Prod.fst (ly_k C.1.1 26 rfl)) rfl (ly_g C.1.1 26 0 3 rfl) ?_
  refine av_wp_seq 1 (pc' := 10) (lv' := [some (.inr (.inr (.inl (some (26))))), some (.inl k), some (.inl l)]) (st' := [.inl k, .inr (.inr (.inl (some (3)))), .inr (.inr (.inl (some (35)))), .inr (.inr (.inl (some (26))))]) (h' := h) rfl ?_
  refine wq_cv (p' := 13) (av_qc (.invokevirtual 76) 69 1 0 5) 2 cd_69 [.inl k] (3) 5 [some (.inr (.inr (.inl (some (3))))), some (.inl k)] rfl rfl rfl pp_69 rfl rfl rfl (congrArg Prod.fst (ly_k C.1.1 3 rfl)) rfl rfl rfl rfl ?_
  refine cz_69 C (k) (by omega) (fun z1 => ?_) (fun z1 z2 t3 c4 y5 y6 => ?_)
  · show av_wp _ cd_49 13 [some (.inr (.inr (.inl (some (26))))), some (.inl k), some (.inl l)] [.inr (.inr (.inl none)), .inr (.inr (.inl (some (35)))), .inr (.inr (.inl (some (26))))] h _
    refine av_wp_seq 2 (pc' := 15) (lv' := [some (.inr (.inr (.inl (some (26))))), some (.inl k), some (.inl l)]) (st' := [.inl l, .inl k, .inr (.inr (.inl none)), .inr (.inr (.inl (some (35)))), .inr (.inr (.inl (some (26))))]) (h' := h) rfl ?_
    refine wq_cv (p' := 18) (av_qc (.invokevirtual 85) 51 4 0 3) 5 cd_51 [.inl l, .inl k, .inr (.inr (.inl none)), .inr (.inr (.inl (some (35))))] (26) 3 [some (.inr (.inr (.inl (some (26))))), some (.inr (.inr (.inl (some (35))))), some (.inr (.inr (.inl none))), some (.inl k), some (.inl l)] rfl rfl rfl pp_51 rfl rfl rfl (congrArg Prod.fst (ly_k C.1.1 26 rfl)) rfl rfl rfl rfl ?_
    refine cz_51n C ?_
    show av_wp _ cd_49 18 [some (.inr (.inr (.inl (some (26))))), some (.inl k), some (.inl l)] [.inl (0)] h _
    refine av_wp_ret (v := some (.inl (0))) rfl rfl rfl ?_
    exact hq0 (by omega)
  · have g7 := co_s12 y5
    have g8 := co_cbr y5
    show av_wp _ cd_49 13 [some (.inr (.inr (.inl (some (26))))), some (.inl k), some (.inl l)] [.inr (.inr (.inl (some (t3)))), .inr (.inr (.inl (some (35)))), .inr (.inr (.inl (some (26))))] h _
    refine av_wp_seq 2 (pc' := 15) (lv' := [some (.inr (.inr (.inl (some (26))))), some (.inl k), some (.inl l)]) (st' := [.inl l, .inl k, .inr (.inr (.inl (some (t3)))), .inr (.inr (.inl (some (35)))), .inr (.inr (.inl (some (26))))]) (h' := h) rfl ?_
    refine wq_cv (p' := 18) (av_qc (.invokevirtual 85) 51 4 0 3) 5 cd_51 [.inl l, .inl k, .inr (.inr (.inl (some (t3)))), .inr (.inr (.inl (some (35))))] (26) 3 [some (.inr (.inr (.inl (some (26))))), some (.inr (.inr (.inl (some (35))))), some (.inr (.inr (.inl (some (t3))))), some (.inl k), some (.inl l)] rfl rfl rfl pp_51 rfl rfl rfl (congrArg Prod.fst (ly_k C.1.1 26 rfl)) rfl rfl rfl rfl ?_
    refine cz_51 C (Or.inl rfl) y5 y6 (k) (by omega) (by omega) CR.1 (fun q hq => (CR.1 (Int.toNat k) (by omega)).2.2.1 q hq |> fun w => ⟨w.1, by omega⟩) CR.2.1 CR.2.2.1 (l) (by omega) SU (fun l h1 h2 => (rl_8 (CR.2.2.2 l h1 h2)).1) (fun z9 => ?_) (fun z9 z10 z11 h12 r13 n14 a15 C16 F17 U18 E19 Z20 T21 => ?_)
    · show av_wp _ cd_49 18 [some (.inr (.inr (.inl (some (26))))), some (.inl k), some (.inl l)] [.inl (0)] h _
      refine av_wp_ret (v := some (.inl (0))) rfl rfl rfl ?_
      exact hq0 (by omega)
    · show av_wp _ cd_49 18 [some (.inr (.inr (.inl (some (26))))), some (.inl k), some (.inl l)] [.inl (1)] h12 _
      refine av_wp_ret (v := some (.inl (1))) rfl rfl rfl ?_
      exact hq1 (by omega) (by omega) (by omega) h12 _ _ _ _ _ C16 F17 U18 E19 Z20 T21

set_option maxRecDepth 100000 in
set_option maxHeartbeats 4000000 in
theorem cx_109 {h : av_H} {U : Nat → Nat → Int} {S : Nat → Nat} {n : Int} {sr nd : Nat → Int} (C : CJ U S n sr nd h) (k : Int) (qk : -2147483648 ≤ k ∧ k ≤ 2147483647) (l : Int) (ql : -2147483648 ≤ l ∧ l ≤ 2147483647) (w : Int) (qw : -2147483648 ≤ w ∧ w ≤ 2147483647) (CR : CRT U S n (hF h 3 4) (fun k => hA h (6 + k))) (SU : SUA U S n (hF h 3 4) (fun k => hA h (6 + k)) sr) {Q : Option av_V → av_H → Prop} (hq : ∀ (v : Int) h' sr' nd', CJ U S n sr' nd' h' → Fr h h' → SUA U S n (hF h 3 4) (fun k => hA h (6 + k)) sr' → RSP (okx U S n (hF h 3 4) k l 0 ∧ (0 ≤ w ∧ w ≤ 4)) (-2) (ta (fun q => (bgn (U (Int.toNat k)) (hA h (6 + Int.toNat l)) (bxx U S (hA h (6 + Int.toNat l)) (Int.toNat k)) (S (Int.toNat k)) q).2.2) (Int.toNat (cbv (U (Int.toNat k)) (S (Int.toNat k)))) (Int.toNat w)) v → Q (some (.inl v)) h') : av_wp none cd_109 0 [some (.inr (.inr (.inl (some (0))))), some (.inl k), some (.inl l), some (.inl w)] [] h Q := by
  have F := Fr_rf h
  have nr := C.2.1.2.1
  refine av_wp_seq 1 (pc' := 1) (lv' := [some (.inr (.inr (.inl (some (0))))), some (.inl k), some (.inl l), some (.inl w)]) (st' := [.inl w]) (h' := h) rfl ?_
  refine wq_k1 (p' := 4) rfl rfl ⟨by omega, by omega⟩ (fun c1 => ?_) (fun c2 => ?_)
  · have c1 : w < (0) := c1
    refine av_wp_seq 1 (pc' := 23) (lv' := [some (.inr (.inr (.inl (some (0))))), some (.inl k), some (.inl l), some (.inl w)]) (st' := [.inl (-2)]) (h' := h) rfl ?_
    refine av_wp_ret (v := some (.inl (-2))) rfl rfl rfl ?_
    exact hq _ h _ _ C F SU (Or.inr ⟨fun z => by have z1 := z.1; unfold okx at z1; omega, rfl⟩)
  · have c2 : (0) ≤ w := c2
    refine av_wp_seq 2 (pc' := 6) (lv' := [some (.inr (.inr (.inl (some (0))))), some (.inl k), some (.inl l), some (.inl w)]) (st' := [.inl (5), .inl w]) (h' := h) rfl ?_
    refine wq_k2 (p' := 9) rfl rfl ⟨by omega, by omega⟩ ⟨by omega, by omega⟩ (fun c3 => ?_) (fun c4 => ?_)
    · have c3 : (5) ≤ w := c3
      refine av_wp_seq 1 (pc' := 23) (lv' := [some (.inr (.inr (.inl (some (0))))), some (.inl k), some (.inl l), some (.inl w)]) (st' := [.inl (-2)]) (h' := h) rfl ?_
      refine av_wp_ret (v := some (.inl (-2))) rfl rfl rfl ?_
      exact hq _ h _ _ C F SU (Or.inr ⟨fun z => by have z1 := z.1; unfold okx at z1; omega, rfl⟩)
    · have c4 : w < (5) := c4
      refine av_wp_seq 1 (pc' := 10) (lv' := [some (.inr (.inr (.inl (some (0))))), some (.inl k), some (.inl l), some (.inl w)]) (st' := [.inr (.inr (.inl (some (0))))]) (h' := h) rfl ?_
      refine wq_gr (p' := 13) rfl rfl (congrArg Prod.fst (ly_k C.1.1 0 rfl)) rfl (ly_g C.1.1 0 5 26 rfl) ?_
      refine av_wp_seq 2 (pc' := 15) (lv' := [some (.inr (.inr (.inl (some (0))))), some (.inl k), some (.inl l), some (.inl w)]) (st' := [.inl l, .inl k, .inr (.inr (.inl (some (26))))]) (h' := h) rfl ?_
      refine wq_cv (p' := 18) (av_qc (.invokevirtual 203) 49 2 0 3) 3 cd_49 [.inl l, .inl k] (26) 3 [some (.inr (.inr (.inl (some (26))))), some (.inl k), some (.inl l)] rfl rfl rfl pp_49 rfl rfl rfl (congrArg Prod.fst (ly_k C.1.1 26 rfl)) rfl rfl rfl rfl ?_
      refine cx_49 C (k) (by omega) (l) (by omega) CR SU (fun z5 => ?_) (fun z5 z6 z7 h8 r9 n10 t11 c12 a13 C14 F15 U16 E17 Z18 T19 => ?_)
      · show av_wp _ cd_109 18 [some (.inr (.inr (.inl (some (0))))), some (.inl k), some (.inl l), some (.inl w)] [.inl (0)] h _
        refine av_wp_seq 2 (pc' := 23) (lv' := [some (.inr (.inr (.inl (some (0))))), some (.inl k), some (.inl l), some (.inl w)]) (st' := [.inl (-2)]) (h' := h) rfl ?_
        refine av_wp_ret (v := some (.inl (-2))) rfl rfl rfl ?_
        exact hq _ h _ _ C F SU (Or.inr ⟨fun z => by have z1 := z.1; unfold okx at z1; omega, rfl⟩)
      · have X20 : SQ U S n r9 n10 t11 c12 (S (Int.toNat k)) (6 + Int.toNat l) (cbv (U (Int.toNat k)) (S (Int.toNat k))) (U (Int.toNat k)) (hA h (6 + Int.toNat l)) (bxx U S (hA h (6 + Int.toNat l)) (Int.toNat k)) a13 (hF h8 35 13) (hF h8 35 14) (hF h8 35 15) (hA h8 31 0) (hA h8 31 1) (hA h8 31 2) (hA h8 31 3) (hA h8 31 4) h h8 := ⟨C14, E17, T19, Z18, F15.1, rfl, rfl, rfl, rfl, rfl⟩
        have G21 := CWF_sea (ro := (hA h (6 + Int.toNat l))) (CR.1 (Int.toNat k) (by omega)) (rl_8 (CR.2.2.2 l (by omega) (by omega))).1 (brv_b (U (Int.toNat k)) (srt U S (hA h (6 + Int.toNat l)) (Int.toNat k)))
        have H22 : ∀ x : Int, 0 ≤ x → x ≤ 1023 → (bgn (U (Int.toNat k)) (hA h (6 + Int.toNat l)) (bxx U S (hA h (6 + Int.toNat l)) (Int.toNat k)) (S (Int.toNat k)) x).2.2 = 9999 ∨ (0 ≤ (bgn (U (Int.toNat k)) (hA h (6 + Int.toNat l)) (bxx U S (hA h (6 + Int.toNat l)) (Int.toNat k)) (S (Int.toNat k)) x).2.2 ∧ (bgn (U (Int.toNat k)) (hA h (6 + Int.toNat l)) (bxx U S (hA h (6 + Int.toNat l)) (Int.toNat k)) (S (Int.toNat k)) x).2.2 < 9999) := fun x h0 h1 => bgn_0 (HBd_g (x := x) (CR.1 (Int.toNat k) (by omega)).2.2.2.2.2 (fun q hq i hi => arr_0 (by have := (CR.1 (Int.toNat k) (by omega)).2.1.2; omega)) ⟨h0, h1⟩)
        have q23 := cbv_d (U (Int.toNat k)) (S (Int.toNat k))
        have q23a := CR.2.2.1 (Int.toNat k) (by omega)
        show av_wp _ cd_109 18 [some (.inr (.inr (.inl (some (0))))), some (.inl k), some (.inl l), some (.inl w)] [.inl (1)] h8 _
        refine av_wp_seq 2 (pc' := 25) (lv' := [some (.inr (.inr (.inl (some (0))))), some (.inl k), some (.inl l), some (.inl w)]) (st' := [.inr (.inr (.inl (some (0))))]) (h' := h8) rfl ?_
        refine wq_gr (p' := 28) rfl rfl (congrArg Prod.fst (ly_k C14.1.1 0 rfl)) rfl (ly_g C14.1.1 0 5 26 rfl) ?_
        refine wq_cv (p' := 31) (av_qc (.invokevirtual 207) 56 0 0 3) 2 cd_56 [] (26) 3 [some (.inr (.inr (.inl (some (26))))), none] rfl rfl rfl pp_56 rfl rfl rfl (congrArg Prod.fst (ly_k C14.1.1 26 rfl)) rfl rfl rfl rfl ?_
        refine cx_56 X20 G21 H22 (by omega) (fun h24 a25 m26 m27 m28 t29 t30 t31 t32 t33 X34 Y35 => ?_)
        show av_wp _ cd_109 31 [some (.inr (.inr (.inl (some (0))))), some (.inl k), some (.inl l), some (.inl w)] [] h24 _
        refine av_wp_seq 1 (pc' := 32) (lv' := [some (.inr (.inr (.inl (some (0))))), some (.inl k), some (.inl l), some (.inl w)]) (st' := [.inr (.inr (.inl (some (0))))]) (h' := h24) rfl ?_
        refine wq_gr (p' := 35) rfl rfl (congrArg Prod.fst (ly_k X34.1.1.1 0 rfl)) rfl (ly_g X34.1.1.1 0 5 26 rfl) ?_
        refine wq_gr (p' := 38) rfl rfl (congrArg Prod.fst (ly_k X34.1.1.1 26 rfl)) rfl (ly_g X34.1.1.1 26 8 31 rfl) ?_
        refine av_wp_seq 1 (pc' := 39) (lv' := [some (.inr (.inr (.inl (some (0))))), some (.inl k), some (.inl l), some (.inl w)]) (st' := [.inl w, .inr (.inr (.inl (some (31))))]) (h' := h24) rfl ?_
        obtain ⟨v36, e37⟩ : ∃ v, hA h24 31 (Int.toNat (w)) = v := ⟨_, rfl⟩
        refine wq_al (p' := 40) (n := 5) rfl rfl (ly_k X34.1.1.1 31 rfl) (by omega) (e37) ?_
        refine av_wp_ret (v := some (.inl v36)) rfl rfl rfl ?_
        exact hq _ h24 _ _ X34.1 X34.2.2.2.2.1 U16 (Or.inl ⟨⟨by unfold okx; omega, by omega⟩, (t5_v X34.2.2.2.2.2 Y35 e37 (by omega))⟩)

