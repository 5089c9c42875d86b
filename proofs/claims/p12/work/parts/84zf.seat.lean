/-! A CASE IS SEATED, exactly -/
set_option maxRecDepth 100000 in
set_option maxHeartbeats 4000000 in
theorem cz_51 {h : av_H} {U : Nat → Nat → Int} {S : Nat → Nat} {n : Int} {sr nd : Nat → Int} (C : CJ U S n sr nd h) {b : Nat} (hb : bn b) {t c s : Nat} {cb : Int} (o : CO h t c s cb) {u : Nat → Int} (hu : hA h c = u) (m : Int) (qm : 0 ≤ m ∧ m ≤ 15) (mn : m ≤ n) (WF : ∀ i : Nat, (i : Int) < n → CWF (U i) (S i) i) (GM : ∀ k, k < s → -1 ≤ u (21 * k + 6) ∧ u (21 * k + 6) < m) (CB16 : ∀ i q j : Nat, (i : Int) < n → j < 4 → U i (21 * q + 15 + j) ≤ 16) (CB1 : ∀ i : Nat, (i : Int) < n → 1 ≤ cbf (U i) (S i)) (l : Int) (ql : -2147483648 ≤ l ∧ l ≤ 2147483647) (SU : SUA U S n (hF h 3 4) (fun k => hA h (6 + k)) sr) (R8 : ∀ l : Int, 0 ≤ l → l < hF h 3 4 → -1 ≤ hA h (6 + Int.toNat l) 8) {Q : Option av_V → av_H → Prop} (hq0 : (cb = -1 ∨ l < 0 ∨ hF h 3 4 ≤ l) → Q (some (.inl 0)) h) (hq1 : cb ≠ -1 → 0 ≤ l → l < hF h 3 4 → ∀ h' sr' nd' a', CJ U S n sr' nd' h' → FP b h h' → SUA U S n (hF h 3 4) (fun k => hA h (6 + k)) sr' → EB b t c s (6 + Int.toNat l) cb u (hA h (6 + Int.toNat l)) a' (hF h' b 13) (hF h' b 14) (hF h' b 15) h' → HZ u a' → TKR u (hA h (6 + Int.toNat l)) (brv u (srt U S (hA h (6 + Int.toNat l)) (Int.toNat m))) s a' → Q (some (.inl 1)) h') : av_wp none cd_51 0 [some (.inr (.inr (.inl (some (26))))), some (.inr (.inr (.inl (some (b))))), some (.inr (.inr (.inl (some (t))))), some (.inl m), some (.inl l)] [] h Q := by
  have F := FS_rf h
  have nr := C.2.1.2.1
  have s12 := co_s12 o
  have cbr := co_cbr o
  refine av_wp_seq 3 (pc' := 5) (lv' := [some (.inr (.inr (.inl (some (26))))), some (.inr (.inr (.inl (some (b))))), some (.inr (.inr (.inl (some (t))))), some (.inl m), some (.inl l)]) (st' := [.inr (.inr (.inl (some (t))))]) (h' := h) rfl ?_
  refine wq_gi (p' := 8) rfl rfl (congrArg Prod.fst (co_kt (CO_fr C.1.1 o F.1))) rfl (co_cb (CO_fr C.1.1 o F.1)) ?_
  refine av_wp_seq 1 (pc' := 9) (lv' := [some (.inr (.inr (.inl (some (26))))), some (.inr (.inr (.inl (some (b))))), some (.inr (.inr (.inl (some (t))))), some (.inl m), some (.inl l)]) (st' := [.inl (-1), .inl cb]) (h' := h) rfl ?_
  refine wq_k2 (p' := 12) rfl rfl ⟨by omega, by omega⟩ ⟨by omega, by omega⟩ (fun c1 => ?_) (fun c2 => ?_)
  · have c1 : cb = (-1) := c1
    refine av_wp_seq 1 (pc' := 25) (lv' := [some (.inr (.inr (.inl (some (26))))), some (.inr (.inr (.inl (some (b))))), some (.inr (.inr (.inl (some (t))))), some (.inl m), some (.inl l)]) (st' := [.inl (0)]) (h' := h) rfl ?_
    refine av_wp_ret (v := some (.inl (0))) rfl rfl rfl ?_
    exact hq0 (by omega)
  · have c2 : cb ≠ (-1) := c2
    refine av_wp_seq 1 (pc' := 13) (lv' := [some (.inr (.inr (.inl (some (26))))), some (.inr (.inr (.inl (some (b))))), some (.inr (.inr (.inl (some (t))))), some (.inl m), some (.inl l)]) (st' := [.inr (.inr (.inl (some (26))))]) (h' := h) rfl ?_
    refine wq_gr (p' := 16) rfl rfl (congrArg Prod.fst (ly_k C.1.1 26 rfl)) rfl (ly_g C.1.1 26 0 3 rfl) ?_
    refine av_wp_seq 1 (pc' := 18) (lv' := [some (.inr (.inr (.inl (some (26))))), some (.inr (.inr (.inl (some (b))))), some (.inr (.inr (.inl (some (t))))), some (.inl m), some (.inl l)]) (st' := [.inl l, .inr (.inr (.inl (some (3))))]) (h' := h) rfl ?_
    refine wq_cv (p' := 21) (av_qc (.invokevirtual 93) 70 1 0 5) 2 cd_70 [.inl l] (3) 5 [some (.inr (.inr (.inl (some (3))))), some (.inl l)] rfl rfl rfl pp_70 rfl rfl rfl (congrArg Prod.fst (ly_k C.1.1 3 rfl)) rfl rfl rfl rfl ?_
    refine cx_70 C.1 (l) (by omega) (fun v3 p4 => ?_)
    have g5 := ic_lc C.1
    show av_wp _ cd_51 21 [some (.inr (.inr (.inl (some (26))))), some (.inr (.inr (.inl (some (b))))), some (.inr (.inr (.inl (some (t))))), some (.inl m), some (.inl l)] [.inl v3] h _
    refine wq_k1 (p' := 24) rfl rfl ⟨by omega, by omega⟩ (fun c6 => ?_) (fun c7 => ?_)
    · have c6 : v3 ≠ (0) := c6
      refine av_wp_seq 4 (pc' := 30) (lv' := [some (.inr (.inr (.inl (some (26))))), some (.inr (.inr (.inl (some (b))))), some (.inr (.inr (.inl (some (t))))), some (.inl m), some (.inl l)]) (st' := [.inr (.inr (.inl (some (26)))), .inl m, .inr (.inr (.inl (some (t)))), .inr (.inr (.inl (some (26))))]) (h' := h) rfl ?_
      refine wq_gr (p' := 33) rfl rfl (congrArg Prod.fst (ly_k C.1.1 26 rfl)) rfl (ly_g C.1.1 26 0 3 rfl) ?_
      refine wq_gr (p' := 36) rfl rfl (congrArg Prod.fst (ly_k C.1.1 3 rfl)) rfl (ly_g C.1.1 3 1 5 rfl) ?_
      refine av_wp_seq 1 (pc' := 38) (lv' := [some (.inr (.inr (.inl (some (26))))), some (.inr (.inr (.inl (some (b))))), some (.inr (.inr (.inl (some (t))))), some (.inl m), some (.inl l)]) (st' := [.inl l, .inr (.inr (.inl (some (5)))), .inl m, .inr (.inr (.inl (some (t)))), .inr (.inr (.inl (some (26))))]) (h' := h) rfl ?_
      have u8 : (Int.toNat (l)) < 8 := by omega
      refine wq_ar (p' := 39) (n := 8) (k := 32) rfl rfl (ly_k C.1.1 5 rfl) (by omega) (by omega) (C.1.1.2.2.1 _ u8) ?_
      refine av_wp_seq 3 (pc' := 44) (lv' := [some (.inr (.inr (.inl (some (26))))), some (.inr (.inr (.inl (some (b))))), some (.inr (.inr (.inl (some (t))))), some (.inl m), some (.inl l)]) (st' := [.inl (l * (16)), .inr (.inr (.inl (some (6 + (Int.toNat (l)))))), .inl m, .inr (.inr (.inl (some (t)))), .inr (.inr (.inl (some (26))))]) (h' := h) rfl ?_
      refine wq_cv (p' := 47) (av_qc (.invokevirtual 100) 52 4 0 3) 8 cd_52 [.inl (l * (16)), .inr (.inr (.inl (some (6 + (Int.toNat (l)))))), .inl m, .inr (.inr (.inl (some (t))))] (26) 3 [some (.inr (.inr (.inl (some (26))))), some (.inr (.inr (.inl (some (t))))), some (.inl m), some (.inr (.inr (.inl (some (6 + (Int.toNat (l))))))), some (.inl (l * (16))), none, none, none] rfl rfl rfl pp_52 rfl rfl rfl (congrArg Prod.fst (ly_k C.1.1 26 rfl)) rfl rfl rfl rfl ?_
      have su0 := SUA_i (l := l) SU (by omega) (by omega) (by omega) (m := Int.toNat m) (by omega)
      refine cx_52 C o hu m qm mn WF GM CB16 CB1 (r := 6 + (Int.toNat (l))) (ly_l C.1.1 u8) (rwc_l u8) rfl (R8 l (by omega) (by omega)) ((l * (16))) (by omega) su0 (fun h9 r10 n11 C12 F13 U14 O15 K16 => ?_)
      have su1 := SUA_s SU (by omega) (by omega) (by omega) (by omega) U14 O15
      show av_wp _ cd_51 47 [some (.inr (.inr (.inl (some (26))))), some (.inr (.inr (.inl (some (b))))), some (.inr (.inr (.inl (some (t))))), some (.inl m), some (.inl l)] [] h9 _
      refine av_wp_seq 3 (pc' := 50) (lv' := [some (.inr (.inr (.inl (some (26))))), some (.inr (.inr (.inl (some (b))))), some (.inr (.inr (.inl (some (t))))), some (.inl m), some (.inl l)]) (st' := [.inr (.inr (.inl (some (26)))), .inr (.inr (.inl (some (t)))), .inr (.inr (.inl (some (b))))]) (h' := h9) rfl ?_
      refine wq_gr (p' := 53) rfl rfl (congrArg Prod.fst (ly_k C12.1.1 26 rfl)) rfl (ly_g C12.1.1 26 0 3 rfl) ?_
      refine wq_gr (p' := 56) rfl rfl (congrArg Prod.fst (ly_k C12.1.1 3 rfl)) rfl (ly_g C12.1.1 3 1 5 rfl) ?_
      refine av_wp_seq 1 (pc' := 58) (lv' := [some (.inr (.inr (.inl (some (26))))), some (.inr (.inr (.inl (some (b))))), some (.inr (.inr (.inl (some (t))))), some (.inl m), some (.inl l)]) (st' := [.inl l, .inr (.inr (.inl (some (5)))), .inr (.inr (.inl (some (t)))), .inr (.inr (.inl (some (b))))]) (h' := h9) rfl ?_
      have u17 : (Int.toNat (l)) < 8 := by omega
      refine wq_ar (p' := 59) (n := 8) (k := 32) rfl rfl (ly_k C12.1.1 5 rfl) (by omega) (by omega) (C12.1.1.2.2.1 _ u17) ?_
      refine av_wp_seq 1 (pc' := 60) (lv' := [some (.inr (.inr (.inl (some (26))))), some (.inr (.inr (.inl (some (b))))), some (.inr (.inr (.inl (some (t))))), some (.inl m), some (.inl l)]) (st' := [.inr (.inr (.inl (some (26)))), .inr (.inr (.inl (some (6 + (Int.toNat (l)))))), .inr (.inr (.inl (some (t)))), .inr (.inr (.inl (some (b))))]) (h' := h9) rfl ?_
      refine wq_gr (p' := 63) rfl rfl (congrArg Prod.fst (ly_k C12.1.1 26 rfl)) rfl (ly_g C12.1.1 26 4 27 rfl) ?_
      refine av_wp_seq 3 (pc' := 68) (lv' := [some (.inr (.inr (.inl (some (26))))), some (.inr (.inr (.inl (some (b))))), some (.inr (.inr (.inl (some (t))))), some (.inl m), some (.inl l)]) (st' := [.inl (l * (16)), .inr (.inr (.inl (some (27)))), .inr (.inr (.inl (some (6 + (Int.toNat (l)))))), .inr (.inr (.inl (some (t)))), .inr (.inr (.inl (some (b))))]) (h' := h9) rfl ?_
      refine wq_cv (p' := 71) (av_qc (.invokevirtual 64) 1 4 0 0) 9 cd_1 [.inl (l * (16)), .inr (.inr (.inl (some (27)))), .inr (.inr (.inl (some (6 + (Int.toNat (l)))))), .inr (.inr (.inl (some (t))))] (b) 0 [some (.inr (.inr (.inl (some (b))))), some (.inr (.inr (.inl (some (t))))), some (.inr (.inr (.inl (some (6 + (Int.toNat (l))))))), some (.inr (.inr (.inl (some (27))))), some (.inl (l * (16))), none, none, none, none] rfl rfl rfl pp_1 rfl rfl rfl (congrArg Prod.fst (bn_k0 C12.1.1 hb)) rfl rfl rfl rfl ?_
      refine cx_1 C12.1 hb (CO_fr C.1.1 o F13.1) (ly_l C12.1.1 u17) (rwc_l u17) ((l * (16))) (by omega) (fun h18 a19 E20 Y21 T22 => ?_)
      have w25 : hA h9 (6 + Int.toNat l) = (hA h (6 + Int.toNat l)) := FS_row F13 (rwc_l u17)
      have w26 : hA h9 c = u := (F13.1.2.2.2.2.2.2 c (sA_cells o.2.2.2.2.2.2.2.1)).trans hu
      rw [w26, w25] at E20
      rw [w26, w25, C12.2.2.1] at T22
      have C23 := CJ_by hb C12 Y21 (ib_ic E20.1)
      have F24 := FP_tr (FP_s F13) (FP_y Y21)
      have tk := TKR_of T22 (by omega) K16
      show av_wp _ cd_51 71 [some (.inr (.inr (.inl (some (26))))), some (.inr (.inr (.inl (some (b))))), some (.inr (.inr (.inl (some (t))))), some (.inl m), some (.inl l)] [] h18 _
      refine av_wp_seq 1 (pc' := 72) (lv' := [some (.inr (.inr (.inl (some (26))))), some (.inr (.inr (.inl (some (b))))), some (.inr (.inr (.inl (some (t))))), some (.inl m), some (.inl l)]) (st' := [.inl (1)]) (h' := h18) rfl ?_
      refine av_wp_ret (v := some (.inl (1))) rfl rfl rfl ?_
      exact hq1 (by omega) (by omega) (by omega) h18 _ _ _ C23 F24 su1 (EB_self E20) (fun q hq => Or.inl (T22.1 q hq)) tk
    · have c7 : v3 = (0) := c7
      refine av_wp_seq 1 (pc' := 25) (lv' := [some (.inr (.inr (.inl (some (26))))), some (.inr (.inr (.inl (some (b))))), some (.inr (.inr (.inl (some (t))))), some (.inl m), some (.inl l)]) (st' := [.inl (0)]) (h' := h) rfl ?_
      refine av_wp_ret (v := some (.inl (0))) rfl rfl rfl ?_
      exact hq0 (by omega)

set_option maxRecDepth 100000 in
set_option maxHeartbeats 4000000 in
theorem cz_48 {h : av_H} {U : Nat → Nat → Int} {S : Nat → Nat} {n : Int} {sr nd : Nat → Int} (C : CJ U S n sr nd h) (k : Int) (qk : -2147483648 ≤ k ∧ k ≤ 2147483647) (l : Int) (ql : -2147483648 ≤ l ∧ l ≤ 2147483647) (x : Int) (qx : -2147483648 ≤ x ∧ x ≤ 2147483647) (CR : CRT U S n (hF h 3 4) (fun k => hA h (6 + k))) (SU : SUA U S n (hF h 3 4) (fun k => hA h (6 + k)) sr) {Q : Option av_V → av_H → Prop} (hq0 : (k < 0 ∨ n ≤ k ∨ x < 0 ∨ cbv (U (Int.toNat k)) (S (Int.toNat k)) ≤ x ∨ l < 0 ∨ hF h 3 4 ≤ l) → Q (some (.inl 0)) h) (hq1 : (0 ≤ k ∧ k < n) → (0 ≤ x ∧ x < cbv (U (Int.toNat k)) (S (Int.toNat k))) → (0 ≤ l ∧ l < hF h 3 4) → ∀ h' sr' nd' t c a' m1 m2 m3, CJ U S n sr' nd' h' → FP 35 h h' → SUA U S n (hF h 3 4) (fun k => hA h (6 + k)) sr' → EB 35 t c (S (Int.toNat k)) (6 + Int.toNat l) (cbv (U (Int.toNat k)) (S (Int.toNat k))) (U (Int.toNat k)) (hA h (6 + Int.toNat l)) a' m1 m2 m3 h' → HZ (U (Int.toNat k)) a' → TKR (U (Int.toNat k)) (hA h (6 + Int.toNat l)) (brv (U (Int.toNat k)) (srt U S (hA h (6 + Int.toNat l)) (Int.toNat k))) (S (Int.toNat k)) a' → DCD (U (Int.toNat k)) (hA h (6 + Int.toNat l)) (brv (U (Int.toNat k)) (srt U S (hA h (6 + Int.toNat l)) (Int.toNat k))) (S (Int.toNat k)) x a' → bgn (U (Int.toNat k)) (hA h (6 + Int.toNat l)) (brv (U (Int.toNat k)) (srt U S (hA h (6 + Int.toNat l)) (Int.toNat k))) (S (Int.toNat k)) x = (m1, m2, m3) → MBR (m1, m2, m3) → Q (some (.inl 1)) h') : av_wp none cd_48 0 [some (.inr (.inr (.inl (some (26))))), some (.inl k), some (.inl l), some (.inl x), none] [] h Q := by
  have F := FS_rf h
  have nr := C.2.1.2.1
  refine av_wp_seq 1 (pc' := 1) (lv' := [some (.inr (.inr (.inl (some (26))))), some (.inl k), some (.inl l), some (.inl x), none]) (st' := [.inr (.inr (.inl (some (26))))]) (h' := h) rfl ?_
  refine wq_gr (p' := 4) rfl rfl (congrArg Prod.fst (ly_k C.1.1 26 rfl)) rfl (ly_g C.1.1 26 0 3 rfl) ?_
  refine av_wp_seq 1 (pc' := 5) (lv' := [some (.inr (.inr (.inl (some (26))))), some (.inl k), some (.inl l), some (.inl x), none]) (st' := [.inl k, .inr (.inr (.inl (some (3))))]) (h' := h) rfl ?_
  refine wq_cv (p' := 8) (av_qc (.invokevirtual 76) 69 1 0 5) 2 cd_69 [.inl k] (3) 5 [some (.inr (.inr (.inl (some (3))))), some (.inl k)] rfl rfl rfl pp_69 rfl rfl rfl (congrArg Prod.fst (ly_k C.1.1 3 rfl)) rfl rfl rfl rfl ?_
  refine cz_69 C (k) (by omega) (fun z1 => ?_) (fun z1 z2 t3 c4 y5 y6 => ?_)
  · show av_wp _ cd_48 8 [some (.inr (.inr (.inl (some (26))))), some (.inl k), some (.inl l), some (.inl x), none] [.inr (.inr (.inl none))] h _
    refine av_wp_seq 4 (pc' := 44) (lv' := [some (.inr (.inr (.inl (some (26))))), some (.inl k), some (.inl l), some (.inl x), some (.inr (.inr (.inl none)))]) (st' := [.inl (0)]) (h' := h) rfl ?_
    refine av_wp_ret (v := some (.inl (0))) rfl rfl rfl ?_
    exact hq0 (by omega)
  · have g7 := co_s12 y5
    have g8 := co_cbr y5
    show av_wp _ cd_48 8 [some (.inr (.inr (.inl (some (26))))), some (.inl k), some (.inl l), some (.inl x), none] [.inr (.inr (.inl (some (t3))))] h _
    refine av_wp_seq 4 (pc' := 16) (lv' := [some (.inr (.inr (.inl (some (26))))), some (.inl k), some (.inl l), some (.inl x), some (.inr (.inr (.inl (some (t3)))))]) (st' := [.inl x]) (h' := h) rfl ?_
    refine wq_k1 (p' := 19) rfl rfl ⟨by omega, by omega⟩ (fun c9 => ?_) (fun c10 => ?_)
    · have c9 : x < (0) := c9
      refine av_wp_seq 1 (pc' := 44) (lv' := [some (.inr (.inr (.inl (some (26))))), some (.inl k), some (.inl l), some (.inl x), some (.inr (.inr (.inl (some (t3)))))]) (st' := [.inl (0)]) (h' := h) rfl ?_
      refine av_wp_ret (v := some (.inl (0))) rfl rfl rfl ?_
      exact hq0 (by omega)
    · have c10 : (0) ≤ x := c10
      refine av_wp_seq 2 (pc' := 22) (lv' := [some (.inr (.inr (.inl (some (26))))), some (.inl k), some (.inl l), some (.inl x), some (.inr (.inr (.inl (some (t3)))))]) (st' := [.inr (.inr (.inl (some (t3)))), .inl x]) (h' := h) rfl ?_
      refine wq_gi (p' := 25) rfl rfl (congrArg Prod.fst (co_kt y5)) rfl (co_cb y5) ?_
      refine wq_k2 (p' := 28) rfl rfl ⟨by omega, by omega⟩ ⟨by omega, by omega⟩ (fun c11 => ?_) (fun c12 => ?_)
      · have c11 : (cbv (U (Int.toNat (k))) (S (Int.toNat (k)))) ≤ x := c11
        refine av_wp_seq 1 (pc' := 44) (lv' := [some (.inr (.inr (.inl (some (26))))), some (.inl k), some (.inl l), some (.inl x), some (.inr (.inr (.inl (some (t3)))))]) (st' := [.inl (0)]) (h' := h) rfl ?_
        refine av_wp_ret (v := some (.inl (0))) rfl rfl rfl ?_
        exact hq0 (by omega)
      · have c12 : x < (cbv (U (Int.toNat (k))) (S (Int.toNat (k)))) := c12
        refine av_wp_seq 2 (pc' := 30) (lv' := [some (.inr (.inr (.inl (some (26))))), some (.inl k), some (.inl l), some (.inl x), some (.inr (.inr (.inl (some (t3)))))]) (st' := [.inr (.inr (.inl (some (26)))), .inr (.inr (.inl (some (26))))]) (h' := h) rfl ?_
        refine wq_gr (p' := 33) rfl rfl (congrArg Prod.fst (ly_k C.1.1 26 rfl)) rfl (ly_g C.1.1 26 1 35 rfl) ?_
        refine av_wp_seq 3 (pc' := 37) (lv' := [some (.inr (.inr (.inl (some (26))))), some (.inl k), some (.inl l), some (.inl x), some (.inr (.inr (.inl (some (t3)))))]) (st' := [.inl l, .inl k, .inr (.inr (.inl (some (t3)))), .inr (.inr (.inl (some (35)))), .inr (.inr (.inl (some (26))))]) (h' := h) rfl ?_
        refine wq_cv (p' := 40) (av_qc (.invokevirtual 85) 51 4 0 3) 5 cd_51 [.inl l, .inl k, .inr (.inr (.inl (some (t3)))), .inr (.inr (.inl (some (35))))] (26) 3 [some (.inr (.inr (.inl (some (26))))), some (.inr (.inr (.inl (some (35))))), some (.inr (.inr (.inl (some (t3))))), some (.inl k), some (.inl l)] rfl rfl rfl pp_51 rfl rfl rfl (congrArg Prod.fst (ly_k C.1.1 26 rfl)) rfl rfl rfl rfl ?_
        refine cz_51 C (Or.inl rfl) y5 y6 k (by omega) (by omega) CR.1 (fun q hq => (CR.1 (Int.toNat k) (by omega)).2.2.1 q hq |> fun w => ⟨w.1, by omega⟩) CR.2.1 CR.2.2.1 l ql SU (fun l h1 h2 => (rl_8 (CR.2.2.2 l h1 h2)).1) (fun z13 => ?_) (fun z13 z14 z15 h16 r17 n18 a19 C20 F21 U22 E23 Z24 T25 => ?_)
        · show av_wp _ cd_48 40 [some (.inr (.inr (.inl (some (26))))), some (.inl k), some (.inl l), some (.inl x), some (.inr (.inr (.inl (some (t3)))))] [.inl (0)] h _
          refine av_wp_seq 2 (pc' := 44) (lv' := [some (.inr (.inr (.inl (some (26))))), some (.inl k), some (.inl l), some (.inl x), some (.inr (.inr (.inl (some (t3)))))]) (st' := [.inl (0)]) (h' := h) rfl ?_
          refine av_wp_ret (v := some (.inl (0))) rfl rfl rfl ?_
          exact hq0 (by omega)
        · show av_wp _ cd_48 40 [some (.inr (.inr (.inl (some (26))))), some (.inl k), some (.inl l), some (.inl x), some (.inr (.inr (.inl (some (t3)))))] [.inl (1)] h16 _
          refine av_wp_seq 2 (pc' := 46) (lv' := [some (.inr (.inr (.inl (some (26))))), some (.inl k), some (.inl l), some (.inl x), some (.inr (.inr (.inl (some (t3)))))]) (st' := [.inr (.inr (.inl (some (26))))]) (h' := h16) rfl ?_
          refine wq_gr (p' := 49) rfl rfl (congrArg Prod.fst (ly_k C20.1.1 26 rfl)) rfl (ly_g C20.1.1 26 1 35 rfl) ?_
          refine av_wp_seq 1 (pc' := 50) (lv' := [some (.inr (.inr (.inl (some (26))))), some (.inl k), some (.inl l), some (.inl x), some (.inr (.inr (.inl (some (t3)))))]) (st' := [.inl x, .inr (.inr (.inl (some (35))))]) (h' := h16) rfl ?_
          refine wq_cv (p' := 53) (av_qc (.invokevirtual 89) 2 1 0 0) 2 cd_2 [.inl x] (35) 0 [some (.inr (.inr (.inl (some (35))))), some (.inl x)] rfl rfl rfl pp_2 rfl rfl rfl (congrArg Prod.fst (bn_k0 C20.1.1 (Or.inl rfl))) rfl rfl rfl rfl ?_
          have G40 := CWF_sea (ro := (hA h (6 + Int.toNat l))) (CR.1 (Int.toNat k) (by omega)) (rl_8 (CR.2.2.2 l (by omega) (by omega))).1 (brv_b (U (Int.toNat k)) (srt U S (hA h (6 + Int.toNat l)) (Int.toNat k)))
          refine cy_2 E23 (FN_rf 35 h16) G40 T25 Z24 (x) (by omega) (fun v26 h27 a28 m29 m30 m31 E32 F33 Z34 T35 D36 B37 R38 p39 => ?_)
          have C41 := CJ_bn (Or.inl rfl) C20 F33 (ib_ic E32.1)
          have F42 := FP_tr F21 (FP_n F33)
          show av_wp _ cd_48 53 [some (.inr (.inr (.inl (some (26))))), some (.inl k), some (.inl l), some (.inl x), some (.inr (.inr (.inl (some (t3)))))] [.inl v26] h27 _
          refine av_wp_seq 2 (pc' := 55) (lv' := [some (.inr (.inr (.inl (some (26))))), some (.inl k), some (.inl l), some (.inl x), some (.inr (.inr (.inl (some (t3)))))]) (st' := [.inl (1)]) (h' := h27) rfl ?_
          refine av_wp_ret (v := some (.inl (1))) rfl rfl rfl ?_
          exact hq1 (by omega) (by omega) (by omega) h27 _ _ _ _ _ _ _ _ C41 F42 U22 E32 Z34 T35 D36 B37 R38

