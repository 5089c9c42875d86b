/-! LOST, WIRED, exactly: the class -/
set_option maxRecDepth 100000 in
set_option maxHeartbeats 4000000 in
theorem cx_120 {h : av_H} {U : Nat → Nat → Int} {S : Nat → Nat} {n : Int} {sr nd : Nat → Int} (C : CJ U S n sr nd h) (k : Int) (qk : -2147483648 ≤ k ∧ k ≤ 2147483647) (l : Int) (ql : -2147483648 ≤ l ∧ l ≤ 2147483647) (q : Int) (qq : -2147483648 ≤ q ∧ q ≤ 2147483647) (CR : CRT U S n (hF h 3 4) (fun k => hA h (6 + k))) (SU : SUA U S n (hF h 3 4) (fun k => hA h (6 + k)) sr) (CB : ∀ i : Nat, (i : Int) < n → CWB (U i) (S i)) {Q : Option av_V → av_H → Prop} (hq : ∀ (v : Int) h1 h' a b sr' nd', a ≤ 3 → b ≤ 508 → AL h h1 a b → CJ U S n sr' nd' h' → Fr h1 h' → SUA U S n (hF h 3 4) (fun k => hA h (6 + k)) sr' → RSC ((0 ≤ k ∧ k < n) ∧ (0 ≤ l ∧ l < hF h 3 4) ∧ (0 ≤ q ∧ q < (S (Int.toNat k) : Int)) ∧ U (Int.toNat k) (21 * (Int.toNat q) + 4) ≤ 1) (lsx (U (Int.toNat k)) (Int.toNat q)) (S (Int.toNat k)) (fun u => lcv u (hA h (6 + Int.toNat l)) (brv u (srt U S (hA h (6 + Int.toNat l)) (Int.toNat k))) (S (Int.toNat k))) v → Q (some (.inl v)) h') : av_wp none cd_120 0 [some (.inr (.inr (.inl (some (0))))), some (.inl k), some (.inl l), some (.inl q), none] [] h Q := by
  have F := Fr_rf h
  have nr := C.2.1.2.1
  refine gd_of (fun hg => ?_)
  refine av_wp_seq 1 (pc' := 1) (lv' := [some (.inr (.inr (.inl (some (0))))), some (.inl k), some (.inl l), some (.inl q), none]) (st' := [.inr (.inr (.inl (some (0))))]) (h' := h) rfl ?_
  refine wq_gr (p' := 4) rfl rfl (congrArg Prod.fst (ly_k C.1.1 0 rfl)) rfl (ly_g C.1.1 0 1 3 rfl) ?_
  refine av_wp_seq 1 (pc' := 5) (lv' := [some (.inr (.inr (.inl (some (0))))), some (.inl k), some (.inl l), some (.inl q), none]) (st' := [.inl k, .inr (.inr (.inl (some (3))))]) (h' := h) rfl ?_
  refine wq_cv (p' := 8) (av_qc (.invokevirtual 96) 69 1 0 5) 2 cd_69 [.inl k] (3) 5 [some (.inr (.inr (.inl (some (3))))), some (.inl k)] rfl rfl rfl pp_69 rfl rfl rfl (congrArg Prod.fst (ly_k C.1.1 3 rfl)) rfl rfl rfl rfl ?_
  refine cz_69 C (k) (by omega) (fun z1 => ?_) (fun z1 z2 t3 c4 y5 y6 => ?_)
  · show av_wp _ cd_120 8 [some (.inr (.inr (.inl (some (0))))), some (.inl k), some (.inl l), some (.inl q), none] [.inr (.inr (.inl none))] h _
    refine av_wp_seq 4 (pc' := 37) (lv' := [some (.inr (.inr (.inl (some (0))))), some (.inl k), some (.inl l), some (.inl q), some (.inr (.inr (.inl none)))]) (st' := [.inl (-2)]) (h' := h) rfl ?_
    refine av_wp_ret (v := some (.inl (-2))) rfl rfl rfl ?_
    exact hq _ h h 0 0 _ _ (by omega) (by omega) (AL_0 h) C F SU (Or.inl ⟨by omega, rfl⟩)
  · have g7 := co_s12 y5
    have g8 := co_cbr y5
    show av_wp _ cd_120 8 [some (.inr (.inr (.inl (some (0))))), some (.inl k), some (.inl l), some (.inl q), none] [.inr (.inr (.inl (some (t3))))] h _
    refine av_wp_seq 5 (pc' := 18) (lv' := [some (.inr (.inr (.inl (some (0))))), some (.inl k), some (.inl l), some (.inl q), some (.inr (.inr (.inl (some (t3)))))]) (st' := [.inl q, .inr (.inr (.inl (some (t3))))]) (h' := h) rfl ?_
    refine wq_cv (p' := 21) (av_qc (.invokevirtual 136) 28 1 0 1) 2 cd_28 [.inl q] (t3) 1 [some (.inr (.inr (.inl (some (t3))))), some (.inl q)] rfl rfl rfl pp_28 rfl rfl rfl (congrArg Prod.fst (co_kt y5)) rfl rfl rfl rfl ?_
    refine ct_28 y5 (q) (by omega) (fun v9 p10 => ?_)
    show av_wp _ cd_120 21 [some (.inr (.inr (.inl (some (0))))), some (.inl k), some (.inl l), some (.inl q), some (.inr (.inr (.inl (some (t3)))))] [.inl v9] h _
    refine wq_k1 (p' := 24) rfl rfl ⟨by omega, by omega⟩ (fun c11 => ?_) (fun c12 => ?_)
    · have c11 : v9 = (0) := c11
      refine av_wp_seq 1 (pc' := 37) (lv' := [some (.inr (.inr (.inl (some (0))))), some (.inl k), some (.inl l), some (.inl q), some (.inr (.inr (.inl (some (t3)))))]) (st' := [.inl (-2)]) (h' := h) rfl ?_
      refine av_wp_ret (v := some (.inl (-2))) rfl rfl rfl ?_
      exact hq _ h h 0 0 _ _ (by omega) (by omega) (AL_0 h) C F SU (Or.inl ⟨by omega, rfl⟩)
    · have c12 : v9 ≠ (0) := c12
      refine av_wp_seq 3 (pc' := 28) (lv' := [some (.inr (.inr (.inl (some (0))))), some (.inl k), some (.inl l), some (.inl q), some (.inr (.inr (.inl (some (t3)))))]) (st' := [.inl (4), .inl q, .inr (.inr (.inl (some (t3))))]) (h' := h) rfl ?_
      refine wq_cv (p' := 31) (av_qc (.invokevirtual 139) 29 2 0 1) 3 cd_29 [.inl (4), .inl q] (t3) 1 [some (.inr (.inr (.inl (some (t3))))), some (.inl q), some (.inl (4))] rfl rfl rfl pp_29 rfl rfl rfl (congrArg Prod.fst (co_kt y5)) rfl rfl rfl rfl ?_
      obtain ⟨v13, e14⟩ : ∃ v, (U (Int.toNat (k))) (21 * Int.toNat (q) + 4) = v := ⟨_, rfl⟩
      have g15 := co_v y5 (21 * Int.toNat (q) + 4)
      rw [y6, e14] at g15
      refine xc_29 y5 (q) (by omega) 4 (by omega) rfl ((congrFun y6 _).trans e14) ?_
      show av_wp _ cd_120 31 [some (.inr (.inr (.inl (some (0))))), some (.inl k), some (.inl l), some (.inl q), some (.inr (.inr (.inl (some (t3)))))] [.inl v13] h _
      refine av_wp_seq 1 (pc' := 32) (lv' := [some (.inr (.inr (.inl (some (0))))), some (.inl k), some (.inl l), some (.inl q), some (.inr (.inr (.inl (some (t3)))))]) (st' := [.inl (1), .inl v13]) (h' := h) rfl ?_
      refine wq_k2 (p' := 35) rfl rfl ⟨by omega, by omega⟩ ⟨by omega, by omega⟩ (fun c16 => ?_) (fun c17 => ?_)
      · have c16 : v13 ≤ (1) := c16
        refine av_wp_seq 3 (pc' := 42) (lv' := [some (.inr (.inr (.inl (some (0))))), some (.inl k), some (.inl l), some (.inl q), some (.inr (.inr (.inl (some (t3)))))]) (st' := [.inl q, .inr (.inr (.inl (some (t3)))), .inr (.inr (.inl (some (0))))]) (h' := h) rfl ?_
        refine wq_cv (p' := 45) (av_qc (.invokevirtual 252) 32 1 0 1) 3 cd_32 [.inl q] (t3) 1 [some (.inr (.inr (.inl (some (t3))))), some (.inl q), none] rfl rfl rfl pp_32 rfl rfl rfl (congrArg Prod.fst (co_kt y5)) rfl rfl rfl rfl ?_
        refine ct_32x C.1.1 y5 (q) (by omega) (fun h18 t19 c20 u21 A22 o23 e24 x25 => ?_)
        rw [y6] at x25
        have C26 := CJ_al hg C A22
        have K27 := CHK_l (k := (Int.toNat q)) (CR.1 (Int.toNat k) (by omega)).1 (CR.1 (Int.toNat k) (by omega)).2.2.2.2.1 (CB (Int.toNat k) (by omega))
        have e34 : hF h18 3 4 = hF h 3 4 := (CF0_al hg C.1.1 A22).2.1.2.1
        have e6 : ∀ l, l < 8 → hA h18 (6 + l) = hA h (6 + l) := fun l hl => (CF0_al hg C.1.1 A22).2.2.2.1 _ (by omega) (by omega)
        have g28 := ic_lc C.1
        have g28c := co_cbr o23
        show av_wp _ cd_120 45 [some (.inr (.inr (.inl (some (0))))), some (.inl k), some (.inl l), some (.inl q), some (.inr (.inr (.inl (some (t3)))))] [.inr (.inr (.inl (some (t19)))), .inr (.inr (.inl (some (0))))] h18 _
        refine av_wp_seq 2 (pc' := 47) (lv' := [some (.inr (.inr (.inl (some (0))))), some (.inl k), some (.inl l), some (.inl q), some (.inr (.inr (.inl (some (t3)))))]) (st' := [.inl l, .inl k, .inr (.inr (.inl (some (t19)))), .inr (.inr (.inl (some (0))))]) (h' := h18) rfl ?_
        refine wq_cv (p' := 50) (av_qc (.invokevirtual 255) 122 3 0 7) 4 cd_122 [.inl l, .inl k, .inr (.inr (.inl (some (t19))))] (0) 7 [some (.inr (.inr (.inl (some (0))))), some (.inr (.inr (.inl (some (t19))))), some (.inl k), some (.inl l)] rfl rfl rfl pp_122 rfl rfl rfl (congrArg Prod.fst (ly_k C26.1.1 0 rfl)) rfl rfl rfl rfl ?_
        refine cx_122 C26 o23 e24 (k) (by omega) (by omega) (fun q hq => by have w := (CR.1 (Int.toNat k) (by omega)).2.2.1 q hq; rw [CHG_o x25 hq (by omega), (K27.1 q hq).2.2.2.2.2.2.1]; exact ⟨w.1, by omega⟩) (fun ro bar hb r8 => CHG_sea K27 x25 hb r8) (l) (by omega) (by rw [e34]; exact CRT_c CR (by omega) e6) (by rw [e34]; exact SUA_c SU (fun l hl _ => e6 l hl)) (fun z29 => ?_) (fun z29 z30 v31 h32 r33 n34 C35 F36 U37 p38 => ?_)
        · rw [e34] at z29
          show av_wp _ cd_120 50 [some (.inr (.inr (.inl (some (0))))), some (.inl k), some (.inl l), some (.inl q), some (.inr (.inr (.inl (some (t3)))))] [.inl (-2)] h18 _
          refine av_wp_ret (v := some (.inl (-2))) rfl rfl rfl ?_
          have q1 := ic_lc C.1
          by_cases cc : 0 ≤ l ∧ l < hF h 3 4
          · exact hq _ h18 h18 3 (4 + 42 * S (Int.toNat k)) _ _ (by omega) (by omega) A22 C26 (Fr_rf _) SU (Or.inr ⟨by omega, u21, x25, by show _ = lcv _ _ _ _; unfold lcv; rw [if_pos (by omega)]⟩)
          · exact hq _ h18 h18 3 (4 + 42 * S (Int.toNat k)) _ _ (by omega) (by omega) A22 C26 (Fr_rf _) SU (Or.inl ⟨by omega, rfl⟩)
        · rw [e34] at z30
          show av_wp _ cd_120 50 [some (.inr (.inr (.inl (some (0))))), some (.inl k), some (.inl l), some (.inl q), some (.inr (.inr (.inl (some (t3)))))] [.inl v31] h32 _
          refine av_wp_ret (v := some (.inl v31)) rfl rfl rfl ?_
          rw [e6 (Int.toNat l) (by omega)] at p38
          rw [e34] at U37
          exact hq _ h18 h32 3 (4 + 42 * S (Int.toNat k)) _ _ (by omega) (by omega) A22 C35 F36 (SUA_c U37 (fun l hl _ => (e6 l hl).symm)) (Or.inr ⟨by omega, u21, x25, by show _ = lcv _ _ _ _; unfold lcv; rw [if_neg (by omega)]; exact p38⟩)
      · have c17 : (1) < v13 := c17
        refine av_wp_seq 1 (pc' := 37) (lv' := [some (.inr (.inr (.inl (some (0))))), some (.inl k), some (.inl l), some (.inl q), some (.inr (.inr (.inl (some (t3)))))]) (st' := [.inl (-2)]) (h' := h) rfl ?_
        refine av_wp_ret (v := some (.inl (-2))) rfl rfl rfl ?_
        exact hq _ h h 0 0 _ _ (by omega) (by omega) (AL_0 h) C F SU (Or.inl ⟨by omega, rfl⟩)

set_option maxRecDepth 100000 in
set_option maxHeartbeats 4000000 in
theorem cx_121 {h : av_H} {U : Nat → Nat → Int} {S : Nat → Nat} {n : Int} {sr nd : Nat → Int} (C : CJ U S n sr nd h) (k : Int) (qk : -2147483648 ≤ k ∧ k ≤ 2147483647) (l : Int) (ql : -2147483648 ≤ l ∧ l ≤ 2147483647) (q : Int) (qq : -2147483648 ≤ q ∧ q ≤ 2147483647) (CR : CRT U S n (hF h 3 4) (fun k => hA h (6 + k))) (SU : SUA U S n (hF h 3 4) (fun k => hA h (6 + k)) sr) (CB : ∀ i : Nat, (i : Int) < n → CWB (U i) (S i)) {Q : Option av_V → av_H → Prop} (hq : ∀ (v : Int) h1 h' a b sr' nd', a ≤ 3 → b ≤ 508 → AL h h1 a b → CJ U S n sr' nd' h' → Fr h1 h' → SUA U S n (hF h 3 4) (fun k => hA h (6 + k)) sr' → RSC ((0 ≤ k ∧ k < n) ∧ (0 ≤ l ∧ l < hF h 3 4) ∧ (0 ≤ q ∧ q < (S (Int.toNat k) : Int))) (wix (U (Int.toNat k)) (Int.toNat q)) (S (Int.toNat k)) (fun u => lcv u (hA h (6 + Int.toNat l)) (brv u (srt U S (hA h (6 + Int.toNat l)) (Int.toNat k))) (S (Int.toNat k))) v → Q (some (.inl v)) h') : av_wp none cd_121 0 [some (.inr (.inr (.inl (some (0))))), some (.inl k), some (.inl l), some (.inl q), none] [] h Q := by
  have F := Fr_rf h
  have nr := C.2.1.2.1
  refine gd_of (fun hg => ?_)
  refine av_wp_seq 1 (pc' := 1) (lv' := [some (.inr (.inr (.inl (some (0))))), some (.inl k), some (.inl l), some (.inl q), none]) (st' := [.inr (.inr (.inl (some (0))))]) (h' := h) rfl ?_
  refine wq_gr (p' := 4) rfl rfl (congrArg Prod.fst (ly_k C.1.1 0 rfl)) rfl (ly_g C.1.1 0 1 3 rfl) ?_
  refine av_wp_seq 1 (pc' := 5) (lv' := [some (.inr (.inr (.inl (some (0))))), some (.inl k), some (.inl l), some (.inl q), none]) (st' := [.inl k, .inr (.inr (.inl (some (3))))]) (h' := h) rfl ?_
  refine wq_cv (p' := 8) (av_qc (.invokevirtual 96) 69 1 0 5) 2 cd_69 [.inl k] (3) 5 [some (.inr (.inr (.inl (some (3))))), some (.inl k)] rfl rfl rfl pp_69 rfl rfl rfl (congrArg Prod.fst (ly_k C.1.1 3 rfl)) rfl rfl rfl rfl ?_
  refine cz_69 C (k) (by omega) (fun z1 => ?_) (fun z1 z2 t3 c4 y5 y6 => ?_)
  · show av_wp _ cd_121 8 [some (.inr (.inr (.inl (some (0))))), some (.inl k), some (.inl l), some (.inl q), none] [.inr (.inr (.inl none))] h _
    refine av_wp_seq 4 (pc' := 26) (lv' := [some (.inr (.inr (.inl (some (0))))), some (.inl k), some (.inl l), some (.inl q), some (.inr (.inr (.inl none)))]) (st' := [.inl (-2)]) (h' := h) rfl ?_
    refine av_wp_ret (v := some (.inl (-2))) rfl rfl rfl ?_
    exact hq _ h h 0 0 _ _ (by omega) (by omega) (AL_0 h) C F SU (Or.inl ⟨by omega, rfl⟩)
  · have g7 := co_s12 y5
    have g8 := co_cbr y5
    show av_wp _ cd_121 8 [some (.inr (.inr (.inl (some (0))))), some (.inl k), some (.inl l), some (.inl q), none] [.inr (.inr (.inl (some (t3))))] h _
    refine av_wp_seq 5 (pc' := 18) (lv' := [some (.inr (.inr (.inl (some (0))))), some (.inl k), some (.inl l), some (.inl q), some (.inr (.inr (.inl (some (t3)))))]) (st' := [.inl q, .inr (.inr (.inl (some (t3))))]) (h' := h) rfl ?_
    refine wq_cv (p' := 21) (av_qc (.invokevirtual 136) 28 1 0 1) 2 cd_28 [.inl q] (t3) 1 [some (.inr (.inr (.inl (some (t3))))), some (.inl q)] rfl rfl rfl pp_28 rfl rfl rfl (congrArg Prod.fst (co_kt y5)) rfl rfl rfl rfl ?_
    refine ct_28 y5 (q) (by omega) (fun v9 p10 => ?_)
    show av_wp _ cd_121 21 [some (.inr (.inr (.inl (some (0))))), some (.inl k), some (.inl l), some (.inl q), some (.inr (.inr (.inl (some (t3)))))] [.inl v9] h _
    refine wq_k1 (p' := 24) rfl rfl ⟨by omega, by omega⟩ (fun c11 => ?_) (fun c12 => ?_)
    · have c11 : v9 ≠ (0) := c11
      refine av_wp_seq 3 (pc' := 31) (lv' := [some (.inr (.inr (.inl (some (0))))), some (.inl k), some (.inl l), some (.inl q), some (.inr (.inr (.inl (some (t3)))))]) (st' := [.inl q, .inr (.inr (.inl (some (t3)))), .inr (.inr (.inl (some (0))))]) (h' := h) rfl ?_
      refine wq_cv (p' := 34) (av_qc (.invokevirtual 259) 33 1 0 1) 4 cd_33 [.inl q] (t3) 1 [some (.inr (.inr (.inl (some (t3))))), some (.inl q), none, none] rfl rfl rfl pp_33 rfl rfl rfl (congrArg Prod.fst (co_kt y5)) rfl rfl rfl rfl ?_
      refine ct_33x C.1.1 y5 (q) (by omega) (fun h13 t14 c15 u16 A17 o18 e19 x20 => ?_)
      rw [y6] at x20
      have C21 := CJ_al hg C A17
      have K22 := CHK_w (k := (Int.toNat q)) (CR.1 (Int.toNat k) (by omega)).1 (CR.1 (Int.toNat k) (by omega)).2.2.2.2.1 (CB (Int.toNat k) (by omega))
      have e34 : hF h13 3 4 = hF h 3 4 := (CF0_al hg C.1.1 A17).2.1.2.1
      have e6 : ∀ l, l < 8 → hA h13 (6 + l) = hA h (6 + l) := fun l hl => (CF0_al hg C.1.1 A17).2.2.2.1 _ (by omega) (by omega)
      have g23 := ic_lc C.1
      have g23c := co_cbr o18
      show av_wp _ cd_121 34 [some (.inr (.inr (.inl (some (0))))), some (.inl k), some (.inl l), some (.inl q), some (.inr (.inr (.inl (some (t3)))))] [.inr (.inr (.inl (some (t14)))), .inr (.inr (.inl (some (0))))] h13 _
      refine av_wp_seq 2 (pc' := 36) (lv' := [some (.inr (.inr (.inl (some (0))))), some (.inl k), some (.inl l), some (.inl q), some (.inr (.inr (.inl (some (t3)))))]) (st' := [.inl l, .inl k, .inr (.inr (.inl (some (t14)))), .inr (.inr (.inl (some (0))))]) (h' := h13) rfl ?_
      refine wq_cv (p' := 39) (av_qc (.invokevirtual 255) 122 3 0 7) 4 cd_122 [.inl l, .inl k, .inr (.inr (.inl (some (t14))))] (0) 7 [some (.inr (.inr (.inl (some (0))))), some (.inr (.inr (.inl (some (t14))))), some (.inl k), some (.inl l)] rfl rfl rfl pp_122 rfl rfl rfl (congrArg Prod.fst (ly_k C21.1.1 0 rfl)) rfl rfl rfl rfl ?_
      refine cx_122 C21 o18 e19 (k) (by omega) (by omega) (fun q hq => by have w := (CR.1 (Int.toNat k) (by omega)).2.2.1 q hq; rw [CHG_o x20 hq (by omega), (K22.1 q hq).2.2.2.2.2.2.1]; exact ⟨w.1, by omega⟩) (fun ro bar hb r8 => CHG_sea K22 x20 hb r8) (l) (by omega) (by rw [e34]; exact CRT_c CR (by omega) e6) (by rw [e34]; exact SUA_c SU (fun l hl _ => e6 l hl)) (fun z24 => ?_) (fun z24 z25 v26 h27 r28 n29 C30 F31 U32 p33 => ?_)
      · rw [e34] at z24
        show av_wp _ cd_121 39 [some (.inr (.inr (.inl (some (0))))), some (.inl k), some (.inl l), some (.inl q), some (.inr (.inr (.inl (some (t3)))))] [.inl (-2)] h13 _
        refine av_wp_ret (v := some (.inl (-2))) rfl rfl rfl ?_
        have q1 := ic_lc C.1
        by_cases cc : 0 ≤ l ∧ l < hF h 3 4
        · exact hq _ h13 h13 3 (4 + 42 * S (Int.toNat k)) _ _ (by omega) (by omega) A17 C21 (Fr_rf _) SU (Or.inr ⟨by omega, u16, x20, by show _ = lcv _ _ _ _; unfold lcv; rw [if_pos (by omega)]⟩)
        · exact hq _ h13 h13 3 (4 + 42 * S (Int.toNat k)) _ _ (by omega) (by omega) A17 C21 (Fr_rf _) SU (Or.inl ⟨by omega, rfl⟩)
      · rw [e34] at z25
        show av_wp _ cd_121 39 [some (.inr (.inr (.inl (some (0))))), some (.inl k), some (.inl l), some (.inl q), some (.inr (.inr (.inl (some (t3)))))] [.inl v26] h27 _
        refine av_wp_ret (v := some (.inl v26)) rfl rfl rfl ?_
        rw [e6 (Int.toNat l) (by omega)] at p33
        rw [e34] at U32
        exact hq _ h13 h27 3 (4 + 42 * S (Int.toNat k)) _ _ (by omega) (by omega) A17 C30 F31 (SUA_c U32 (fun l hl _ => (e6 l hl).symm)) (Or.inr ⟨by omega, u16, x20, by show _ = lcv _ _ _ _; unfold lcv; rw [if_neg (by omega)]; exact p33⟩)
    · have c12 : v9 = (0) := c12
      refine av_wp_seq 1 (pc' := 26) (lv' := [some (.inr (.inr (.inl (some (0))))), some (.inl k), some (.inl l), some (.inl q), some (.inr (.inr (.inl (some (t3)))))]) (st' := [.inl (-2)]) (h' := h) rfl ?_
      refine av_wp_ret (v := some (.inl (-2))) rfl rfl rfl ?_
      exact hq _ h h 0 0 _ _ (by omega) (by omega) (AL_0 h) C F SU (Or.inl ⟨by omega, rfl⟩)

