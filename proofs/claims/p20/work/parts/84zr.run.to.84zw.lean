section
/-! RUN, exactly -/
set_option maxRecDepth 100000 in
set_option maxHeartbeats 4000000 in
theorem cx_106 {h : av_H} {U : Nat → Nat → Int} {S : Nat → Nat} {n : Int} {sr nd : Nat → Int} (C : CJ U S n sr nd h) (k : Int) (qk : -2147483648 ≤ k ∧ k ≤ 2147483647) (l : Int) (ql : -2147483648 ≤ l ∧ l ≤ 2147483647) (x : Int) (qx : -2147483648 ≤ x ∧ x ≤ 2147483647) (w : Int) (qw : -2147483648 ≤ w ∧ w ≤ 2147483647) (CR : CRT U S n (hF h 3 4) (fun k => hA h (6 + k))) (SU : SUA U S n (hF h 3 4) (fun k => hA h (6 + k)) sr) {Q : Option av_V → av_H → Prop} (hq : ∀ (v : Int) h' sr' nd', CJ U S n sr' nd' h' → FP 35 h h' → SUA U S n (hF h 3 4) (fun k => hA h (6 + k)) sr' → RSP (okx U S n (hF h 3 4) k l x ∧ ((0 ≤ w ∧ w ≤ 2) ∨ (10 ≤ w ∧ w ≤ 14))) (-3) (rnv (U (Int.toNat k)) (hA h (6 + Int.toNat l)) (bgx U S (fun k => hA h (6 + k)) k l x) w) v → Q (some (.inl v)) h') : av_wp none cd_106 0 [some (.inr (.inr (.inl (some (0))))), some (.inl k), some (.inl l), some (.inl x), some (.inl w), none, none] [] h Q := by
  have F := FP_rf 35 h
  have nr := C.2.1.2.1
  refine av_wp_sqF ck_106 1 (pc' := 2) (lv' := [some (.inr (.inr (.inl (some (0))))), some (.inl k), some (.inl l), some (.inl x), some (.inl w), none, none]) (st' := [.inl w]) (h' := h) rfl ?_
  refine wq_k1 (p' := 5) (ck_106 _ _ rfl) rfl ⟨by omega, by omega⟩ (fun c1 => ?_) (fun c2 => ?_)
  · have c1 : w < (0) := c1
    refine av_wp_sqF ck_106 1 (pc' := 13) (lv' := [some (.inr (.inr (.inl (some (0))))), some (.inl k), some (.inl l), some (.inl x), some (.inl w), none, none]) (st' := [.inl w]) (h' := h) rfl ?_
    refine wq_cs (p' := 16) (av_qc (.invokestatic 133) 102 1 2 7) 1 cd_102 [.inl w] [.inl w] [some (.inl w)] (ck_106 _ _ rfl) rfl rfl pp_102 (fun _ => rfl) rfl rfl ?_
    refine ct_102 (w) (by omega) (fun v3 p4 => ?_)
    show av_wp _ cd_106 16 [some (.inr (.inr (.inl (some (0))))), some (.inl k), some (.inl l), some (.inl x), some (.inl w), none, none] [.inl v3] h _
    refine wq_k1 (p' := 19) (ck_106 _ _ rfl) rfl ⟨by omega, by omega⟩ (fun c5 => ?_) (fun c6 => ?_)
    · have c5 : v3 = (0) := c5
      refine av_wp_sqF ck_106 5 (pc' := 46) (lv' := [some (.inr (.inr (.inl (some (0))))), some (.inl k), some (.inl l), some (.inl x), some (.inl w), some (.inl (0)), none]) (st' := [.inl (-3)]) (h' := h) rfl ?_
      refine av_wp_ret (v := some (.inl (-3))) (ck_106 _ _ rfl) rfl rfl ?_
      exact hq _ h _ _ C F SU (Or.inr ⟨by unfold okx; omega, rfl⟩)
    · have c6 : v3 ≠ (0) := c6
      refine av_wp_sqF ck_106 6 (pc' := 32) (lv' := [some (.inr (.inr (.inl (some (0))))), some (.inl k), some (.inl l), some (.inl x), some (.inl w), some (.inl (1)), none]) (st' := [.inr (.inr (.inl (some (0))))]) (h' := h) rfl ?_
      refine wq_gr (p' := 35) (ck_106 _ _ rfl) rfl (congrArg Prod.fst (ly_k C.1.1 0 rfl)) rfl (ly_g C.1.1 0 5 26 rfl) ?_
      refine av_wp_sqF ck_106 3 (pc' := 38) (lv' := [some (.inr (.inr (.inl (some (0))))), some (.inl k), some (.inl l), some (.inl x), some (.inl w), some (.inl (1)), none]) (st' := [.inl x, .inl l, .inl k, .inr (.inr (.inl (some (26))))]) (h' := h) rfl ?_
      refine wq_cv (p' := 41) (av_qc (.invokevirtual 160) 48 3 0 3) 5 cd_48 [.inl x, .inl l, .inl k] (26) 3 [some (.inr (.inr (.inl (some (26))))), some (.inl k), some (.inl l), some (.inl x), none] (ck_106 _ _ rfl) rfl rfl pp_48 rfl rfl rfl (congrArg Prod.fst (ly_k C.1.1 26 rfl)) rfl rfl rfl rfl ?_
      refine cz_48 C (k) (by omega) (l) (by omega) (x) (by omega) CR SU (fun z7 => ?_) (fun z7 z8 z9 h10 r11 n12 t13 c14 a15 m16 m17 m18 C19 F20 U21 E22 Z23 T24 D25 B26 R27 => ?_)
      · show av_wp _ cd_106 41 [some (.inr (.inr (.inl (some (0))))), some (.inl k), some (.inl l), some (.inl x), some (.inl w), some (.inl (1)), none] [.inl (0)] h _
        refine av_wp_sqF ck_106 2 (pc' := 46) (lv' := [some (.inr (.inr (.inl (some (0))))), some (.inl k), some (.inl l), some (.inl x), some (.inl w), some (.inl (1)), none]) (st' := [.inl (-3)]) (h' := h) rfl ?_
        refine av_wp_ret (v := some (.inl (-3))) (ck_106 _ _ rfl) rfl rfl ?_
        exact hq _ h _ _ C F SU (Or.inr ⟨by unfold okx; omega, rfl⟩)
      · have b30 := bgn_f (u := U (Int.toNat k)) (ro := (hA h (6 + Int.toNat l))) (bar := (brv (U (Int.toNat k)) (srt U S (hA h (6 + Int.toNat l)) (Int.toNat k)))) (s := S (Int.toNat k)) (x := x)
        rw [B26] at b30
        have b30 : (m18 = 9999 ∧ m16 = -1 ∧ m17 = -1) ∨ (m18 < 9999 ∧ (0 ≤ m17 ∧ m17 < (S (Int.toNat k) : Int) ∧ ofv (U (Int.toNat k)) (hA h (6 + Int.toNat l)) (Int.toNat m17) ≠ 0) ∧ (m16 = -1 ∨ (0 ≤ m16 ∧ m16 < (S (Int.toNat k) : Int) ∧ ysv (U (Int.toNat k)) (hA h (6 + Int.toNat l)) (Int.toNat m16) ≠ 0))) := b30
        have g28 : (-1 ≤ m16 ∧ m16 ≤ 11) ∧ (-1 ≤ m17 ∧ m17 ≤ 11) ∧ (-1 ≤ m18 ∧ m18 ≤ 9999) := R27
        have g29 := co_s12 (ib_co E22.1)
        show av_wp _ cd_106 41 [some (.inr (.inr (.inl (some (0))))), some (.inl k), some (.inl l), some (.inl x), some (.inl w), some (.inl (1)), none] [.inl (1)] h10 _
        refine av_wp_sqF ck_106 2 (pc' := 48) (lv' := [some (.inr (.inr (.inl (some (0))))), some (.inl k), some (.inl l), some (.inl x), some (.inl w), some (.inl (1)), none]) (st' := [.inr (.inr (.inl (some (0))))]) (h' := h10) rfl ?_
        refine wq_gr (p' := 51) (ck_106 _ _ rfl) rfl (congrArg Prod.fst (ly_k C19.1.1 0 rfl)) rfl (ly_g C19.1.1 0 5 26 rfl) ?_
        refine wq_gr (p' := 54) (ck_106 _ _ rfl) rfl (congrArg Prod.fst (ly_k C19.1.1 26 rfl)) rfl (ly_g C19.1.1 26 1 35 rfl) ?_
        refine av_wp_sqF ck_106 2 (pc' := 58) (lv' := [some (.inr (.inr (.inl (some (0))))), some (.inl k), some (.inl l), some (.inl x), some (.inl w), some (.inl (1)), some (.inr (.inr (.inl (some (35)))))]) (st' := [.inr (.inr (.inl (some (35))))]) (h' := h10) rfl ?_
        refine wq_cv (p' := 61) (av_qc (.invokevirtual 168) 3 0 0 0) 1 cd_3 [] (35) 0 [some (.inr (.inr (.inl (some (35)))))] (ck_106 _ _ rfl) rfl rfl pp_3 rfl rfl rfl (congrArg Prod.fst (bn_k0 C19.1.1 (Or.inl rfl))) rfl rfl rfl rfl ?_
        refine cx_3 E22 (FN_rf 35 h10) (by omega) (fun v31 p32 => ?_)
        show av_wp _ cd_106 61 [some (.inr (.inr (.inl (some (0))))), some (.inl k), some (.inl l), some (.inl x), some (.inl w), some (.inl (1)), some (.inr (.inr (.inl (some (35)))))] [.inl v31] h10 _
        refine wq_k1 (p' := 64) (ck_106 _ _ rfl) rfl ⟨by omega, by omega⟩ (fun c33 => ?_) (fun c34 => ?_)
        · have c33 : v31 ≠ (0) := c33
          refine av_wp_sqF ck_106 1 (pc' := 69) (lv' := [some (.inr (.inr (.inl (some (0))))), some (.inl k), some (.inl l), some (.inl x), some (.inl w), some (.inl (1)), some (.inr (.inr (.inl (some (35)))))]) (st' := [.inl w]) (h' := h10) rfl ?_
          rcases (show w = 0 ∨ w = 1 ∨ w = 2 ∨ (w < 0 ∨ 2 < w) by omega) with e35 | e35 | e35 | e35
          · exfalso; omega
          · exfalso; omega
          · exfalso; omega
          · refine wq_td (t := 114) (ck_106 _ _ rfl) ⟨by omega, by omega⟩ e35 rfl ?_
            refine av_wp_sqF ck_106 4 (pc' := 121) (lv' := [some (.inr (.inr (.inl (some (0))))), some (.inl k), some (.inl l), some (.inl x), some (.inl w), some (.inl (1)), some (.inr (.inr (.inl (some (35)))))]) (st' := [.inl (w - (10)), .inr (.inr (.inl (some (35))))]) (h' := h10) rfl ?_
            refine wq_cv (p' := 124) (av_qc (.invokevirtual 183) 17 1 0 0) 4 cd_17 [.inl (w - (10))] (35) 0 [some (.inr (.inr (.inl (some (35))))), some (.inl (w - (10))), none, none] (ck_106 _ _ rfl) rfl rfl pp_17 rfl rfl rfl (congrArg Prod.fst (bn_k0 C19.1.1 (Or.inl rfl))) rfl rfl rfl rfl ?_
            refine cx_17 E22 (FN_rf 35 h10) (CR.1 (Int.toNat k) (by omega)).1 (CR.2.2.2 l (by omega) (by omega)) (by omega) (by omega) ((w - (10))) (by omega) (fun v36 p37 => ?_)
            show av_wp _ cd_106 124 [some (.inr (.inr (.inl (some (0))))), some (.inl k), some (.inl l), some (.inl x), some (.inl w), some (.inl (1)), some (.inr (.inr (.inl (some (35)))))] [.inl v36] h10 _
            refine av_wp_ret (v := some (.inl v36)) (ck_106 _ _ rfl) rfl rfl ?_
            exact hq _ h10 _ _ C19 F20 U21 (Or.inl ⟨by unfold okx; omega, by rw [show bgx U S (fun k => hA h (6 + k)) k l x = _ from B26]; show _ = (if m18 = 9999 then -2 else if w = 0 then m16 else if w = 1 then m17 else if w = 2 then m18 else bwv (U (Int.toNat k)) (hA h (6 + Int.toNat l)) m16 m17 (w - 10).toNat); rw [if_neg (by omega), if_neg (by omega), if_neg (by omega), if_neg (by omega)]; exact p37.trans (congrArg (bwv _ _ _ _) (by omega))⟩)
        · have c34 : v31 = (0) := c34
          refine av_wp_sqF ck_106 1 (pc' := 66) (lv' := [some (.inr (.inr (.inl (some (0))))), some (.inl k), some (.inl l), some (.inl x), some (.inl w), some (.inl (1)), some (.inr (.inr (.inl (some (35)))))]) (st' := [.inl (-2)]) (h' := h10) rfl ?_
          refine av_wp_ret (v := some (.inl (-2))) (ck_106 _ _ rfl) rfl rfl ?_
          exact hq _ h10 _ _ C19 F20 U21 (Or.inl ⟨by unfold okx; omega, by rw [show bgx U S (fun k => hA h (6 + k)) k l x = _ from B26]; show _ = (if m18 = 9999 then -2 else if w = 0 then m16 else if w = 1 then m17 else if w = 2 then m18 else bwv (U (Int.toNat k)) (hA h (6 + Int.toNat l)) m16 m17 (w - 10).toNat); rw [if_pos (by omega)]⟩)
  · have c2 : (0) ≤ w := c2
    refine av_wp_sqF ck_106 2 (pc' := 8) (lv' := [some (.inr (.inr (.inl (some (0))))), some (.inl k), some (.inl l), some (.inl x), some (.inl w), none, none]) (st' := [.inl (2), .inl w]) (h' := h) rfl ?_
    refine wq_k2 (p' := 11) (ck_106 _ _ rfl) rfl ⟨by omega, by omega⟩ ⟨by omega, by omega⟩ (fun c38 => ?_) (fun c39 => ?_)
    · have c38 : w ≤ (2) := c38
      refine av_wp_sqF ck_106 6 (pc' := 32) (lv' := [some (.inr (.inr (.inl (some (0))))), some (.inl k), some (.inl l), some (.inl x), some (.inl w), some (.inl (1)), none]) (st' := [.inr (.inr (.inl (some (0))))]) (h' := h) rfl ?_
      refine wq_gr (p' := 35) (ck_106 _ _ rfl) rfl (congrArg Prod.fst (ly_k C.1.1 0 rfl)) rfl (ly_g C.1.1 0 5 26 rfl) ?_
      refine av_wp_sqF ck_106 3 (pc' := 38) (lv' := [some (.inr (.inr (.inl (some (0))))), some (.inl k), some (.inl l), some (.inl x), some (.inl w), some (.inl (1)), none]) (st' := [.inl x, .inl l, .inl k, .inr (.inr (.inl (some (26))))]) (h' := h) rfl ?_
      refine wq_cv (p' := 41) (av_qc (.invokevirtual 160) 48 3 0 3) 5 cd_48 [.inl x, .inl l, .inl k] (26) 3 [some (.inr (.inr (.inl (some (26))))), some (.inl k), some (.inl l), some (.inl x), none] (ck_106 _ _ rfl) rfl rfl pp_48 rfl rfl rfl (congrArg Prod.fst (ly_k C.1.1 26 rfl)) rfl rfl rfl rfl ?_
      refine cz_48 C (k) (by omega) (l) (by omega) (x) (by omega) CR SU (fun z40 => ?_) (fun z40 z41 z42 h43 r44 n45 t46 c47 a48 m49 m50 m51 C52 F53 U54 E55 Z56 T57 D58 B59 R60 => ?_)
      · show av_wp _ cd_106 41 [some (.inr (.inr (.inl (some (0))))), some (.inl k), some (.inl l), some (.inl x), some (.inl w), some (.inl (1)), none] [.inl (0)] h _
        refine av_wp_sqF ck_106 2 (pc' := 46) (lv' := [some (.inr (.inr (.inl (some (0))))), some (.inl k), some (.inl l), some (.inl x), some (.inl w), some (.inl (1)), none]) (st' := [.inl (-3)]) (h' := h) rfl ?_
        refine av_wp_ret (v := some (.inl (-3))) (ck_106 _ _ rfl) rfl rfl ?_
        exact hq _ h _ _ C F SU (Or.inr ⟨by unfold okx; omega, rfl⟩)
      · have b63 := bgn_f (u := U (Int.toNat k)) (ro := (hA h (6 + Int.toNat l))) (bar := (brv (U (Int.toNat k)) (srt U S (hA h (6 + Int.toNat l)) (Int.toNat k)))) (s := S (Int.toNat k)) (x := x)
        rw [B59] at b63
        have b63 : (m51 = 9999 ∧ m49 = -1 ∧ m50 = -1) ∨ (m51 < 9999 ∧ (0 ≤ m50 ∧ m50 < (S (Int.toNat k) : Int) ∧ ofv (U (Int.toNat k)) (hA h (6 + Int.toNat l)) (Int.toNat m50) ≠ 0) ∧ (m49 = -1 ∨ (0 ≤ m49 ∧ m49 < (S (Int.toNat k) : Int) ∧ ysv (U (Int.toNat k)) (hA h (6 + Int.toNat l)) (Int.toNat m49) ≠ 0))) := b63
        have g61 : (-1 ≤ m49 ∧ m49 ≤ 11) ∧ (-1 ≤ m50 ∧ m50 ≤ 11) ∧ (-1 ≤ m51 ∧ m51 ≤ 9999) := R60
        have g62 := co_s12 (ib_co E55.1)
        show av_wp _ cd_106 41 [some (.inr (.inr (.inl (some (0))))), some (.inl k), some (.inl l), some (.inl x), some (.inl w), some (.inl (1)), none] [.inl (1)] h43 _
        refine av_wp_sqF ck_106 2 (pc' := 48) (lv' := [some (.inr (.inr (.inl (some (0))))), some (.inl k), some (.inl l), some (.inl x), some (.inl w), some (.inl (1)), none]) (st' := [.inr (.inr (.inl (some (0))))]) (h' := h43) rfl ?_
        refine wq_gr (p' := 51) (ck_106 _ _ rfl) rfl (congrArg Prod.fst (ly_k C52.1.1 0 rfl)) rfl (ly_g C52.1.1 0 5 26 rfl) ?_
        refine wq_gr (p' := 54) (ck_106 _ _ rfl) rfl (congrArg Prod.fst (ly_k C52.1.1 26 rfl)) rfl (ly_g C52.1.1 26 1 35 rfl) ?_
        refine av_wp_sqF ck_106 2 (pc' := 58) (lv' := [some (.inr (.inr (.inl (some (0))))), some (.inl k), some (.inl l), some (.inl x), some (.inl w), some (.inl (1)), some (.inr (.inr (.inl (some (35)))))]) (st' := [.inr (.inr (.inl (some (35))))]) (h' := h43) rfl ?_
        refine wq_cv (p' := 61) (av_qc (.invokevirtual 168) 3 0 0 0) 1 cd_3 [] (35) 0 [some (.inr (.inr (.inl (some (35)))))] (ck_106 _ _ rfl) rfl rfl pp_3 rfl rfl rfl (congrArg Prod.fst (bn_k0 C52.1.1 (Or.inl rfl))) rfl rfl rfl rfl ?_
        refine cx_3 E55 (FN_rf 35 h43) (by omega) (fun v64 p65 => ?_)
        show av_wp _ cd_106 61 [some (.inr (.inr (.inl (some (0))))), some (.inl k), some (.inl l), some (.inl x), some (.inl w), some (.inl (1)), some (.inr (.inr (.inl (some (35)))))] [.inl v64] h43 _
        refine wq_k1 (p' := 64) (ck_106 _ _ rfl) rfl ⟨by omega, by omega⟩ (fun c66 => ?_) (fun c67 => ?_)
        · have c66 : v64 ≠ (0) := c66
          refine av_wp_sqF ck_106 1 (pc' := 69) (lv' := [some (.inr (.inr (.inl (some (0))))), some (.inl k), some (.inl l), some (.inl x), some (.inl w), some (.inl (1)), some (.inr (.inr (.inl (some (35)))))]) (st' := [.inl w]) (h' := h43) rfl ?_
          rcases (show w = 0 ∨ w = 1 ∨ w = 2 ∨ (w < 0 ∨ 2 < w) by omega) with e68 | e68 | e68 | e68
          · refine wq_tc (t := 96) (ck_106 _ _ rfl) e68 rfl ?_
            refine av_wp_sqF ck_106 1 (pc' := 98) (lv' := [some (.inr (.inr (.inl (some (0))))), some (.inl k), some (.inl l), some (.inl x), some (.inl w), some (.inl (1)), some (.inr (.inr (.inl (some (35)))))]) (st' := [.inr (.inr (.inl (some (35))))]) (h' := h43) rfl ?_
            refine wq_gi (p' := 101) (ck_106 _ _ rfl) rfl (congrArg Prod.fst (bn_k0 C52.1.1 (Or.inl rfl))) rfl (E55.2.2.2.2.1) ?_
            refine av_wp_ret (v := some (.inl m49)) (ck_106 _ _ rfl) rfl rfl ?_
            exact hq _ h43 _ _ C52 F53 U54 (Or.inl ⟨by unfold okx; omega, by rw [show bgx U S (fun k => hA h (6 + k)) k l x = _ from B59]; show _ = (if m51 = 9999 then -2 else if w = 0 then m49 else if w = 1 then m50 else if w = 2 then m51 else bwv (U (Int.toNat k)) (hA h (6 + Int.toNat l)) m49 m50 (w - 10).toNat); rw [if_neg (by omega), if_pos (by omega)]⟩)
          · refine wq_tc (t := 102) (ck_106 _ _ rfl) e68 rfl ?_
            refine av_wp_sqF ck_106 1 (pc' := 104) (lv' := [some (.inr (.inr (.inl (some (0))))), some (.inl k), some (.inl l), some (.inl x), some (.inl w), some (.inl (1)), some (.inr (.inr (.inl (some (35)))))]) (st' := [.inr (.inr (.inl (some (35))))]) (h' := h43) rfl ?_
            refine wq_gi (p' := 107) (ck_106 _ _ rfl) rfl (congrArg Prod.fst (bn_k0 C52.1.1 (Or.inl rfl))) rfl (E55.2.2.2.2.2.1) ?_
            refine av_wp_ret (v := some (.inl m50)) (ck_106 _ _ rfl) rfl rfl ?_
            exact hq _ h43 _ _ C52 F53 U54 (Or.inl ⟨by unfold okx; omega, by rw [show bgx U S (fun k => hA h (6 + k)) k l x = _ from B59]; show _ = (if m51 = 9999 then -2 else if w = 0 then m49 else if w = 1 then m50 else if w = 2 then m51 else bwv (U (Int.toNat k)) (hA h (6 + Int.toNat l)) m49 m50 (w - 10).toNat); rw [if_neg (by omega), if_neg (by omega), if_pos (by omega)]⟩)
          · refine wq_tc (t := 108) (ck_106 _ _ rfl) e68 rfl ?_
            refine av_wp_sqF ck_106 1 (pc' := 110) (lv' := [some (.inr (.inr (.inl (some (0))))), some (.inl k), some (.inl l), some (.inl x), some (.inl w), some (.inl (1)), some (.inr (.inr (.inl (some (35)))))]) (st' := [.inr (.inr (.inl (some (35))))]) (h' := h43) rfl ?_
            refine wq_gi (p' := 113) (ck_106 _ _ rfl) rfl (congrArg Prod.fst (bn_k0 C52.1.1 (Or.inl rfl))) rfl (E55.2.2.2.2.2.2) ?_
            refine av_wp_ret (v := some (.inl m51)) (ck_106 _ _ rfl) rfl rfl ?_
            exact hq _ h43 _ _ C52 F53 U54 (Or.inl ⟨by unfold okx; omega, by rw [show bgx U S (fun k => hA h (6 + k)) k l x = _ from B59]; show _ = (if m51 = 9999 then -2 else if w = 0 then m49 else if w = 1 then m50 else if w = 2 then m51 else bwv (U (Int.toNat k)) (hA h (6 + Int.toNat l)) m49 m50 (w - 10).toNat); rw [if_neg (by omega), if_neg (by omega), if_neg (by omega), if_pos (by omega)]⟩)
          · refine wq_td (t := 114) (ck_106 _ _ rfl) ⟨by omega, by omega⟩ e68 rfl ?_
            refine av_wp_sqF ck_106 4 (pc' := 121) (lv' := [some (.inr (.inr (.inl (some (0))))), some (.inl k), some (.inl l), some (.inl x), some (.inl w), some (.inl (1)), some (.inr (.inr (.inl (some (35)))))]) (st' := [.inl (w - (10)), .inr (.inr (.inl (some (35))))]) (h' := h43) rfl ?_
            refine wq_cv (p' := 124) (av_qc (.invokevirtual 183) 17 1 0 0) 4 cd_17 [.inl (w - (10))] (35) 0 [some (.inr (.inr (.inl (some (35))))), some (.inl (w - (10))), none, none] (ck_106 _ _ rfl) rfl rfl pp_17 rfl rfl rfl (congrArg Prod.fst (bn_k0 C52.1.1 (Or.inl rfl))) rfl rfl rfl rfl ?_
            refine cx_17 E55 (FN_rf 35 h43) (CR.1 (Int.toNat k) (by omega)).1 (CR.2.2.2 l (by omega) (by omega)) (by omega) (by omega) ((w - (10))) (by omega) (fun v69 p70 => ?_)
            show av_wp _ cd_106 124 [some (.inr (.inr (.inl (some (0))))), some (.inl k), some (.inl l), some (.inl x), some (.inl w), some (.inl (1)), some (.inr (.inr (.inl (some (35)))))] [.inl v69] h43 _
            refine av_wp_ret (v := some (.inl v69)) (ck_106 _ _ rfl) rfl rfl ?_
            exact hq _ h43 _ _ C52 F53 U54 (Or.inl ⟨by unfold okx; omega, by rw [show bgx U S (fun k => hA h (6 + k)) k l x = _ from B59]; show _ = (if m51 = 9999 then -2 else if w = 0 then m49 else if w = 1 then m50 else if w = 2 then m51 else bwv (U (Int.toNat k)) (hA h (6 + Int.toNat l)) m49 m50 (w - 10).toNat); rw [if_neg (by omega), if_neg (by omega), if_neg (by omega), if_neg (by omega)]; exact p70.trans (congrArg (bwv _ _ _ _) (by omega))⟩)
        · have c67 : v64 = (0) := c67
          refine av_wp_sqF ck_106 1 (pc' := 66) (lv' := [some (.inr (.inr (.inl (some (0))))), some (.inl k), some (.inl l), some (.inl x), some (.inl w), some (.inl (1)), some (.inr (.inr (.inl (some (35)))))]) (st' := [.inl (-2)]) (h' := h43) rfl ?_
          refine av_wp_ret (v := some (.inl (-2))) (ck_106 _ _ rfl) rfl rfl ?_
          exact hq _ h43 _ _ C52 F53 U54 (Or.inl ⟨by unfold okx; omega, by rw [show bgx U S (fun k => hA h (6 + k)) k l x = _ from B59]; show _ = (if m51 = 9999 then -2 else if w = 0 then m49 else if w = 1 then m50 else if w = 2 then m51 else bwv (U (Int.toNat k)) (hA h (6 + Int.toNat l)) m49 m50 (w - 10).toNat); rw [if_pos (by omega)]⟩)
    · have c39 : (2) < w := c39
      refine av_wp_sqF ck_106 1 (pc' := 13) (lv' := [some (.inr (.inr (.inl (some (0))))), some (.inl k), some (.inl l), some (.inl x), some (.inl w), none, none]) (st' := [.inl w]) (h' := h) rfl ?_
      refine wq_cs (p' := 16) (av_qc (.invokestatic 133) 102 1 2 7) 1 cd_102 [.inl w] [.inl w] [some (.inl w)] (ck_106 _ _ rfl) rfl rfl pp_102 (fun _ => rfl) rfl rfl ?_
      refine ct_102 (w) (by omega) (fun v71 p72 => ?_)
      show av_wp _ cd_106 16 [some (.inr (.inr (.inl (some (0))))), some (.inl k), some (.inl l), some (.inl x), some (.inl w), none, none] [.inl v71] h _
      refine wq_k1 (p' := 19) (ck_106 _ _ rfl) rfl ⟨by omega, by omega⟩ (fun c73 => ?_) (fun c74 => ?_)
      · have c73 : v71 = (0) := c73
        refine av_wp_sqF ck_106 5 (pc' := 46) (lv' := [some (.inr (.inr (.inl (some (0))))), some (.inl k), some (.inl l), some (.inl x), some (.inl w), some (.inl (0)), none]) (st' := [.inl (-3)]) (h' := h) rfl ?_
        refine av_wp_ret (v := some (.inl (-3))) (ck_106 _ _ rfl) rfl rfl ?_
        exact hq _ h _ _ C F SU (Or.inr ⟨by unfold okx; omega, rfl⟩)
      · have c74 : v71 ≠ (0) := c74
        refine av_wp_sqF ck_106 6 (pc' := 32) (lv' := [some (.inr (.inr (.inl (some (0))))), some (.inl k), some (.inl l), some (.inl x), some (.inl w), some (.inl (1)), none]) (st' := [.inr (.inr (.inl (some (0))))]) (h' := h) rfl ?_
        refine wq_gr (p' := 35) (ck_106 _ _ rfl) rfl (congrArg Prod.fst (ly_k C.1.1 0 rfl)) rfl (ly_g C.1.1 0 5 26 rfl) ?_
        refine av_wp_sqF ck_106 3 (pc' := 38) (lv' := [some (.inr (.inr (.inl (some (0))))), some (.inl k), some (.inl l), some (.inl x), some (.inl w), some (.inl (1)), none]) (st' := [.inl x, .inl l, .inl k, .inr (.inr (.inl (some (26))))]) (h' := h) rfl ?_
        refine wq_cv (p' := 41) (av_qc (.invokevirtual 160) 48 3 0 3) 5 cd_48 [.inl x, .inl l, .inl k] (26) 3 [some (.inr (.inr (.inl (some (26))))), some (.inl k), some (.inl l), some (.inl x), none] (ck_106 _ _ rfl) rfl rfl pp_48 rfl rfl rfl (congrArg Prod.fst (ly_k C.1.1 26 rfl)) rfl rfl rfl rfl ?_
        refine cz_48 C (k) (by omega) (l) (by omega) (x) (by omega) CR SU (fun z75 => ?_) (fun z75 z76 z77 h78 r79 n80 t81 c82 a83 m84 m85 m86 C87 F88 U89 E90 Z91 T92 D93 B94 R95 => ?_)
        · show av_wp _ cd_106 41 [some (.inr (.inr (.inl (some (0))))), some (.inl k), some (.inl l), some (.inl x), some (.inl w), some (.inl (1)), none] [.inl (0)] h _
          refine av_wp_sqF ck_106 2 (pc' := 46) (lv' := [some (.inr (.inr (.inl (some (0))))), some (.inl k), some (.inl l), some (.inl x), some (.inl w), some (.inl (1)), none]) (st' := [.inl (-3)]) (h' := h) rfl ?_
          refine av_wp_ret (v := some (.inl (-3))) (ck_106 _ _ rfl) rfl rfl ?_
          exact hq _ h _ _ C F SU (Or.inr ⟨by unfold okx; omega, rfl⟩)
        · have b98 := bgn_f (u := U (Int.toNat k)) (ro := (hA h (6 + Int.toNat l))) (bar := (brv (U (Int.toNat k)) (srt U S (hA h (6 + Int.toNat l)) (Int.toNat k)))) (s := S (Int.toNat k)) (x := x)
          rw [B94] at b98
          have b98 : (m86 = 9999 ∧ m84 = -1 ∧ m85 = -1) ∨ (m86 < 9999 ∧ (0 ≤ m85 ∧ m85 < (S (Int.toNat k) : Int) ∧ ofv (U (Int.toNat k)) (hA h (6 + Int.toNat l)) (Int.toNat m85) ≠ 0) ∧ (m84 = -1 ∨ (0 ≤ m84 ∧ m84 < (S (Int.toNat k) : Int) ∧ ysv (U (Int.toNat k)) (hA h (6 + Int.toNat l)) (Int.toNat m84) ≠ 0))) := b98
          have g96 : (-1 ≤ m84 ∧ m84 ≤ 11) ∧ (-1 ≤ m85 ∧ m85 ≤ 11) ∧ (-1 ≤ m86 ∧ m86 ≤ 9999) := R95
          have g97 := co_s12 (ib_co E90.1)
          show av_wp _ cd_106 41 [some (.inr (.inr (.inl (some (0))))), some (.inl k), some (.inl l), some (.inl x), some (.inl w), some (.inl (1)), none] [.inl (1)] h78 _
          refine av_wp_sqF ck_106 2 (pc' := 48) (lv' := [some (.inr (.inr (.inl (some (0))))), some (.inl k), some (.inl l), some (.inl x), some (.inl w), some (.inl (1)), none]) (st' := [.inr (.inr (.inl (some (0))))]) (h' := h78) rfl ?_
          refine wq_gr (p' := 51) (ck_106 _ _ rfl) rfl (congrArg Prod.fst (ly_k C87.1.1 0 rfl)) rfl (ly_g C87.1.1 0 5 26 rfl) ?_
          refine wq_gr (p' := 54) (ck_106 _ _ rfl) rfl (congrArg Prod.fst (ly_k C87.1.1 26 rfl)) rfl (ly_g C87.1.1 26 1 35 rfl) ?_
          refine av_wp_sqF ck_106 2 (pc' := 58) (lv' := [some (.inr (.inr (.inl (some (0))))), some (.inl k), some (.inl l), some (.inl x), some (.inl w), some (.inl (1)), some (.inr (.inr (.inl (some (35)))))]) (st' := [.inr (.inr (.inl (some (35))))]) (h' := h78) rfl ?_
          refine wq_cv (p' := 61) (av_qc (.invokevirtual 168) 3 0 0 0) 1 cd_3 [] (35) 0 [some (.inr (.inr (.inl (some (35)))))] (ck_106 _ _ rfl) rfl rfl pp_3 rfl rfl rfl (congrArg Prod.fst (bn_k0 C87.1.1 (Or.inl rfl))) rfl rfl rfl rfl ?_
          refine cx_3 E90 (FN_rf 35 h78) (by omega) (fun v99 p100 => ?_)
          show av_wp _ cd_106 61 [some (.inr (.inr (.inl (some (0))))), some (.inl k), some (.inl l), some (.inl x), some (.inl w), some (.inl (1)), some (.inr (.inr (.inl (some (35)))))] [.inl v99] h78 _
          refine wq_k1 (p' := 64) (ck_106 _ _ rfl) rfl ⟨by omega, by omega⟩ (fun c101 => ?_) (fun c102 => ?_)
          · have c101 : v99 ≠ (0) := c101
            refine av_wp_sqF ck_106 1 (pc' := 69) (lv' := [some (.inr (.inr (.inl (some (0))))), some (.inl k), some (.inl l), some (.inl x), some (.inl w), some (.inl (1)), some (.inr (.inr (.inl (some (35)))))]) (st' := [.inl w]) (h' := h78) rfl ?_
            rcases (show w = 0 ∨ w = 1 ∨ w = 2 ∨ (w < 0 ∨ 2 < w) by omega) with e103 | e103 | e103 | e103
            · exfalso; omega
            · exfalso; omega
            · exfalso; omega
            · refine wq_td (t := 114) (ck_106 _ _ rfl) ⟨by omega, by omega⟩ e103 rfl ?_
              refine av_wp_sqF ck_106 4 (pc' := 121) (lv' := [some (.inr (.inr (.inl (some (0))))), some (.inl k), some (.inl l), some (.inl x), some (.inl w), some (.inl (1)), some (.inr (.inr (.inl (some (35)))))]) (st' := [.inl (w - (10)), .inr (.inr (.inl (some (35))))]) (h' := h78) rfl ?_
              refine wq_cv (p' := 124) (av_qc (.invokevirtual 183) 17 1 0 0) 4 cd_17 [.inl (w - (10))] (35) 0 [some (.inr (.inr (.inl (some (35))))), some (.inl (w - (10))), none, none] (ck_106 _ _ rfl) rfl rfl pp_17 rfl rfl rfl (congrArg Prod.fst (bn_k0 C87.1.1 (Or.inl rfl))) rfl rfl rfl rfl ?_
              refine cx_17 E90 (FN_rf 35 h78) (CR.1 (Int.toNat k) (by omega)).1 (CR.2.2.2 l (by omega) (by omega)) (by omega) (by omega) ((w - (10))) (by omega) (fun v104 p105 => ?_)
              show av_wp _ cd_106 124 [some (.inr (.inr (.inl (some (0))))), some (.inl k), some (.inl l), some (.inl x), some (.inl w), some (.inl (1)), some (.inr (.inr (.inl (some (35)))))] [.inl v104] h78 _
              refine av_wp_ret (v := some (.inl v104)) (ck_106 _ _ rfl) rfl rfl ?_
              exact hq _ h78 _ _ C87 F88 U89 (Or.inl ⟨by unfold okx; omega, by rw [show bgx U S (fun k => hA h (6 + k)) k l x = _ from B94]; show _ = (if m86 = 9999 then -2 else if w = 0 then m84 else if w = 1 then m85 else if w = 2 then m86 else bwv (U (Int.toNat k)) (hA h (6 + Int.toNat l)) m84 m85 (w - 10).toNat); rw [if_neg (by omega), if_neg (by omega), if_neg (by omega), if_neg (by omega)]; exact p105.trans (congrArg (bwv _ _ _ _) (by omega))⟩)
          · have c102 : v99 = (0) := c102
            refine av_wp_sqF ck_106 1 (pc' := 66) (lv' := [some (.inr (.inr (.inl (some (0))))), some (.inl k), some (.inl l), some (.inl x), some (.inl w), some (.inl (1)), some (.inr (.inr (.inl (some (35)))))]) (st' := [.inl (-2)]) (h' := h78) rfl ?_
            refine av_wp_ret (v := some (.inl (-2))) (ck_106 _ _ rfl) rfl rfl ?_
            exact hq _ h78 _ _ C87 F88 U89 (Or.inl ⟨by unfold okx; omega, by rw [show bgx U S (fun k => hA h (6 + k)) k l x = _ from B94]; show _ = (if m86 = 9999 then -2 else if w = 0 then m84 else if w = 1 then m85 else if w = 2 then m86 else bwv (U (Int.toNat k)) (hA h (6 + Int.toNat l)) m84 m85 (w - 10).toNat); rw [if_pos (by omega)]⟩)

set_option maxRecDepth 100000 in
set_option maxHeartbeats 4000000 in
theorem cx_182 {g h : av_H} {n a m : Int} (I : IMF n a m h) (F : FM g h) {u ro : Nat → Int} {a0 : Nat → Nat → Int} {s : Nat} (en : n = (s : Int)) (X : LR u ro a0 s (hA h)) (W : UW u s) (R : RLW ro) (H : HBd s a0) (o : Int) (qo : 0 ≤ o ∧ o < (s : Int)) (w : Int) (qw : 0 ≤ w ∧ w ≤ 4) {Q : Option av_V → av_H → Prop} (hq : ∀ v : Int, v = wov u (Int.toNat w) 12 o → Q (some (.inl v)) h) : av_wp none cd_182 0 [some (.inr (.inr (.inl (some (77))))), some (.inl o), some (.inl w), none] [] h Q := by
  have gn := im_n I.1.1
  rw [I.2.1] at gn
  have ga := im_a I.1.1
  rw [I.2.2.1] at ga
  have gm := im_cm I.1.1
  rw [I.2.2.2] at gm
  have s12 : s ≤ 12 := by omega
  have Z := ZE_rf (L := [113, 114, 115]) (K := [50, 51, 52, 53]) h
  refine av_wp_sqF ck_182 2 (pc' := 2) (lv' := [some (.inr (.inr (.inl (some (77))))), some (.inl o), some (.inl w), some (.inl o)]) (st' := []) (h' := h) rfl ?_
  have L3 : ∀ (m2 : Nat) (k1 : Int), wov u (Int.toNat w) 12 o = wov u (Int.toNat w) 12 k1 → k1 < (s : Int) → (0 ≤ k1 ∧ k1 ≤ 11) → (k1 + 1).toNat = m2 → av_wp none cd_182 2 [some (.inr (.inr (.inl (some (77))))), some (.inl o), some (.inl w), some (.inl k1)] [] h Q := by
    intro m2
    induction m2 using Nat.strongRecOn with
    | _ m2 I4 =>
      intro k1 g6 g7 g8 e5
      refine av_wp_sqF ck_182 1 (pc' := 3) (lv' := [some (.inr (.inr (.inl (some (77))))), some (.inl o), some (.inl w), some (.inl k1)]) (st' := [.inr (.inr (.inl (some (77))))]) (h' := h) rfl ?_
      refine wq_gr (p' := 6) (ck_182 _ _ rfl) rfl (congrArg Prod.fst (ly_k I.1.1.1 77 rfl)) rfl (ly_g I.1.1.1 77 38 104 rfl) ?_
      refine av_wp_sqF ck_182 5 (pc' := 11) (lv' := [some (.inr (.inr (.inl (some (77))))), some (.inl o), some (.inl w), some (.inl k1)]) (st' := [.inl (((5) * k1) + w), .inr (.inr (.inl (some (104))))]) (h' := h) rfl ?_
      obtain ⟨v9, e10⟩ : ∃ v, hA h 104 (Int.toNat ((((5) * k1) + w))) = v := ⟨_, rfl⟩
      have g11 : -1 ≤ hA h 104 (Int.toNat ((((5) * k1) + w))) ∧ hA h 104 (Int.toNat ((((5) * k1) + w))) ≤ 999 := im_w I.1.1 104 (by decide) (by decide) _
      rw [e10] at g11
      have y12 : hA h 104 (Int.toNat ((((5) * k1) + w))) = v9 := (congrFun (Z.1 104 rfl) _).symm.trans e10
      have y13 : u (21 * (Int.toNat k1) + 10 + (Int.toNat w)) = v9 := ((X.1 (Int.toNat k1) (by omega)).2.1 (Int.toNat w) (by omega)).symm.trans ((congrArg (hA h 104) (by omega)).trans e10)
      refine wq_al (p' := 12) (n := 60) (ck_182 _ _ rfl) rfl (ly_k I.1.1.1 104 rfl) (by omega) (e10) ?_
      refine wq_k1 (p' := 15) (ck_182 _ _ rfl) rfl ⟨by omega, by omega⟩ (fun c14 => ?_) (fun c15 => ?_)
      · have c14 : (0) ≤ v9 := c14
        refine av_wp_sqF ck_182 1 (pc' := 36) (lv' := [some (.inr (.inr (.inl (some (77))))), some (.inl o), some (.inl w), some (.inl k1)]) (st' := [.inr (.inr (.inl (some (77))))]) (h' := h) rfl ?_
        refine wq_gr (p' := 39) (ck_182 _ _ rfl) rfl (congrArg Prod.fst (ly_k I.1.1.1 77 rfl)) rfl (ly_g I.1.1.1 77 38 104 rfl) ?_
        refine av_wp_sqF ck_182 5 (pc' := 44) (lv' := [some (.inr (.inr (.inl (some (77))))), some (.inl o), some (.inl w), some (.inl k1)]) (st' := [.inl (((5) * k1) + w), .inr (.inr (.inl (some (104))))]) (h' := h) rfl ?_
        obtain ⟨v16, e17⟩ : ∃ v, hA h 104 (Int.toNat ((((5) * k1) + w))) = v := ⟨_, rfl⟩
        have g18 : -1 ≤ hA h 104 (Int.toNat ((((5) * k1) + w))) ∧ hA h 104 (Int.toNat ((((5) * k1) + w))) ≤ 999 := im_w I.1.1 104 (by decide) (by decide) _
        rw [e17] at g18
        have y19 : hA h 104 (Int.toNat ((((5) * k1) + w))) = v16 := (congrFun (Z.1 104 rfl) _).symm.trans e17
        have y20 : u (21 * (Int.toNat k1) + 10 + (Int.toNat w)) = v16 := ((X.1 (Int.toNat k1) (by omega)).2.1 (Int.toNat w) (by omega)).symm.trans ((congrArg (hA h 104) (by omega)).trans e17)
        refine wq_al (p' := 45) (n := 60) (ck_182 _ _ rfl) rfl (ly_k I.1.1.1 104 rfl) (by omega) (e17) ?_
        refine av_wp_ret (v := some (.inl v16)) (ck_182 _ _ rfl) rfl rfl ?_
        exact hq _ (by rw [g6]; exact (wov_y (f := 11) (by omega) y20 (by omega)).symm)
      · have c15 : v9 < (0) := c15
        refine av_wp_sqF ck_182 1 (pc' := 16) (lv' := [some (.inr (.inr (.inl (some (77))))), some (.inl o), some (.inl w), some (.inl k1)]) (st' := [.inr (.inr (.inl (some (77))))]) (h' := h) rfl ?_
        refine wq_gr (p' := 19) (ck_182 _ _ rfl) rfl (congrArg Prod.fst (ly_k I.1.1.1 77 rfl)) rfl (ly_g I.1.1.1 77 30 96 rfl) ?_
        refine av_wp_sqF ck_182 1 (pc' := 20) (lv' := [some (.inr (.inr (.inl (some (77))))), some (.inl o), some (.inl w), some (.inl k1)]) (st' := [.inl k1, .inr (.inr (.inl (some (96))))]) (h' := h) rfl ?_
        obtain ⟨v21, e22⟩ : ∃ v, hA h 96 (Int.toNat (k1)) = v := ⟨_, rfl⟩
        have g23 : 0 ≤ hA h 96 (Int.toNat (k1)) ∧ hA h 96 (Int.toNat (k1)) ≤ 7 := im_w I.1.1 96 (by decide) (by decide) _
        rw [e22] at g23
        have y24 : hA h 96 (Int.toNat (k1)) = v21 := (congrFun (Z.1 96 rfl) _).symm.trans e22
        have y25 := (X.1 (Int.toNat (k1)) (by omega)).1.1
        rw [e22] at y25
        refine wq_al (p' := 21) (n := 12) (ck_182 _ _ rfl) rfl (ly_k I.1.1.1 96 rfl) (by omega) (e22) ?_
        refine av_wp_sqF ck_182 1 (pc' := 22) (lv' := [some (.inr (.inr (.inl (some (77))))), some (.inl o), some (.inl w), some (.inl k1)]) (st' := [.inl (3), .inl v21]) (h' := h) rfl ?_
        refine wq_k2 (p' := 25) (ck_182 _ _ rfl) rfl ⟨by omega, by omega⟩ ⟨by omega, by omega⟩ (fun c27 => ?_) (fun c28 => ?_)
        · have c27 : v21 ≠ (3) := c27
          refine av_wp_sqF ck_182 1 (pc' := 36) (lv' := [some (.inr (.inr (.inl (some (77))))), some (.inl o), some (.inl w), some (.inl k1)]) (st' := [.inr (.inr (.inl (some (77))))]) (h' := h) rfl ?_
          refine wq_gr (p' := 39) (ck_182 _ _ rfl) rfl (congrArg Prod.fst (ly_k I.1.1.1 77 rfl)) rfl (ly_g I.1.1.1 77 38 104 rfl) ?_
          refine av_wp_sqF ck_182 5 (pc' := 44) (lv' := [some (.inr (.inr (.inl (some (77))))), some (.inl o), some (.inl w), some (.inl k1)]) (st' := [.inl (((5) * k1) + w), .inr (.inr (.inl (some (104))))]) (h' := h) rfl ?_
          obtain ⟨v29, e30⟩ : ∃ v, hA h 104 (Int.toNat ((((5) * k1) + w))) = v := ⟨_, rfl⟩
          have g31 : -1 ≤ hA h 104 (Int.toNat ((((5) * k1) + w))) ∧ hA h 104 (Int.toNat ((((5) * k1) + w))) ≤ 999 := im_w I.1.1 104 (by decide) (by decide) _
          rw [e30] at g31
          have y32 : hA h 104 (Int.toNat ((((5) * k1) + w))) = v29 := (congrFun (Z.1 104 rfl) _).symm.trans e30
          have y33 : u (21 * (Int.toNat k1) + 10 + (Int.toNat w)) = v29 := ((X.1 (Int.toNat k1) (by omega)).2.1 (Int.toNat w) (by omega)).symm.trans ((congrArg (hA h 104) (by omega)).trans e30)
          refine wq_al (p' := 45) (n := 60) (ck_182 _ _ rfl) rfl (ly_k I.1.1.1 104 rfl) (by omega) (e30) ?_
          refine av_wp_ret (v := some (.inl v29)) (ck_182 _ _ rfl) rfl rfl ?_
          exact hq _ (by rw [g6]; exact (wov_e (f := 11) (by omega) y33 y25.symm (by omega)).symm)
        · have c28 : v21 = (3) := c28
          refine av_wp_sqF ck_182 1 (pc' := 26) (lv' := [some (.inr (.inr (.inl (some (77))))), some (.inl o), some (.inl w), some (.inl k1)]) (st' := [.inr (.inr (.inl (some (77))))]) (h' := h) rfl ?_
          refine wq_gr (p' := 29) (ck_182 _ _ rfl) rfl (congrArg Prod.fst (ly_k I.1.1.1 77 rfl)) rfl (ly_g I.1.1.1 77 34 100 rfl) ?_
          refine av_wp_sqF ck_182 1 (pc' := 30) (lv' := [some (.inr (.inr (.inl (some (77))))), some (.inl o), some (.inl w), some (.inl k1)]) (st' := [.inl k1, .inr (.inr (.inl (some (100))))]) (h' := h) rfl ?_
          obtain ⟨v34, e35⟩ : ∃ v, hA h 100 (Int.toNat (k1)) = v := ⟨_, rfl⟩
          have g36 : -1 ≤ hA h 100 (Int.toNat (k1)) ∧ hA h 100 (Int.toNat (k1)) ≤ 11 := im_w I.1.1 100 (by decide) (by decide) _
          rw [e35] at g36
          have w37 := im_wr I.1 (Int.toNat (k1)) (by omega)
          rw [e35] at w37
          have y38 : hA h 100 (Int.toNat (k1)) = v34 := (congrFun (Z.1 100 rfl) _).symm.trans e35
          have y39 := (X.1 (Int.toNat (k1)) (by omega)).1.2.2.2.1
          rw [e35] at y39
          have g41 := W (Int.toNat (k1)) (by omega)
          rw [← y39] at g41
          have g41a := g41.2.1
          have g41b := g41.2.2.1
          rw [← y25] at g41b
          clear g41
          refine wq_al (p' := 31) (n := 12) (ck_182 _ _ rfl) rfl (ly_k I.1.1.1 100 rfl) (by omega) (e35) ?_
          refine av_wp_sqF ck_182 2 (pc' := 2) (lv' := [some (.inr (.inr (.inl (some (77))))), some (.inl o), some (.inl w), some (.inl v34)]) (st' := []) (h' := h) rfl ?_
          exact I4 _ (by omega) (v34) (by rw [g6]; exact (wov_s (f := 11) (by omega) y13 (by omega) y25.symm (by omega) y39.symm).trans (wov_f W 12 11 12 _ (by omega) (by omega) (by omega) (by omega))) (by omega) (by omega) rfl
  exact L3 _ (o) rfl (by omega) (by omega) rfl

set_option maxRecDepth 100000 in
set_option maxHeartbeats 4000000 in
theorem cx_183 {g h : av_H} {n a m : Int} (I : IMF n a m h) (F : FM g h) {u ro : Nat → Int} {a0 : Nat → Nat → Int} {s : Nat} (en : n = (s : Int)) (X : LR u ro a0 s (hA h)) (W : UW u s) (R : RLW ro) (H : HBd s a0) {b o : Int} (e51 : hF h 77 51 = b) (e52 : hF h 77 52 = o) (qo : 0 ≤ o ∧ o < (s : Int)) (qb : b = -1 ∨ (0 ≤ b ∧ b < (s : Int) ∧ ysv u ro (Int.toNat b) ≠ 0)) (w : Int) (qw : 0 ≤ w ∧ w ≤ 4) {Q : Option av_V → av_H → Prop} (hq : ∀ v : Int, v = bwv u ro b o (Int.toNat w) → Q (some (.inl v)) h) : av_wp none cd_183 0 [some (.inr (.inr (.inl (some (77))))), some (.inl w), none] [] h Q := by
  have gn := im_n I.1.1
  rw [I.2.1] at gn
  have ga := im_a I.1.1
  rw [I.2.2.1] at ga
  have gm := im_cm I.1.1
  rw [I.2.2.2] at gm
  have s12 : s ≤ 12 := by omega
  have sm3 : 0 ≤ b → u (21 * Int.toNat b + 0) = 3 → smv u ro (Int.toNat b) = 1 := fun h1 h2 => ys_sm (qb.elim (fun z => absurd h1 (by omega)) (fun z => z.2.2)) h2
  have Z := ZE_rf (L := [113, 114, 115]) (K := [50, 51, 52, 53]) h
  refine av_wp_sqF ck_183 2 (pc' := 2) (lv' := [some (.inr (.inr (.inl (some (77))))), some (.inl w), none]) (st' := [.inr (.inr (.inl (some (77)))), .inr (.inr (.inl (some (77))))]) (h' := h) rfl ?_
  refine wq_gi (p' := 5) (ck_183 _ _ rfl) rfl (congrArg Prod.fst (ly_k I.1.1.1 77 rfl)) rfl (e52) ?_
  refine av_wp_sqF ck_183 1 (pc' := 6) (lv' := [some (.inr (.inr (.inl (some (77))))), some (.inl w), none]) (st' := [.inl w, .inl o, .inr (.inr (.inl (some (77))))]) (h' := h) rfl ?_
  refine wq_cv (p' := 9) (av_qc (.invokevirtual 421) 182 2 0 8) 4 cd_182 [.inl w, .inl o] (77) 8 [some (.inr (.inr (.inl (some (77))))), some (.inl o), some (.inl w), none] (ck_183 _ _ rfl) rfl rfl pp_182 rfl rfl rfl (congrArg Prod.fst (ly_k I.1.1.1 77 rfl)) rfl rfl rfl rfl ?_
  refine cx_182 I F en X W R H (o) (by omega) (w) (by omega) (fun v1 p2 => ?_)
  show av_wp _ cd_183 9 [some (.inr (.inr (.inl (some (77))))), some (.inl w), none] [.inl v1] h _
  refine av_wp_sqF ck_183 2 (pc' := 11) (lv' := [some (.inr (.inr (.inl (some (77))))), some (.inl w), some (.inl v1)]) (st' := [.inr (.inr (.inl (some (77))))]) (h' := h) rfl ?_
  refine wq_gi (p' := 14) (ck_183 _ _ rfl) rfl (congrArg Prod.fst (ly_k I.1.1.1 77 rfl)) rfl (e51) ?_
  refine wq_k1 (p' := 17) (ck_183 _ _ rfl) rfl ⟨by omega, by omega⟩ (fun c3 => ?_) (fun c4 => ?_)
  · have c3 : b < (0) := c3
    refine av_wp_sqF ck_183 1 (pc' := 55) (lv' := [some (.inr (.inr (.inl (some (77))))), some (.inl w), some (.inl v1)]) (st' := [.inl v1]) (h' := h) rfl ?_
    refine av_wp_ret (v := some (.inl v1)) (ck_183 _ _ rfl) rfl rfl ?_
    exact hq _ (by unfold bwv; rw [if_neg (fun z => by obtain ⟨z1, z2, z3, z4⟩ := z; omega)]; exact p2)
  · have c4 : (0) ≤ b := c4
    refine av_wp_sqF ck_183 2 (pc' := 19) (lv' := [some (.inr (.inr (.inl (some (77))))), some (.inl w), some (.inl v1)]) (st' := [.inr (.inr (.inl (some (77)))), .inr (.inr (.inl (some (77))))]) (h' := h) rfl ?_
    refine wq_gi (p' := 22) (ck_183 _ _ rfl) rfl (congrArg Prod.fst (ly_k I.1.1.1 77 rfl)) rfl (e51) ?_
    refine wq_cv (p' := 25) (av_qc (.invokevirtual 360) 167 1 0 8) 3 cd_167 [.inl b] (77) 8 [some (.inr (.inr (.inl (some (77))))), some (.inl b), none] (ck_183 _ _ rfl) rfl rfl pp_167 rfl rfl rfl (congrArg Prod.fst (ly_k I.1.1.1 77 rfl)) rfl rfl rfl rfl ?_
    refine cx_167 I F en X W R H (b) (by omega) (fun v5 p6 => ?_)
    have g7 := smv_b u ro (Int.toNat (b))
    rw [← p6] at g7
    show av_wp _ cd_183 25 [some (.inr (.inr (.inl (some (77))))), some (.inl w), some (.inl v1)] [.inl v5] h _
    refine wq_k1 (p' := 28) (ck_183 _ _ rfl) rfl ⟨by omega, by omega⟩ (fun c8 => ?_) (fun c9 => ?_)
    · have c8 : v5 = (0) := c8
      refine av_wp_sqF ck_183 1 (pc' := 55) (lv' := [some (.inr (.inr (.inl (some (77))))), some (.inl w), some (.inl v1)]) (st' := [.inl v1]) (h' := h) rfl ?_
      refine av_wp_ret (v := some (.inl v1)) (ck_183 _ _ rfl) rfl rfl ?_
      exact hq _ (by unfold bwv; rw [if_neg (fun z => by obtain ⟨z1, z2, z3, z4⟩ := z; have z5 := sm3 z1 z2; rw [← p6] at z5; omega)]; exact p2)
    · have c9 : v5 ≠ (0) := c9
      refine av_wp_sqF ck_183 1 (pc' := 29) (lv' := [some (.inr (.inr (.inl (some (77))))), some (.inl w), some (.inl v1)]) (st' := [.inr (.inr (.inl (some (77))))]) (h' := h) rfl ?_
      refine wq_gr (p' := 32) (ck_183 _ _ rfl) rfl (congrArg Prod.fst (ly_k I.1.1.1 77 rfl)) rfl (ly_g I.1.1.1 77 38 104 rfl) ?_
      refine av_wp_sqF ck_183 2 (pc' := 34) (lv' := [some (.inr (.inr (.inl (some (77))))), some (.inl w), some (.inl v1)]) (st' := [.inr (.inr (.inl (some (77)))), .inl (5), .inr (.inr (.inl (some (104))))]) (h' := h) rfl ?_
      refine wq_gi (p' := 37) (ck_183 _ _ rfl) rfl (congrArg Prod.fst (ly_k I.1.1.1 77 rfl)) rfl (e51) ?_
      refine av_wp_sqF ck_183 3 (pc' := 40) (lv' := [some (.inr (.inr (.inl (some (77))))), some (.inl w), some (.inl v1)]) (st' := [.inl (((5) * b) + w), .inr (.inr (.inl (some (104))))]) (h' := h) rfl ?_
      obtain ⟨v10, e11⟩ : ∃ v, hA h 104 (Int.toNat ((((5) * b) + w))) = v := ⟨_, rfl⟩
      have g12 : -1 ≤ hA h 104 (Int.toNat ((((5) * b) + w))) ∧ hA h 104 (Int.toNat ((((5) * b) + w))) ≤ 999 := im_w I.1.1 104 (by decide) (by decide) _
      rw [e11] at g12
      have y13 : hA h 104 (Int.toNat ((((5) * b) + w))) = v10 := (congrFun (Z.1 104 rfl) _).symm.trans e11
      have y14 : u (21 * (Int.toNat b) + 10 + (Int.toNat w)) = v10 := ((X.1 (Int.toNat b) (by omega)).2.1 (Int.toNat w) (by omega)).symm.trans ((congrArg (hA h 104) (by omega)).trans e11)
      refine wq_al (p' := 41) (n := 60) (ck_183 _ _ rfl) rfl (ly_k I.1.1.1 104 rfl) (by omega) (e11) ?_
      refine wq_k1 (p' := 44) (ck_183 _ _ rfl) rfl ⟨by omega, by omega⟩ (fun c15 => ?_) (fun c16 => ?_)
      · have c15 : v10 < (0) := c15
        refine av_wp_sqF ck_183 1 (pc' := 55) (lv' := [some (.inr (.inr (.inl (some (77))))), some (.inl w), some (.inl v1)]) (st' := [.inl v1]) (h' := h) rfl ?_
        refine av_wp_ret (v := some (.inl v1)) (ck_183 _ _ rfl) rfl rfl ?_
        exact hq _ (by unfold bwv; rw [if_neg (fun z => by obtain ⟨z1, z2, z3, z4⟩ := z; have z5 := sm3 z1 z2; rw [← p6] at z5; rw [y14] at z3; omega)]; exact p2)
      · have c16 : (0) ≤ v10 := c16
        refine av_wp_sqF ck_183 1 (pc' := 45) (lv' := [some (.inr (.inr (.inl (some (77))))), some (.inl w), some (.inl v1)]) (st' := [.inr (.inr (.inl (some (77))))]) (h' := h) rfl ?_
        refine wq_gr (p' := 48) (ck_183 _ _ rfl) rfl (congrArg Prod.fst (ly_k I.1.1.1 77 rfl)) rfl (ly_g I.1.1.1 77 26 95 rfl) ?_
        refine av_wp_sqF ck_183 1 (pc' := 50) (lv' := [some (.inr (.inr (.inl (some (77))))), some (.inl w), some (.inl v1)]) (st' := [.inl (10), .inr (.inr (.inl (some (95))))]) (h' := h) rfl ?_
        obtain ⟨v17, e18⟩ : ∃ v, hA h 95 (Int.toNat ((10))) = v := ⟨_, rfl⟩
        have y20 : hA h 95 (Int.toNat ((10))) = v17 := (congrFun (Z.1 95 rfl) _).symm.trans e18
        have y21 : ro 10 = v17 := (X.2 10 (by omega)).symm.trans e18
        have g22 := rl_10 R
        refine wq_al (p' := 51) (n := 13) (ck_183 _ _ rfl) rfl (ly_k I.1.1.1 95 rfl) (by omega) (e18) ?_
        refine wq_k1 (p' := 54) (ck_183 _ _ rfl) rfl ⟨by omega, by omega⟩ (fun c23 => ?_) (fun c24 => ?_)
        · have c23 : v17 ≠ (0) := c23
          refine av_wp_sqF ck_183 1 (pc' := 57) (lv' := [some (.inr (.inr (.inl (some (77))))), some (.inl w), some (.inl v1)]) (st' := [.inr (.inr (.inl (some (77))))]) (h' := h) rfl ?_
          refine wq_gr (p' := 60) (ck_183 _ _ rfl) rfl (congrArg Prod.fst (ly_k I.1.1.1 77 rfl)) rfl (ly_g I.1.1.1 77 26 95 rfl) ?_
          refine av_wp_sqF ck_183 1 (pc' := 62) (lv' := [some (.inr (.inr (.inl (some (77))))), some (.inl w), some (.inl v1)]) (st' := [.inl (10), .inr (.inr (.inl (some (95))))]) (h' := h) rfl ?_
          obtain ⟨v25, e26⟩ : ∃ v, hA h 95 (Int.toNat ((10))) = v := ⟨_, rfl⟩
          have y28 : hA h 95 (Int.toNat ((10))) = v25 := (congrFun (Z.1 95 rfl) _).symm.trans e26
          have y29 : ro 10 = v25 := (X.2 10 (by omega)).symm.trans e26
          have g30 := rl_10 R
          refine wq_al (p' := 63) (n := 13) (ck_183 _ _ rfl) rfl (ly_k I.1.1.1 95 rfl) (by omega) (e26) ?_
          refine av_wp_sqF ck_183 1 (pc' := 64) (lv' := [some (.inr (.inr (.inl (some (77))))), some (.inl w), some (.inl v1)]) (st' := [.inl (1), .inl v25]) (h' := h) rfl ?_
          refine wq_k2 (p' := 67) (ck_183 _ _ rfl) rfl ⟨by omega, by omega⟩ ⟨by omega, by omega⟩ (fun c31 => ?_) (fun c32 => ?_)
          · have c31 : v25 ≠ (1) := c31
            refine av_wp_sqF ck_183 1 (pc' := 84) (lv' := [some (.inr (.inr (.inl (some (77))))), some (.inl w), some (.inl v1)]) (st' := [.inl (-1)]) (h' := h) rfl ?_
            refine av_wp_ret (v := some (.inl (-1))) (ck_183 _ _ rfl) rfl rfl ?_
            exact hq _ (by unfold bwv; rw [if_pos ⟨by omega, sm_3 (p6.symm.trans (by omega)), by rw [y14]; omega, by rw [y29]; omega⟩, if_neg (by rw [y29]; omega)])
          · have c32 : v25 = (1) := c32
            refine av_wp_sqF ck_183 1 (pc' := 68) (lv' := [some (.inr (.inr (.inl (some (77))))), some (.inl w), some (.inl v1)]) (st' := [.inr (.inr (.inl (some (77))))]) (h' := h) rfl ?_
            refine wq_gr (p' := 71) (ck_183 _ _ rfl) rfl (congrArg Prod.fst (ly_k I.1.1.1 77 rfl)) rfl (ly_g I.1.1.1 77 38 104 rfl) ?_
            refine av_wp_sqF ck_183 2 (pc' := 73) (lv' := [some (.inr (.inr (.inl (some (77))))), some (.inl w), some (.inl v1)]) (st' := [.inr (.inr (.inl (some (77)))), .inl (5), .inr (.inr (.inl (some (104))))]) (h' := h) rfl ?_
            refine wq_gi (p' := 76) (ck_183 _ _ rfl) rfl (congrArg Prod.fst (ly_k I.1.1.1 77 rfl)) rfl (e51) ?_
            refine av_wp_sqF ck_183 3 (pc' := 79) (lv' := [some (.inr (.inr (.inl (some (77))))), some (.inl w), some (.inl v1)]) (st' := [.inl (((5) * b) + w), .inr (.inr (.inl (some (104))))]) (h' := h) rfl ?_
            obtain ⟨v33, e34⟩ : ∃ v, hA h 104 (Int.toNat ((((5) * b) + w))) = v := ⟨_, rfl⟩
            have g35 : -1 ≤ hA h 104 (Int.toNat ((((5) * b) + w))) ∧ hA h 104 (Int.toNat ((((5) * b) + w))) ≤ 999 := im_w I.1.1 104 (by decide) (by decide) _
            rw [e34] at g35
            have y36 : hA h 104 (Int.toNat ((((5) * b) + w))) = v33 := (congrFun (Z.1 104 rfl) _).symm.trans e34
            have y37 : u (21 * (Int.toNat b) + 10 + (Int.toNat w)) = v33 := ((X.1 (Int.toNat b) (by omega)).2.1 (Int.toNat w) (by omega)).symm.trans ((congrArg (hA h 104) (by omega)).trans e34)
            refine wq_al (p' := 80) (n := 60) (ck_183 _ _ rfl) rfl (ly_k I.1.1.1 104 rfl) (by omega) (e34) ?_
            refine av_wp_sqF ck_183 1 (pc' := 84) (lv' := [some (.inr (.inr (.inl (some (77))))), some (.inl w), some (.inl v1)]) (st' := [.inl v33]) (h' := h) rfl ?_
            refine av_wp_ret (v := some (.inl v33)) (ck_183 _ _ rfl) rfl rfl ?_
            exact hq _ (by unfold bwv; rw [if_pos ⟨by omega, sm_3 (p6.symm.trans (by omega)), by rw [y37]; omega, by rw [y29]; omega⟩, if_pos (y29.trans (by omega))]; exact y37.symm)
        · have c24 : v17 = (0) := c24
          refine av_wp_sqF ck_183 1 (pc' := 55) (lv' := [some (.inr (.inr (.inl (some (77))))), some (.inl w), some (.inl v1)]) (st' := [.inl v1]) (h' := h) rfl ?_
          refine av_wp_ret (v := some (.inl v1)) (ck_183 _ _ rfl) rfl rfl ?_
          exact hq _ (by unfold bwv; rw [if_neg (fun z => by obtain ⟨z1, z2, z3, z4⟩ := z; have z5 := sm3 z1 z2; rw [← p6] at z5; rw [y14] at z3; rw [y21] at z4; omega)]; exact p2)
end
section
/-! WHAT IS READ IS WELL FORMED: the bounds of each cell -/
def vlo (o : Nat) : Int := if o < 7 then -1 else if o < 10 then 0 else if o < 15 then -1 else 0
def vhi (ah : Int) (o : Nat) : Int := if o = 0 then 7 else if o ≤ 2 then 2 else if o = 3 then 11 else if o = 4 then 3 else if o = 5 then 1999 else if o = 6 then ah - 1 else if o = 7 then 1999 else if o < 15 then 999 else if o < 18 then 16 else if o = 18 then 2 else 0
def VB (ah : Int) (t : TT) (r : Nat → Int) (row : Nat) : Prop := t.2.2.2 = -1 → ∀ o, o < 21 → vlo o ≤ r (row + o) ∧ r (row + o) ≤ vhi ah o
section
variable {b : Nat → Int} {lim : Nat} {t t' : TT} {row : Nat} {r : Nat → Int} {ah : Int}
theorem vb_t (V : VB ah t r row) (e : t'.2.2.2 = -1 → t.2.2.2 = -1) : VB ah t' r row := fun z => V (e z)
theorem vb_u {i : Nat} {v : Int} (V : VB ah t r row) (o : Nat) (ei : i = row + o) (e : t.2.2.2 = -1 → vlo o ≤ v ∧ v ≤ vhi ah o) : VB ah t (av_u1 r i v) row := fun z q hq => by
  subst ei
  by_cases eq : q = o
  · subst eq
    rw [u1_eq]
    exact e z
  · rw [u1_ne (by omega)]
    exact V z q hq
theorem vb_O (V : VB ah t r row) : VB ah (rsO b lim row t r).1 (rsO b lim row t r).2 row := by
  unfold rsO
  have g1 := pkv_le (b := b) (t := t) 1 2 rfl
  split
  · exact fun z => absurd ((cho_o z).1) fal_ne
  · exact vb_u (vb_t V (fun z => (cho_o z).1)) 2 rfl (fun _ => by show (-1 : Int) ≤ _ ∧ _ ≤ (2 : Int); omega)
theorem vb_S {k : Nat} {kind : Int} (V : VB ah t r (k * 21)) (hk : k ≤ 11) : VB ah (rsS b lim k kind t r).1 (rsS b lim k kind t r).2 (k * 21) := by
  unfold rsS
  split
  · next c => exact vb_u (vb_t V (fun z => z)) 3 rfl (fun _ => by have := c.1; show (-1 : Int) ≤ _ ∧ _ ≤ (11 : Int); omega)
  · exact fun z => absurd z fal_ne
theorem vb_W : ∀ (n : Nat) (t : TT) (r : Nat → Int), VB ah t r row → VB ah (rsW b lim row n t r).1 (rsW b lim row n t r).2 row := by
  intro n
  induction n with
  | zero => intro t r V; exact V
  | succ n ih =>
    intro t r V
    by_cases e : pkv b t 2 = -1
    · rw [rsW_e e]; exact V
    · rw [rsW_g e]
      have g1 := pkv_le (b := b) (t := t) 2 4 rfl
      refine ih _ _ (vb_u (vb_t V (fun z => (nmt_o z).1)) (10 + (pkv b t 2).toNat) (by omega) (fun z => ?_))
      have := nmv_b z
      unfold vlo vhi
      rw [if_neg (by omega), if_neg (by omega), if_pos (by omega), if_neg (by omega), if_neg (by omega), if_neg (by omega), if_neg (by omega), if_neg (by omega), if_neg (by omega), if_neg (by omega), if_pos (by omega)]
      omega
theorem vb_T (V : VB ah t r row) : VB ah (rsT b lim row ah t r).1 (rsT b lim row ah t r).2 row := by
  have e1 := vb_W (b := b) (lim := lim) (row := row) (ah := ah) 900 t r V
  unfold rsT
  generalize rsW b lim row 900 t r = x at e1 ⊢
  have e2 : VB ah (rsT1 b lim row x).1 (rsT1 b lim row x).2 row := by
    unfold rsT1
    split
    · exact e1
    · exact vb_u (vb_t e1 (fun z => (nmt_o z).1)) 5 rfl (fun z => by have := nmv_b z; show (-1 : Int) ≤ _ ∧ _ ≤ (1999 : Int); omega)
  generalize rsT1 b lim row x = y at e2 ⊢
  unfold rsT2
  split
  · exact e2
  · exact vb_u (vb_t e2 (fun z => (nmt_o z).1)) 6 rfl (fun z => by have := nmv_b z; show (-1 : Int) ≤ _ ∧ _ ≤ ah - 1; omega)
theorem vb_B (V : VB ah t r row) (hr : t.2.2.2 = -1 → 0 ≤ r (row + 3) → r (row + 3) < 12 → (r (row + 3)).toNat * 21 + 1 ≠ row ∧ -1 ≤ r ((r (row + 3)).toNat * 21 + 1) ∧ r ((r (row + 3)).toNat * 21 + 1) ≤ 2) : VB ah (rsB b lim row t r).1 (rsB b lim row t r).2 row := by
  unfold rsB
  refine vb_W 900 _ _ ?_
  have V1 : VB ah t (av_u1 r row 3) row := vb_u V 0 rfl (fun _ => by show (-1 : Int) ≤ 3 ∧ (3 : Int) ≤ 7; omega)
  have V2 : VB ah t (rsB0 row (av_u1 r row 3)) row := by
    unfold rsB0
    rw [u1_ne (show row + 3 ≠ row by omega)]
    split
    · next c =>
      refine vb_u V1 2 rfl (fun z => ?_)
      have h := hr z c.1 c.2
      rw [u1_ne h.1]
      exact h.2
    · exact V1
  split
  · exact fun z => absurd z fal_ne
  · exact V2
theorem vb_P {i : Nat} {most : Int} (hi : i ≤ 2) (hm : most = if i = 0 then 1999 else 999) (V : VB ah t r row) : VB ah (rsP b lim row i most t r).1 (rsP b lim row i most t r).2 row := by
  have V1 : VB ah (nmt b lim t 0 most) (av_u1 r (row + 7 + i) (nmv b t 0 most)) row := vb_u (vb_t V (fun z => (nmt_o z).1)) (7 + i) (by omega) (fun z => by
    have := nmv_b z
    rcases (show i = 0 ∨ i = 1 ∨ i = 2 by omega) with e | e | e <;> subst e
    · show (0 : Int) ≤ _ ∧ _ ≤ (1999 : Int)
      rw [if_pos rfl] at hm
      omega
    · show (0 : Int) ≤ _ ∧ _ ≤ (999 : Int)
      rw [if_neg (by decide)] at hm
      omega
    · show (0 : Int) ≤ _ ∧ _ ≤ (999 : Int)
      rw [if_neg (by decide)] at hm
      omega)
  unfold rsP
  generalize nmt b lim t 0 most = t1 at V1 ⊢
  generalize nmv b t 0 most = v at V1 ⊢
  generalize av_u1 r (row + 7 + i) v = r1 at V1 ⊢
  unfold rsP1
  split
  · exact V1
  · refine vb_u (vb_t V1 (fun z => (nmt_o z).1)) (15 + i) (by omega) (fun z => ?_)
    have h1 := nmv_b z
    have h2 : mn2 most (v + 15) ≤ v + 15 := by unfold mn2; split <;> omega
    rcases (show i = 0 ∨ i = 1 ∨ i = 2 by omega) with e | e | e <;> subst e
    · show (0 : Int) ≤ _ ∧ _ ≤ (16 : Int); omega
    · show (0 : Int) ≤ _ ∧ _ ≤ (16 : Int); omega
    · show (0 : Int) ≤ _ ∧ _ ≤ (16 : Int); omega
theorem vb_M (V : VB ah t r row) : VB ah (rsM b lim row t r).1 (rsM b lim row t r).2 row := by
  have g1 := pkv_le (b := b) (t := t) 6 3 rfl
  have e0 : VB ah (rsM0 b lim row t r).1 (rsM0 b lim row t r).2 row := by
    unfold rsM0
    refine vb_P (by omega) rfl ?_
    exact vb_u (vb_t V (fun z => (cho_o (cho_o z).1).1)) 4 rfl (fun _ => by show (-1 : Int) ≤ _ ∧ _ ≤ (3 : Int); omega)
  have e3 : ∀ x : TT × (Nat → Int), VB ah x.1 x.2 row → VB ah (rsM3 b lim row x).1 (rsM3 b lim row x).2 row := by
    intro x V
    unfold rsM3
    have p1 : VB ah (rsP b lim row 1 999 (cho b lim x.1 9) x.2).1 (rsP b lim row 1 999 (cho b lim x.1 9) x.2).2 row := vb_P (by omega) rfl (vb_t V (fun z => (cho_o z).1))
    generalize rsP b lim row 1 999 (cho b lim x.1 9) x.2 = y at p1 ⊢
    have e1 : VB ah (rsM1 b lim row y).1 (rsM1 b lim row y).2 row := by
      unfold rsM1
      split
      · exact p1
      · exact vb_P (by omega) rfl (vb_t p1 (fun z => z))
    generalize rsM1 b lim row y = u at e1 ⊢
    unfold rsM2
    split
    · exact e1
    · exact vb_u (vb_t e1 (fun z => z)) 18 rfl (fun _ => by show (0 : Int) ≤ 2 ∧ (2 : Int) ≤ 2; omega)
  unfold rsM
  split
  · exact e3 _ e0
  · exact e0
theorem vb_tab : ∀ o : Nat, o < 21 → o ≠ 6 → vlo o ≤ (if (7 ≤ o ∧ o < 10) ∨ 15 ≤ o then (0 : Int) else -1) ∧ (if (7 ≤ o ∧ o < 10) ∨ 15 ≤ o then (0 : Int) else -1) ≤ vhi 0 o := by decide +kernel
theorem vb_0 {k : Nat} (ha : 0 ≤ ah) : VB ah (rs1 b lim k t r).1 (rs1 b lim k t r).2 (k * 21) := by
  have g0 := pkv_le (b := b) (t := t) 0 6 rfl
  have g1 := pkv_le (b := b) (t := cho b lim t 0) 1 2 rfl
  have g2 : -1 ≤ rsK b t ∧ rsK b t ≤ 7 := by unfold rsK; split <;> omega
  refine vb_u (vb_u (fun _ o ho => ?_) 0 rfl (fun _ => by show (-1 : Int) ≤ _ ∧ _ ≤ (7 : Int); omega)) 1 rfl (fun _ => by show (-1 : Int) ≤ _ ∧ _ ≤ (2 : Int); omega)
  rw [rs0_v ho]
  by_cases c6 : o = 6
  · subst c6
    show (-1 : Int) ≤ -1 ∧ (-1 : Int) ≤ ah - 1
    omega
  · rw [show vhi ah o = vhi 0 o by unfold vhi; simp only [if_neg c6]]
    exact vb_tab o ho c6
theorem vb_y {k : Nat} (hk : k ≤ 11) (ha : 0 ≤ ah) (hr : ∀ q : Nat, q < k → -1 ≤ r (q * 21 + 1) ∧ r (q * 21 + 1) ≤ 2) : VB ah (rsy b lim k ah t r).1 (rsy b lim k ah t r).2 (k * 21) := by
  have e1 : VB ah (rs1 b lim k t r).1 (rs1 b lim k t r).2 (k * 21) ∧ ∀ j, j < k * 21 → (rs1 b lim k t r).2 j = r j := by
    refine ⟨vb_0 ha, fun j hj => ?_⟩
    show av_u1 (av_u1 (rs0 k r) (k * 21) (rsK b t)) (k * 21 + 1) _ j = r j
    rw [u1_ne (by omega), u1_ne (by omega), rs0_n (by omega)]
  unfold rsy
  generalize rsK b t = kind
  generalize rs1 b lim k t r = x at e1 ⊢
  have e2 : VB ah (rs2 b lim k kind x).1 (rs2 b lim k kind x).2 (k * 21) ∧ (∀ j, j < k * 21 → (rs2 b lim k kind x).2 j = r j) ∧ (kind = 2 → (rs2 b lim k kind x).1.2.2.2 = -1 → (rs2 b lim k kind x).2 (k * 21 + 3) < k) := by
    unfold rs2
    split
    · next c => exact ⟨vb_O e1.1, fun j hj => (rsO_fr (by omega)).trans (e1.2 j hj), fun h => by omega⟩
    · refine ⟨vb_S e1.1 hk, fun j hj => (rsS_fr (by omega)).trans (e1.2 j hj), fun _ zz => ?_⟩
      have o1 := rsS_o zz
      rw [o1.2.2.2]
      show av_u1 x.2 (k * 21 + 3) (vlv b x.1) (k * 21 + 3) < k
      rw [u1_eq]
      exact o1.2.2.1
  generalize rs2 b lim k kind x = y at e2 ⊢
  have e3 : VB ah (rs3 b lim k ah kind y).1 (rs3 b lim k ah kind y).2 (k * 21) ∧ (∀ j, j < k * 21 → (rs3 b lim k ah kind y).2 j = r j) ∧ (kind = 2 → (rs3 b lim k ah kind y).1.2.2.2 = -1 → (rs3 b lim k ah kind y).2 (k * 21 + 3) < k) := by
    unfold rs3
    split
    · exact ⟨vb_T e2.1, fun j hj => (rsT_fr (by omega)).trans (e2.2.1 j hj), fun h => by omega⟩
    · exact e2
  generalize rs3 b lim k ah kind y = z at e3 ⊢
  have e4 : VB ah (rs4 b lim k kind z).1 (rs4 b lim k kind z).2 (k * 21) := by
    unfold rs4
    split
    · next c =>
      split
      · exact e3.1
      · refine vb_B (vb_t e3.1 (fun z => z)) (fun zz h1 h2 => ?_)
        have h3 := e3.2.2 c zz
        have h4 := e3.2.1 ((z.2 (k * 21 + 3)).toNat * 21 + 1) (by omega)
        have h5 := hr (z.2 (k * 21 + 3)).toNat (by omega)
        rw [h4]
        exact ⟨by omega, h5⟩
    · exact e3.1
  generalize rs4 b lim k kind z = u at e4 ⊢
  unfold rs5
  exact vb_t (vb_M e4) (fun z => sem_o z)
end
end
section
/-! WHAT IS READ IS WELL FORMED: kinds, hands, whom -/
section
variable {b : Nat → Int} {lim row : Nat} {t : TT} {r : Nat → Int}
theorem rsT_in {ah : Int} {j : Nat} (hj : j < row + 5 ∨ row + 15 ≤ j) : (rsT b lim row ah t r).2 j = r j := by
  have w := rsW_in (b := b) (lim := lim) (row := row) (j := j) (by omega) 900 t r
  unfold rsT
  generalize rsW b lim row 900 t r = x at w ⊢
  rw [← w]
  have e1 : (rsT1 b lim row x).2 j = x.2 j := by
    unfold rsT1
    split
    · rfl
    · exact u1_ne (by omega)
  rw [← e1]
  unfold rsT2
  split
  · rfl
  · exact u1_ne (by omega)
theorem rsT_ok {ah : Int} (h : (rsT b lim row ah t r).1.2.2.2 = -1) : t.2.2.2 = -1 := by
  by_cases e : t.2.2.2 = -1
  · exact e
  · rw [rsT_w e] at h
    exact absurd h e
theorem rsP_ok {i : Nat} {most : Int} (h : (rsP b lim row i most t r).1.2.2.2 = -1) : t.2.2.2 = -1 := by
  by_cases e : t.2.2.2 = -1
  · exact e
  · rw [rsP_w e] at h
    exact absurd h e
theorem rsM3_ok {x : TT × (Nat → Int)} (h : (rsM3 b lim row x).1.2.2.2 = -1) : x.1.2.2.2 = -1 := by
  by_cases e : x.1.2.2.2 = -1
  · exact e
  · rw [rsM3_w e] at h
    exact absurd h e
theorem rsM3_in {x : TT × (Nat → Int)} {j : Nat} (hj : j < row + 8) : (rsM3 b lim row x).2 j = x.2 j := by
  unfold rsM3
  have p1 := rsP_in (b := b) (lim := lim) (row := row) (t := cho b lim x.1 9) (r := x.2) (i := 1) (most := 999) (j := j) (by omega) (by omega)
  generalize rsP b lim row 1 999 (cho b lim x.1 9) x.2 = y at p1 ⊢
  rw [← p1]
  have e1 : (rsM1 b lim row y).2 j = y.2 j := by
    unfold rsM1
    split
    · rfl
    · exact rsP_in (by omega) (by omega)
  rw [← e1]
  unfold rsM2
  split
  · rfl
  · exact u1_ne (by omega)
theorem rsM_4 (h : (rsM b lim row t r).1.2.2.2 = -1) : 0 ≤ (rsM b lim row t r).2 (row + 4) := by
  have g1 := pkv_le (b := b) (t := t) 6 3 rfl
  have e0 : (rsM0 b lim row t r).2 (row + 4) = pkv b t 6 := by
    unfold rsM0
    rw [rsP_in (by omega) (by omega)]
    exact u1_eq
  have o0 : (rsM0 b lim row t r).1.2.2.2 = -1 → pkv b t 6 ≠ -1 := fun z => (cho_o (cho_o (rsP_ok z)).1).2.1
  unfold rsM at h ⊢
  split
  · next c =>
    rw [if_pos c] at h
    rw [rsM3_in (by omega), e0]
    have := o0 (rsM3_ok h)
    omega
  · next c =>
    rw [if_neg c] at h
    rw [e0]
    have := o0 h
    omega
theorem rsM_18 : (rsM b lim row t r).2 (row + 18) = r (row + 18) ∨ (rsM b lim row t r).2 (row + 18) = 2 := by
  have e0 : (rsM0 b lim row t r).2 (row + 18) = r (row + 18) := by
    unfold rsM0
    rw [rsP_in (by omega) (by omega)]
    exact u1_ne (by omega)
  have e3 : ∀ x : TT × (Nat → Int), (rsM3 b lim row x).2 (row + 18) = x.2 (row + 18) ∨ (rsM3 b lim row x).2 (row + 18) = 2 := by
    intro x
    unfold rsM3
    have p1 := rsP_in (b := b) (lim := lim) (row := row) (t := cho b lim x.1 9) (r := x.2) (i := 1) (most := 999) (j := row + 18) (by omega) (by omega)
    generalize rsP b lim row 1 999 (cho b lim x.1 9) x.2 = y at p1 ⊢
    rw [← p1]
    have e1 : (rsM1 b lim row y).2 (row + 18) = y.2 (row + 18) := by
      unfold rsM1
      split
      · rfl
      · exact rsP_in (by omega) (by omega)
    rw [← e1]
    unfold rsM2
    split
    · exact Or.inl rfl
    · exact Or.inr u1_eq
  unfold rsM
  split
  · rcases e3 (rsM0 b lim row t r) with z | z
    · exact Or.inl (z.trans e0)
    · exact Or.inr z
  · exact Or.inl e0
theorem rsB_3 : (rsB b lim row t r).2 row = 3 := by
  unfold rsB
  rw [rsW_in (by omega)]
  unfold rsB0
  split
  · exact (u1_ne (by omega)).trans u1_eq
  · exact u1_eq
theorem rsB_1 : (rsB b lim row t r).2 (row + 1) = r (row + 1) := by
  unfold rsB
  rw [rsW_in (by omega)]
  unfold rsB0
  split
  · exact (u1_ne (by omega)).trans (u1_ne (by omega))
  · exact u1_ne (by omega)
theorem rsB_18 : (rsB b lim row t r).2 (row + 18) = r (row + 18) := by
  unfold rsB
  rw [rsW_in (by omega)]
  unfold rsB0
  split
  · exact (u1_ne (by omega)).trans (u1_ne (by omega))
  · exact u1_ne (by omega)
theorem rsB_2 {q : Nat} (e : r (row + 3) = (q : Int)) (hq : q < 12) (hn : q * 21 + 1 ≠ row) : (rsB b lim row t r).2 (row + 2) = r (q * 21 + 1) := by
  unfold rsB
  rw [rsW_in (by omega)]
  unfold rsB0
  rw [u1_ne (show row + 3 ≠ row by omega), e, if_pos (by omega), u1_eq, Int.toNat_natCast, u1_ne hn]
end
/-- of one saying -/
def WRD (k : Nat) (R : Nat → Int) : Prop := 0 ≤ R (k * 21) ∧ 0 ≤ R (k * 21 + 1) ∧ (R (k * 21) < 2 → R (k * 21 + 3) = -1) ∧ ((R (k * 21) = 0 ∨ R (k * 21) = 1 ∨ R (k * 21) = 3) → 0 ≤ R (k * 21 + 2)) ∧ 0 ≤ R (k * 21 + 4) ∧ (R (k * 21 + 18) = 0 ∨ R (k * 21 + 18) = 2)
theorem rsy_wd {b : Nat → Int} {lim k : Nat} {ah : Int} {t : TT} {r : Nat → Int} (hk : k ≤ 11) (hr : ∀ q : Nat, q < k → 0 ≤ r (q * 21 + 1)) (h : (rsy b lim k ah t r).1.2.2.2 = -1) : WRD k (rsy b lim k ah t r).2 := by
  have g0 := pkv_le (b := b) (t := t) 0 6 rfl
  have g1 := pkv_le (b := b) (t := cho b lim t 0) 1 2 rfl
  have e0 : (rs1 b lim k t r).2 (k * 21) = rsK b t := by
    show av_u1 (av_u1 (rs0 k r) (k * 21) (rsK b t)) (k * 21 + 1) _ (k * 21) = _
    rw [u1_ne (by omega), u1_eq]
  have e1 : (rs1 b lim k t r).2 (k * 21 + 1) = pkv b (cho b lim t 0) 1 := by
    show av_u1 (av_u1 (rs0 k r) (k * 21) (rsK b t)) (k * 21 + 1) _ (k * 21 + 1) = _
    exact u1_eq
  have eo : ∀ o, 2 ≤ o → o < 21 → (rs1 b lim k t r).2 (k * 21 + o) = if (7 ≤ o ∧ o < 10) ∨ 15 ≤ o then 0 else -1 := fun o h1 h2 => by
    show av_u1 (av_u1 (rs0 k r) (k * 21) (rsK b t)) (k * 21 + 1) _ (k * 21 + o) = _
    rw [u1_ne (by omega), u1_ne (by omega), rs0_v h2]
  have e3 : (rs1 b lim k t r).2 (k * 21 + 3) = -1 := eo 3 (by omega) (by omega)
  have e18 : (rs1 b lim k t r).2 (k * 21 + 18) = 0 := eo 18 (by omega) (by omega)
  have ej : ∀ j, j < k * 21 → (rs1 b lim k t r).2 j = r j := fun j hj => by
    show av_u1 (av_u1 (rs0 k r) (k * 21) (rsK b t)) (k * 21 + 1) _ j = r j
    rw [u1_ne (by omega), u1_ne (by omega), rs0_n (by omega)]
  have eok : (rs1 b lim k t r).1.2.2.2 = -1 → 0 ≤ rsK b t ∧ 0 ≤ pkv b (cho b lim t 0) 1 := fun z => by
    have z1 := cho_o z
    have z2 := (cho_o z1.1).2.1
    have z3 := z1.2.1
    refine ⟨?_, by omega⟩
    unfold rsK
    split <;> omega
  have k3 : rsK b t ≠ 3 := by
    unfold rsK
    split <;> omega
  clear eo g0 g1
  unfold rsy at h ⊢
  generalize rsK b t = kind at e0 eok k3 h ⊢
  generalize pkv b (cho b lim t 0) 1 = hd at e1 eok
  generalize rs1 b lim k t r = x at e0 e1 e3 e18 ej eok h ⊢
  have o5 : ∀ u : TT × (Nat → Int), (rs5 b lim k u).1.2.2.2 = -1 → u.1.2.2.2 = -1 ∧ 0 ≤ (rs5 b lim k u).2 (k * 21 + 4) := fun u z => ⟨rsM_ok (sem_o z), rsM_4 (sem_o z)⟩
  have i5 : ∀ (u : TT × (Nat → Int)) (j : Nat), j < k * 21 + 4 → (rs5 b lim k u).2 j = u.2 j := fun u j hj => rsM_in hj
  have i18 : ∀ u : TT × (Nat → Int), u.2 (k * 21 + 18) = 0 → (rs5 b lim k u).2 (k * 21 + 18) = 0 ∨ (rs5 b lim k u).2 (k * 21 + 18) = 2 := fun u z => by
    rcases rsM_18 (b := b) (lim := lim) (row := k * 21) (t := u.1) (r := u.2) with y | y
    · exact Or.inl (y.trans z)
    · exact Or.inr y
  have h4 := (o5 _ h).1
  have h44 := (o5 _ h).2
  unfold WRD
  rw [i5 _ (k * 21) (by omega), i5 _ (k * 21 + 1) (by omega), i5 _ (k * 21 + 2) (by omega), i5 _ (k * 21 + 3) (by omega)]
  by_cases c : kind = 0 ∨ kind = 1
  · have e4 : ∀ y, rs4 b lim k kind y = y := fun y => by
      unfold rs4
      rw [if_neg (by omega)]
    rw [e4] at h4 ⊢
    rw [e4] at h44
    have e2 : rs2 b lim k kind x = rsO b lim (k * 21) x.1 x.2 := by
      unfold rs2
      rw [if_pos c]
    rw [e2] at h4 h44 ⊢
    have h2 : (rsO b lim (k * 21) x.1 x.2).1.2.2.2 = -1 := by
      unfold rs3 at h4
      split at h4
      · exact rsT_ok h4
      · exact h4
    have i3 : ∀ j, j < k * 21 + 5 ∨ k * 21 + 15 ≤ j → (rs3 b lim k ah kind (rsO b lim (k * 21) x.1 x.2)).2 j = (rsO b lim (k * 21) x.1 x.2).2 j := fun j hj => by
      unfold rs3
      split
      · exact rsT_in hj
      · rfl
    have r18 := i18 (rs3 b lim k ah kind (rsO b lim (k * 21) x.1 x.2))
    rw [i3 (k * 21 + 18) (by omega)] at r18
    rw [i3 (k * 21) (by omega), i3 (k * 21 + 1) (by omega), i3 (k * 21 + 2) (by omega), i3 (k * 21 + 3) (by omega)]
    have g1 := pkv_le (b := b) (t := x.1) 1 2 rfl
    unfold rsO at h2 r18 h44 ⊢
    split at h2
    · exact absurd (cho_o h2).1 fal_ne
    · next q =>
      have z := cho_o h2
      have ok := eok z.1
      have z2 := z.2.1
      rw [if_neg q] at r18 h44 ⊢
      have f0 : av_u1 x.2 (k * 21 + 2) (pkv b x.1 1) (k * 21) = kind := (u1_ne (by omega)).trans e0
      have f1 : av_u1 x.2 (k * 21 + 2) (pkv b x.1 1) (k * 21 + 1) = hd := (u1_ne (by omega)).trans e1
      have f3 : av_u1 x.2 (k * 21 + 2) (pkv b x.1 1) (k * 21 + 3) = -1 := (u1_ne (by omega)).trans e3
      have f18 : av_u1 x.2 (k * 21 + 2) (pkv b x.1 1) (k * 21 + 18) = 0 := (u1_ne (by omega)).trans e18
      refine ⟨?_, ?_, fun _ => f3, fun _ => ?_, h44, r18 f18⟩
      · show 0 ≤ av_u1 x.2 (k * 21 + 2) (pkv b x.1 1) (k * 21)
        rw [f0]; exact ok.1
      · show 0 ≤ av_u1 x.2 (k * 21 + 2) (pkv b x.1 1) (k * 21 + 1)
        rw [f1]; exact ok.2
      · show 0 ≤ av_u1 x.2 (k * 21 + 2) (pkv b x.1 1) (k * 21 + 2)
        rw [u1_eq]; omega
  · have e3' : rs3 b lim k ah kind (rs2 b lim k kind x) = rs2 b lim k kind x := by
      unfold rs3
      rw [if_neg (by omega)]
    rw [e3'] at h4 h44 ⊢
    have e2 : rs2 b lim k kind x = rsS b lim k kind x.1 x.2 := by
      unfold rs2
      rw [if_neg c]
    rw [e2] at h4 h44 ⊢
    have r4 := rs4_in h4
    have o1 := rsS_o r4.1
    have ok := eok o1.1
    rw [o1.2.2.2] at h4 h44 ⊢
    generalize vlv b x.1 = w at o1 h4 h44 ⊢
    have f0 : av_u1 x.2 (k * 21 + 3) w (k * 21) = kind := (u1_ne (by omega)).trans e0
    have f1 : av_u1 x.2 (k * 21 + 3) w (k * 21 + 1) = hd := (u1_ne (by omega)).trans e1
    have f3 : av_u1 x.2 (k * 21 + 3) w (k * 21 + 3) = w := u1_eq
    have f18 : av_u1 x.2 (k * 21 + 3) w (k * 21 + 18) = 0 := (u1_ne (by omega)).trans e18
    have r18 := i18 (rs4 b lim k kind (adv b lim x.1, av_u1 x.2 (k * 21 + 3) w))
    by_cases d : kind = 2 ∧ ¬ pkv b (adv b lim x.1) 5 = -1
    · have e4 : rs4 b lim k kind (adv b lim x.1, av_u1 x.2 (k * 21 + 3) w) = rsB b lim (k * 21) (adv b lim (adv b lim x.1)) (av_u1 x.2 (k * 21 + 3) w) := by
        unfold rs4
        rw [if_pos d.1, if_neg d.2]
      rw [e4] at h44 r18 ⊢
      rw [rsB_18] at r18
      have b2 := rsB_2 (b := b) (lim := lim) (row := k * 21) (t := adv b lim (adv b lim x.1)) (r := av_u1 x.2 (k * 21 + 3) w) (q := w.toNat) (by rw [f3]; omega) (by omega) (by omega)
      rw [rsB_3, rsB_1, b2, f1, u1_ne (by omega), ej _ (by omega)]
      exact ⟨by omega, ok.2, fun z => by omega, fun _ => hr _ (by omega), h44, r18 f18⟩
    · have e4 : rs4 b lim k kind (adv b lim x.1, av_u1 x.2 (k * 21 + 3) w) = (adv b lim x.1, av_u1 x.2 (k * 21 + 3) w) := by
        unfold rs4
        by_cases d1 : kind = 2
        · have d2 : pkv b (adv b lim x.1) 5 = -1 := Classical.byContradiction (fun z => d ⟨d1, z⟩)
          rw [if_pos d1, if_pos d2]
        · rw [if_neg d1]
      rw [e4] at h44 r18 ⊢
      refine ⟨?_, ?_, fun z => ?_, fun z => ?_, h44, r18 f18⟩
      · show 0 ≤ av_u1 x.2 (k * 21 + 3) w (k * 21)
        rw [f0]; exact ok.1
      · show 0 ≤ av_u1 x.2 (k * 21 + 3) w (k * 21 + 1)
        rw [f1]; exact ok.2
      · have z : av_u1 x.2 (k * 21 + 3) w (k * 21) < 2 := z
        rw [f0] at z
        have := ok.1
        omega
      · have z : av_u1 x.2 (k * 21 + 3) w (k * 21) = 0 ∨ av_u1 x.2 (k * 21 + 3) w (k * 21) = 1 ∨ av_u1 x.2 (k * 21 + 3) w (k * 21) = 3 := z
        rw [f0] at z
        omega
end
section
/-! WHOLE CASES THAT ARE READ ARE WELL FORMED -/
/-- row k of a case that has ah ahead -/
def WRW (ah : Int) (k : Nat) (R : Nat → Int) : Prop := WRD k R ∧ (∀ o, o < 20 → vlo o ≤ R (k * 21 + o) ∧ R (k * 21 + o) ≤ vhi ah o) ∧ (2 ≤ R (k * 21) → 0 ≤ R (k * 21 + 3) ∧ R (k * 21 + 3) < (k : Int))
theorem WRW_c {ah : Int} {k : Nat} {R R' : Nat → Int} (x : WRW ah k R) (e : ∀ o, o < 20 → R' (k * 21 + o) = R (k * 21 + o)) : WRW ah k R' := by
  have e0 : R' (k * 21) = R (k * 21) := e 0 (by omega)
  unfold WRW WRD
  rw [e0, e 1 (by omega), e 2 (by omega), e 3 (by omega), e 4 (by omega), e 18 (by omega)]
  refine ⟨x.1, fun o ho => ?_, x.2.2⟩
  rw [e o ho]
  exact x.2.1 o ho
theorem WRW_h {ah : Int} {k : Nat} {R : Nat → Int} (x : WRW ah k R) : 0 ≤ R (k * 21 + 1) ∧ R (k * 21 + 1) ≤ 2 := ⟨x.1.2.1, (x.2.1 1 (by omega)).2⟩
theorem rbf_w {b : Nat → Int} {lim : Nat} {ah : Int} (ha : 0 ≤ ah) : ∀ (f k : Nat) (t : TT) (r : Nat → Int), k ≤ 12 → (∀ q, q < k → WRW ah q r) → (rbf b lim ah f k t r).2.1.2.2.2 = -1 → ∀ q, q < (rbf b lim ah f k t r).1 → WRW ah q (rbf b lim ah f k t r).2.2 := by
  intro f
  induction f with
  | zero => intro k t r _ hr _ q hq; exact hr q hq
  | succ f ih =>
    intro k t r hk hr z q hq
    unfold rbf at z hq ⊢
    split at z
    · next c =>
      rw [if_pos c] at hq ⊢
      split at z
      · exact absurd z fal_ne
      · next d =>
        rw [if_neg d] at hq ⊢
        have ok : (rsy b lim k ah t r).1.2.2.2 = -1 := by
          by_cases e : (rsy b lim k ah t r).1.2.2.2 = -1
          · exact e
          · exfalso
            have : ∀ (f k : Nat) (t : TT) (r : Nat → Int), t.2.2.2 ≠ -1 → rbf b lim ah f k t r = (k, t, r) := fun f k t r h => by
              cases f with
              | zero => rfl
              | succ f =>
                unfold rbf
                rw [if_neg (fun y => h y.1)]
            rw [this _ _ _ _ e] at z
            exact e z
        refine ih (k + 1) _ _ (by omega) (fun p hp => ?_) z q hq
        by_cases e : p < k
        · exact WRW_c (hr p e) (fun o ho => rsy_fr (by omega))
        · have e : p = k := by omega
          subst e
          refine ⟨rsy_wd (by omega) (fun q hq => (WRW_h (hr q hq)).1) ok, fun o ho => ?_, fun h2 => rsy_sd ok h2⟩
          exact vb_y (by omega) ha (fun q hq => by have := WRW_h (hr q hq); omega) ok o (by omega)
    · next c =>
      rw [if_neg c] at hq ⊢
      exact hr q hq
/-! a case's hours -/
theorem hsm_3 (u d : Nat → Int) (k : Nat) : hsm u d k 1 = 0 + u (21 * k + 7 + 0) + d 0 ∧ hsm u d k 2 = 0 + u (21 * k + 7 + 0) + d 0 + u (21 * k + 7 + 1) + d 1 ∧ hsm u d k 3 = 0 + u (21 * k + 7 + 0) + d 0 + u (21 * k + 7 + 1) + d 1 + u (21 * k + 7 + 2) + d 2 := ⟨rfl, rfl, rfl⟩
theorem hrv_b {u : Nat → Int} {x : Int} {k i : Nat} (hx : 0 ≤ x) (hi : i < 3) (h7 : 0 ≤ u (21 * k + 7 + 0) ∧ u (21 * k + 7 + 0) ≤ 1999) (h8 : 0 ≤ u (21 * k + 7 + 1) ∧ u (21 * k + 7 + 1) ≤ 999) (h9 : 0 ≤ u (21 * k + 7 + 2) ∧ u (21 * k + 7 + 2) ≤ 999) (hm : ∀ j, j < 3 → u (21 * k + 15 + j) ≤ 16) : -1 ≤ hrv u x k i ∧ hrv u x k i ≤ 5000 := by
  have hd : ∀ j, j < 3 → 0 ≤ dgt (dvu u) x (4 * k + j) ∧ dgt (dvu u) x (4 * k + j) < 16 := fun j hj => by
    have a := dgt_r (w := dvu u) (fun t => mx1_p _) hx (4 * k + j)
    have m := (mx1_b (hm j hj)).2
    have e : dvu u (4 * k + j) = mx1 (u (21 * k + 15 + j)) := by
      unfold dvu
      rw [show (4 * k + j) / 4 = k by omega, show (4 * k + j) % 4 = j by omega]
    rw [e] at a
    omega
  have d0 := hd 0 (by omega)
  have d1 := hd 1 (by omega)
  have d2 := hd 2 (by omega)
  have s := hsm_3 u (fun j => dgt (dvu u) x (4 * k + j)) k
  unfold hrv
  split
  · omega
  · rcases (show i = 0 ∨ i = 1 ∨ i = 2 by omega) with e | e | e <;> subst e
    · rw [s.1]
      show -1 ≤ 0 + u (21 * k + 7 + 0) + dgt (dvu u) x (4 * k + 0) ∧ 0 + u (21 * k + 7 + 0) + dgt (dvu u) x (4 * k + 0) ≤ 5000
      omega
    · rw [s.2.1]
      show -1 ≤ 0 + u (21 * k + 7 + 0) + dgt (dvu u) x (4 * k + 0) + u (21 * k + 7 + 1) + dgt (dvu u) x (4 * k + 1) ∧ 0 + u (21 * k + 7 + 0) + dgt (dvu u) x (4 * k + 0) + u (21 * k + 7 + 1) + dgt (dvu u) x (4 * k + 1) ≤ 5000
      omega
    · rw [s.2.2]
      show -1 ≤ 0 + u (21 * k + 7 + 0) + dgt (dvu u) x (4 * k + 0) + u (21 * k + 7 + 1) + dgt (dvu u) x (4 * k + 1) + u (21 * k + 7 + 2) + dgt (dvu u) x (4 * k + 2) ∧ 0 + u (21 * k + 7 + 0) + dgt (dvu u) x (4 * k + 0) + u (21 * k + 7 + 1) + dgt (dvu u) x (4 * k + 1) + u (21 * k + 7 + 2) + dgt (dvu u) x (4 * k + 2) ≤ 5000
      omega
theorem cbf_1 (u : Nat → Int) : ∀ s, 1 ≤ cbf u s := by
  intro s
  induction s with
  | zero => exact Int.le_refl 1
  | succ s ih =>
    show 1 ≤ mn2 (cbf u s * tnv u s) 1025
    have t1 : 1 ≤ tnv u s := by
      unfold tnv
      have a := mx1_p (u (21 * s + 15))
      have b := mx1_p (u (21 * s + 16))
      have c := mx1_p (u (21 * s + 17))
      have d := mx1_p (u (21 * s + 18))
      have h1 : 1 * 1 ≤ mx1 (u (21 * s + 15)) * mx1 (u (21 * s + 16)) := Int.mul_le_mul a b (by omega) (by omega)
      have h2 : 1 * 1 ≤ mx1 (u (21 * s + 15)) * mx1 (u (21 * s + 16)) * mx1 (u (21 * s + 17)) := Int.mul_le_mul (by omega) c (by omega) (by omega)
      have h3 : 1 * 1 ≤ mx1 (u (21 * s + 15)) * mx1 (u (21 * s + 16)) * mx1 (u (21 * s + 17)) * mx1 (u (21 * s + 18)) := Int.mul_le_mul (by omega) d (by omega) (by omega)
      rw [Int.one_mul]
      omega
    have h : 1 * 1 ≤ cbf u s * tnv u s := Int.mul_le_mul ih t1 (by omega) (by omega)
    unfold mn2
    split <;> omega
/-- a case of which all rows are well formed -/
theorem CWF_of {f : Nat → Int} {s i : Nat} (w : ∀ q, q < s → WRW (i : Int) q f) (V : FV s f) (h1 : 1 ≤ s) : CWF (ctn f s) s i := by
  have oc : ∀ q o, o < 20 → ctn f s (21 * q + o) = f (q * 21 + o) := fun q o ho => by
    rw [ctn_o (by omega), show 21 * q + o = q * 21 + o by omega]
  have oc0 : ∀ q, ctn f s (21 * q + 0) = f (q * 21) := fun q => oc q 0 (by omega)
  refine ⟨fun k hk => ?_, ⟨h1, V.1⟩, fun k hk => ?_, fun q hq => ctn_t hq, fun j => ?_, fun x x0 _ k hk j hj => ?_⟩
  · have a := w k hk
    have v := a.2.1
    have v0 := v 0 (by omega)
    have v3 := v 3 (by omega)
    have v4 := v 4 (by omega)
    have v5 := v 5 (by omega)
    rw [oc0, oc k 3 (by omega), oc k 4 (by omega), oc k 5 (by omega)]
    have c0 := a.1.1
    have c3 := a.1.2.2.1
    have c4 := a.1.2.2.2.2.1
    have c2 := a.2.2
    refine ⟨⟨c0, v0.2⟩, ⟨v3.1, ?_⟩, fun z => (c2 z).1, c3, ⟨c4, v4.2⟩, v5, fun j hj => ?_⟩
    · by_cases z : 2 ≤ f (k * 21)
      · exact (c2 z).2
      · have := c3 (by omega)
        omega
    · have v10 := v (10 + j) (by omega)
      rw [show 21 * k + 10 + j = 21 * k + (10 + j) by omega, oc k (10 + j) (by omega)]
      unfold vlo vhi at v10
      rw [if_neg (by omega), if_neg (by omega), if_pos (by omega), if_neg (by omega), if_neg (by omega), if_neg (by omega), if_neg (by omega), if_neg (by omega), if_neg (by omega), if_neg (by omega), if_pos (by omega)] at v10
      exact v10
  · have v6 := (w k hk).2.1 6 (by omega)
    rw [oc k 6 (by omega)]
    have z : f (k * 21 + 6) ≤ (i : Int) - 1 := v6.2
    exact ⟨v6.1, by omega⟩
  · by_cases c : j % 21 = 20
    · exact Or.inr c
    · rw [ctn_o c]
      exact Or.inl (V.2.2.2 j c)
  · have v := (w k hk).2.1
    refine hrv_b x0 hj ?_ ?_ ?_ (fun p hp => ?_)
    · rw [show 21 * k + 7 + 0 = 21 * k + 7 by omega, oc k 7 (by omega)]
      exact v 7 (by omega)
    · rw [show 21 * k + 7 + 1 = 21 * k + 8 by omega, oc k 8 (by omega)]
      exact v 8 (by omega)
    · rw [show 21 * k + 7 + 2 = 21 * k + 9 by omega, oc k 9 (by omega)]
      exact v 9 (by omega)
    · rw [ctn_o (by omega)]
      exact V.2.2.1 k p (by omega)
/-- offers have a hand and a whom -/
def UHW (u : Nat → Int) (s : Nat) : Prop := ∀ k, k < s → (0 ≤ u (21 * k + 1) ∧ u (21 * k + 1) ≤ 2) ∧ ((u (21 * k + 0) = 0 ∨ u (21 * k + 0) = 1 ∨ u (21 * k + 0) = 3) → 0 ≤ u (21 * k + 2) ∧ u (21 * k + 2) ≤ 2)
theorem UHW_of {f : Nat → Int} {s : Nat} {ah : Int} (w : ∀ q, q < s → WRW ah q f) : UHW (ctn f s) s := fun k hk => by
  have a := w k hk
  have oc : ∀ o, o < 20 → ctn f s (21 * k + o) = f (k * 21 + o) := fun o ho => by
    rw [ctn_o (by omega), show 21 * k + o = k * 21 + o by omega]
  have oc0 : ctn f s (21 * k + 0) = f (k * 21) := oc 0 (by omega)
  rw [oc0, oc 1 (by omega), oc 2 (by omega)]
  exact ⟨⟨a.1.2.1, (a.2.1 1 (by omega)).2⟩, fun z => ⟨a.1.2.2.2.1 z, (a.2.1 2 (by omega)).2⟩⟩
end
section
/-! WHAT LAWS AND CLAUSES SAY IS WELL FORMED; two facts of one call -/
theorem av_wp_and {sc : av_Sr} {cd : List (Nat × av_E)} {pc : Nat} {lv : av_L} {st : List av_V} {h : av_H} {Q Q' : Option av_V → av_H → Prop} (a : av_wp sc cd pc lv st h Q) (b : av_wp sc cd pc lv st h Q') : av_wp sc cd pc lv st h (fun v h' => Q v h' ∧ Q' v h') := by
  intro hg
  obtain ⟨n, v, h1, r1, q1⟩ := a hg
  obtain ⟨m, w, h2, r2, q2⟩ := b hg
  have e1 := av_more _ _ _ _ _ _ _ _ _ r1 m
  have e2 := av_more _ _ _ _ _ _ _ _ _ r2 n
  rw [Nat.add_comm m n, e1] at e2
  cases e2
  exact ⟨n, v, h1, r1, q1, q2⟩
def rlo (j : Nat) : Int := if j = 7 ∨ j = 8 then -1 else 0
def rhi (j : Nat) : Int := if j = 7 ∨ j = 8 then 999 else if j = 6 ∨ j = 9 ∨ j = 11 then 1 else 2
/-- each rule told is one that may be -/
def RQW (d : Nat → Int) : Prop := ∀ j, j < 13 → d j = -2 ∨ (rlo j ≤ d j ∧ d j ≤ rhi j)
theorem RLW_of {ro : Nat → Int} (x : ∀ j, j < 13 → rlo j ≤ ro j ∧ ro j ≤ rhi j) : RLW ro :=
  ⟨fun j hj => by
    have h := x j (by omega)
    unfold rlo rhi at h
    rw [if_neg (by omega), if_neg (by omega), if_neg (by omega)] at h
    exact h, x 6 (by omega), x 7 (by omega), x 8 (by omega), x 9 (by omega), x 10 (by omega), x 11 (by omega), x 12 (by omega)⟩
theorem RLW_in {ro : Nat → Int} (R : RLW ro) : ∀ j, j < 13 → rlo j ≤ ro j ∧ ro j ≤ rhi j := fun j hj => by
  by_cases c : j < 6
  · have h := R.1 j c
    unfold rlo rhi
    rw [if_neg (by omega), if_neg (by omega), if_neg (by omega)]
    exact h
  · rcases (show j = 6 ∨ j = 7 ∨ j = 8 ∨ j = 9 ∨ j = 10 ∨ j = 11 ∨ j = 12 by omega) with e | e | e | e | e | e | e <;> subst e
    · exact R.2.1
    · exact R.2.2.1
    · exact R.2.2.2.1
    · exact R.2.2.2.2.1
    · exact R.2.2.2.2.2.1
    · exact R.2.2.2.2.2.2.1
    · exact R.2.2.2.2.2.2.2
theorem RLW_c {ro ro' : Nat → Int} (R : RLW ro) (e : ∀ j, j < 13 → ro' j = ro j) : RLW ro' := RLW_of (fun j hj => by rw [e j hj]; exact RLW_in R j hj)
theorem RQW_c {d d' : Nat → Int} (R : RQW d) (e : ∀ j, j < 13 → d' j = d j) : RQW d' := fun j hj => by rw [e j hj]; exact R j hj
theorem plain_r : ∀ j, j < 13 → rlo j ≤ av_plain j ∧ av_plain j ≤ rhi j := by decide
section
variable {b : Nat → Int} {lim : Nat} {t t' : TT} {d : Nat → Int}
def DQ (t : TT) (d : Nat → Int) : Prop := t.2.2.2 = -1 → RQW d
theorem dq_t (V : DQ t d) (e : t'.2.2.2 = -1 → t.2.2.2 = -1) : DQ t' d := fun z => V (e z)
theorem dq_u {o : Nat} {v : Int} (V : DQ t d) (e : t.2.2.2 = -1 → rlo o ≤ v ∧ v ≤ rhi o) : DQ t (av_u1 d o v) := fun z j hj => by
  by_cases c : j = o
  · subst c
    rw [u1_eq]
    exact Or.inr (e z)
  · rw [u1_ne c]
    exact V z j hj
theorem dq_C {o n c : Nat} (V : DQ t d) (en : (av_lit n).count 32 = c) (hc : (c : Int) = rhi o) (h0 : rlo o = 0) : DQ (rlC b lim o n t d).1 (rlC b lim o n t d).2 := by
  have g := pkv_le (b := b) (t := t) n c en
  show DQ (cho b lim t n) (av_u1 d o (pkv b t n))
  refine dq_u (dq_t V (fun z => (cho_o z).1)) (fun z => ?_)
  have h1 := (cho_o z).2.1
  omega
theorem dq_N {o : Nat} (V : DQ t d) (ho : o = 7 ∨ o = 8) : DQ (rlN b lim o t d).1 (rlN b lim o t d).2 := by
  show DQ (nmt b lim t 0 999) (av_u1 d o (nmv b t 0 999))
  refine dq_u (dq_t V (fun z => (nmt_o z).1)) (fun z => ?_)
  have h1 := nmv_b z
  unfold rlo rhi
  rw [if_pos ho, if_pos ho]
  omega
theorem dq_Y (V : DQ t d) : DQ (rlY b lim t d).1 (rlY b lim t d).2 := by
  have g := pkv_le (b := b) (t := cho b lim t 13) 14 2 rfl
  have w : ∀ {d : Nat → Int} {o : Nat}, DQ (cho b lim (cho b lim t 13) 14) d → o ≤ 2 → DQ (cho b lim (cho b lim t 13) 14) (av_u1 d o (pkv b (cho b lim t 13) 14)) := fun V' ho => dq_u V' (fun z => by
    have h1 := (cho_o z).2.1
    unfold rlo rhi
    rw [if_neg (by omega), if_neg (by omega), if_neg (by omega)]
    omega)
  have V0 : DQ (cho b lim (cho b lim t 13) 14) d := dq_t V (fun z => (cho_o (cho_o z).1).1)
  have V1 : DQ (cho b lim (cho b lim t 13) 14) (rlY1 (pkv b t 13) (pkv b (cho b lim t 13) 14) d) := by
    unfold rlY1
    split
    · exact w V0 (by omega)
    · exact V0
  have V2 : DQ (cho b lim (cho b lim t 13) 14) (rlY2 (pkv b t 13) (pkv b (cho b lim t 13) 14) (rlY1 (pkv b t 13) (pkv b (cho b lim t 13) 14) d)) := by
    unfold rlY2
    split
    · exact w V1 (by omega)
    · exact V1
  show DQ (cho b lim (cho b lim t 13) 14) (rlY3 (pkv b t 13) (pkv b (cho b lim t 13) 14) (rlY2 (pkv b t 13) (pkv b (cho b lim t 13) 14) (rlY1 (pkv b t 13) (pkv b (cho b lim t 13) 14) d)))
  unfold rlY3
  split
  · exact w V2 (by omega)
  · exact V2
theorem dq_K {k : Int} (V : DQ t d) : DQ (rlK b lim k t d).1 (rlK b lim k t d).2 := by
  unfold rlK
  (repeat' split)
  · exact dq_Y V
  · exact dq_C V (c := 2) rfl rfl rfl
  · exact dq_C V (c := 2) rfl rfl rfl
  · exact dq_C V (c := 2) rfl rfl rfl
  · exact dq_C V (c := 1) rfl rfl rfl
  · exact dq_N V (Or.inl rfl)
  · exact dq_N V (Or.inr rfl)
  · exact dq_C V (c := 1) rfl rfl rfl
  · exact dq_C V (c := 2) rfl rfl rfl
  · exact dq_C V (c := 1) rfl rfl rfl
  · exact dq_C V (c := 2) rfl rfl rfl
  · exact V
theorem dq_1 (V : DQ t d) : DQ (rl1 b lim t d).1 (rl1 b lim t d).2 := by
  show DQ (sem b lim (rlK b lim (pkv b t 12) (cho b lim t 12) d).1) (rlK b lim (pkv b t 12) (cho b lim t 12) d).2
  exact dq_t (dq_K (dq_t V (fun z => (cho_o z).1))) (fun z => sem_o z)
theorem dq_f : ∀ (f n : Nat) (t : TT) (d : Nat → Int), DQ t d → DQ (rlf b lim f n t d).2.1 (rlf b lim f n t d).2.2 := by
  intro f
  induction f with
  | zero => intro n t d V; exact V
  | succ f ih =>
    intro n t d V
    unfold rlf
    split
    · split
      · exact fun z => absurd z fal_ne
      · exact ih _ _ _ (dq_1 V)
    · exact V
theorem dq_A {y : Int} (h : (rlA b lim y t d).2.1.2.2.2 = -1) : RQW (rlA b lim y t d).2.2 := by
  have V0 : DQ t (ufil d 0 14 (-2)) := fun _ j hj => Or.inl (if_pos (by omega))
  have V := dq_f (b := b) (lim := lim) 21 0 t _ V0
  unfold rlA at h ⊢
  dsimp only at h ⊢
  intro j hj
  rw [u1_ne (by omega)]
  refine V ?_ j hj
  split at h
  · exact absurd h fal_ne
  · exact h
end
/-- a law: the plain one with what is told over it -/
theorem RLW_lov {f d : Nat → Int} (R : RQW d) : RLW (lov (plr f av_plain) d 14) := RLW_of (fun j hj => by
  rw [lov_v (by omega)]
  split
  · exact plain_r j hj
  · next c =>
    rcases R j hj with e | e
    · exact absurd e c
    · exact e)
end
section
/-! THE CLASS'S OWN BOOK: cases, laws, clauses well formed, what is sure; what changes leave it -/
/-- a shelf of well formed things -/
def WSH (h : av_H) (o : Nat) : Prop := (∀ i : Nat, i < 16 → (i : Int) < hF h o 3 → ∃ t c s f, CC h (hR h (o + 1) i) t c s f ∧ ∀ q, q < s → WRW (i : Int) q f) ∧ (∀ l : Nat, l < 8 → (l : Int) < hF h o 4 → RLW (hA h (o + 3 + l))) ∧ (∀ c : Nat, c < 6 → (c : Int) < hF h o 5 → RQW (hA h (o + 12 + c)))
def WXI (h : av_H) : Prop := ∀ i : Nat, i < 4 → (i : Int) < hF h 0 7 → ∃ o, hR h 21 i = some o ∧ 122 ≤ o ∧ o + 18 ≤ h.1 ∧ WSH h o
/-- the cases as pictures U, S -/
def PIC (U : Nat → Nat → Int) (S : Nat → Nat) (h : av_H) : Prop := ∀ i : Nat, i < 16 → (i : Int) < hF h 3 3 → ∃ t c f, CC h (hR h 4 i) t c (S i) f ∧ U i = ctn f (S i) ∧ ∀ q, q < S i → WRW (i : Int) q f
def CLU (U : Nat → Nat → Int) (S : Nat → Nat) (h : av_H) : Prop := PIC U S h ∧ (∀ l : Nat, l < 8 → (l : Int) < hF h 3 4 → RLW (hA h (6 + l))) ∧ (∀ c : Nat, c < 6 → (c : Int) < hF h 3 5 → RQW (hA h (15 + c))) ∧ WXI h
def CLS (h : av_H) : Prop := ∃ U S, CLU U S h ∧ SUA U S (hF h 3 3) (hF h 3 4) (fun k => hA h (6 + k)) (hA h 27)
/-- what the class's book looks at stays, but for what is sure -/
def CF0 (g h : av_H) : Prop := g.1 ≤ h.1 ∧ (hF h 3 3 = hF g 3 3 ∧ hF h 3 4 = hF g 3 4 ∧ hF h 3 5 = hF g 3 5 ∧ hF h 0 7 = hF g 0 7) ∧ (hR h 4 = hR g 4 ∧ hR h 21 = hR g 21) ∧ (∀ q, 6 ≤ q → q < 21 → hA h q = hA g q) ∧ ∀ q, 122 ≤ q → q < g.1 → hK h q = hK g q ∧ (∀ j, hG h q j = hG g q j) ∧ hA h q = hA g q ∧ hR h q = hR g q ∧ ∀ j, hF h q j = hF g q j
section
variable {g h : av_H}
theorem CC_cf {v : Option Nat} {t c s : Nat} {f : Nat → Int} (G : av_Gd g) (F : ∀ q, 122 ≤ q → q < g.1 → hK h q = hK g q ∧ (∀ j, hG h q j = hG g q j) ∧ hA h q = hA g q ∧ hR h q = hR g q ∧ ∀ j, hF h q j = hF g q j) (x : CC g v t c s f) : CC h v t c s f := by
  obtain ⟨y1, ⟨o1, o2, o3, o4, o5, o6⟩, y3, y4, y5, y6, y7⟩ := x
  obtain ⟨t1, t2, t3, t4, t5⟩ := F t y5 (gd_lt G o1 (by decide))
  obtain ⟨c1, c2, c3, c4, c5⟩ := F c y6 (gd_lt G o5 (by decide))
  exact ⟨y1, ⟨t1.trans o1, (t5 1).trans o2, (t5 3).trans o3, (t2 0).trans o4, c1.trans o5, c3.trans o6⟩, y3, y4, y5, y6, y7⟩
theorem WSH_cf {o : Nat} (G : av_Gd g) (F : ∀ q, 122 ≤ q → q < g.1 → hK h q = hK g q ∧ (∀ j, hG h q j = hG g q j) ∧ hA h q = hA g q ∧ hR h q = hR g q ∧ ∀ j, hF h q j = hF g q j) (h1 : 122 ≤ o) (h2 : o + 18 ≤ g.1) (x : WSH g o) : WSH h o := by
  obtain ⟨x1, x2, x3⟩ := x
  have fo := (F o h1 (by omega)).2.2.2.2
  refine ⟨fun i hi hh => ?_, fun l hl hh => ?_, fun c hc hh => ?_⟩
  · rw [fo 3] at hh
    obtain ⟨t, c, s, f, y1, y2⟩ := x1 i hi hh
    exact ⟨t, c, s, f, by rw [(F (o + 1) (by omega) (by omega)).2.2.2.1]; exact CC_cf G F y1, y2⟩
  · rw [fo 4] at hh
    rw [(F (o + 3 + l) (by omega) (by omega)).2.2.1]
    exact x2 l hl hh
  · rw [fo 5] at hh
    rw [(F (o + 12 + c) (by omega) (by omega)).2.2.1]
    exact x3 c hc hh
theorem CLU_cf {U : Nat → Nat → Int} {S : Nat → Nat} (G : av_Gd g) (F : CF0 g h) (x : CLU U S g) : CLU U S h := by
  obtain ⟨f1, ⟨f2, f3, f4, f5⟩, ⟨f6, f7⟩, f8, f9⟩ := F
  obtain ⟨x1, x2, x3, x4⟩ := x
  refine ⟨fun i hi hh => ?_, fun l hl hh => ?_, fun c hc hh => ?_, fun i hi hh => ?_⟩
  · rw [f2] at hh
    obtain ⟨t, c, f, y1, y2⟩ := x1 i hi hh
    exact ⟨t, c, f, by rw [f6]; exact CC_cf G f9 y1, y2⟩
  · rw [f3] at hh
    rw [f8 _ (by omega) (by omega)]
    exact x2 l hl hh
  · rw [f4] at hh
    rw [f8 _ (by omega) (by omega)]
    exact x3 c hc hh
  · rw [f5] at hh
    obtain ⟨o, y1, y2, y3, y4⟩ := x4 i hi hh
    exact ⟨o, by rw [f7]; exact y1, y2, by omega, WSH_cf G f9 y2 y3 y4⟩
theorem SUA_c {U : Nat → Nat → Int} {S : Nat → Nat} {n L : Int} {ro ro' : Nat → Nat → Int} {sr : Nat → Int} (x : SUA U S n L ro sr) (e : ∀ l : Nat, l < 8 → (l : Int) < L → ro' l = ro l) : SUA U S n L ro' sr := fun l hl => ⟨fun h1 i hi => by
  rw [e l hl h1]
  exact (x l hl).1 h1 i hi, (x l hl).2⟩
/-- nothing is known -/
theorem SUA_0 {U : Nat → Nat → Int} {S : Nat → Nat} {n L : Int} {ro : Nat → Nat → Int} {sr : Nat → Int} (e : ∀ j, j < 144 → sr j = 0) : SUA U S n L ro sr := fun l hl => ⟨fun _ i hi => Or.inl (e _ (by omega)), fun _ i hi => e _ (by omega)⟩
theorem CLS_cf (G : av_Gd g) (F : CF0 g h) (e : hA h 27 = hA g 27) (x : CLS g) : CLS h := by
  obtain ⟨U, S, x1, x2⟩ := x
  refine ⟨U, S, CLU_cf G F x1, ?_⟩
  obtain ⟨f1, ⟨f2, f3, f4, f5⟩, ⟨f6, f7⟩, f8, f9⟩ := F
  rw [f2, f3, e]
  exact SUA_c x2 (fun l h1 _ => f8 _ (by omega) (by omega))
end
theorem CF0_fq {eA eR : Nat → Prop} {eF eG : Nat → Nat → Prop} {g h : av_H} {n m : Nat} (G : av_Gd g) (L : LY g) (w : LOW eA eR eF eG) (F : FQ eA eR eF eG g h n m) (nF : ¬ eF 3 3 ∧ ¬ eF 3 4 ∧ ¬ eF 3 5 ∧ ¬ eF 0 7) (nR : ¬ eR 4 ∧ ¬ eR 21) (nA : ∀ q, 6 ≤ q → q < 21 → ¬ eA q) : CF0 g h := by
  have l : ∀ {q : Nat}, q < 122 → q < g.1 := fun hq => ly_lt G L hq
  have f3 := (F.2.2 3 (l (by omega))).2.2.2.2
  refine ⟨by rw [F.1]; omega, ⟨f3 3 nF.1, f3 4 nF.2.1, f3 5 nF.2.2.1, (F.2.2 0 (l (by omega))).2.2.2.2 7 nF.2.2.2⟩, ⟨(F.2.2 4 (l (by omega))).2.2.2.1 nR.1, (F.2.2 21 (l (by omega))).2.2.2.1 nR.2⟩, fun q h1 h2 => (F.2.2 q (l (by omega))).2.2.1 (nA q h1 h2), fun q h1 h2 => ?_⟩
  obtain ⟨a1, a2, a3, a4, a5⟩ := F.2.2 q h2
  exact ⟨a1, fun j => a2 j (fun z => by have := w.2.2.2 q j z; omega), a3 (fun z => by have := w.1 q z; omega), a4 (fun z => by have := w.2.1 q z; omega), fun j => a5 j (fun z => by have := w.2.2.1 q j z; omega)⟩
theorem FQ_27 {eA eR : Nat → Prop} {eF eG : Nat → Nat → Prop} {g h : av_H} {n m : Nat} (G : av_Gd g) (L : LY g) (F : FQ eA eR eF eG g h n m) (e : ¬ eA 27) : hA h 27 = hA g 27 := (F.2.2 27 (ly_lt G L (by omega))).2.2.1 e
/-- the reference's looks, its readers, its copies leave the class alone -/
theorem CLS_FM {g h : av_H} (G : av_Gd g) (F : FM g h) (x : CLS g) : CLS h := by
  have f : ∀ q j, q ≠ 77 → hF h q j = hF g q j := fun q j hq => F.2.2.2.2.2.1 q j (by simp only [mF, nbeq hq, Bool.false_and])
  have a : ∀ q, q < 95 ∨ 121 < q → hA h q = hA g q := fun q hq => F.2.2.2.2.2.2 q (by
    rcases hq with z | z
    · simp only [mA, nble (show q < 95 by omega), Bool.false_and]
    · simp only [mA, nble (show 121 < q by omega), Bool.and_false])
  refine CLS_cf G ⟨by rw [F.1]; exact Nat.le_refl _, ⟨f 3 3 (by decide), f 3 4 (by decide), f 3 5 (by decide), f 0 7 (by decide)⟩, ⟨congrFun F.2.2.2.1 4, congrFun F.2.2.2.1 21⟩, fun q h1 h2 => a q (by omega), fun q h1 h2 => ⟨congrFun F.2.2.1 q, fun j => congrFun (congrFun F.2.2.2.2.1 q) j, a q (by omega), congrFun F.2.2.2.1 q, fun j => f q j (by omega)⟩⟩ (a 27 (by omega)) x
theorem CLS_md {eF : Nat → Nat → Prop} {g h : av_H} (G : av_Gd g) (L : LY g) (F : FQ mdA nun1 eF nun2 g h 0 0) (e : ∀ q j, eF q j → q = 77) (x : CLS g) : CLS h := by
  have w : LOW mdA nun1 eF nun2 := ⟨fun q e => by unfold mdA at e; omega, fun q e => e.elim, fun q j z => by have := e q j z; omega, fun q j e => e.elim⟩
  exact CLS_cf G (CF0_fq G L w F ⟨fun z => by have := e _ _ z; omega, fun z => by have := e _ _ z; omega, fun z => by have := e _ _ z; omega, fun z => by have := e _ _ z; omega⟩ ⟨fun z => z, fun z => z⟩ (fun q h1 h2 z => by unfold mdA at z; omega)) (FQ_27 G L F (fun z => by unfold mdA at z; omega)) x
theorem CLS_FD {g h : av_H} (G : av_Gd g) (L : LY g) (F : FD g h) (x : CLS g) : CLS h := CLS_md G L (FQ_mo (FQ_FD F) (fun q e => by unfold fdA2 at e; unfold mdA; omega) (fun _ e => e) (fun _ _ e => e) (fun _ _ e => e)) (fun q j z => by unfold fdF2 at z; exact z.1) x
/-- what is read alone leaves it -/
theorem CLS_rd {g h : av_H} (G : av_Gd g) (L : LY g) (F : FQ rdA2 nun1 rdF0 nun2 g h 0 0) (x : CLS g) : CLS h := CLS_cf G (CF0_fq G L rd_low1 F ⟨fun z => by unfold rdF0 at z; omega, fun z => by unfold rdF0 at z; omega, fun z => by unfold rdF0 at z; omega, fun z => by unfold rdF0 at z; omega⟩ ⟨fun z => z, fun z => z⟩ (fun q h1 h2 z => by unfold rdA2 at z; omega)) (FQ_27 G L F (fun z => by unfold rdA2 at z; omega)) x
/-! sureness looks at the cases before alone -/
theorem srt_c {U U' : Nat → Nat → Int} {S S' : Nat → Nat} {ro : Nat → Int} : ∀ n, (∀ j, j < n → U' j = U j ∧ S' j = S j) → srt U' S' ro n = srt U S ro n := by
  intro n
  induction n with
  | zero => intro _; funext j; rfl
  | succ n ih =>
    intro e
    have i := ih (fun j hj => e j (by omega))
    funext j
    show (if j = n then (@ite _ (SRE (U' n) ro (brv (U' n) (srt U' S' ro n)) (S' n)) (Classical.propDecidable _) 2 1) else srt U' S' ro n j) = (if j = n then (@ite _ (SRE (U n) ro (brv (U n) (srt U S ro n)) (S n)) (Classical.propDecidable _) 2 1) else srt U S ro n j)
    rw [i, (e n (by omega)).1, (e n (by omega)).2]
theorem sre_c {U U' : Nat → Nat → Int} {S S' : Nat → Nat} {ro : Nat → Int} {i : Nat} (e : ∀ j, j ≤ i → U' j = U j ∧ S' j = S j) : sre U' S' ro i = sre U S ro i := congrFun (srt_c (i + 1) (fun j hj => e j (by omega))) i
/-- one more case -/
theorem SUA_n {U U' : Nat → Nat → Int} {S S' : Nat → Nat} {n L : Int} {ro : Nat → Nat → Int} {sr : Nat → Int} (x : SUA U S n L ro sr) (e : ∀ j : Nat, (j : Int) < n → U' j = U j ∧ S' j = S j) : SUA U' S' (n + 1) L ro sr := fun l hl => ⟨fun h1 i hi => by
  rcases (x l hl).1 h1 i hi with z | z
  · exact Or.inl z
  · exact Or.inr ⟨by omega, by rw [z.2]; exact (sre_c (fun j hj => e j (by omega))).symm⟩, (x l hl).2⟩
/-- one more law -/
theorem SUA_l {U : Nat → Nat → Int} {S : Nat → Nat} {n L : Int} {ro ro' : Nat → Nat → Int} {sr : Nat → Int} (x : SUA U S n L ro sr) (e : ∀ l : Nat, l < 8 → (l : Int) < L → ro' l = ro l) : SUA U S n (L + 1) ro' sr := fun l hl => by
  refine ⟨fun h1 i hi => ?_, fun h1 i hi => (x l hl).2 (by omega) i hi⟩
  by_cases c : (l : Int) < L
  · rw [e l hl c]
    exact (x l hl).1 c i hi
  · exact Or.inl ((x l hl).2 (by omega) i hi)
end
