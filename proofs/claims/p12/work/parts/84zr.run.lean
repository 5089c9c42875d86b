/-! RUN, exactly -/
set_option maxRecDepth 100000 in
set_option maxHeartbeats 4000000 in
theorem cx_106 {h : av_H} {U : Nat → Nat → Int} {S : Nat → Nat} {n : Int} {sr nd : Nat → Int} (C : CJ U S n sr nd h) (k : Int) (qk : -2147483648 ≤ k ∧ k ≤ 2147483647) (l : Int) (ql : -2147483648 ≤ l ∧ l ≤ 2147483647) (x : Int) (qx : -2147483648 ≤ x ∧ x ≤ 2147483647) (w : Int) (qw : -2147483648 ≤ w ∧ w ≤ 2147483647) (CR : CRT U S n (hF h 3 4) (fun k => hA h (6 + k))) (SU : SUA U S n (hF h 3 4) (fun k => hA h (6 + k)) sr) {Q : Option av_V → av_H → Prop} (hq : ∀ (v : Int) h' sr' nd', CJ U S n sr' nd' h' → FP 35 h h' → SUA U S n (hF h 3 4) (fun k => hA h (6 + k)) sr' → RSP (okx U S n (hF h 3 4) k l x ∧ ((0 ≤ w ∧ w ≤ 2) ∨ (10 ≤ w ∧ w ≤ 14))) (-3) (rnv (U (Int.toNat k)) (hA h (6 + Int.toNat l)) (bgx U S (fun k => hA h (6 + k)) k l x) w) v → Q (some (.inl v)) h') : av_wp none cd_106 0 [some (.inr (.inr (.inl (some (0))))), some (.inl k), some (.inl l), some (.inl x), some (.inl w), none, none] [] h Q := by
  have F := FP_rf 35 h
  have nr := C.2.1.2.1
  refine av_wp_seq 1 (pc' := 2) (lv' := [some (.inr (.inr (.inl (some (0))))), some (.inl k), some (.inl l), some (.inl x), some (.inl w), none, none]) (st' := [.inl w]) (h' := h) rfl ?_
  refine wq_k1 (p' := 5) rfl rfl ⟨by omega, by omega⟩ (fun c1 => ?_) (fun c2 => ?_)
  · have c1 : w < (0) := c1
    refine av_wp_seq 1 (pc' := 13) (lv' := [some (.inr (.inr (.inl (some (0))))), some (.inl k), some (.inl l), some (.inl x), some (.inl w), none, none]) (st' := [.inl w]) (h' := h) rfl ?_
    refine wq_cs (p' := 16) (av_qc (.invokestatic 133) 102 1 2 7) 1 cd_102 [.inl w] [.inl w] [some (.inl w)] rfl rfl rfl pp_102 (fun _ => rfl) rfl rfl ?_
    refine ct_102 (w) (by omega) (fun v3 p4 => ?_)
    show av_wp _ cd_106 16 [some (.inr (.inr (.inl (some (0))))), some (.inl k), some (.inl l), some (.inl x), some (.inl w), none, none] [.inl v3] h _
    refine wq_k1 (p' := 19) rfl rfl ⟨by omega, by omega⟩ (fun c5 => ?_) (fun c6 => ?_)
    · have c5 : v3 = (0) := c5
      refine av_wp_seq 5 (pc' := 46) (lv' := [some (.inr (.inr (.inl (some (0))))), some (.inl k), some (.inl l), some (.inl x), some (.inl w), some (.inl (0)), none]) (st' := [.inl (-3)]) (h' := h) rfl ?_
      refine av_wp_ret (v := some (.inl (-3))) rfl rfl rfl ?_
      exact hq _ h _ _ C F SU (Or.inr ⟨by unfold okx; omega, rfl⟩)
    · have c6 : v3 ≠ (0) := c6
      refine av_wp_seq 6 (pc' := 32) (lv' := [some (.inr (.inr (.inl (some (0))))), some (.inl k), some (.inl l), some (.inl x), some (.inl w), some (.inl (1)), none]) (st' := [.inr (.inr (.inl (some (0))))]) (h' := h) rfl ?_
      refine wq_gr (p' := 35) rfl rfl (congrArg Prod.fst (ly_k C.1.1 0 rfl)) rfl (ly_g C.1.1 0 5 26 rfl) ?_
      refine av_wp_seq 3 (pc' := 38) (lv' := [some (.inr (.inr (.inl (some (0))))), some (.inl k), some (.inl l), some (.inl x), some (.inl w), some (.inl (1)), none]) (st' := [.inl x, .inl l, .inl k, .inr (.inr (.inl (some (26))))]) (h' := h) rfl ?_
      refine wq_cv (p' := 41) (av_qc (.invokevirtual 160) 48 3 0 3) 5 cd_48 [.inl x, .inl l, .inl k] (26) 3 [some (.inr (.inr (.inl (some (26))))), some (.inl k), some (.inl l), some (.inl x), none] rfl rfl rfl pp_48 rfl rfl rfl (congrArg Prod.fst (ly_k C.1.1 26 rfl)) rfl rfl rfl rfl ?_
      refine cz_48 C (k) (by omega) (l) (by omega) (x) (by omega) CR SU (fun z7 => ?_) (fun z7 z8 z9 h10 r11 n12 t13 c14 a15 m16 m17 m18 C19 F20 U21 E22 Z23 T24 D25 B26 R27 => ?_)
      · show av_wp _ cd_106 41 [some (.inr (.inr (.inl (some (0))))), some (.inl k), some (.inl l), some (.inl x), some (.inl w), some (.inl (1)), none] [.inl (0)] h _
        refine av_wp_seq 2 (pc' := 46) (lv' := [some (.inr (.inr (.inl (some (0))))), some (.inl k), some (.inl l), some (.inl x), some (.inl w), some (.inl (1)), none]) (st' := [.inl (-3)]) (h' := h) rfl ?_
        refine av_wp_ret (v := some (.inl (-3))) rfl rfl rfl ?_
        exact hq _ h _ _ C F SU (Or.inr ⟨by unfold okx; omega, rfl⟩)
      · have b30 := bgn_f (u := U (Int.toNat k)) (ro := (hA h (6 + Int.toNat l))) (bar := (brv (U (Int.toNat k)) (srt U S (hA h (6 + Int.toNat l)) (Int.toNat k)))) (s := S (Int.toNat k)) (x := x)
        rw [B26] at b30
        have b30 : (m18 = 9999 ∧ m16 = -1 ∧ m17 = -1) ∨ (m18 < 9999 ∧ (0 ≤ m17 ∧ m17 < (S (Int.toNat k) : Int) ∧ ofv (U (Int.toNat k)) (hA h (6 + Int.toNat l)) (Int.toNat m17) ≠ 0) ∧ (m16 = -1 ∨ (0 ≤ m16 ∧ m16 < (S (Int.toNat k) : Int) ∧ ysv (U (Int.toNat k)) (hA h (6 + Int.toNat l)) (Int.toNat m16) ≠ 0))) := b30
        have g28 : (-1 ≤ m16 ∧ m16 ≤ 11) ∧ (-1 ≤ m17 ∧ m17 ≤ 11) ∧ (-1 ≤ m18 ∧ m18 ≤ 9999) := R27
        have g29 := co_s12 (ib_co E22.1)
        show av_wp _ cd_106 41 [some (.inr (.inr (.inl (some (0))))), some (.inl k), some (.inl l), some (.inl x), some (.inl w), some (.inl (1)), none] [.inl (1)] h10 _
        refine av_wp_seq 2 (pc' := 48) (lv' := [some (.inr (.inr (.inl (some (0))))), some (.inl k), some (.inl l), some (.inl x), some (.inl w), some (.inl (1)), none]) (st' := [.inr (.inr (.inl (some (0))))]) (h' := h10) rfl ?_
        refine wq_gr (p' := 51) rfl rfl (congrArg Prod.fst (ly_k C19.1.1 0 rfl)) rfl (ly_g C19.1.1 0 5 26 rfl) ?_
        refine wq_gr (p' := 54) rfl rfl (congrArg Prod.fst (ly_k C19.1.1 26 rfl)) rfl (ly_g C19.1.1 26 1 35 rfl) ?_
        refine av_wp_seq 2 (pc' := 58) (lv' := [some (.inr (.inr (.inl (some (0))))), some (.inl k), some (.inl l), some (.inl x), some (.inl w), some (.inl (1)), some (.inr (.inr (.inl (some (35)))))]) (st' := [.inr (.inr (.inl (some (35))))]) (h' := h10) rfl ?_
        refine wq_cv (p' := 61) (av_qc (.invokevirtual 168) 3 0 0 0) 1 cd_3 [] (35) 0 [some (.inr (.inr (.inl (some (35)))))] rfl rfl rfl pp_3 rfl rfl rfl (congrArg Prod.fst (bn_k0 C19.1.1 (Or.inl rfl))) rfl rfl rfl rfl ?_
        refine cx_3 E22 (FN_rf 35 h10) (by omega) (fun v31 p32 => ?_)
        show av_wp _ cd_106 61 [some (.inr (.inr (.inl (some (0))))), some (.inl k), some (.inl l), some (.inl x), some (.inl w), some (.inl (1)), some (.inr (.inr (.inl (some (35)))))] [.inl v31] h10 _
        refine wq_k1 (p' := 64) rfl rfl ⟨by omega, by omega⟩ (fun c33 => ?_) (fun c34 => ?_)
        · have c33 : v31 ≠ (0) := c33
          refine av_wp_seq 1 (pc' := 69) (lv' := [some (.inr (.inr (.inl (some (0))))), some (.inl k), some (.inl l), some (.inl x), some (.inl w), some (.inl (1)), some (.inr (.inr (.inl (some (35)))))]) (st' := [.inl w]) (h' := h10) rfl ?_
          rcases (show w = 0 ∨ w = 1 ∨ w = 2 ∨ (w < 0 ∨ 2 < w) by omega) with e35 | e35 | e35 | e35
          · exfalso; omega
          · exfalso; omega
          · exfalso; omega
          · refine wq_td (t := 114) rfl ⟨by omega, by omega⟩ e35 rfl ?_
            refine av_wp_seq 4 (pc' := 121) (lv' := [some (.inr (.inr (.inl (some (0))))), some (.inl k), some (.inl l), some (.inl x), some (.inl w), some (.inl (1)), some (.inr (.inr (.inl (some (35)))))]) (st' := [.inl (w - (10)), .inr (.inr (.inl (some (35))))]) (h' := h10) rfl ?_
            refine wq_cv (p' := 124) (av_qc (.invokevirtual 183) 17 1 0 0) 4 cd_17 [.inl (w - (10))] (35) 0 [some (.inr (.inr (.inl (some (35))))), some (.inl (w - (10))), none, none] rfl rfl rfl pp_17 rfl rfl rfl (congrArg Prod.fst (bn_k0 C19.1.1 (Or.inl rfl))) rfl rfl rfl rfl ?_
            refine cx_17 E22 (FN_rf 35 h10) (CR.1 (Int.toNat k) (by omega)).1 (CR.2.2.2 l (by omega) (by omega)) (by omega) (by omega) ((w - (10))) (by omega) (fun v36 p37 => ?_)
            show av_wp _ cd_106 124 [some (.inr (.inr (.inl (some (0))))), some (.inl k), some (.inl l), some (.inl x), some (.inl w), some (.inl (1)), some (.inr (.inr (.inl (some (35)))))] [.inl v36] h10 _
            refine av_wp_ret (v := some (.inl v36)) rfl rfl rfl ?_
            exact hq _ h10 _ _ C19 F20 U21 (Or.inl ⟨by unfold okx; omega, by rw [show bgx U S (fun k => hA h (6 + k)) k l x = _ from B26]; show _ = (if m18 = 9999 then -2 else if w = 0 then m16 else if w = 1 then m17 else if w = 2 then m18 else bwv (U (Int.toNat k)) (hA h (6 + Int.toNat l)) m16 m17 (w - 10).toNat); rw [if_neg (by omega), if_neg (by omega), if_neg (by omega), if_neg (by omega)]; exact p37.trans (congrArg (bwv _ _ _ _) (by omega))⟩)
        · have c34 : v31 = (0) := c34
          refine av_wp_seq 1 (pc' := 66) (lv' := [some (.inr (.inr (.inl (some (0))))), some (.inl k), some (.inl l), some (.inl x), some (.inl w), some (.inl (1)), some (.inr (.inr (.inl (some (35)))))]) (st' := [.inl (-2)]) (h' := h10) rfl ?_
          refine av_wp_ret (v := some (.inl (-2))) rfl rfl rfl ?_
          exact hq _ h10 _ _ C19 F20 U21 (Or.inl ⟨by unfold okx; omega, by rw [show bgx U S (fun k => hA h (6 + k)) k l x = _ from B26]; show _ = (if m18 = 9999 then -2 else if w = 0 then m16 else if w = 1 then m17 else if w = 2 then m18 else bwv (U (Int.toNat k)) (hA h (6 + Int.toNat l)) m16 m17 (w - 10).toNat); rw [if_pos (by omega)]⟩)
  · have c2 : (0) ≤ w := c2
    refine av_wp_seq 2 (pc' := 8) (lv' := [some (.inr (.inr (.inl (some (0))))), some (.inl k), some (.inl l), some (.inl x), some (.inl w), none, none]) (st' := [.inl (2), .inl w]) (h' := h) rfl ?_
    refine wq_k2 (p' := 11) rfl rfl ⟨by omega, by omega⟩ ⟨by omega, by omega⟩ (fun c38 => ?_) (fun c39 => ?_)
    · have c38 : w ≤ (2) := c38
      refine av_wp_seq 6 (pc' := 32) (lv' := [some (.inr (.inr (.inl (some (0))))), some (.inl k), some (.inl l), some (.inl x), some (.inl w), some (.inl (1)), none]) (st' := [.inr (.inr (.inl (some (0))))]) (h' := h) rfl ?_
      refine wq_gr (p' := 35) rfl rfl (congrArg Prod.fst (ly_k C.1.1 0 rfl)) rfl (ly_g C.1.1 0 5 26 rfl) ?_
      refine av_wp_seq 3 (pc' := 38) (lv' := [some (.inr (.inr (.inl (some (0))))), some (.inl k), some (.inl l), some (.inl x), some (.inl w), some (.inl (1)), none]) (st' := [.inl x, .inl l, .inl k, .inr (.inr (.inl (some (26))))]) (h' := h) rfl ?_
      refine wq_cv (p' := 41) (av_qc (.invokevirtual 160) 48 3 0 3) 5 cd_48 [.inl x, .inl l, .inl k] (26) 3 [some (.inr (.inr (.inl (some (26))))), some (.inl k), some (.inl l), some (.inl x), none] rfl rfl rfl pp_48 rfl rfl rfl (congrArg Prod.fst (ly_k C.1.1 26 rfl)) rfl rfl rfl rfl ?_
      refine cz_48 C (k) (by omega) (l) (by omega) (x) (by omega) CR SU (fun z40 => ?_) (fun z40 z41 z42 h43 r44 n45 t46 c47 a48 m49 m50 m51 C52 F53 U54 E55 Z56 T57 D58 B59 R60 => ?_)
      · show av_wp _ cd_106 41 [some (.inr (.inr (.inl (some (0))))), some (.inl k), some (.inl l), some (.inl x), some (.inl w), some (.inl (1)), none] [.inl (0)] h _
        refine av_wp_seq 2 (pc' := 46) (lv' := [some (.inr (.inr (.inl (some (0))))), some (.inl k), some (.inl l), some (.inl x), some (.inl w), some (.inl (1)), none]) (st' := [.inl (-3)]) (h' := h) rfl ?_
        refine av_wp_ret (v := some (.inl (-3))) rfl rfl rfl ?_
        exact hq _ h _ _ C F SU (Or.inr ⟨by unfold okx; omega, rfl⟩)
      · have b63 := bgn_f (u := U (Int.toNat k)) (ro := (hA h (6 + Int.toNat l))) (bar := (brv (U (Int.toNat k)) (srt U S (hA h (6 + Int.toNat l)) (Int.toNat k)))) (s := S (Int.toNat k)) (x := x)
        rw [B59] at b63
        have b63 : (m51 = 9999 ∧ m49 = -1 ∧ m50 = -1) ∨ (m51 < 9999 ∧ (0 ≤ m50 ∧ m50 < (S (Int.toNat k) : Int) ∧ ofv (U (Int.toNat k)) (hA h (6 + Int.toNat l)) (Int.toNat m50) ≠ 0) ∧ (m49 = -1 ∨ (0 ≤ m49 ∧ m49 < (S (Int.toNat k) : Int) ∧ ysv (U (Int.toNat k)) (hA h (6 + Int.toNat l)) (Int.toNat m49) ≠ 0))) := b63
        have g61 : (-1 ≤ m49 ∧ m49 ≤ 11) ∧ (-1 ≤ m50 ∧ m50 ≤ 11) ∧ (-1 ≤ m51 ∧ m51 ≤ 9999) := R60
        have g62 := co_s12 (ib_co E55.1)
        show av_wp _ cd_106 41 [some (.inr (.inr (.inl (some (0))))), some (.inl k), some (.inl l), some (.inl x), some (.inl w), some (.inl (1)), none] [.inl (1)] h43 _
        refine av_wp_seq 2 (pc' := 48) (lv' := [some (.inr (.inr (.inl (some (0))))), some (.inl k), some (.inl l), some (.inl x), some (.inl w), some (.inl (1)), none]) (st' := [.inr (.inr (.inl (some (0))))]) (h' := h43) rfl ?_
        refine wq_gr (p' := 51) rfl rfl (congrArg Prod.fst (ly_k C52.1.1 0 rfl)) rfl (ly_g C52.1.1 0 5 26 rfl) ?_
        refine wq_gr (p' := 54) rfl rfl (congrArg Prod.fst (ly_k C52.1.1 26 rfl)) rfl (ly_g C52.1.1 26 1 35 rfl) ?_
        refine av_wp_seq 2 (pc' := 58) (lv' := [some (.inr (.inr (.inl (some (0))))), some (.inl k), some (.inl l), some (.inl x), some (.inl w), some (.inl (1)), some (.inr (.inr (.inl (some (35)))))]) (st' := [.inr (.inr (.inl (some (35))))]) (h' := h43) rfl ?_
        refine wq_cv (p' := 61) (av_qc (.invokevirtual 168) 3 0 0 0) 1 cd_3 [] (35) 0 [some (.inr (.inr (.inl (some (35)))))] rfl rfl rfl pp_3 rfl rfl rfl (congrArg Prod.fst (bn_k0 C52.1.1 (Or.inl rfl))) rfl rfl rfl rfl ?_
        refine cx_3 E55 (FN_rf 35 h43) (by omega) (fun v64 p65 => ?_)
        show av_wp _ cd_106 61 [some (.inr (.inr (.inl (some (0))))), some (.inl k), some (.inl l), some (.inl x), some (.inl w), some (.inl (1)), some (.inr (.inr (.inl (some (35)))))] [.inl v64] h43 _
        refine wq_k1 (p' := 64) rfl rfl ⟨by omega, by omega⟩ (fun c66 => ?_) (fun c67 => ?_)
        · have c66 : v64 ≠ (0) := c66
          refine av_wp_seq 1 (pc' := 69) (lv' := [some (.inr (.inr (.inl (some (0))))), some (.inl k), some (.inl l), some (.inl x), some (.inl w), some (.inl (1)), some (.inr (.inr (.inl (some (35)))))]) (st' := [.inl w]) (h' := h43) rfl ?_
          rcases (show w = 0 ∨ w = 1 ∨ w = 2 ∨ (w < 0 ∨ 2 < w) by omega) with e68 | e68 | e68 | e68
          · refine wq_tc (t := 96) rfl e68 rfl ?_
            refine av_wp_seq 1 (pc' := 98) (lv' := [some (.inr (.inr (.inl (some (0))))), some (.inl k), some (.inl l), some (.inl x), some (.inl w), some (.inl (1)), some (.inr (.inr (.inl (some (35)))))]) (st' := [.inr (.inr (.inl (some (35))))]) (h' := h43) rfl ?_
            refine wq_gi (p' := 101) rfl rfl (congrArg Prod.fst (bn_k0 C52.1.1 (Or.inl rfl))) rfl (E55.2.2.2.2.1) ?_
            refine av_wp_ret (v := some (.inl m49)) rfl rfl rfl ?_
            exact hq _ h43 _ _ C52 F53 U54 (Or.inl ⟨by unfold okx; omega, by rw [show bgx U S (fun k => hA h (6 + k)) k l x = _ from B59]; show _ = (if m51 = 9999 then -2 else if w = 0 then m49 else if w = 1 then m50 else if w = 2 then m51 else bwv (U (Int.toNat k)) (hA h (6 + Int.toNat l)) m49 m50 (w - 10).toNat); rw [if_neg (by omega), if_pos (by omega)]⟩)
          · refine wq_tc (t := 102) rfl e68 rfl ?_
            refine av_wp_seq 1 (pc' := 104) (lv' := [some (.inr (.inr (.inl (some (0))))), some (.inl k), some (.inl l), some (.inl x), some (.inl w), some (.inl (1)), some (.inr (.inr (.inl (some (35)))))]) (st' := [.inr (.inr (.inl (some (35))))]) (h' := h43) rfl ?_
            refine wq_gi (p' := 107) rfl rfl (congrArg Prod.fst (bn_k0 C52.1.1 (Or.inl rfl))) rfl (E55.2.2.2.2.2.1) ?_
            refine av_wp_ret (v := some (.inl m50)) rfl rfl rfl ?_
            exact hq _ h43 _ _ C52 F53 U54 (Or.inl ⟨by unfold okx; omega, by rw [show bgx U S (fun k => hA h (6 + k)) k l x = _ from B59]; show _ = (if m51 = 9999 then -2 else if w = 0 then m49 else if w = 1 then m50 else if w = 2 then m51 else bwv (U (Int.toNat k)) (hA h (6 + Int.toNat l)) m49 m50 (w - 10).toNat); rw [if_neg (by omega), if_neg (by omega), if_pos (by omega)]⟩)
          · refine wq_tc (t := 108) rfl e68 rfl ?_
            refine av_wp_seq 1 (pc' := 110) (lv' := [some (.inr (.inr (.inl (some (0))))), some (.inl k), some (.inl l), some (.inl x), some (.inl w), some (.inl (1)), some (.inr (.inr (.inl (some (35)))))]) (st' := [.inr (.inr (.inl (some (35))))]) (h' := h43) rfl ?_
            refine wq_gi (p' := 113) rfl rfl (congrArg Prod.fst (bn_k0 C52.1.1 (Or.inl rfl))) rfl (E55.2.2.2.2.2.2) ?_
            refine av_wp_ret (v := some (.inl m51)) rfl rfl rfl ?_
            exact hq _ h43 _ _ C52 F53 U54 (Or.inl ⟨by unfold okx; omega, by rw [show bgx U S (fun k => hA h (6 + k)) k l x = _ from B59]; show _ = (if m51 = 9999 then -2 else if w = 0 then m49 else if w = 1 then m50 else if w = 2 then m51 else bwv (U (Int.toNat k)) (hA h (6 + Int.toNat l)) m49 m50 (w - 10).toNat); rw [if_neg (by omega), if_neg (by omega), if_neg (by omega), if_pos (by omega)]⟩)
          · refine wq_td (t := 114) rfl ⟨by omega, by omega⟩ e68 rfl ?_
            refine av_wp_seq 4 (pc' := 121) (lv' := [some (.inr (.inr (.inl (some (0))))), some (.inl k), some (.inl l), some (.inl x), some (.inl w), some (.inl (1)), some (.inr (.inr (.inl (some (35)))))]) (st' := [.inl (w - (10)), .inr (.inr (.inl (some (35))))]) (h' := h43) rfl ?_
            refine wq_cv (p' := 124) (av_qc (.invokevirtual 183) 17 1 0 0) 4 cd_17 [.inl (w - (10))] (35) 0 [some (.inr (.inr (.inl (some (35))))), some (.inl (w - (10))), none, none] rfl rfl rfl pp_17 rfl rfl rfl (congrArg Prod.fst (bn_k0 C52.1.1 (Or.inl rfl))) rfl rfl rfl rfl ?_
            refine cx_17 E55 (FN_rf 35 h43) (CR.1 (Int.toNat k) (by omega)).1 (CR.2.2.2 l (by omega) (by omega)) (by omega) (by omega) ((w - (10))) (by omega) (fun v69 p70 => ?_)
            show av_wp _ cd_106 124 [some (.inr (.inr (.inl (some (0))))), some (.inl k), some (.inl l), some (.inl x), some (.inl w), some (.inl (1)), some (.inr (.inr (.inl (some (35)))))] [.inl v69] h43 _
            refine av_wp_ret (v := some (.inl v69)) rfl rfl rfl ?_
            exact hq _ h43 _ _ C52 F53 U54 (Or.inl ⟨by unfold okx; omega, by rw [show bgx U S (fun k => hA h (6 + k)) k l x = _ from B59]; show _ = (if m51 = 9999 then -2 else if w = 0 then m49 else if w = 1 then m50 else if w = 2 then m51 else bwv (U (Int.toNat k)) (hA h (6 + Int.toNat l)) m49 m50 (w - 10).toNat); rw [if_neg (by omega), if_neg (by omega), if_neg (by omega), if_neg (by omega)]; exact p70.trans (congrArg (bwv _ _ _ _) (by omega))⟩)
        · have c67 : v64 = (0) := c67
          refine av_wp_seq 1 (pc' := 66) (lv' := [some (.inr (.inr (.inl (some (0))))), some (.inl k), some (.inl l), some (.inl x), some (.inl w), some (.inl (1)), some (.inr (.inr (.inl (some (35)))))]) (st' := [.inl (-2)]) (h' := h43) rfl ?_
          refine av_wp_ret (v := some (.inl (-2))) rfl rfl rfl ?_
          exact hq _ h43 _ _ C52 F53 U54 (Or.inl ⟨by unfold okx; omega, by rw [show bgx U S (fun k => hA h (6 + k)) k l x = _ from B59]; show _ = (if m51 = 9999 then -2 else if w = 0 then m49 else if w = 1 then m50 else if w = 2 then m51 else bwv (U (Int.toNat k)) (hA h (6 + Int.toNat l)) m49 m50 (w - 10).toNat); rw [if_pos (by omega)]⟩)
    · have c39 : (2) < w := c39
      refine av_wp_seq 1 (pc' := 13) (lv' := [some (.inr (.inr (.inl (some (0))))), some (.inl k), some (.inl l), some (.inl x), some (.inl w), none, none]) (st' := [.inl w]) (h' := h) rfl ?_
      refine wq_cs (p' := 16) (av_qc (.invokestatic 133) 102 1 2 7) 1 cd_102 [.inl w] [.inl w] [some (.inl w)] rfl rfl rfl pp_102 (fun _ => rfl) rfl rfl ?_
      refine ct_102 (w) (by omega) (fun v71 p72 => ?_)
      show av_wp _ cd_106 16 [some (.inr (.inr (.inl (some (0))))), some (.inl k), some (.inl l), some (.inl x), some (.inl w), none, none] [.inl v71] h _
      refine wq_k1 (p' := 19) rfl rfl ⟨by omega, by omega⟩ (fun c73 => ?_) (fun c74 => ?_)
      · have c73 : v71 = (0) := c73
        refine av_wp_seq 5 (pc' := 46) (lv' := [some (.inr (.inr (.inl (some (0))))), some (.inl k), some (.inl l), some (.inl x), some (.inl w), some (.inl (0)), none]) (st' := [.inl (-3)]) (h' := h) rfl ?_
        refine av_wp_ret (v := some (.inl (-3))) rfl rfl rfl ?_
        exact hq _ h _ _ C F SU (Or.inr ⟨by unfold okx; omega, rfl⟩)
      · have c74 : v71 ≠ (0) := c74
        refine av_wp_seq 6 (pc' := 32) (lv' := [some (.inr (.inr (.inl (some (0))))), some (.inl k), some (.inl l), some (.inl x), some (.inl w), some (.inl (1)), none]) (st' := [.inr (.inr (.inl (some (0))))]) (h' := h) rfl ?_
        refine wq_gr (p' := 35) rfl rfl (congrArg Prod.fst (ly_k C.1.1 0 rfl)) rfl (ly_g C.1.1 0 5 26 rfl) ?_
        refine av_wp_seq 3 (pc' := 38) (lv' := [some (.inr (.inr (.inl (some (0))))), some (.inl k), some (.inl l), some (.inl x), some (.inl w), some (.inl (1)), none]) (st' := [.inl x, .inl l, .inl k, .inr (.inr (.inl (some (26))))]) (h' := h) rfl ?_
        refine wq_cv (p' := 41) (av_qc (.invokevirtual 160) 48 3 0 3) 5 cd_48 [.inl x, .inl l, .inl k] (26) 3 [some (.inr (.inr (.inl (some (26))))), some (.inl k), some (.inl l), some (.inl x), none] rfl rfl rfl pp_48 rfl rfl rfl (congrArg Prod.fst (ly_k C.1.1 26 rfl)) rfl rfl rfl rfl ?_
        refine cz_48 C (k) (by omega) (l) (by omega) (x) (by omega) CR SU (fun z75 => ?_) (fun z75 z76 z77 h78 r79 n80 t81 c82 a83 m84 m85 m86 C87 F88 U89 E90 Z91 T92 D93 B94 R95 => ?_)
        · show av_wp _ cd_106 41 [some (.inr (.inr (.inl (some (0))))), some (.inl k), some (.inl l), some (.inl x), some (.inl w), some (.inl (1)), none] [.inl (0)] h _
          refine av_wp_seq 2 (pc' := 46) (lv' := [some (.inr (.inr (.inl (some (0))))), some (.inl k), some (.inl l), some (.inl x), some (.inl w), some (.inl (1)), none]) (st' := [.inl (-3)]) (h' := h) rfl ?_
          refine av_wp_ret (v := some (.inl (-3))) rfl rfl rfl ?_
          exact hq _ h _ _ C F SU (Or.inr ⟨by unfold okx; omega, rfl⟩)
        · have b98 := bgn_f (u := U (Int.toNat k)) (ro := (hA h (6 + Int.toNat l))) (bar := (brv (U (Int.toNat k)) (srt U S (hA h (6 + Int.toNat l)) (Int.toNat k)))) (s := S (Int.toNat k)) (x := x)
          rw [B94] at b98
          have b98 : (m86 = 9999 ∧ m84 = -1 ∧ m85 = -1) ∨ (m86 < 9999 ∧ (0 ≤ m85 ∧ m85 < (S (Int.toNat k) : Int) ∧ ofv (U (Int.toNat k)) (hA h (6 + Int.toNat l)) (Int.toNat m85) ≠ 0) ∧ (m84 = -1 ∨ (0 ≤ m84 ∧ m84 < (S (Int.toNat k) : Int) ∧ ysv (U (Int.toNat k)) (hA h (6 + Int.toNat l)) (Int.toNat m84) ≠ 0))) := b98
          have g96 : (-1 ≤ m84 ∧ m84 ≤ 11) ∧ (-1 ≤ m85 ∧ m85 ≤ 11) ∧ (-1 ≤ m86 ∧ m86 ≤ 9999) := R95
          have g97 := co_s12 (ib_co E90.1)
          show av_wp _ cd_106 41 [some (.inr (.inr (.inl (some (0))))), some (.inl k), some (.inl l), some (.inl x), some (.inl w), some (.inl (1)), none] [.inl (1)] h78 _
          refine av_wp_seq 2 (pc' := 48) (lv' := [some (.inr (.inr (.inl (some (0))))), some (.inl k), some (.inl l), some (.inl x), some (.inl w), some (.inl (1)), none]) (st' := [.inr (.inr (.inl (some (0))))]) (h' := h78) rfl ?_
          refine wq_gr (p' := 51) rfl rfl (congrArg Prod.fst (ly_k C87.1.1 0 rfl)) rfl (ly_g C87.1.1 0 5 26 rfl) ?_
          refine wq_gr (p' := 54) rfl rfl (congrArg Prod.fst (ly_k C87.1.1 26 rfl)) rfl (ly_g C87.1.1 26 1 35 rfl) ?_
          refine av_wp_seq 2 (pc' := 58) (lv' := [some (.inr (.inr (.inl (some (0))))), some (.inl k), some (.inl l), some (.inl x), some (.inl w), some (.inl (1)), some (.inr (.inr (.inl (some (35)))))]) (st' := [.inr (.inr (.inl (some (35))))]) (h' := h78) rfl ?_
          refine wq_cv (p' := 61) (av_qc (.invokevirtual 168) 3 0 0 0) 1 cd_3 [] (35) 0 [some (.inr (.inr (.inl (some (35)))))] rfl rfl rfl pp_3 rfl rfl rfl (congrArg Prod.fst (bn_k0 C87.1.1 (Or.inl rfl))) rfl rfl rfl rfl ?_
          refine cx_3 E90 (FN_rf 35 h78) (by omega) (fun v99 p100 => ?_)
          show av_wp _ cd_106 61 [some (.inr (.inr (.inl (some (0))))), some (.inl k), some (.inl l), some (.inl x), some (.inl w), some (.inl (1)), some (.inr (.inr (.inl (some (35)))))] [.inl v99] h78 _
          refine wq_k1 (p' := 64) rfl rfl ⟨by omega, by omega⟩ (fun c101 => ?_) (fun c102 => ?_)
          · have c101 : v99 ≠ (0) := c101
            refine av_wp_seq 1 (pc' := 69) (lv' := [some (.inr (.inr (.inl (some (0))))), some (.inl k), some (.inl l), some (.inl x), some (.inl w), some (.inl (1)), some (.inr (.inr (.inl (some (35)))))]) (st' := [.inl w]) (h' := h78) rfl ?_
            rcases (show w = 0 ∨ w = 1 ∨ w = 2 ∨ (w < 0 ∨ 2 < w) by omega) with e103 | e103 | e103 | e103
            · exfalso; omega
            · exfalso; omega
            · exfalso; omega
            · refine wq_td (t := 114) rfl ⟨by omega, by omega⟩ e103 rfl ?_
              refine av_wp_seq 4 (pc' := 121) (lv' := [some (.inr (.inr (.inl (some (0))))), some (.inl k), some (.inl l), some (.inl x), some (.inl w), some (.inl (1)), some (.inr (.inr (.inl (some (35)))))]) (st' := [.inl (w - (10)), .inr (.inr (.inl (some (35))))]) (h' := h78) rfl ?_
              refine wq_cv (p' := 124) (av_qc (.invokevirtual 183) 17 1 0 0) 4 cd_17 [.inl (w - (10))] (35) 0 [some (.inr (.inr (.inl (some (35))))), some (.inl (w - (10))), none, none] rfl rfl rfl pp_17 rfl rfl rfl (congrArg Prod.fst (bn_k0 C87.1.1 (Or.inl rfl))) rfl rfl rfl rfl ?_
              refine cx_17 E90 (FN_rf 35 h78) (CR.1 (Int.toNat k) (by omega)).1 (CR.2.2.2 l (by omega) (by omega)) (by omega) (by omega) ((w - (10))) (by omega) (fun v104 p105 => ?_)
              show av_wp _ cd_106 124 [some (.inr (.inr (.inl (some (0))))), some (.inl k), some (.inl l), some (.inl x), some (.inl w), some (.inl (1)), some (.inr (.inr (.inl (some (35)))))] [.inl v104] h78 _
              refine av_wp_ret (v := some (.inl v104)) rfl rfl rfl ?_
              exact hq _ h78 _ _ C87 F88 U89 (Or.inl ⟨by unfold okx; omega, by rw [show bgx U S (fun k => hA h (6 + k)) k l x = _ from B94]; show _ = (if m86 = 9999 then -2 else if w = 0 then m84 else if w = 1 then m85 else if w = 2 then m86 else bwv (U (Int.toNat k)) (hA h (6 + Int.toNat l)) m84 m85 (w - 10).toNat); rw [if_neg (by omega), if_neg (by omega), if_neg (by omega), if_neg (by omega)]; exact p105.trans (congrArg (bwv _ _ _ _) (by omega))⟩)
          · have c102 : v99 = (0) := c102
            refine av_wp_seq 1 (pc' := 66) (lv' := [some (.inr (.inr (.inl (some (0))))), some (.inl k), some (.inl l), some (.inl x), some (.inl w), some (.inl (1)), some (.inr (.inr (.inl (some (35)))))]) (st' := [.inl (-2)]) (h' := h78) rfl ?_
            refine av_wp_ret (v := some (.inl (-2))) rfl rfl rfl ?_
            exact hq _ h78 _ _ C87 F88 U89 (Or.inl ⟨by unfold okx; omega, by rw [show bgx U S (fun k => hA h (6 + k)) k l x = _ from B94]; show _ = (if m86 = 9999 then -2 else if w = 0 then m84 else if w = 1 then m85 else if w = 2 then m86 else bwv (U (Int.toNat k)) (hA h (6 + Int.toNat l)) m84 m85 (w - 10).toNat); rw [if_pos (by omega)]⟩)

set_option maxRecDepth 100000 in
set_option maxHeartbeats 4000000 in
theorem cx_182 {g h : av_H} {n a m : Int} (I : IMF n a m h) (F : FM g h) {u ro : Nat → Int} {a0 : Nat → Nat → Int} {s : Nat} (en : n = (s : Int)) (X : LR u ro a0 s (hA h)) (W : UW u s) (R : RLW ro) (H : HBd s a0) (o : Int) (qo : 0 ≤ o ∧ o < (s : Int)) (w : Int) (qw : 0 ≤ w ∧ w ≤ 4) {Q : Option av_V → av_H → Prop} (hq : ∀ v : Int, v = wov u (Int.toNat w) 12 o → Q (some (.inl v)) h) : av_wp none cd_182 0 [some (.inr (.inr (.inl (some (77))))), some (.inl o), some (.inl w), none] [] h Q := by
  have gn := im_n I.1.1
  rw [I.2.1] at gn
  have ga := im_a I.1.1
  rw [I.2.2.1] at ga
  have gm := im_cm I.1.1
  rw [I.2.2.2] at gm
  have s12 : s ≤ 12 := by omega
  have Z := ZE_rf (L := [113, 114, 115]) (K := [50, 51, 52, 53]) h
  refine av_wp_seq 2 (pc' := 2) (lv' := [some (.inr (.inr (.inl (some (77))))), some (.inl o), some (.inl w), some (.inl o)]) (st' := []) (h' := h) rfl ?_
  have L3 : ∀ (m2 : Nat) (k1 : Int), wov u (Int.toNat w) 12 o = wov u (Int.toNat w) 12 k1 → k1 < (s : Int) → (0 ≤ k1 ∧ k1 ≤ 11) → (k1 + 1).toNat = m2 → av_wp none cd_182 2 [some (.inr (.inr (.inl (some (77))))), some (.inl o), some (.inl w), some (.inl k1)] [] h Q := by
    intro m2
    induction m2 using Nat.strongRecOn with
    | _ m2 I4 =>
      intro k1 g6 g7 g8 e5
      refine av_wp_seq 1 (pc' := 3) (lv' := [some (.inr (.inr (.inl (some (77))))), some (.inl o), some (.inl w), some (.inl k1)]) (st' := [.inr (.inr (.inl (some (77))))]) (h' := h) rfl ?_
      refine wq_gr (p' := 6) rfl rfl (congrArg Prod.fst (ly_k I.1.1.1 77 rfl)) rfl (ly_g I.1.1.1 77 38 104 rfl) ?_
      refine av_wp_seq 5 (pc' := 11) (lv' := [some (.inr (.inr (.inl (some (77))))), some (.inl o), some (.inl w), some (.inl k1)]) (st' := [.inl (((5) * k1) + w), .inr (.inr (.inl (some (104))))]) (h' := h) rfl ?_
      obtain ⟨v9, e10⟩ : ∃ v, hA h 104 (Int.toNat ((((5) * k1) + w))) = v := ⟨_, rfl⟩
      have g11 : -1 ≤ hA h 104 (Int.toNat ((((5) * k1) + w))) ∧ hA h 104 (Int.toNat ((((5) * k1) + w))) ≤ 999 := im_w I.1.1 104 (by decide) (by decide) _
      rw [e10] at g11
      have y12 : hA h 104 (Int.toNat ((((5) * k1) + w))) = v9 := (congrFun (Z.1 104 rfl) _).symm.trans e10
      have y13 : u (21 * (Int.toNat k1) + 10 + (Int.toNat w)) = v9 := ((X.1 (Int.toNat k1) (by omega)).2.1 (Int.toNat w) (by omega)).symm.trans ((congrArg (hA h 104) (by omega)).trans e10)
      refine wq_al (p' := 12) (n := 60) rfl rfl (ly_k I.1.1.1 104 rfl) (by omega) (e10) ?_
      refine wq_k1 (p' := 15) rfl rfl ⟨by omega, by omega⟩ (fun c14 => ?_) (fun c15 => ?_)
      · have c14 : (0) ≤ v9 := c14
        refine av_wp_seq 1 (pc' := 36) (lv' := [some (.inr (.inr (.inl (some (77))))), some (.inl o), some (.inl w), some (.inl k1)]) (st' := [.inr (.inr (.inl (some (77))))]) (h' := h) rfl ?_
        refine wq_gr (p' := 39) rfl rfl (congrArg Prod.fst (ly_k I.1.1.1 77 rfl)) rfl (ly_g I.1.1.1 77 38 104 rfl) ?_
        refine av_wp_seq 5 (pc' := 44) (lv' := [some (.inr (.inr (.inl (some (77))))), some (.inl o), some (.inl w), some (.inl k1)]) (st' := [.inl (((5) * k1) + w), .inr (.inr (.inl (some (104))))]) (h' := h) rfl ?_
        obtain ⟨v16, e17⟩ : ∃ v, hA h 104 (Int.toNat ((((5) * k1) + w))) = v := ⟨_, rfl⟩
        have g18 : -1 ≤ hA h 104 (Int.toNat ((((5) * k1) + w))) ∧ hA h 104 (Int.toNat ((((5) * k1) + w))) ≤ 999 := im_w I.1.1 104 (by decide) (by decide) _
        rw [e17] at g18
        have y19 : hA h 104 (Int.toNat ((((5) * k1) + w))) = v16 := (congrFun (Z.1 104 rfl) _).symm.trans e17
        have y20 : u (21 * (Int.toNat k1) + 10 + (Int.toNat w)) = v16 := ((X.1 (Int.toNat k1) (by omega)).2.1 (Int.toNat w) (by omega)).symm.trans ((congrArg (hA h 104) (by omega)).trans e17)
        refine wq_al (p' := 45) (n := 60) rfl rfl (ly_k I.1.1.1 104 rfl) (by omega) (e17) ?_
        refine av_wp_ret (v := some (.inl v16)) rfl rfl rfl ?_
        exact hq _ (by rw [g6]; exact (wov_y (f := 11) (by omega) y20 (by omega)).symm)
      · have c15 : v9 < (0) := c15
        refine av_wp_seq 1 (pc' := 16) (lv' := [some (.inr (.inr (.inl (some (77))))), some (.inl o), some (.inl w), some (.inl k1)]) (st' := [.inr (.inr (.inl (some (77))))]) (h' := h) rfl ?_
        refine wq_gr (p' := 19) rfl rfl (congrArg Prod.fst (ly_k I.1.1.1 77 rfl)) rfl (ly_g I.1.1.1 77 30 96 rfl) ?_
        refine av_wp_seq 1 (pc' := 20) (lv' := [some (.inr (.inr (.inl (some (77))))), some (.inl o), some (.inl w), some (.inl k1)]) (st' := [.inl k1, .inr (.inr (.inl (some (96))))]) (h' := h) rfl ?_
        obtain ⟨v21, e22⟩ : ∃ v, hA h 96 (Int.toNat (k1)) = v := ⟨_, rfl⟩
        have g23 : 0 ≤ hA h 96 (Int.toNat (k1)) ∧ hA h 96 (Int.toNat (k1)) ≤ 7 := im_w I.1.1 96 (by decide) (by decide) _
        rw [e22] at g23
        have y24 : hA h 96 (Int.toNat (k1)) = v21 := (congrFun (Z.1 96 rfl) _).symm.trans e22
        have y25 := (X.1 (Int.toNat (k1)) (by omega)).1.1
        rw [e22] at y25
        refine wq_al (p' := 21) (n := 12) rfl rfl (ly_k I.1.1.1 96 rfl) (by omega) (e22) ?_
        refine av_wp_seq 1 (pc' := 22) (lv' := [some (.inr (.inr (.inl (some (77))))), some (.inl o), some (.inl w), some (.inl k1)]) (st' := [.inl (3), .inl v21]) (h' := h) rfl ?_
        refine wq_k2 (p' := 25) rfl rfl ⟨by omega, by omega⟩ ⟨by omega, by omega⟩ (fun c27 => ?_) (fun c28 => ?_)
        · have c27 : v21 ≠ (3) := c27
          refine av_wp_seq 1 (pc' := 36) (lv' := [some (.inr (.inr (.inl (some (77))))), some (.inl o), some (.inl w), some (.inl k1)]) (st' := [.inr (.inr (.inl (some (77))))]) (h' := h) rfl ?_
          refine wq_gr (p' := 39) rfl rfl (congrArg Prod.fst (ly_k I.1.1.1 77 rfl)) rfl (ly_g I.1.1.1 77 38 104 rfl) ?_
          refine av_wp_seq 5 (pc' := 44) (lv' := [some (.inr (.inr (.inl (some (77))))), some (.inl o), some (.inl w), some (.inl k1)]) (st' := [.inl (((5) * k1) + w), .inr (.inr (.inl (some (104))))]) (h' := h) rfl ?_
          obtain ⟨v29, e30⟩ : ∃ v, hA h 104 (Int.toNat ((((5) * k1) + w))) = v := ⟨_, rfl⟩
          have g31 : -1 ≤ hA h 104 (Int.toNat ((((5) * k1) + w))) ∧ hA h 104 (Int.toNat ((((5) * k1) + w))) ≤ 999 := im_w I.1.1 104 (by decide) (by decide) _
          rw [e30] at g31
          have y32 : hA h 104 (Int.toNat ((((5) * k1) + w))) = v29 := (congrFun (Z.1 104 rfl) _).symm.trans e30
          have y33 : u (21 * (Int.toNat k1) + 10 + (Int.toNat w)) = v29 := ((X.1 (Int.toNat k1) (by omega)).2.1 (Int.toNat w) (by omega)).symm.trans ((congrArg (hA h 104) (by omega)).trans e30)
          refine wq_al (p' := 45) (n := 60) rfl rfl (ly_k I.1.1.1 104 rfl) (by omega) (e30) ?_
          refine av_wp_ret (v := some (.inl v29)) rfl rfl rfl ?_
          exact hq _ (by rw [g6]; exact (wov_e (f := 11) (by omega) y33 y25.symm (by omega)).symm)
        · have c28 : v21 = (3) := c28
          refine av_wp_seq 1 (pc' := 26) (lv' := [some (.inr (.inr (.inl (some (77))))), some (.inl o), some (.inl w), some (.inl k1)]) (st' := [.inr (.inr (.inl (some (77))))]) (h' := h) rfl ?_
          refine wq_gr (p' := 29) rfl rfl (congrArg Prod.fst (ly_k I.1.1.1 77 rfl)) rfl (ly_g I.1.1.1 77 34 100 rfl) ?_
          refine av_wp_seq 1 (pc' := 30) (lv' := [some (.inr (.inr (.inl (some (77))))), some (.inl o), some (.inl w), some (.inl k1)]) (st' := [.inl k1, .inr (.inr (.inl (some (100))))]) (h' := h) rfl ?_
          obtain ⟨v34, e35⟩ : ∃ v, hA h 100 (Int.toNat (k1)) = v := ⟨_, rfl⟩
          have g36 : -1 ≤ hA h 100 (Int.toNat (k1)) ∧ hA h 100 (Int.toNat (k1)) ≤ 11 := im_w I.1.1 100 (by decide) (by decide) _
          rw [e35] at g36
          have w37 := im_wr I.1 (Int.toNat (k1)) (by omega)
          rw [e35] at w37
          have y38 : hA h 100 (Int.toNat (k1)) = v34 := (congrFun (Z.1 100 rfl) _).symm.trans e35
          have y39 := (X.1 (Int.toNat (k1)) (by omega)).1.2.2.2.1
          rw [e35] at y39
          have g41 := W (Int.toNat (k1)) (by omega)
          rw [← y39] at g41
          have g41a := g41.2.1
          have g41b := g41.2.2.1
          rw [← y25] at g41b
          clear g41
          refine wq_al (p' := 31) (n := 12) rfl rfl (ly_k I.1.1.1 100 rfl) (by omega) (e35) ?_
          refine av_wp_seq 2 (pc' := 2) (lv' := [some (.inr (.inr (.inl (some (77))))), some (.inl o), some (.inl w), some (.inl v34)]) (st' := []) (h' := h) rfl ?_
          exact I4 _ (by omega) (v34) (by rw [g6]; exact (wov_s (f := 11) (by omega) y13 (by omega) y25.symm (by omega) y39.symm).trans (wov_f W 12 11 12 _ (by omega) (by omega) (by omega) (by omega))) (by omega) (by omega) rfl
  exact L3 _ (o) rfl (by omega) (by omega) rfl

set_option maxRecDepth 100000 in
set_option maxHeartbeats 4000000 in
theorem cx_183 {g h : av_H} {n a m : Int} (I : IMF n a m h) (F : FM g h) {u ro : Nat → Int} {a0 : Nat → Nat → Int} {s : Nat} (en : n = (s : Int)) (X : LR u ro a0 s (hA h)) (W : UW u s) (R : RLW ro) (H : HBd s a0) {b o : Int} (e51 : hF h 77 51 = b) (e52 : hF h 77 52 = o) (qo : 0 ≤ o ∧ o < (s : Int)) (qb : b = -1 ∨ (0 ≤ b ∧ b < (s : Int) ∧ ysv u ro (Int.toNat b) ≠ 0)) (w : Int) (qw : 0 ≤ w ∧ w ≤ 4) {Q : Option av_V → av_H → Prop} (hq : ∀ v : Int, v = bwv u ro b o (Int.toNat w) → Q (some (.inl v)) h) : av_wp none cd_183 0 [some (.inr (.inr (.inl (some (77))))), some (.inl w), none] [] h Q := by
  have gn := im_n I.1.1
  rw [I.2.1] at gn
  have ga := im_a I.1.1
  rw [I.2.2.1] at ga
  have gm := im_cm I.1.1
  rw [I.2.2.2] at gm
  have s12 : s ≤ 12 := by omega
  have sm3 : 0 ≤ b → u (21 * Int.toNat b + 0) = 3 → smv u ro (Int.toNat b) = 1 := fun h1 h2 => ys_sm (qb.elim (fun z => absurd h1 (by omega)) (fun z => z.2.2)) h2
  have Z := ZE_rf (L := [113, 114, 115]) (K := [50, 51, 52, 53]) h
  refine av_wp_seq 2 (pc' := 2) (lv' := [some (.inr (.inr (.inl (some (77))))), some (.inl w), none]) (st' := [.inr (.inr (.inl (some (77)))), .inr (.inr (.inl (some (77))))]) (h' := h) rfl ?_
  refine wq_gi (p' := 5) rfl rfl (congrArg Prod.fst (ly_k I.1.1.1 77 rfl)) rfl (e52) ?_
  refine av_wp_seq 1 (pc' := 6) (lv' := [some (.inr (.inr (.inl (some (77))))), some (.inl w), none]) (st' := [.inl w, .inl o, .inr (.inr (.inl (some (77))))]) (h' := h) rfl ?_
  refine wq_cv (p' := 9) (av_qc (.invokevirtual 421) 182 2 0 8) 4 cd_182 [.inl w, .inl o] (77) 8 [some (.inr (.inr (.inl (some (77))))), some (.inl o), some (.inl w), none] rfl rfl rfl pp_182 rfl rfl rfl (congrArg Prod.fst (ly_k I.1.1.1 77 rfl)) rfl rfl rfl rfl ?_
  refine cx_182 I F en X W R H (o) (by omega) (w) (by omega) (fun v1 p2 => ?_)
  show av_wp _ cd_183 9 [some (.inr (.inr (.inl (some (77))))), some (.inl w), none] [.inl v1] h _
  refine av_wp_seq 2 (pc' := 11) (lv' := [some (.inr (.inr (.inl (some (77))))), some (.inl w), some (.inl v1)]) (st' := [.inr (.inr (.inl (some (77))))]) (h' := h) rfl ?_
  refine wq_gi (p' := 14) rfl rfl (congrArg Prod.fst (ly_k I.1.1.1 77 rfl)) rfl (e51) ?_
  refine wq_k1 (p' := 17) rfl rfl ⟨by omega, by omega⟩ (fun c3 => ?_) (fun c4 => ?_)
  · have c3 : b < (0) := c3
    refine av_wp_seq 1 (pc' := 55) (lv' := [some (.inr (.inr (.inl (some (77))))), some (.inl w), some (.inl v1)]) (st' := [.inl v1]) (h' := h) rfl ?_
    refine av_wp_ret (v := some (.inl v1)) rfl rfl rfl ?_
    exact hq _ (by unfold bwv; rw [if_neg (fun z => by obtain ⟨z1, z2, z3, z4⟩ := z; omega)]; exact p2)
  · have c4 : (0) ≤ b := c4
    refine av_wp_seq 2 (pc' := 19) (lv' := [some (.inr (.inr (.inl (some (77))))), some (.inl w), some (.inl v1)]) (st' := [.inr (.inr (.inl (some (77)))), .inr (.inr (.inl (some (77))))]) (h' := h) rfl ?_
    refine wq_gi (p' := 22) rfl rfl (congrArg Prod.fst (ly_k I.1.1.1 77 rfl)) rfl (e51) ?_
    refine wq_cv (p' := 25) (av_qc (.invokevirtual 360) 167 1 0 8) 3 cd_167 [.inl b] (77) 8 [some (.inr (.inr (.inl (some (77))))), some (.inl b), none] rfl rfl rfl pp_167 rfl rfl rfl (congrArg Prod.fst (ly_k I.1.1.1 77 rfl)) rfl rfl rfl rfl ?_
    refine cx_167 I F en X W R H (b) (by omega) (fun v5 p6 => ?_)
    have g7 := smv_b u ro (Int.toNat (b))
    rw [← p6] at g7
    show av_wp _ cd_183 25 [some (.inr (.inr (.inl (some (77))))), some (.inl w), some (.inl v1)] [.inl v5] h _
    refine wq_k1 (p' := 28) rfl rfl ⟨by omega, by omega⟩ (fun c8 => ?_) (fun c9 => ?_)
    · have c8 : v5 = (0) := c8
      refine av_wp_seq 1 (pc' := 55) (lv' := [some (.inr (.inr (.inl (some (77))))), some (.inl w), some (.inl v1)]) (st' := [.inl v1]) (h' := h) rfl ?_
      refine av_wp_ret (v := some (.inl v1)) rfl rfl rfl ?_
      exact hq _ (by unfold bwv; rw [if_neg (fun z => by obtain ⟨z1, z2, z3, z4⟩ := z; have z5 := sm3 z1 z2; rw [← p6] at z5; omega)]; exact p2)
    · have c9 : v5 ≠ (0) := c9
      refine av_wp_seq 1 (pc' := 29) (lv' := [some (.inr (.inr (.inl (some (77))))), some (.inl w), some (.inl v1)]) (st' := [.inr (.inr (.inl (some (77))))]) (h' := h) rfl ?_
      refine wq_gr (p' := 32) rfl rfl (congrArg Prod.fst (ly_k I.1.1.1 77 rfl)) rfl (ly_g I.1.1.1 77 38 104 rfl) ?_
      refine av_wp_seq 2 (pc' := 34) (lv' := [some (.inr (.inr (.inl (some (77))))), some (.inl w), some (.inl v1)]) (st' := [.inr (.inr (.inl (some (77)))), .inl (5), .inr (.inr (.inl (some (104))))]) (h' := h) rfl ?_
      refine wq_gi (p' := 37) rfl rfl (congrArg Prod.fst (ly_k I.1.1.1 77 rfl)) rfl (e51) ?_
      refine av_wp_seq 3 (pc' := 40) (lv' := [some (.inr (.inr (.inl (some (77))))), some (.inl w), some (.inl v1)]) (st' := [.inl (((5) * b) + w), .inr (.inr (.inl (some (104))))]) (h' := h) rfl ?_
      obtain ⟨v10, e11⟩ : ∃ v, hA h 104 (Int.toNat ((((5) * b) + w))) = v := ⟨_, rfl⟩
      have g12 : -1 ≤ hA h 104 (Int.toNat ((((5) * b) + w))) ∧ hA h 104 (Int.toNat ((((5) * b) + w))) ≤ 999 := im_w I.1.1 104 (by decide) (by decide) _
      rw [e11] at g12
      have y13 : hA h 104 (Int.toNat ((((5) * b) + w))) = v10 := (congrFun (Z.1 104 rfl) _).symm.trans e11
      have y14 : u (21 * (Int.toNat b) + 10 + (Int.toNat w)) = v10 := ((X.1 (Int.toNat b) (by omega)).2.1 (Int.toNat w) (by omega)).symm.trans ((congrArg (hA h 104) (by omega)).trans e11)
      refine wq_al (p' := 41) (n := 60) rfl rfl (ly_k I.1.1.1 104 rfl) (by omega) (e11) ?_
      refine wq_k1 (p' := 44) rfl rfl ⟨by omega, by omega⟩ (fun c15 => ?_) (fun c16 => ?_)
      · have c15 : v10 < (0) := c15
        refine av_wp_seq 1 (pc' := 55) (lv' := [some (.inr (.inr (.inl (some (77))))), some (.inl w), some (.inl v1)]) (st' := [.inl v1]) (h' := h) rfl ?_
        refine av_wp_ret (v := some (.inl v1)) rfl rfl rfl ?_
        exact hq _ (by unfold bwv; rw [if_neg (fun z => by obtain ⟨z1, z2, z3, z4⟩ := z; have z5 := sm3 z1 z2; rw [← p6] at z5; rw [y14] at z3; omega)]; exact p2)
      · have c16 : (0) ≤ v10 := c16
        refine av_wp_seq 1 (pc' := 45) (lv' := [some (.inr (.inr (.inl (some (77))))), some (.inl w), some (.inl v1)]) (st' := [.inr (.inr (.inl (some (77))))]) (h' := h) rfl ?_
        refine wq_gr (p' := 48) rfl rfl (congrArg Prod.fst (ly_k I.1.1.1 77 rfl)) rfl (ly_g I.1.1.1 77 26 95 rfl) ?_
        refine av_wp_seq 1 (pc' := 50) (lv' := [some (.inr (.inr (.inl (some (77))))), some (.inl w), some (.inl v1)]) (st' := [.inl (10), .inr (.inr (.inl (some (95))))]) (h' := h) rfl ?_
        obtain ⟨v17, e18⟩ : ∃ v, hA h 95 (Int.toNat ((10))) = v := ⟨_, rfl⟩
        have y20 : hA h 95 (Int.toNat ((10))) = v17 := (congrFun (Z.1 95 rfl) _).symm.trans e18
        have y21 : ro 10 = v17 := (X.2 10 (by omega)).symm.trans e18
        have g22 := rl_10 R
        refine wq_al (p' := 51) (n := 13) rfl rfl (ly_k I.1.1.1 95 rfl) (by omega) (e18) ?_
        refine wq_k1 (p' := 54) rfl rfl ⟨by omega, by omega⟩ (fun c23 => ?_) (fun c24 => ?_)
        · have c23 : v17 ≠ (0) := c23
          refine av_wp_seq 1 (pc' := 57) (lv' := [some (.inr (.inr (.inl (some (77))))), some (.inl w), some (.inl v1)]) (st' := [.inr (.inr (.inl (some (77))))]) (h' := h) rfl ?_
          refine wq_gr (p' := 60) rfl rfl (congrArg Prod.fst (ly_k I.1.1.1 77 rfl)) rfl (ly_g I.1.1.1 77 26 95 rfl) ?_
          refine av_wp_seq 1 (pc' := 62) (lv' := [some (.inr (.inr (.inl (some (77))))), some (.inl w), some (.inl v1)]) (st' := [.inl (10), .inr (.inr (.inl (some (95))))]) (h' := h) rfl ?_
          obtain ⟨v25, e26⟩ : ∃ v, hA h 95 (Int.toNat ((10))) = v := ⟨_, rfl⟩
          have y28 : hA h 95 (Int.toNat ((10))) = v25 := (congrFun (Z.1 95 rfl) _).symm.trans e26
          have y29 : ro 10 = v25 := (X.2 10 (by omega)).symm.trans e26
          have g30 := rl_10 R
          refine wq_al (p' := 63) (n := 13) rfl rfl (ly_k I.1.1.1 95 rfl) (by omega) (e26) ?_
          refine av_wp_seq 1 (pc' := 64) (lv' := [some (.inr (.inr (.inl (some (77))))), some (.inl w), some (.inl v1)]) (st' := [.inl (1), .inl v25]) (h' := h) rfl ?_
          refine wq_k2 (p' := 67) rfl rfl ⟨by omega, by omega⟩ ⟨by omega, by omega⟩ (fun c31 => ?_) (fun c32 => ?_)
          · have c31 : v25 ≠ (1) := c31
            refine av_wp_seq 1 (pc' := 84) (lv' := [some (.inr (.inr (.inl (some (77))))), some (.inl w), some (.inl v1)]) (st' := [.inl (-1)]) (h' := h) rfl ?_
            refine av_wp_ret (v := some (.inl (-1))) rfl rfl rfl ?_
            exact hq _ (by unfold bwv; rw [if_pos ⟨by omega, sm_3 (p6.symm.trans (by omega)), by rw [y14]; omega, by rw [y29]; omega⟩, if_neg (by rw [y29]; omega)])
          · have c32 : v25 = (1) := c32
            refine av_wp_seq 1 (pc' := 68) (lv' := [some (.inr (.inr (.inl (some (77))))), some (.inl w), some (.inl v1)]) (st' := [.inr (.inr (.inl (some (77))))]) (h' := h) rfl ?_
            refine wq_gr (p' := 71) rfl rfl (congrArg Prod.fst (ly_k I.1.1.1 77 rfl)) rfl (ly_g I.1.1.1 77 38 104 rfl) ?_
            refine av_wp_seq 2 (pc' := 73) (lv' := [some (.inr (.inr (.inl (some (77))))), some (.inl w), some (.inl v1)]) (st' := [.inr (.inr (.inl (some (77)))), .inl (5), .inr (.inr (.inl (some (104))))]) (h' := h) rfl ?_
            refine wq_gi (p' := 76) rfl rfl (congrArg Prod.fst (ly_k I.1.1.1 77 rfl)) rfl (e51) ?_
            refine av_wp_seq 3 (pc' := 79) (lv' := [some (.inr (.inr (.inl (some (77))))), some (.inl w), some (.inl v1)]) (st' := [.inl (((5) * b) + w), .inr (.inr (.inl (some (104))))]) (h' := h) rfl ?_
            obtain ⟨v33, e34⟩ : ∃ v, hA h 104 (Int.toNat ((((5) * b) + w))) = v := ⟨_, rfl⟩
            have g35 : -1 ≤ hA h 104 (Int.toNat ((((5) * b) + w))) ∧ hA h 104 (Int.toNat ((((5) * b) + w))) ≤ 999 := im_w I.1.1 104 (by decide) (by decide) _
            rw [e34] at g35
            have y36 : hA h 104 (Int.toNat ((((5) * b) + w))) = v33 := (congrFun (Z.1 104 rfl) _).symm.trans e34
            have y37 : u (21 * (Int.toNat b) + 10 + (Int.toNat w)) = v33 := ((X.1 (Int.toNat b) (by omega)).2.1 (Int.toNat w) (by omega)).symm.trans ((congrArg (hA h 104) (by omega)).trans e34)
            refine wq_al (p' := 80) (n := 60) rfl rfl (ly_k I.1.1.1 104 rfl) (by omega) (e34) ?_
            refine av_wp_seq 1 (pc' := 84) (lv' := [some (.inr (.inr (.inl (some (77))))), some (.inl w), some (.inl v1)]) (st' := [.inl v33]) (h' := h) rfl ?_
            refine av_wp_ret (v := some (.inl v33)) rfl rfl rfl ?_
            exact hq _ (by unfold bwv; rw [if_pos ⟨by omega, sm_3 (p6.symm.trans (by omega)), by rw [y37]; omega, by rw [y29]; omega⟩, if_pos (y29.trans (by omega))]; exact y37.symm)
        · have c24 : v17 = (0) := c24
          refine av_wp_seq 1 (pc' := 55) (lv' := [some (.inr (.inr (.inl (some (77))))), some (.inl w), some (.inl v1)]) (st' := [.inl v1]) (h' := h) rfl ?_
          refine av_wp_ret (v := some (.inl v1)) rfl rfl rfl ?_
          exact hq _ (by unfold bwv; rw [if_neg (fun z => by obtain ⟨z1, z2, z3, z4⟩ := z; have z5 := sm3 z1 z2; rw [← p6] at z5; rw [y14] at z3; rw [y21] at z4; omega)]; exact p2)

set_option maxRecDepth 100000 in
set_option maxHeartbeats 4000000 in
theorem cx_190 {g h : av_H} {n a m : Int} (I : IMF n a m h) (F : FM g h) {U : Nat → Nat → Int} {S : Nat → Nat} {ro : Nat → Nat → Int} (RX : RXX g U S ro) (x : Int) (qx : -2147483648 ≤ x ∧ x ≤ 2147483647) (l : Int) (ql : -2147483648 ≤ l ∧ l ≤ 2147483647) (y : Int) (qy : -2147483648 ≤ y ∧ y ≤ 2147483647) (w : Int) (qw : -2147483648 ≤ w ∧ w ≤ 2147483647) {Q : Option av_V → av_H → Prop} (hq : ∀ (v : Int) n' a' m' h', RSP (okx U S (hA g 78 0) (hA g 79 0) x l y ∧ ((0 ≤ w ∧ w ≤ 2) ∨ (10 ≤ w ∧ w ≤ 14))) (-3) (rnv (U (Int.toNat x)) (ro (Int.toNat l)) (bgx U S ro x l y) w) v → IMF n' a' m' h' → FM g h' → Q (some (.inl v)) h') : av_wp none cd_190 0 [some (.inr (.inr (.inl (some (77))))), some (.inl x), some (.inl l), some (.inl y), some (.inl w)] [] h Q := by
  have gn := im_n I.1.1
  rw [I.2.1] at gn
  have ga := im_a I.1.1
  rw [I.2.2.1] at ga
  have gm := im_cm I.1.1
  rw [I.2.2.2] at gm
  have G0 := I.1.1.2.1
  have G16 : 0 ≤ hA g 78 0 ∧ hA g 78 0 ≤ 16 := by rw [← F.2.2.2.2.2.2 78 rfl]; exact G0.2.1
  have G8 : 0 ≤ hA g 79 0 ∧ hA g 79 0 ≤ 8 := by rw [← F.2.2.2.2.2.2 79 rfl]; exact G0.2.2.1
  have G6 : 0 ≤ hA g 80 0 ∧ hA g 80 0 ≤ 6 := by rw [← F.2.2.2.2.2.2 80 rfl]; exact G0.2.2.2.1
  refine av_wp_seq 3 (pc' := 4) (lv' := [some (.inr (.inr (.inl (some (77))))), some (.inl x), some (.inl l), some (.inl y), some (.inl w)]) (st' := [.inl (2), .inl (0), .inl w]) (h' := h) rfl ?_
  refine wq_cs (p' := 7) (av_qc (.invokestatic 176) 127 3 2 8) 3 cd_127 [.inl w, .inl (0), .inl (2)] [.inl (2), .inl (0), .inl w] [some (.inl w), some (.inl (0)), some (.inl (2))] rfl rfl rfl pp_127 (fun _ => rfl) rfl rfl ?_
  refine ct_127 (g := h) (w) (by omega) ((0)) (by omega) ((2)) (by omega) (fun v1 p2 => ?_)
  show av_wp _ cd_190 7 [some (.inr (.inr (.inl (some (77))))), some (.inl x), some (.inl l), some (.inl y), some (.inl w)] [.inl v1] h _
  refine wq_k1 (p' := 10) rfl rfl ⟨by omega, by omega⟩ (fun c3 => ?_) (fun c4 => ?_)
  · have c3 : v1 ≠ (0) := c3
    refine av_wp_seq 4 (pc' := 26) (lv' := [some (.inr (.inr (.inl (some (77))))), some (.inl x), some (.inl l), some (.inl y), some (.inl w)]) (st' := [.inl y, .inl l, .inl x, .inr (.inr (.inl (some (77))))]) (h' := h) rfl ?_
    refine wq_cv (p' := 29) (av_qc (.invokevirtual 446) 186 3 0 8) 4 cd_186 [.inl y, .inl l, .inl x] (77) 8 [some (.inr (.inr (.inl (some (77))))), some (.inl x), some (.inl l), some (.inl y)] rfl rfl rfl pp_186 rfl rfl rfl (congrArg Prod.fst (ly_k I.1.1.1 77 rfl)) rfl rfl rfl rfl ?_
    refine cx_186 I F RX (x) (by omega) (l) (by omega) (y) (by omega) (fun n5 a6 m7 h8 z9 I10 F11 => ?_) (fun n12 a13 m14 h15 z16 z17 z18 e19 e20 A21 O22 B23 L24 I25 F26 => ?_)
    · have g27 := im_n I10.1.1
      rw [I10.2.1] at g27
      have g28 := im_a I10.1.1
      rw [I10.2.2.1] at g28
      have g29 := im_cm I10.1.1
      rw [I10.2.2.2] at g29
      show av_wp _ cd_190 29 [some (.inr (.inr (.inl (some (77))))), some (.inl x), some (.inl l), some (.inl y), some (.inl w)] [.inl (0)] h8 _
      refine av_wp_seq 2 (pc' := 34) (lv' := [some (.inr (.inr (.inl (some (77))))), some (.inl x), some (.inl l), some (.inl y), some (.inl w)]) (st' := [.inl (-3)]) (h' := h8) rfl ?_
      refine av_wp_ret (v := some (.inl (-3))) rfl rfl rfl ?_
      exact hq _ _ _ _ h8 (Or.inr ⟨by unfold okx; omega, rfl⟩) I10 F11
    · have g30 := im_n I25.1.1
      rw [I25.2.1] at g30
      have g31 := im_a I25.1.1
      rw [I25.2.2.1] at g31
      have g32 := im_cm I25.1.1
      rw [I25.2.2.2] at g32
      have g33 := (bgn_m (bar := bxx U S (ro (Int.toNat l)) (Int.toNat x)) (RX.2.1 (Int.toNat x) (Int.toNat l) (by omega) (by omega)) z18.1 (by have := cbv_d (U (Int.toNat x)) (S (Int.toNat x)); omega)).2.2
      have g33 : -1 ≤ (bgx U S ro x l y).2.2 ∧ (bgx U S ro x l y).2.2 ≤ 9999 := g33
      have B23 : BRR (bgx U S ro x l y) h15 := B23
      show av_wp _ cd_190 29 [some (.inr (.inr (.inl (some (77))))), some (.inl x), some (.inl l), some (.inl y), some (.inl w)] [.inl (1)] h15 _
      refine av_wp_seq 2 (pc' := 36) (lv' := [some (.inr (.inr (.inl (some (77))))), some (.inl x), some (.inl l), some (.inl y), some (.inl w)]) (st' := [.inr (.inr (.inl (some (77))))]) (h' := h15) rfl ?_
      obtain ⟨v34, e35⟩ : ∃ v, hF h15 77 50 = v := ⟨_, rfl⟩
      have g36 := im_has I25.1.1
      rw [e35] at g36
      refine wq_gb (p' := 39) rfl rfl (congrArg Prod.fst (ly_k I25.1.1.1 77 rfl)) rfl (e35) ?_
      refine wq_k1 (p' := 42) rfl rfl ⟨by omega, by omega⟩ (fun c37 => ?_) (fun c38 => ?_)
      · have c37 : v34 ≠ (0) := c37
        refine av_wp_seq 1 (pc' := 47) (lv' := [some (.inr (.inr (.inl (some (77))))), some (.inl x), some (.inl l), some (.inl y), some (.inl w)]) (st' := [.inl w]) (h' := h15) rfl ?_
        refine wq_k1 (p' := 50) rfl rfl ⟨by omega, by omega⟩ (fun c39 => ?_) (fun c40 => ?_)
        · have c39 : w ≠ (0) := c39
          refine av_wp_seq 2 (pc' := 60) (lv' := [some (.inr (.inr (.inl (some (77))))), some (.inl x), some (.inl l), some (.inl y), some (.inl w)]) (st' := [.inl (1), .inl w]) (h' := h15) rfl ?_
          refine wq_k2 (p' := 63) rfl rfl ⟨by omega, by omega⟩ ⟨by omega, by omega⟩ (fun c41 => ?_) (fun c42 => ?_)
          · have c41 : w ≠ (1) := c41
            refine av_wp_seq 2 (pc' := 73) (lv' := [some (.inr (.inr (.inl (some (77))))), some (.inl x), some (.inl l), some (.inl y), some (.inl w)]) (st' := [.inl (2), .inl w]) (h' := h15) rfl ?_
            refine wq_k2 (p' := 76) rfl rfl ⟨by omega, by omega⟩ ⟨by omega, by omega⟩ (fun c43 => ?_) (fun c44 => ?_)
            · have c43 : w ≠ (2) := c43
              refine av_wp_seq 4 (pc' := 89) (lv' := [some (.inr (.inr (.inl (some (77))))), some (.inl x), some (.inl l), some (.inl y), some (.inl w)]) (st' := [.inl (w - (10)), .inr (.inr (.inl (some (77))))]) (h' := h15) rfl ?_
              refine wq_cv (p' := 92) (av_qc (.invokevirtual 449) 183 1 0 8) 3 cd_183 [.inl (w - (10))] (77) 8 [some (.inr (.inr (.inl (some (77))))), some (.inl (w - (10))), none] rfl rfl rfl pp_183 rfl rfl rfl (congrArg Prod.fst (ly_k I25.1.1.1 77 rfl)) rfl rfl rfl rfl ?_
              have q47 := BRR_ye B23 e35 (by omega)
              have b48 : ((bgx U S ro x l y).2.2 = 9999 ∧ (bgx U S ro x l y).1 = -1 ∧ (bgx U S ro x l y).2.1 = -1) ∨ ((bgx U S ro x l y).2.2 < 9999 ∧ (0 ≤ (bgx U S ro x l y).2.1 ∧ (bgx U S ro x l y).2.1 < (S (Int.toNat x) : Int) ∧ ofv (U (Int.toNat x)) (ro (Int.toNat l)) (Int.toNat (bgx U S ro x l y).2.1) ≠ 0) ∧ ((bgx U S ro x l y).1 = -1 ∨ (0 ≤ (bgx U S ro x l y).1 ∧ (bgx U S ro x l y).1 < (S (Int.toNat x) : Int) ∧ ysv (U (Int.toNat x)) (ro (Int.toNat l)) (Int.toNat (bgx U S ro x l y).1) ≠ 0))) := bgn_f
              have q47a := q47.1
              refine cx_183 I25 F26 e19 L24 (RX.2.1 (Int.toNat x) (Int.toNat l) (by omega) (by omega)).1 (RX.2.1 (Int.toNat x) (Int.toNat l) (by omega) (by omega)).2.1 (HBd_arr (RX.2.1 (Int.toNat x) (Int.toNat l) (by omega) (by omega)) (by omega) (by have := cbv_d (U (Int.toNat x)) (S (Int.toNat x)); omega)) q47.2.1 q47.2.2.1 (by omega) (b48.elim (fun z => absurd z.1 q47a) (fun z => z.2.2)) ((w - (10))) (by omega) (fun v45 p46 => ?_)
              show av_wp _ cd_190 92 [some (.inr (.inr (.inl (some (77))))), some (.inl x), some (.inl l), some (.inl y), some (.inl w)] [.inl v45] h15 _
              refine av_wp_ret (v := some (.inl v45)) rfl rfl rfl ?_
              have q49 := (BRR_ye B23 e35 (by omega)).1
              exact hq _ _ _ _ h15 (Or.inl ⟨by unfold okx; omega, by unfold rnv; rw [if_neg q49, if_neg (by omega), if_neg (by omega), if_neg (by omega)]; exact p46.trans (congrArg (bwv _ _ _ _) (by omega))⟩) I25 F26
            · have c44 : w = (2) := c44
              refine av_wp_seq 1 (pc' := 77) (lv' := [some (.inr (.inr (.inl (some (77))))), some (.inl x), some (.inl l), some (.inl y), some (.inl w)]) (st' := [.inr (.inr (.inl (some (77))))]) (h' := h15) rfl ?_
              obtain ⟨v50, e51⟩ : ∃ v, hF h15 77 53 = v := ⟨_, rfl⟩
              have y52 : (bgx U S ro x l y).2.2 = v50 := (BRR_ye B23 e35 (by omega)).2.2.2.symm.trans e51
              have g53 := g33
              rw [y52] at g53
              refine wq_gi (p' := 80) rfl rfl (congrArg Prod.fst (ly_k I25.1.1.1 77 rfl)) rfl (e51) ?_
              refine av_wp_seq 1 (pc' := 92) (lv' := [some (.inr (.inr (.inl (some (77))))), some (.inl x), some (.inl l), some (.inl y), some (.inl w)]) (st' := [.inl v50]) (h' := h15) rfl ?_
              refine av_wp_ret (v := some (.inl v50)) rfl rfl rfl ?_
              have q54 := (BRR_ye B23 e35 (by omega)).1
              exact hq _ _ _ _ h15 (Or.inl ⟨by unfold okx; omega, by unfold rnv; rw [if_neg q54, if_neg (by omega), if_neg (by omega), if_pos (by omega)]; exact y52.symm⟩) I25 F26
          · have c42 : w = (1) := c42
            refine av_wp_seq 1 (pc' := 64) (lv' := [some (.inr (.inr (.inl (some (77))))), some (.inl x), some (.inl l), some (.inl y), some (.inl w)]) (st' := [.inr (.inr (.inl (some (77))))]) (h' := h15) rfl ?_
            obtain ⟨v55, e56⟩ : ∃ v, hF h15 77 52 = v := ⟨_, rfl⟩
            have g57 := im_of I25.1.1
            rw [e56] at g57
            have y58 : (bgx U S ro x l y).2.1 = v55 := (BRR_ye B23 e35 (by omega)).2.2.1.symm.trans e56
            refine wq_gi (p' := 67) rfl rfl (congrArg Prod.fst (ly_k I25.1.1.1 77 rfl)) rfl (e56) ?_
            refine av_wp_seq 1 (pc' := 92) (lv' := [some (.inr (.inr (.inl (some (77))))), some (.inl x), some (.inl l), some (.inl y), some (.inl w)]) (st' := [.inl v55]) (h' := h15) rfl ?_
            refine av_wp_ret (v := some (.inl v55)) rfl rfl rfl ?_
            have q59 := (BRR_ye B23 e35 (by omega)).1
            exact hq _ _ _ _ h15 (Or.inl ⟨by unfold okx; omega, by unfold rnv; rw [if_neg q59, if_neg (by omega), if_pos (by omega)]; exact y58.symm⟩) I25 F26
        · have c40 : w = (0) := c40
          refine av_wp_seq 1 (pc' := 51) (lv' := [some (.inr (.inr (.inl (some (77))))), some (.inl x), some (.inl l), some (.inl y), some (.inl w)]) (st' := [.inr (.inr (.inl (some (77))))]) (h' := h15) rfl ?_
          obtain ⟨v60, e61⟩ : ∃ v, hF h15 77 51 = v := ⟨_, rfl⟩
          have g62 := im_by I25.1.1
          rw [e61] at g62
          have y63 : (bgx U S ro x l y).1 = v60 := (BRR_ye B23 e35 (by omega)).2.1.symm.trans e61
          refine wq_gi (p' := 54) rfl rfl (congrArg Prod.fst (ly_k I25.1.1.1 77 rfl)) rfl (e61) ?_
          refine av_wp_seq 1 (pc' := 92) (lv' := [some (.inr (.inr (.inl (some (77))))), some (.inl x), some (.inl l), some (.inl y), some (.inl w)]) (st' := [.inl v60]) (h' := h15) rfl ?_
          refine av_wp_ret (v := some (.inl v60)) rfl rfl rfl ?_
          have q64 := (BRR_ye B23 e35 (by omega)).1
          exact hq _ _ _ _ h15 (Or.inl ⟨by unfold okx; omega, by unfold rnv; rw [if_neg q64, if_pos (by omega)]; exact y63.symm⟩) I25 F26
      · have c38 : v34 = (0) := c38
        refine av_wp_seq 1 (pc' := 44) (lv' := [some (.inr (.inr (.inl (some (77))))), some (.inl x), some (.inl l), some (.inl y), some (.inl w)]) (st' := [.inl (-2)]) (h' := h15) rfl ?_
        refine av_wp_ret (v := some (.inl (-2))) rfl rfl rfl ?_
        have q65 := BRR_no B23 e35 (by omega)
        exact hq _ _ _ _ h15 (Or.inl ⟨by unfold okx; omega, by unfold rnv; rw [if_pos q65]⟩) I25 F26
  · have c4 : v1 = (0) := c4
    refine av_wp_seq 3 (pc' := 16) (lv' := [some (.inr (.inr (.inl (some (77))))), some (.inl x), some (.inl l), some (.inl y), some (.inl w)]) (st' := [.inl (14), .inl (10), .inl w]) (h' := h) rfl ?_
    refine wq_cs (p' := 19) (av_qc (.invokestatic 176) 127 3 2 8) 3 cd_127 [.inl w, .inl (10), .inl (14)] [.inl (14), .inl (10), .inl w] [some (.inl w), some (.inl (10)), some (.inl (14))] rfl rfl rfl pp_127 (fun _ => rfl) rfl rfl ?_
    refine ct_127 (g := h) (w) (by omega) ((10)) (by omega) ((14)) (by omega) (fun v66 p67 => ?_)
    show av_wp _ cd_190 19 [some (.inr (.inr (.inl (some (77))))), some (.inl x), some (.inl l), some (.inl y), some (.inl w)] [.inl v66] h _
    refine wq_k1 (p' := 22) rfl rfl ⟨by omega, by omega⟩ (fun c68 => ?_) (fun c69 => ?_)
    · have c68 : v66 = (0) := c68
      refine av_wp_seq 1 (pc' := 34) (lv' := [some (.inr (.inr (.inl (some (77))))), some (.inl x), some (.inl l), some (.inl y), some (.inl w)]) (st' := [.inl (-3)]) (h' := h) rfl ?_
      refine av_wp_ret (v := some (.inl (-3))) rfl rfl rfl ?_
      exact hq _ _ _ _ h (Or.inr ⟨by unfold okx; omega, rfl⟩) I F
    · have c69 : v66 ≠ (0) := c69
      refine av_wp_seq 4 (pc' := 26) (lv' := [some (.inr (.inr (.inl (some (77))))), some (.inl x), some (.inl l), some (.inl y), some (.inl w)]) (st' := [.inl y, .inl l, .inl x, .inr (.inr (.inl (some (77))))]) (h' := h) rfl ?_
      refine wq_cv (p' := 29) (av_qc (.invokevirtual 446) 186 3 0 8) 4 cd_186 [.inl y, .inl l, .inl x] (77) 8 [some (.inr (.inr (.inl (some (77))))), some (.inl x), some (.inl l), some (.inl y)] rfl rfl rfl pp_186 rfl rfl rfl (congrArg Prod.fst (ly_k I.1.1.1 77 rfl)) rfl rfl rfl rfl ?_
      refine cx_186 I F RX (x) (by omega) (l) (by omega) (y) (by omega) (fun n70 a71 m72 h73 z74 I75 F76 => ?_) (fun n77 a78 m79 h80 z81 z82 z83 e84 e85 A86 O87 B88 L89 I90 F91 => ?_)
      · have g92 := im_n I75.1.1
        rw [I75.2.1] at g92
        have g93 := im_a I75.1.1
        rw [I75.2.2.1] at g93
        have g94 := im_cm I75.1.1
        rw [I75.2.2.2] at g94
        show av_wp _ cd_190 29 [some (.inr (.inr (.inl (some (77))))), some (.inl x), some (.inl l), some (.inl y), some (.inl w)] [.inl (0)] h73 _
        refine av_wp_seq 2 (pc' := 34) (lv' := [some (.inr (.inr (.inl (some (77))))), some (.inl x), some (.inl l), some (.inl y), some (.inl w)]) (st' := [.inl (-3)]) (h' := h73) rfl ?_
        refine av_wp_ret (v := some (.inl (-3))) rfl rfl rfl ?_
        exact hq _ _ _ _ h73 (Or.inr ⟨by unfold okx; omega, rfl⟩) I75 F76
      · have g95 := im_n I90.1.1
        rw [I90.2.1] at g95
        have g96 := im_a I90.1.1
        rw [I90.2.2.1] at g96
        have g97 := im_cm I90.1.1
        rw [I90.2.2.2] at g97
        have g98 := (bgn_m (bar := bxx U S (ro (Int.toNat l)) (Int.toNat x)) (RX.2.1 (Int.toNat x) (Int.toNat l) (by omega) (by omega)) z83.1 (by have := cbv_d (U (Int.toNat x)) (S (Int.toNat x)); omega)).2.2
        have g98 : -1 ≤ (bgx U S ro x l y).2.2 ∧ (bgx U S ro x l y).2.2 ≤ 9999 := g98
        have B88 : BRR (bgx U S ro x l y) h80 := B88
        show av_wp _ cd_190 29 [some (.inr (.inr (.inl (some (77))))), some (.inl x), some (.inl l), some (.inl y), some (.inl w)] [.inl (1)] h80 _
        refine av_wp_seq 2 (pc' := 36) (lv' := [some (.inr (.inr (.inl (some (77))))), some (.inl x), some (.inl l), some (.inl y), some (.inl w)]) (st' := [.inr (.inr (.inl (some (77))))]) (h' := h80) rfl ?_
        obtain ⟨v99, e100⟩ : ∃ v, hF h80 77 50 = v := ⟨_, rfl⟩
        have g101 := im_has I90.1.1
        rw [e100] at g101
        refine wq_gb (p' := 39) rfl rfl (congrArg Prod.fst (ly_k I90.1.1.1 77 rfl)) rfl (e100) ?_
        refine wq_k1 (p' := 42) rfl rfl ⟨by omega, by omega⟩ (fun c102 => ?_) (fun c103 => ?_)
        · have c102 : v99 ≠ (0) := c102
          refine av_wp_seq 1 (pc' := 47) (lv' := [some (.inr (.inr (.inl (some (77))))), some (.inl x), some (.inl l), some (.inl y), some (.inl w)]) (st' := [.inl w]) (h' := h80) rfl ?_
          refine wq_k1 (p' := 50) rfl rfl ⟨by omega, by omega⟩ (fun c104 => ?_) (fun c105 => ?_)
          · have c104 : w ≠ (0) := c104
            refine av_wp_seq 2 (pc' := 60) (lv' := [some (.inr (.inr (.inl (some (77))))), some (.inl x), some (.inl l), some (.inl y), some (.inl w)]) (st' := [.inl (1), .inl w]) (h' := h80) rfl ?_
            refine wq_k2 (p' := 63) rfl rfl ⟨by omega, by omega⟩ ⟨by omega, by omega⟩ (fun c106 => ?_) (fun c107 => ?_)
            · have c106 : w ≠ (1) := c106
              refine av_wp_seq 2 (pc' := 73) (lv' := [some (.inr (.inr (.inl (some (77))))), some (.inl x), some (.inl l), some (.inl y), some (.inl w)]) (st' := [.inl (2), .inl w]) (h' := h80) rfl ?_
              refine wq_k2 (p' := 76) rfl rfl ⟨by omega, by omega⟩ ⟨by omega, by omega⟩ (fun c108 => ?_) (fun c109 => ?_)
              · have c108 : w ≠ (2) := c108
                refine av_wp_seq 4 (pc' := 89) (lv' := [some (.inr (.inr (.inl (some (77))))), some (.inl x), some (.inl l), some (.inl y), some (.inl w)]) (st' := [.inl (w - (10)), .inr (.inr (.inl (some (77))))]) (h' := h80) rfl ?_
                refine wq_cv (p' := 92) (av_qc (.invokevirtual 449) 183 1 0 8) 3 cd_183 [.inl (w - (10))] (77) 8 [some (.inr (.inr (.inl (some (77))))), some (.inl (w - (10))), none] rfl rfl rfl pp_183 rfl rfl rfl (congrArg Prod.fst (ly_k I90.1.1.1 77 rfl)) rfl rfl rfl rfl ?_
                have q112 := BRR_ye B88 e100 (by omega)
                have b113 : ((bgx U S ro x l y).2.2 = 9999 ∧ (bgx U S ro x l y).1 = -1 ∧ (bgx U S ro x l y).2.1 = -1) ∨ ((bgx U S ro x l y).2.2 < 9999 ∧ (0 ≤ (bgx U S ro x l y).2.1 ∧ (bgx U S ro x l y).2.1 < (S (Int.toNat x) : Int) ∧ ofv (U (Int.toNat x)) (ro (Int.toNat l)) (Int.toNat (bgx U S ro x l y).2.1) ≠ 0) ∧ ((bgx U S ro x l y).1 = -1 ∨ (0 ≤ (bgx U S ro x l y).1 ∧ (bgx U S ro x l y).1 < (S (Int.toNat x) : Int) ∧ ysv (U (Int.toNat x)) (ro (Int.toNat l)) (Int.toNat (bgx U S ro x l y).1) ≠ 0))) := bgn_f
                have q112a := q112.1
                refine cx_183 I90 F91 e84 L89 (RX.2.1 (Int.toNat x) (Int.toNat l) (by omega) (by omega)).1 (RX.2.1 (Int.toNat x) (Int.toNat l) (by omega) (by omega)).2.1 (HBd_arr (RX.2.1 (Int.toNat x) (Int.toNat l) (by omega) (by omega)) (by omega) (by have := cbv_d (U (Int.toNat x)) (S (Int.toNat x)); omega)) q112.2.1 q112.2.2.1 (by omega) (b113.elim (fun z => absurd z.1 q112a) (fun z => z.2.2)) ((w - (10))) (by omega) (fun v110 p111 => ?_)
                show av_wp _ cd_190 92 [some (.inr (.inr (.inl (some (77))))), some (.inl x), some (.inl l), some (.inl y), some (.inl w)] [.inl v110] h80 _
                refine av_wp_ret (v := some (.inl v110)) rfl rfl rfl ?_
                have q114 := (BRR_ye B88 e100 (by omega)).1
                exact hq _ _ _ _ h80 (Or.inl ⟨by unfold okx; omega, by unfold rnv; rw [if_neg q114, if_neg (by omega), if_neg (by omega), if_neg (by omega)]; exact p111.trans (congrArg (bwv _ _ _ _) (by omega))⟩) I90 F91
              · have c109 : w = (2) := c109
                refine av_wp_seq 1 (pc' := 77) (lv' := [some (.inr (.inr (.inl (some (77))))), some (.inl x), some (.inl l), some (.inl y), some (.inl w)]) (st' := [.inr (.inr (.inl (some (77))))]) (h' := h80) rfl ?_
                obtain ⟨v115, e116⟩ : ∃ v, hF h80 77 53 = v := ⟨_, rfl⟩
                have y117 : (bgx U S ro x l y).2.2 = v115 := (BRR_ye B88 e100 (by omega)).2.2.2.symm.trans e116
                have g118 := g98
                rw [y117] at g118
                refine wq_gi (p' := 80) rfl rfl (congrArg Prod.fst (ly_k I90.1.1.1 77 rfl)) rfl (e116) ?_
                refine av_wp_seq 1 (pc' := 92) (lv' := [some (.inr (.inr (.inl (some (77))))), some (.inl x), some (.inl l), some (.inl y), some (.inl w)]) (st' := [.inl v115]) (h' := h80) rfl ?_
                refine av_wp_ret (v := some (.inl v115)) rfl rfl rfl ?_
                have q119 := (BRR_ye B88 e100 (by omega)).1
                exact hq _ _ _ _ h80 (Or.inl ⟨by unfold okx; omega, by unfold rnv; rw [if_neg q119, if_neg (by omega), if_neg (by omega), if_pos (by omega)]; exact y117.symm⟩) I90 F91
            · have c107 : w = (1) := c107
              refine av_wp_seq 1 (pc' := 64) (lv' := [some (.inr (.inr (.inl (some (77))))), some (.inl x), some (.inl l), some (.inl y), some (.inl w)]) (st' := [.inr (.inr (.inl (some (77))))]) (h' := h80) rfl ?_
              obtain ⟨v120, e121⟩ : ∃ v, hF h80 77 52 = v := ⟨_, rfl⟩
              have g122 := im_of I90.1.1
              rw [e121] at g122
              have y123 : (bgx U S ro x l y).2.1 = v120 := (BRR_ye B88 e100 (by omega)).2.2.1.symm.trans e121
              refine wq_gi (p' := 67) rfl rfl (congrArg Prod.fst (ly_k I90.1.1.1 77 rfl)) rfl (e121) ?_
              refine av_wp_seq 1 (pc' := 92) (lv' := [some (.inr (.inr (.inl (some (77))))), some (.inl x), some (.inl l), some (.inl y), some (.inl w)]) (st' := [.inl v120]) (h' := h80) rfl ?_
              refine av_wp_ret (v := some (.inl v120)) rfl rfl rfl ?_
              have q124 := (BRR_ye B88 e100 (by omega)).1
              exact hq _ _ _ _ h80 (Or.inl ⟨by unfold okx; omega, by unfold rnv; rw [if_neg q124, if_neg (by omega), if_pos (by omega)]; exact y123.symm⟩) I90 F91
          · have c105 : w = (0) := c105
            refine av_wp_seq 1 (pc' := 51) (lv' := [some (.inr (.inr (.inl (some (77))))), some (.inl x), some (.inl l), some (.inl y), some (.inl w)]) (st' := [.inr (.inr (.inl (some (77))))]) (h' := h80) rfl ?_
            obtain ⟨v125, e126⟩ : ∃ v, hF h80 77 51 = v := ⟨_, rfl⟩
            have g127 := im_by I90.1.1
            rw [e126] at g127
            have y128 : (bgx U S ro x l y).1 = v125 := (BRR_ye B88 e100 (by omega)).2.1.symm.trans e126
            refine wq_gi (p' := 54) rfl rfl (congrArg Prod.fst (ly_k I90.1.1.1 77 rfl)) rfl (e126) ?_
            refine av_wp_seq 1 (pc' := 92) (lv' := [some (.inr (.inr (.inl (some (77))))), some (.inl x), some (.inl l), some (.inl y), some (.inl w)]) (st' := [.inl v125]) (h' := h80) rfl ?_
            refine av_wp_ret (v := some (.inl v125)) rfl rfl rfl ?_
            have q129 := (BRR_ye B88 e100 (by omega)).1
            exact hq _ _ _ _ h80 (Or.inl ⟨by unfold okx; omega, by unfold rnv; rw [if_neg q129, if_pos (by omega)]; exact y128.symm⟩) I90 F91
        · have c103 : v99 = (0) := c103
          refine av_wp_seq 1 (pc' := 44) (lv' := [some (.inr (.inr (.inl (some (77))))), some (.inl x), some (.inl l), some (.inl y), some (.inl w)]) (st' := [.inl (-2)]) (h' := h80) rfl ?_
          refine av_wp_ret (v := some (.inl (-2))) rfl rfl rfl ?_
          have q130 := BRR_no B88 e100 (by omega)
          exact hq _ _ _ _ h80 (Or.inl ⟨by unfold okx; omega, by unfold rnv; rw [if_pos q130]⟩) I90 F91

