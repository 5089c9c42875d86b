/-! DOES, exactly: the reference -/
set_option maxRecDepth 100000 in
set_option maxHeartbeats 4000000 in
theorem cx_205 {g h : av_H} {n a m : Int} (I : IMF n a m h) (F : FM g h) {U : Nat → Nat → Int} {S : Nat → Nat} {ro : Nat → Nat → Int} (RX : RXX g U S ro) (x : Int) (qx : -2147483648 ≤ x ∧ x ≤ 2147483647) (l : Int) (ql : -2147483648 ≤ l ∧ l ≤ 2147483647) (y : Int) (qy : -2147483648 ≤ y ∧ y ≤ 2147483647) (q : Int) (qq : -2147483648 ≤ q ∧ q ≤ 2147483647) {Q : Option av_V → av_H → Prop} (hq : ∀ (v : Int) n' a' m' h', RSR (okx U S (hA g 78 0) (hA g 79 0) x l y ∧ (0 ≤ q ∧ q < (S (Int.toNat x) : Int))) (-2) (DOV (U (Int.toNat x)) (ro (Int.toNat l)) (arr (U (Int.toNat x)) (ro (Int.toNat l)) (bxx U S (ro (Int.toNat l)) (Int.toNat x)) y) (S (Int.toNat x)) (bgx U S ro x l y) (Int.toNat q)) v → IMF n' a' m' h' → FM g h' → Q (some (.inl v)) h') : av_wp none cd_205 0 [some (.inr (.inr (.inl (some (77))))), some (.inl x), some (.inl l), some (.inl y), some (.inl q), none, none, none, none] [] h Q := by
  have gn := im_n I.1.1
  rw [I.2.1] at gn
  have ga := im_a I.1.1
  rw [I.2.2.1] at ga
  have gm := im_cm I.1.1
  rw [I.2.2.2] at gm
  have G0 := I.1.1.2.1
  have G16 : 0 ≤ hA g 78 0 ∧ hA g 78 0 ≤ 16 := by rw [← F.2.2.2.2.2.2 78 rfl]; exact G0.2.1
  have G8 : 0 ≤ hA g 79 0 ∧ hA g 79 0 ≤ 8 := by rw [← F.2.2.2.2.2.2 79 rfl]; exact G0.2.2.1
  have G6 : 0 ≤ hA g 80 0 ∧ hA g 80 0 ≤ 6 := by rw [← F.2.2.2.2.2.2 80 rfl]; exact G0.2.2.2.1
  refine av_wp_seq 4 (pc' := 4) (lv' := [some (.inr (.inr (.inl (some (77))))), some (.inl x), some (.inl l), some (.inl y), some (.inl q), none, none, none, none]) (st' := [.inl y, .inl l, .inl x, .inr (.inr (.inl (some (77))))]) (h' := h) rfl ?_
  refine wq_cv (p' := 7) (av_qc (.invokevirtual 446) 186 3 0 8) 4 cd_186 [.inl y, .inl l, .inl x] (77) 8 [some (.inr (.inr (.inl (some (77))))), some (.inl x), some (.inl l), some (.inl y)] rfl rfl rfl pp_186 rfl rfl rfl (congrArg Prod.fst (ly_k I.1.1.1 77 rfl)) rfl rfl rfl rfl ?_
  refine cx_186 I F RX (x) (by omega) (l) (by omega) (y) (by omega) (fun n1 a2 m3 h4 z5 I6 F7 => ?_) (fun n8 a9 m10 h11 z12 z13 z14 e15 e16 A17 O18 B19 L20 I21 F22 => ?_)
  · have g23 := im_n I6.1.1
    rw [I6.2.1] at g23
    have g24 := im_a I6.1.1
    rw [I6.2.2.1] at g24
    have g25 := im_cm I6.1.1
    rw [I6.2.2.2] at g25
    show av_wp _ cd_205 7 [some (.inr (.inr (.inl (some (77))))), some (.inl x), some (.inl l), some (.inl y), some (.inl q), none, none, none, none] [.inl (0)] h4 _
    refine av_wp_seq 2 (pc' := 26) (lv' := [some (.inr (.inr (.inl (some (77))))), some (.inl x), some (.inl l), some (.inl y), some (.inl q), none, none, none, none]) (st' := [.inl (-2)]) (h' := h4) rfl ?_
    refine av_wp_ret (v := some (.inl (-2))) rfl rfl rfl ?_
    exact hq _ _ _ _ h4 (Or.inr ⟨by unfold okx; omega, rfl⟩) I6 F7
  · have g26 := im_n I21.1.1
    rw [I21.2.1] at g26
    have g27 := im_a I21.1.1
    rw [I21.2.2.1] at g27
    have g28 := im_cm I21.1.1
    rw [I21.2.2.2] at g28
    have g29 := (bgn_m (bar := bxx U S (ro (Int.toNat l)) (Int.toNat x)) (RX.2.1 (Int.toNat x) (Int.toNat l) (by omega) (by omega)) z14.1 (by have := cbv_d (U (Int.toNat x)) (S (Int.toNat x)); omega)).2.2
    have g29 : -1 ≤ (bgx U S ro x l y).2.2 ∧ (bgx U S ro x l y).2.2 ≤ 9999 := g29
    have B19 : BRR (bgx U S ro x l y) h11 := B19
    show av_wp _ cd_205 7 [some (.inr (.inr (.inl (some (77))))), some (.inl x), some (.inl l), some (.inl y), some (.inl q), none, none, none, none] [.inl (1)] h11 _
    refine av_wp_seq 2 (pc' := 12) (lv' := [some (.inr (.inr (.inl (some (77))))), some (.inl x), some (.inl l), some (.inl y), some (.inl q), none, none, none, none]) (st' := [.inl q]) (h' := h11) rfl ?_
    refine wq_k1 (p' := 15) rfl rfl ⟨by omega, by omega⟩ (fun c30 => ?_) (fun c31 => ?_)
    · have c30 : q < (0) := c30
      refine av_wp_seq 1 (pc' := 26) (lv' := [some (.inr (.inr (.inl (some (77))))), some (.inl x), some (.inl l), some (.inl y), some (.inl q), none, none, none, none]) (st' := [.inl (-2)]) (h' := h11) rfl ?_
      refine av_wp_ret (v := some (.inl (-2))) rfl rfl rfl ?_
      exact hq _ _ _ _ h11 (Or.inr ⟨by unfold okx; omega, rfl⟩) I21 F22
    · have c31 : (0) ≤ q := c31
      refine av_wp_seq 2 (pc' := 18) (lv' := [some (.inr (.inr (.inl (some (77))))), some (.inl x), some (.inl l), some (.inl y), some (.inl q), none, none, none, none]) (st' := [.inr (.inr (.inl (some (77)))), .inl q]) (h' := h11) rfl ?_
      refine wq_gi (p' := 21) rfl rfl (congrArg Prod.fst (ly_k I21.1.1.1 77 rfl)) rfl (I21.2.1) ?_
      refine wq_k2 (p' := 24) rfl rfl ⟨by omega, by omega⟩ ⟨by omega, by omega⟩ (fun c32 => ?_) (fun c33 => ?_)
      · have c32 : q < n8 := c32
        refine av_wp_seq 2 (pc' := 30) (lv' := [some (.inr (.inr (.inl (some (77))))), some (.inl x), some (.inl l), some (.inl y), some (.inl q), none, none, none, none]) (st' := [.inl q, .inr (.inr (.inl (some (77))))]) (h' := h11) rfl ?_
        refine wq_cv (p' := 33) (av_qc (.invokevirtual 369) 168 1 0 8) 2 cd_168 [.inl q] (77) 8 [some (.inr (.inr (.inl (some (77))))), some (.inl q)] rfl rfl rfl pp_168 rfl rfl rfl (congrArg Prod.fst (ly_k I21.1.1.1 77 rfl)) rfl rfl rfl rfl ?_
        refine cx_168 I21 F22 e15 L20 (RX.2.1 (Int.toNat x) (Int.toNat l) (by omega) (by omega)).1 (RX.2.1 (Int.toNat x) (Int.toNat l) (by omega) (by omega)).2.1 (HBd_arr (RX.2.1 (Int.toNat x) (Int.toNat l) (by omega) (by omega)) (by omega) (by have := cbv_d (U (Int.toNat x)) (S (Int.toNat x)); omega)) (q) (by omega) (fun v34 p35 => ?_)
        have y36 : (arr (U (Int.toNat x)) (ro (Int.toNat l)) (bxx U S (ro (Int.toNat l)) (Int.toNat x)) y) 2 (Int.toNat q) = v34 := p35.symm
        have g37 : 0 ≤ v34 ∧ v34 ≤ 1 := by rw [p35, arr_2]; exact of_b _ _ _
        show av_wp _ cd_205 33 [some (.inr (.inr (.inl (some (77))))), some (.inl x), some (.inl l), some (.inl y), some (.inl q), none, none, none, none] [.inl v34] h11 _
        have J41 : ∀ (j38 : Int), (0 ≤ j38 ∧ j38 ≤ 1) → BIT j38 1 (o5 (ro (Int.toNat l)) (arr (U (Int.toNat x)) (ro (Int.toNat l)) (bxx U S (ro (Int.toNat l)) (Int.toNat x)) y) (Int.toNat q) ≠ -1) →  av_wp none cd_205 51 [some (.inr (.inr (.inl (some (77))))), some (.inl x), some (.inl l), some (.inl y), some (.inl q), none, none, none, none] [.inl j38] h11 Q := by
          intro j38 g39 g40
          have g42 := BIT_r g40
          refine av_wp_seq 2 (pc' := 54) (lv' := [some (.inr (.inr (.inl (some (77))))), some (.inl x), some (.inl l), some (.inl y), some (.inl q), some (.inl j38), none, none, none]) (st' := [.inr (.inr (.inl (some (77))))]) (h' := h11) rfl ?_
          refine wq_gr (p' := 57) rfl rfl (congrArg Prod.fst (ly_k I21.1.1.1 77 rfl)) rfl (ly_g I21.1.1.1 77 34 100 rfl) ?_
          refine av_wp_seq 1 (pc' := 59) (lv' := [some (.inr (.inr (.inl (some (77))))), some (.inl x), some (.inl l), some (.inl y), some (.inl q), some (.inl j38), none, none, none]) (st' := [.inl q, .inr (.inr (.inl (some (100))))]) (h' := h11) rfl ?_
          obtain ⟨v43, e44⟩ : ∃ v, hA h11 100 (Int.toNat (q)) = v := ⟨_, rfl⟩
          have g45 : -1 ≤ hA h11 100 (Int.toNat (q)) ∧ hA h11 100 (Int.toNat (q)) ≤ 11 := im_w I21.1.1 100 (by decide) (by decide) _
          rw [e44] at g45
          have w46 := im_wr I21.1 (Int.toNat (q)) (by omega)
          rw [e44] at w46
          have y47 : (U (Int.toNat x)) (21 * (Int.toNat (q)) + 3) = v43 := (L20.1 (Int.toNat (q)) (by omega)).1.2.2.2.1.symm.trans e44
          have g48 := ((RX.2.1 (Int.toNat x) (Int.toNat l) (by omega) (by omega)).1 (Int.toNat q) (by omega)).2.1
          rw [y47] at g48
          refine wq_al (p' := 60) (n := 12) rfl rfl (ly_k I21.1.1.1 100 rfl) (by omega) (e44) ?_
          refine av_wp_seq 2 (pc' := 64) (lv' := [some (.inr (.inr (.inl (some (77))))), some (.inl x), some (.inl l), some (.inl y), some (.inl q), some (.inl j38), some (.inl v43), none, none]) (st' := [.inl v43]) (h' := h11) rfl ?_
          have J56 : ∀ (j49 : Int) (a50 : Option av_V) (a51 : Option av_V), (0 ≤ j49 ∧ j49 ≤ 3) → av_lg a50 = false → av_lg a51 = false → BT2 j49 (o5 (ro (Int.toNat l)) (arr (U (Int.toNat x)) (ro (Int.toNat l)) (bxx U S (ro (Int.toNat l)) (Int.toNat x)) y) (Int.toNat q) ≠ -1) (DC2 (U (Int.toNat x)) (ro (Int.toNat l)) (arr (U (Int.toNat x)) (ro (Int.toNat l)) (bxx U S (ro (Int.toNat l)) (Int.toNat x)) y) (S (Int.toNat x)) (Int.toNat q)) →  av_wp none cd_205 182 [some (.inr (.inr (.inl (some (77))))), some (.inl x), some (.inl l), some (.inl y), some (.inl q), some (.inl j49), some (.inl v43), a50, a51] [] h11 Q := by
            intro j49 a50 a51 g52 g53 g54 g55
            have la50 := g53
            have la51 := g54
            have g57 := BT2_r g55
            refine av_wp_seq 2 (pc' := 185) (lv' := [some (.inr (.inr (.inl (some (77))))), some (.inl x), some (.inl l), some (.inl y), some (.inl q), some (.inl j49), some (.inl v43), a50, a51]) (st' := [.inr (.inr (.inl (some (77)))), .inl j49]) (h' := h11) rfl ?_
            obtain ⟨v58, e59⟩ : ∃ v, hF h11 77 50 = v := ⟨_, rfl⟩
            have g60 := im_has I21.1.1
            rw [e59] at g60
            refine wq_gb (p' := 188) rfl rfl (congrArg Prod.fst (ly_k I21.1.1.1 77 rfl)) rfl (e59) ?_
            have J64 : ∀ (j61 : Int), (0 ≤ j61 ∧ j61 ≤ 4) → BIT j61 4 ((bgx U S ro x l y).2.2 ≠ 9999 ∧ (bgx U S ro x l y).1 = ((Int.toNat q : Nat) : Int)) →  av_wp none cd_205 205 [some (.inr (.inr (.inl (some (77))))), some (.inl x), some (.inl l), some (.inl y), some (.inl q), some (.inl j49), some (.inl v43), a50, a51] [.inl j61, .inl j49] h11 Q := by
              intro j61 g62 g63
              have g65 := BIT_r g63
              refine av_wp_seq 1 (pc' := 206) (lv' := [some (.inr (.inr (.inl (some (77))))), some (.inl x), some (.inl l), some (.inl y), some (.inl q), some (.inl j49), some (.inl v43), a50, a51]) (st' := [.inl (av_or j49 j61)]) (h' := h11) rfl ?_
              have g67 : av_or j49 j61 = j49 + j61 := or_p4 (by omega) (by omega)
              generalize av_or j49 j61 = v66 at g67 ⊢
              refine av_wp_seq 2 (pc' := 209) (lv' := [some (.inr (.inr (.inl (some (77))))), some (.inl x), some (.inl l), some (.inl y), some (.inl q), some (.inl v66), some (.inl v43), a50, a51]) (st' := [.inr (.inr (.inl (some (77))))]) (h' := h11) rfl ?_
              refine wq_gr (p' := 212) rfl rfl (congrArg Prod.fst (ly_k I21.1.1.1 77 rfl)) rfl (ly_g I21.1.1.1 77 30 96 rfl) ?_
              refine av_wp_seq 1 (pc' := 214) (lv' := [some (.inr (.inr (.inl (some (77))))), some (.inl x), some (.inl l), some (.inl y), some (.inl q), some (.inl v66), some (.inl v43), a50, a51]) (st' := [.inl q, .inr (.inr (.inl (some (96))))]) (h' := h11) rfl ?_
              obtain ⟨v68, e69⟩ : ∃ v, hA h11 96 (Int.toNat (q)) = v := ⟨_, rfl⟩
              have g70 : 0 ≤ hA h11 96 (Int.toNat (q)) ∧ hA h11 96 (Int.toNat (q)) ≤ 7 := im_w I21.1.1 96 (by decide) (by decide) _
              rw [e69] at g70
              have y71 : (U (Int.toNat x)) (21 * (Int.toNat (q)) + 0) = v68 := (L20.1 (Int.toNat (q)) (by omega)).1.1.symm.trans e69
              refine wq_al (p' := 215) (n := 12) rfl rfl (ly_k I21.1.1.1 96 rfl) (by omega) (e69) ?_
              refine av_wp_seq 1 (pc' := 216) (lv' := [some (.inr (.inr (.inl (some (77))))), some (.inl x), some (.inl l), some (.inl y), some (.inl q), some (.inl v66), some (.inl v43), a50, a51]) (st' := [.inl (5), .inl v68]) (h' := h11) rfl ?_
              refine wq_k2 (p' := 219) rfl rfl ⟨by omega, by omega⟩ ⟨by omega, by omega⟩ (fun c72 => ?_) (fun c73 => ?_)
              · have c72 : v68 ≠ (5) := c72
                refine av_wp_seq 1 (pc' := 271) (lv' := [some (.inr (.inr (.inl (some (77))))), some (.inl x), some (.inl l), some (.inl y), some (.inl q), some (.inl v66), some (.inl v43), a50, a51]) (st' := [.inl v66]) (h' := h11) rfl ?_
                refine av_wp_ret (v := some (.inl v66)) rfl rfl rfl ?_
                exact hq _ _ _ _ h11 (Or.inl ⟨by unfold okx; omega, BT4_of g55 g63 (show BIT 0 8 _ from Or.inr ⟨rfl, (by unfold DC8; rw [y47]; omega)⟩) (by omega)⟩) I21 F22
              · have c73 : v68 = (5) := c73
                refine av_wp_seq 2 (pc' := 222) (lv' := [some (.inr (.inr (.inl (some (77))))), some (.inl x), some (.inl l), some (.inl y), some (.inl q), some (.inl v66), some (.inl v43), a50, a51]) (st' := [.inl v43, .inr (.inr (.inl (some (77))))]) (h' := h11) rfl ?_
                refine wq_cv (p' := 225) (av_qc (.invokevirtual 393) 170 1 0 8) 2 cd_170 [.inl v43] (77) 8 [some (.inr (.inr (.inl (some (77))))), some (.inl v43)] rfl rfl rfl pp_170 rfl rfl rfl (congrArg Prod.fst (ly_k I21.1.1.1 77 rfl)) rfl rfl rfl rfl ?_
                refine cx_170 I21 F22 e15 L20 (RX.2.1 (Int.toNat x) (Int.toNat l) (by omega) (by omega)).1 (RX.2.1 (Int.toNat x) (Int.toNat l) (by omega) (by omega)).2.1 (HBd_arr (RX.2.1 (Int.toNat x) (Int.toNat l) (by omega) (by omega)) (by omega) (by have := cbv_d (U (Int.toNat x)) (S (Int.toNat x)); omega)) (v43) (by omega) (fun v74 p75 => ?_)
                have y76 : (arr (U (Int.toNat x)) (ro (Int.toNat l)) (bxx U S (ro (Int.toNat l)) (Int.toNat x)) y) 3 (Int.toNat v43) = v74 := p75.symm
                have g77 : 0 ≤ v74 ∧ v74 ≤ 1 := by rw [p75]; exact ys_b _ _ _
                show av_wp _ cd_205 225 [some (.inr (.inr (.inl (some (77))))), some (.inl x), some (.inl l), some (.inl y), some (.inl q), some (.inl v66), some (.inl v43), a50, a51] [.inl v74] h11 _
                refine wq_k1 (p' := 228) rfl rfl ⟨by omega, by omega⟩ (fun c78 => ?_) (fun c79 => ?_)
                · have c78 : v74 = (0) := c78
                  refine av_wp_seq 1 (pc' := 271) (lv' := [some (.inr (.inr (.inl (some (77))))), some (.inl x), some (.inl l), some (.inl y), some (.inl q), some (.inl v66), some (.inl v43), a50, a51]) (st' := [.inl v66]) (h' := h11) rfl ?_
                  refine av_wp_ret (v := some (.inl v66)) rfl rfl rfl ?_
                  exact hq _ _ _ _ h11 (Or.inl ⟨by unfold okx; omega, BT4_of g55 g63 (show BIT 0 8 _ from Or.inr ⟨rfl, (by unfold DC8; rw [y47]; omega)⟩) (by omega)⟩) I21 F22
                · have c79 : v74 ≠ (0) := c79
                  refine av_wp_seq 3 (pc' := 232) (lv' := [some (.inr (.inr (.inl (some (77))))), some (.inl x), some (.inl l), some (.inl y), some (.inl q), some (.inl v66), some (.inl v43), a50, a51]) (st' := [.inr (.inr (.inl (some (77)))), .inl q, .inr (.inr (.inl (some (77))))]) (h' := h11) rfl ?_
                  refine wq_gr (p' := 235) rfl rfl (congrArg Prod.fst (ly_k I21.1.1.1 77 rfl)) rfl (ly_g I21.1.1.1 77 26 95 rfl) ?_
                  refine av_wp_seq 1 (pc' := 236) (lv' := [some (.inr (.inr (.inl (some (77))))), some (.inl x), some (.inl l), some (.inl y), some (.inl q), some (.inl v66), some (.inl v43), a50, a51]) (st' := [.inl (4), .inr (.inr (.inl (some (95)))), .inl q, .inr (.inr (.inl (some (77))))]) (h' := h11) rfl ?_
                  obtain ⟨v80, e81⟩ : ∃ v, hA h11 95 (Int.toNat ((4))) = v := ⟨_, rfl⟩
                  have y83 : (ro (Int.toNat l)) 4 = v80 := (L20.2 4 (by omega)).symm.trans e81
                  have g84 := rl_4 (RX.2.1 (Int.toNat x) (Int.toNat l) (by omega) (by omega)).2.1
                  rw [y83] at g84
                  refine wq_al (p' := 237) (n := 13) rfl rfl (ly_k I21.1.1.1 95 rfl) (by omega) (e81) ?_
                  refine wq_cv (p' := 240) (av_qc (.invokevirtual 363) 166 2 0 8) 3 cd_166 [.inl v80, .inl q] (77) 8 [some (.inr (.inr (.inl (some (77))))), some (.inl q), some (.inl v80)] rfl rfl rfl pp_166 rfl rfl rfl (congrArg Prod.fst (ly_k I21.1.1.1 77 rfl)) rfl rfl rfl rfl ?_
                  refine cx_166 I21 F22 (q) (by omega) (v80) (by omega) (fun v85 p86 => ?_)
                  have y87 : v85 = hw (arr (U (Int.toNat x)) (ro (Int.toNat l)) (bxx U S (ro (Int.toNat l)) (Int.toNat x)) y) (Int.toNat (q)) v80 := LR_w L20 (by omega) (by omega) (by omega) p86
                  have g88 := hw_r (show HBd (S (Int.toNat x)) (arr (U (Int.toNat x)) (ro (Int.toNat l)) (bxx U S (ro (Int.toNat l)) (Int.toNat x)) y) from (HBd_arr (RX.2.1 (Int.toNat x) (Int.toNat l) (by omega) (by omega)) (by omega) (by have := cbv_d (U (Int.toNat x)) (S (Int.toNat x)); omega))) (k := (Int.toNat (q))) (by omega) v80
                  rw [← y87] at g88
                  have y89 : hw (arr (U (Int.toNat x)) (ro (Int.toNat l)) (bxx U S (ro (Int.toNat l)) (Int.toNat x)) y) (Int.toNat q) ((ro (Int.toNat l)) 4) = v85 := by rw [y83]; exact y87.symm
                  show av_wp _ cd_205 240 [some (.inr (.inr (.inl (some (77))))), some (.inl x), some (.inl l), some (.inl y), some (.inl q), some (.inl v66), some (.inl v43), a50, a51] [.inl v85] h11 _
                  refine av_wp_seq 3 (pc' := 246) (lv' := [some (.inr (.inr (.inl (some (77))))), some (.inl x), some (.inl l), some (.inl y), some (.inl q), some (.inl v66), some (.inl v43), some (.inl v85), a51]) (st' := [.inl v85, .inl v66]) (h' := h11) rfl ?_
                  have J93 : ∀ (j90 : Int), (0 ≤ j90 ∧ j90 ≤ 8) → BIT j90 8 (DC8 (U (Int.toNat x)) (ro (Int.toNat l)) (arr (U (Int.toNat x)) (ro (Int.toNat l)) (bxx U S (ro (Int.toNat l)) (Int.toNat x)) y) (S (Int.toNat x)) (Int.toNat q)) →  av_wp none cd_205 266 [some (.inr (.inr (.inl (some (77))))), some (.inl x), some (.inl l), some (.inl y), some (.inl q), some (.inl v66), some (.inl v43), some (.inl v85), a51] [.inl j90, .inl v66] h11 Q := by
                    intro j90 g91 g92
                    have g94 := BIT_r g92
                    refine av_wp_seq 1 (pc' := 267) (lv' := [some (.inr (.inr (.inl (some (77))))), some (.inl x), some (.inl l), some (.inl y), some (.inl q), some (.inl v66), some (.inl v43), some (.inl v85), a51]) (st' := [.inl (av_or v66 j90)]) (h' := h11) rfl ?_
                    have g96 : av_or v66 j90 = v66 + j90 := or_p8 (by omega) (by omega)
                    generalize av_or v66 j90 = v95 at g96 ⊢
                    refine av_wp_seq 2 (pc' := 271) (lv' := [some (.inr (.inr (.inl (some (77))))), some (.inl x), some (.inl l), some (.inl y), some (.inl q), some (.inl v95), some (.inl v43), some (.inl v85), a51]) (st' := [.inl v95]) (h' := h11) rfl ?_
                    refine av_wp_ret (v := some (.inl v95)) rfl rfl rfl ?_
                    exact hq _ _ _ _ h11 (Or.inl ⟨by unfold okx; omega, BT4_of g55 g63 g92 (by omega)⟩) I21 F22
                  refine wq_k1 (p' := 249) rfl rfl ⟨by omega, by omega⟩ (fun c97 => ?_) (fun c98 => ?_)
                  · have c97 : v85 < (0) := c97
                    refine av_wp_seq 1 (pc' := 266) (lv' := [some (.inr (.inr (.inl (some (77))))), some (.inl x), some (.inl l), some (.inl y), some (.inl q), some (.inl v66), some (.inl v43), some (.inl v85), a51]) (st' := [.inl (0), .inl v66]) (h' := h11) rfl ?_
                    exact J93 ((0)) (by omega) (Or.inr ⟨rfl, (by unfold DC8; rw [y47]; omega)⟩)
                  · have c98 : (0) ≤ v85 := c98
                    refine av_wp_seq 3 (pc' := 254) (lv' := [some (.inr (.inr (.inl (some (77))))), some (.inl x), some (.inl l), some (.inl y), some (.inl q), some (.inl v66), some (.inl v43), some (.inl v85), a51]) (st' := [.inl v43, .inr (.inr (.inl (some (77)))), .inl v85, .inl v66]) (h' := h11) rfl ?_
                    refine wq_cv (p' := 257) (av_qc (.invokevirtual 396) 176 1 0 8) 2 cd_176 [.inl v43] (77) 8 [some (.inr (.inr (.inl (some (77))))), some (.inl v43)] rfl rfl rfl pp_176 rfl rfl rfl (congrArg Prod.fst (ly_k I21.1.1.1 77 rfl)) rfl rfl rfl rfl ?_
                    refine cx_176 I21 F22 e15 L20 (RX.2.1 (Int.toNat x) (Int.toNat l) (by omega) (by omega)).1 (RX.2.1 (Int.toNat x) (Int.toNat l) (by omega) (by omega)).2.1 (HBd_arr (RX.2.1 (Int.toNat x) (Int.toNat l) (by omega) (by omega)) (by omega) (by have := cbv_d (U (Int.toNat x)) (S (Int.toNat x)); omega)) (v43) (by omega) (fun v99 p100 => ?_)
                    have g101 := hw_r (show HBd (S (Int.toNat x)) (arr (U (Int.toNat x)) (ro (Int.toNat l)) (bxx U S (ro (Int.toNat l)) (Int.toNat x)) y) from (HBd_arr (RX.2.1 (Int.toNat x) (Int.toNat l) (by omega) (by omega)) (by omega) (by have := cbv_d (U (Int.toNat x)) (S (Int.toNat x)); omega))) (k := (Int.toNat v43)) (by omega) (yw (U (Int.toNat x)) (ro (Int.toNat l)) (Int.toNat v43))
                    rw [← p100] at g101
                    have y102 : hw (arr (U (Int.toNat x)) (ro (Int.toNat l)) (bxx U S (ro (Int.toNat l)) (Int.toNat x)) y) (Int.toNat v43) (yw (U (Int.toNat x)) (ro (Int.toNat l)) (Int.toNat v43)) = v99 := p100.symm
                    show av_wp _ cd_205 257 [some (.inr (.inr (.inl (some (77))))), some (.inl x), some (.inl l), some (.inl y), some (.inl q), some (.inl v66), some (.inl v43), some (.inl v85), a51] [.inl v99, .inl v85, .inl v66] h11 _
                    refine wq_k2 (p' := 260) rfl rfl ⟨by omega, by omega⟩ ⟨by omega, by omega⟩ (fun c103 => ?_) (fun c104 => ?_)
                    · have c103 : v99 ≤ v85 := c103
                      refine av_wp_seq 1 (pc' := 266) (lv' := [some (.inr (.inr (.inl (some (77))))), some (.inl x), some (.inl l), some (.inl y), some (.inl q), some (.inl v66), some (.inl v43), some (.inl v85), a51]) (st' := [.inl (0), .inl v66]) (h' := h11) rfl ?_
                      exact J93 ((0)) (by omega) (Or.inr ⟨rfl, (by unfold DC8; rw [y47]; omega)⟩)
                    · have c104 : v85 < v99 := c104
                      refine av_wp_seq 2 (pc' := 266) (lv' := [some (.inr (.inr (.inl (some (77))))), some (.inl x), some (.inl l), some (.inl y), some (.inl q), some (.inl v66), some (.inl v43), some (.inl v85), a51]) (st' := [.inl (8), .inl v66]) (h' := h11) rfl ?_
                      exact J93 ((8)) (by omega) (Or.inl ⟨rfl, (by unfold DC8; rw [y47]; omega)⟩)
            refine wq_k1 (p' := 191) rfl rfl ⟨by omega, by omega⟩ (fun c105 => ?_) (fun c106 => ?_)
            · have c105 : v58 = (0) := c105
              refine av_wp_seq 1 (pc' := 205) (lv' := [some (.inr (.inr (.inl (some (77))))), some (.inl x), some (.inl l), some (.inl y), some (.inl q), some (.inl j49), some (.inl v43), a50, a51]) (st' := [.inl (0), .inl j49]) (h' := h11) rfl ?_
              exact J64 ((0)) (by omega) (Or.inr ⟨rfl, fun z => z.1 (BRR_no B19 e59 (by omega))⟩)
            · have c106 : v58 ≠ (0) := c106
              refine av_wp_seq 1 (pc' := 192) (lv' := [some (.inr (.inr (.inl (some (77))))), some (.inl x), some (.inl l), some (.inl y), some (.inl q), some (.inl j49), some (.inl v43), a50, a51]) (st' := [.inr (.inr (.inl (some (77)))), .inl j49]) (h' := h11) rfl ?_
              obtain ⟨v107, e108⟩ : ∃ v, hF h11 77 51 = v := ⟨_, rfl⟩
              have g109 := im_by I21.1.1
              rw [e108] at g109
              have y110 : (bgx U S ro x l y).1 = v107 := (BRR_ye B19 e59 (by omega)).2.1.symm.trans e108
              refine wq_gi (p' := 195) rfl rfl (congrArg Prod.fst (ly_k I21.1.1.1 77 rfl)) rfl (e108) ?_
              refine av_wp_seq 1 (pc' := 197) (lv' := [some (.inr (.inr (.inl (some (77))))), some (.inl x), some (.inl l), some (.inl y), some (.inl q), some (.inl j49), some (.inl v43), a50, a51]) (st' := [.inl q, .inl v107, .inl j49]) (h' := h11) rfl ?_
              refine wq_k2 (p' := 200) rfl rfl ⟨by omega, by omega⟩ ⟨by omega, by omega⟩ (fun c111 => ?_) (fun c112 => ?_)
              · have c111 : v107 ≠ q := c111
                refine av_wp_seq 1 (pc' := 205) (lv' := [some (.inr (.inr (.inl (some (77))))), some (.inl x), some (.inl l), some (.inl y), some (.inl q), some (.inl j49), some (.inl v43), a50, a51]) (st' := [.inl (0), .inl j49]) (h' := h11) rfl ?_
                exact J64 ((0)) (by omega) (Or.inr ⟨rfl, fun z => by have := z.2; omega⟩)
              · have c112 : v107 = q := c112
                refine av_wp_seq 2 (pc' := 205) (lv' := [some (.inr (.inr (.inl (some (77))))), some (.inl x), some (.inl l), some (.inl y), some (.inl q), some (.inl j49), some (.inl v43), a50, a51]) (st' := [.inl (4), .inl j49]) (h' := h11) rfl ?_
                exact J64 ((4)) (by omega) (Or.inl ⟨rfl, (BRR_ye B19 e59 (by omega)).1, by omega⟩)
          refine wq_k1 (p' := 67) rfl rfl ⟨by omega, by omega⟩ (fun c113 => ?_) (fun c114 => ?_)
          · have c113 : v43 < (0) := c113
            exact J56 (j38) (none) (none) (by omega) rfl rfl (by exact ⟨j38, 0, g40, Or.inr ⟨rfl, by unfold DC2; rw [y47]; omega⟩, by omega⟩)
          · have c114 : (0) ≤ v43 := c114
            refine av_wp_seq 2 (pc' := 70) (lv' := [some (.inr (.inr (.inl (some (77))))), some (.inl x), some (.inl l), some (.inl y), some (.inl q), some (.inl j38), some (.inl v43), none, none]) (st' := [.inl v43, .inr (.inr (.inl (some (77))))]) (h' := h11) rfl ?_
            refine wq_cv (p' := 73) (av_qc (.invokevirtual 369) 168 1 0 8) 2 cd_168 [.inl v43] (77) 8 [some (.inr (.inr (.inl (some (77))))), some (.inl v43)] rfl rfl rfl pp_168 rfl rfl rfl (congrArg Prod.fst (ly_k I21.1.1.1 77 rfl)) rfl rfl rfl rfl ?_
            refine cx_168 I21 F22 e15 L20 (RX.2.1 (Int.toNat x) (Int.toNat l) (by omega) (by omega)).1 (RX.2.1 (Int.toNat x) (Int.toNat l) (by omega) (by omega)).2.1 (HBd_arr (RX.2.1 (Int.toNat x) (Int.toNat l) (by omega) (by omega)) (by omega) (by have := cbv_d (U (Int.toNat x)) (S (Int.toNat x)); omega)) (v43) (by omega) (fun v115 p116 => ?_)
            have y117 : (arr (U (Int.toNat x)) (ro (Int.toNat l)) (bxx U S (ro (Int.toNat l)) (Int.toNat x)) y) 2 (Int.toNat v43) = v115 := p116.symm
            have g118 : 0 ≤ v115 ∧ v115 ≤ 1 := by rw [p116, arr_2]; exact of_b _ _ _
            show av_wp _ cd_205 73 [some (.inr (.inr (.inl (some (77))))), some (.inl x), some (.inl l), some (.inl y), some (.inl q), some (.inl j38), some (.inl v43), none, none] [.inl v115] h11 _
            refine wq_k1 (p' := 76) rfl rfl ⟨by omega, by omega⟩ (fun c119 => ?_) (fun c120 => ?_)
            · have c119 : v115 = (0) := c119
              exact J56 (j38) (none) (none) (by omega) rfl rfl (by have x7 : (eav (U (Int.toNat x)) (ro (Int.toNat l)) (arr (U (Int.toNat x)) (ro (Int.toNat l)) (bxx U S (ro (Int.toNat l)) (Int.toNat x)) y) (S (Int.toNat x)) (Int.toNat v43) (S (Int.toNat x))).2.2 = -1 := eav_n (RX.2.1 (Int.toNat x) (Int.toNat l) (by omega) (by omega)).1 (show HBd (S (Int.toNat x)) (arr (U (Int.toNat x)) (ro (Int.toNat l)) (bxx U S (ro (Int.toNat l)) (Int.toNat x)) y) from (HBd_arr (RX.2.1 (Int.toNat x) (Int.toNat l) (by omega) (by omega)) (by omega) (by have := cbv_d (U (Int.toNat x)) (S (Int.toNat x)); omega))) (fun k hk => arr_2) (by omega) (y117.trans (by omega)); exact ⟨j38, 0, g40, Or.inr ⟨rfl, by unfold DC2; rw [y47]; omega⟩, by omega⟩)
            · have c120 : v115 ≠ (0) := c120
              refine av_wp_seq 1 (pc' := 77) (lv' := [some (.inr (.inr (.inl (some (77))))), some (.inl x), some (.inl l), some (.inl y), some (.inl q), some (.inl j38), some (.inl v43), none, none]) (st' := [.inr (.inr (.inl (some (77))))]) (h' := h11) rfl ?_
              refine wq_gr (p' := 80) rfl rfl (congrArg Prod.fst (ly_k I21.1.1.1 77 rfl)) rfl (ly_g I21.1.1.1 77 49 115 rfl) ?_
              refine av_wp_seq 1 (pc' := 82) (lv' := [some (.inr (.inr (.inl (some (77))))), some (.inl x), some (.inl l), some (.inl y), some (.inl q), some (.inl j38), some (.inl v43), none, none]) (st' := [.inl v43, .inr (.inr (.inl (some (115))))]) (h' := h11) rfl ?_
              obtain ⟨v121, e122⟩ : ∃ v, hA h11 115 (Int.toNat (v43)) = v := ⟨_, rfl⟩
              have y125 : (eav (U (Int.toNat x)) (ro (Int.toNat l)) (arr (U (Int.toNat x)) (ro (Int.toNat l)) (bxx U S (ro (Int.toNat l)) (Int.toNat x)) y) (S (Int.toNat x)) (Int.toNat v43) (S (Int.toNat x))).2.1 = v121 := (end_eq (RX.2.1 (Int.toNat x) (Int.toNat l) (by omega) (by omega)).1 (RX.2.1 (Int.toNat x) (Int.toNat l) (by omega) (by omega)).2.1 (show HBd (S (Int.toNat x)) (arr (U (Int.toNat x)) (ro (Int.toNat l)) (bxx U S (ro (Int.toNat l)) (Int.toNat x)) y) from (HBd_arr (RX.2.1 (Int.toNat x) (Int.toNat l) (by omega) (by omega)) (by omega) (by have := cbv_d (U (Int.toNat x)) (S (Int.toNat x)); omega))) (fun k hk => arr_2) (o := (Int.toNat v43)) (by omega) (by rw [y117]; omega)).2.symm.trans ((congrArg Prod.snd (O18 (Int.toNat v43) (by omega) (by rw [y117]; omega)).2).symm.trans e122)
              have g126 := eav_r (show HBd (S (Int.toNat x)) (arr (U (Int.toNat x)) (ro (Int.toNat l)) (bxx U S (ro (Int.toNat l)) (Int.toNat x)) y) from (HBd_arr (RX.2.1 (Int.toNat x) (Int.toNat l) (by omega) (by omega)) (by omega) (by have := cbv_d (U (Int.toNat x)) (S (Int.toNat x)); omega))) (RX.2.1 (Int.toNat x) (Int.toNat l) (by omega) (by omega)).2.2.1 (RX.2.1 (Int.toNat x) (Int.toNat l) (by omega) (by omega)).2.2.2.1 (RX.2.1 (Int.toNat x) (Int.toNat l) (by omega) (by omega)).2.2.2.2.1 (RX.2.1 (Int.toNat x) (Int.toNat l) (by omega) (by omega)).2.2.2.2.2.2 (q := (Int.toNat v43)) (by omega) (S (Int.toNat x)) (Nat.le_refl _)
              have g126a := g126.1
              have g126b := g126.2.1
              rw [y125] at g126b
              clear g126
              refine wq_al (p' := 83) (n := 12) rfl rfl (ly_k I21.1.1.1 115 rfl) (by omega) (e122) ?_
              refine wq_k1 (p' := 86) rfl rfl ⟨by omega, by omega⟩ (fun c127 => ?_) (fun c128 => ?_)
              · have c127 : v121 ≤ (0) := c127
                exact J56 (j38) (none) (none) (by omega) rfl rfl (by have x7 : (eav (U (Int.toNat x)) (ro (Int.toNat l)) (arr (U (Int.toNat x)) (ro (Int.toNat l)) (bxx U S (ro (Int.toNat l)) (Int.toNat x)) y) (S (Int.toNat x)) (Int.toNat v43) (S (Int.toNat x))).2.2 = -1 := DC2_w (RX.2.1 (Int.toNat x) (Int.toNat l) (by omega) (by omega)).1 (show HBd (S (Int.toNat x)) (arr (U (Int.toNat x)) (ro (Int.toNat l)) (bxx U S (ro (Int.toNat l)) (Int.toNat x)) y) from (HBd_arr (RX.2.1 (Int.toNat x) (Int.toNat l) (by omega) (by omega)) (by omega) (by have := cbv_d (U (Int.toNat x)) (S (Int.toNat x)); omega))) (fun k hk => arr_2) (by omega) (by rw [y117]; omega) y125 (by omega); exact ⟨j38, 0, g40, Or.inr ⟨rfl, by unfold DC2; rw [y47]; omega⟩, by omega⟩)
              · have c128 : (0) < v121 := c128
                refine av_wp_seq 1 (pc' := 87) (lv' := [some (.inr (.inr (.inl (some (77))))), some (.inl x), some (.inl l), some (.inl y), some (.inl q), some (.inl j38), some (.inl v43), none, none]) (st' := [.inr (.inr (.inl (some (77))))]) (h' := h11) rfl ?_
                refine wq_gr (p' := 90) rfl rfl (congrArg Prod.fst (ly_k I21.1.1.1 77 rfl)) rfl (ly_g I21.1.1.1 77 49 115 rfl) ?_
                refine av_wp_seq 1 (pc' := 92) (lv' := [some (.inr (.inr (.inl (some (77))))), some (.inl x), some (.inl l), some (.inl y), some (.inl q), some (.inl j38), some (.inl v43), none, none]) (st' := [.inl v43, .inr (.inr (.inl (some (115))))]) (h' := h11) rfl ?_
                obtain ⟨v129, e130⟩ : ∃ v, hA h11 115 (Int.toNat (v43)) = v := ⟨_, rfl⟩
                have y133 : v129 = v121 := e130.symm.trans e122
                refine wq_al (p' := 93) (n := 12) rfl rfl (ly_k I21.1.1.1 115 rfl) (by omega) (e130) ?_
                refine av_wp_seq 1 (pc' := 94) (lv' := [some (.inr (.inr (.inl (some (77))))), some (.inl x), some (.inl l), some (.inl y), some (.inl q), some (.inl j38), some (.inl v43), none, none]) (st' := [.inl (3), .inl v129]) (h' := h11) rfl ?_
                refine wq_k2 (p' := 97) rfl rfl ⟨by omega, by omega⟩ ⟨by omega, by omega⟩ (fun c134 => ?_) (fun c135 => ?_)
                · have c134 : (3) ≤ v129 := c134
                  exact J56 (j38) (none) (none) (by omega) rfl rfl (by have x7 : (eav (U (Int.toNat x)) (ro (Int.toNat l)) (arr (U (Int.toNat x)) (ro (Int.toNat l)) (bxx U S (ro (Int.toNat l)) (Int.toNat x)) y) (S (Int.toNat x)) (Int.toNat v43) (S (Int.toNat x))).2.2 = -1 := DC2_w (RX.2.1 (Int.toNat x) (Int.toNat l) (by omega) (by omega)).1 (show HBd (S (Int.toNat x)) (arr (U (Int.toNat x)) (ro (Int.toNat l)) (bxx U S (ro (Int.toNat l)) (Int.toNat x)) y) from (HBd_arr (RX.2.1 (Int.toNat x) (Int.toNat l) (by omega) (by omega)) (by omega) (by have := cbv_d (U (Int.toNat x)) (S (Int.toNat x)); omega))) (fun k hk => arr_2) (by omega) (by rw [y117]; omega) y125 (by omega); exact ⟨j38, 0, g40, Or.inr ⟨rfl, by unfold DC2; rw [y47]; omega⟩, by omega⟩)
                · have c135 : v129 < (3) := c135
                  refine av_wp_seq 2 (pc' := 100) (lv' := [some (.inr (.inr (.inl (some (77))))), some (.inl x), some (.inl l), some (.inl y), some (.inl q), some (.inl j38), some (.inl v43), some (.inl (-1)), none]) (st' := []) (h' := h11) rfl ?_
                  refine av_wp_seq 1 (pc' := 101) (lv' := [some (.inr (.inr (.inl (some (77))))), some (.inl x), some (.inl l), some (.inl y), some (.inl q), some (.inl j38), some (.inl v43), some (.inl (-1)), none]) (st' := [.inr (.inr (.inl (some (77))))]) (h' := h11) rfl ?_
                  refine wq_gi (p' := 104) rfl rfl (congrArg Prod.fst (ly_k I21.1.1.1 77 rfl)) rfl (I21.2.1) ?_
                  refine av_wp_seq 3 (pc' := 108) (lv' := [some (.inr (.inr (.inl (some (77))))), some (.inl x), some (.inl l), some (.inl y), some (.inl q), some (.inl j38), some (.inl v43), some (.inl (-1)), some (.inl (n8 - (1)))]) (st' := []) (h' := h11) rfl ?_
                  have L139 : ∀ (m138 : Nat) (k136 : Int) (k137 : Int), LIX (gwh (U (Int.toNat x)) (ro (Int.toNat l)) (arr (U (Int.toNat x)) (ro (Int.toNat l)) (bxx U S (ro (Int.toNat l)) (Int.toNat x)) y) v121 (Int.toNat v43)) (eav (U (Int.toNat x)) (ro (Int.toNat l)) (arr (U (Int.toNat x)) (ro (Int.toNat l)) (bxx U S (ro (Int.toNat l)) (Int.toNat x)) y) (S (Int.toNat x)) (Int.toNat v43) (S (Int.toNat x))).1 (Int.toNat v43) (S (Int.toNat x)) k137 k136 → v43 ≤ k137 → k137 < (S (Int.toNat x) : Int) → (-1 ≤ k136 ∧ k136 ≤ 11) → (-1 ≤ k137 ∧ k137 ≤ 11) → (k137 + 1).toNat = m138 → av_wp none cd_205 108 [some (.inr (.inr (.inl (some (77))))), some (.inl x), some (.inl l), some (.inl y), some (.inl q), some (.inl j38), some (.inl v43), some (.inl k136), some (.inl k137)] [] h11 Q := by
                    intro m138
                    induction m138 using Nat.strongRecOn with
                    | _ m138 I140 =>
                      intro k136 k137 g142 g143 g144 g145 g146 e141
                      refine av_wp_seq 2 (pc' := 112) (lv' := [some (.inr (.inr (.inl (some (77))))), some (.inl x), some (.inl l), some (.inl y), some (.inl q), some (.inl j38), some (.inl v43), some (.inl k136), some (.inl k137)]) (st' := [.inl v43, .inl k137]) (h' := h11) rfl ?_
                      refine wq_k2 (p' := 115) rfl rfl ⟨by omega, by omega⟩ ⟨by omega, by omega⟩ (fun c147 => ?_) (fun c148 => ?_)
                      · have c147 : k137 ≤ v43 := c147
                        refine av_wp_seq 3 (pc' := 171) (lv' := [some (.inr (.inr (.inl (some (77))))), some (.inl x), some (.inl l), some (.inl y), some (.inl q), some (.inl j38), some (.inl v43), some (.inl k136), some (.inl k137)]) (st' := [.inl q, .inl k136, .inl j38]) (h' := h11) rfl ?_
                        refine wq_k2 (p' := 174) rfl rfl ⟨by omega, by omega⟩ ⟨by omega, by omega⟩ (fun c149 => ?_) (fun c150 => ?_)
                        · have c149 : k136 ≠ q := c149
                          refine av_wp_seq 1 (pc' := 179) (lv' := [some (.inr (.inr (.inl (some (77))))), some (.inl x), some (.inl l), some (.inl y), some (.inl q), some (.inl j38), some (.inl v43), some (.inl k136), some (.inl k137)]) (st' := [.inl (0), .inl j38]) (h' := h11) rfl ?_
                          refine av_wp_seq 1 (pc' := 180) (lv' := [some (.inr (.inr (.inl (some (77))))), some (.inl x), some (.inl l), some (.inl y), some (.inl q), some (.inl j38), some (.inl v43), some (.inl k136), some (.inl k137)]) (st' := [.inl (av_or j38 (0))]) (h' := h11) rfl ?_
                          have g152 : av_or j38 (0) = j38 + (0) := or_p2 (by omega) (by omega)
                          generalize av_or j38 (0) = v151 at g152 ⊢
                          refine av_wp_seq 1 (pc' := 182) (lv' := [some (.inr (.inr (.inl (some (77))))), some (.inl x), some (.inl l), some (.inl y), some (.inl q), some (.inl v151), some (.inl v43), some (.inl k136), some (.inl k137)]) (st' := []) (h' := h11) rfl ?_
                          exact J56 (v151) (some (.inl k136)) (some (.inl k137)) (by omega) rfl rfl (by have x7 : k136 = (eav (U (Int.toNat x)) (ro (Int.toNat l)) (arr (U (Int.toNat x)) (ro (Int.toNat l)) (bxx U S (ro (Int.toNat l)) (Int.toNat x)) y) (S (Int.toNat x)) (Int.toNat v43) (S (Int.toNat x))).2.2 := DC2_v (RX.2.1 (Int.toNat x) (Int.toNat l) (by omega) (by omega)).1 (show HBd (S (Int.toNat x)) (arr (U (Int.toNat x)) (ro (Int.toNat l)) (bxx U S (ro (Int.toNat l)) (Int.toNat x)) y) from (HBd_arr (RX.2.1 (Int.toNat x) (Int.toNat l) (by omega) (by omega)) (by omega) (by have := cbv_d (U (Int.toNat x)) (S (Int.toNat x)); omega))) (fun k hk => arr_2) (by omega) (by rw [y117]; omega) y125 rfl (by omega) (by have z := g142; rw [show k137 = ((Int.toNat v43 : Nat) : Int) by omega] at z; exact z); exact ⟨j38, 0, g40, Or.inr ⟨rfl, by unfold DC2; rw [y47]; omega⟩, by omega⟩)
                        · have c150 : k136 = q := c150
                          refine av_wp_seq 2 (pc' := 179) (lv' := [some (.inr (.inr (.inl (some (77))))), some (.inl x), some (.inl l), some (.inl y), some (.inl q), some (.inl j38), some (.inl v43), some (.inl k136), some (.inl k137)]) (st' := [.inl (2), .inl j38]) (h' := h11) rfl ?_
                          refine av_wp_seq 1 (pc' := 180) (lv' := [some (.inr (.inr (.inl (some (77))))), some (.inl x), some (.inl l), some (.inl y), some (.inl q), some (.inl j38), some (.inl v43), some (.inl k136), some (.inl k137)]) (st' := [.inl (av_or j38 (2))]) (h' := h11) rfl ?_
                          have g154 : av_or j38 (2) = j38 + (2) := or_p2 (by omega) (by omega)
                          generalize av_or j38 (2) = v153 at g154 ⊢
                          refine av_wp_seq 1 (pc' := 182) (lv' := [some (.inr (.inr (.inl (some (77))))), some (.inl x), some (.inl l), some (.inl y), some (.inl q), some (.inl v153), some (.inl v43), some (.inl k136), some (.inl k137)]) (st' := []) (h' := h11) rfl ?_
                          exact J56 (v153) (some (.inl k136)) (some (.inl k137)) (by omega) rfl rfl (by have x7 : k136 = (eav (U (Int.toNat x)) (ro (Int.toNat l)) (arr (U (Int.toNat x)) (ro (Int.toNat l)) (bxx U S (ro (Int.toNat l)) (Int.toNat x)) y) (S (Int.toNat x)) (Int.toNat v43) (S (Int.toNat x))).2.2 := DC2_v (RX.2.1 (Int.toNat x) (Int.toNat l) (by omega) (by omega)).1 (show HBd (S (Int.toNat x)) (arr (U (Int.toNat x)) (ro (Int.toNat l)) (bxx U S (ro (Int.toNat l)) (Int.toNat x)) y) from (HBd_arr (RX.2.1 (Int.toNat x) (Int.toNat l) (by omega) (by omega)) (by omega) (by have := cbv_d (U (Int.toNat x)) (S (Int.toNat x)); omega))) (fun k hk => arr_2) (by omega) (by rw [y117]; omega) y125 rfl (by omega) (by have z := g142; rw [show k137 = ((Int.toNat v43 : Nat) : Int) by omega] at z; exact z); exact ⟨j38, 2, g40, Or.inl ⟨rfl, by unfold DC2; rw [y47]; omega⟩, by omega⟩)
                      · have c148 : v43 < k137 := c148
                        refine av_wp_seq 1 (pc' := 116) (lv' := [some (.inr (.inr (.inl (some (77))))), some (.inl x), some (.inl l), some (.inl y), some (.inl q), some (.inl j38), some (.inl v43), some (.inl k136), some (.inl k137)]) (st' := [.inr (.inr (.inl (some (77))))]) (h' := h11) rfl ?_
                        refine wq_gr (p' := 119) rfl rfl (congrArg Prod.fst (ly_k I21.1.1.1 77 rfl)) rfl (ly_g I21.1.1.1 77 49 115 rfl) ?_
                        refine av_wp_seq 1 (pc' := 121) (lv' := [some (.inr (.inr (.inl (some (77))))), some (.inl x), some (.inl l), some (.inl y), some (.inl q), some (.inl j38), some (.inl v43), some (.inl k136), some (.inl k137)]) (st' := [.inl v43, .inr (.inr (.inl (some (115))))]) (h' := h11) rfl ?_
                        obtain ⟨v155, e156⟩ : ∃ v, hA h11 115 (Int.toNat (v43)) = v := ⟨_, rfl⟩
                        have y159 : v155 = v129 := e156.symm.trans e130
                        refine wq_al (p' := 122) (n := 12) rfl rfl (ly_k I21.1.1.1 115 rfl) (by omega) (e156) ?_
                        refine av_wp_seq 1 (pc' := 123) (lv' := [some (.inr (.inr (.inl (some (77))))), some (.inl x), some (.inl l), some (.inl y), some (.inl q), some (.inl j38), some (.inl v43), some (.inl k136), some (.inl k137)]) (st' := [.inl (1), .inl v155]) (h' := h11) rfl ?_
                        refine wq_k2 (p' := 126) rfl rfl ⟨by omega, by omega⟩ ⟨by omega, by omega⟩ (fun c160 => ?_) (fun c161 => ?_)
                        · have c160 : v155 ≠ (1) := c160
                          refine av_wp_seq 3 (pc' := 142) (lv' := [some (.inr (.inr (.inl (some (77))))), some (.inl x), some (.inl l), some (.inl y), some (.inl q), some (.inl j38), some (.inl v43), some (.inl k136), some (.inl k137)]) (st' := [.inl v43, .inl k137, .inr (.inr (.inl (some (77))))]) (h' := h11) rfl ?_
                          refine wq_cv (p' := 145) (av_qc (.invokevirtual 378) 172 2 0 8) 3 cd_172 [.inl v43, .inl k137] (77) 8 [some (.inr (.inr (.inl (some (77))))), some (.inl k137), some (.inl v43)] rfl rfl rfl pp_172 rfl rfl rfl (congrArg Prod.fst (ly_k I21.1.1.1 77 rfl)) rfl rfl rfl rfl ?_
                          refine cx_172 I21 F22 e15 L20 (RX.2.1 (Int.toNat x) (Int.toNat l) (by omega) (by omega)).1 (RX.2.1 (Int.toNat x) (Int.toNat l) (by omega) (by omega)).2.1 (HBd_arr (RX.2.1 (Int.toNat x) (Int.toNat l) (by omega) (by omega)) (by omega) (by have := cbv_d (U (Int.toNat x)) (S (Int.toNat x)); omega)) (k137) (by omega) (v43) (by omega) (fun v162 p163 => ?_)
                          have g164 := nov_r (u := (U (Int.toNat x))) (ro := (ro (Int.toNat l))) (show HBd (S (Int.toNat x)) (arr (U (Int.toNat x)) (ro (Int.toNat l)) (bxx U S (ro (Int.toNat l)) (Int.toNat x)) y) from (HBd_arr (RX.2.1 (Int.toNat x) (Int.toNat l) (by omega) (by omega)) (by omega) (by have := cbv_d (U (Int.toNat x)) (S (Int.toNat x)); omega))) (k := Int.toNat k137) (by omega) (v43)
                          rw [← p163] at g164
                          show av_wp _ cd_205 145 [some (.inr (.inr (.inl (some (77))))), some (.inl x), some (.inl l), some (.inl y), some (.inl q), some (.inl j38), some (.inl v43), some (.inl k136), some (.inl k137)] [.inl v162] h11 _
                          refine av_wp_seq 1 (pc' := 146) (lv' := [some (.inr (.inr (.inl (some (77))))), some (.inl x), some (.inl l), some (.inl y), some (.inl q), some (.inl j38), some (.inl v43), some (.inl k136), some (.inl k137)]) (st' := [.inr (.inr (.inl (some (77)))), .inl v162]) (h' := h11) rfl ?_
                          refine wq_gr (p' := 149) rfl rfl (congrArg Prod.fst (ly_k I21.1.1.1 77 rfl)) rfl (ly_g I21.1.1.1 77 48 114 rfl) ?_
                          refine av_wp_seq 1 (pc' := 151) (lv' := [some (.inr (.inr (.inl (some (77))))), some (.inl x), some (.inl l), some (.inl y), some (.inl q), some (.inl j38), some (.inl v43), some (.inl k136), some (.inl k137)]) (st' := [.inl v43, .inr (.inr (.inl (some (114)))), .inl v162]) (h' := h11) rfl ?_
                          obtain ⟨v165, e166⟩ : ∃ v, hA h11 114 (Int.toNat (v43)) = v := ⟨_, rfl⟩
                          have y169 : (eav (U (Int.toNat x)) (ro (Int.toNat l)) (arr (U (Int.toNat x)) (ro (Int.toNat l)) (bxx U S (ro (Int.toNat l)) (Int.toNat x)) y) (S (Int.toNat x)) (Int.toNat v43) (S (Int.toNat x))).1 = v165 := (end_eq (RX.2.1 (Int.toNat x) (Int.toNat l) (by omega) (by omega)).1 (RX.2.1 (Int.toNat x) (Int.toNat l) (by omega) (by omega)).2.1 (show HBd (S (Int.toNat x)) (arr (U (Int.toNat x)) (ro (Int.toNat l)) (bxx U S (ro (Int.toNat l)) (Int.toNat x)) y) from (HBd_arr (RX.2.1 (Int.toNat x) (Int.toNat l) (by omega) (by omega)) (by omega) (by have := cbv_d (U (Int.toNat x)) (S (Int.toNat x)); omega))) (fun k hk => arr_2) (o := (Int.toNat v43)) (by omega) (by rw [y117]; omega)).1.symm.trans ((congrArg Prod.fst (O18 (Int.toNat v43) (by omega) (by rw [y117]; omega)).2).symm.trans e166)
                          have g170 := eav_r (show HBd (S (Int.toNat x)) (arr (U (Int.toNat x)) (ro (Int.toNat l)) (bxx U S (ro (Int.toNat l)) (Int.toNat x)) y) from (HBd_arr (RX.2.1 (Int.toNat x) (Int.toNat l) (by omega) (by omega)) (by omega) (by have := cbv_d (U (Int.toNat x)) (S (Int.toNat x)); omega))) (RX.2.1 (Int.toNat x) (Int.toNat l) (by omega) (by omega)).2.2.1 (RX.2.1 (Int.toNat x) (Int.toNat l) (by omega) (by omega)).2.2.2.1 (RX.2.1 (Int.toNat x) (Int.toNat l) (by omega) (by omega)).2.2.2.2.1 (RX.2.1 (Int.toNat x) (Int.toNat l) (by omega) (by omega)).2.2.2.2.2.2 (q := (Int.toNat v43)) (by omega) (S (Int.toNat x)) (Nat.le_refl _)
                          have g170a := g170.1
                          have g170b := g170.2.1
                          rw [y169] at g170a
                          clear g170
                          refine wq_al (p' := 152) (n := 12) rfl rfl (ly_k I21.1.1.1 114 rfl) (by omega) (e166) ?_
                          refine wq_k2 (p' := 155) rfl rfl ⟨by omega, by omega⟩ ⟨by omega, by omega⟩ (fun c171 => ?_) (fun c172 => ?_)
                          · have c171 : v162 ≠ v165 := c171
                            refine av_wp_seq 2 (pc' := 108) (lv' := [some (.inr (.inr (.inl (some (77))))), some (.inl x), some (.inl l), some (.inl y), some (.inl q), some (.inl j38), some (.inl v43), some (.inl k136), some (.inl (k137 + (-1)))]) (st' := []) (h' := h11) rfl ?_
                            exact I140 _ (by omega) (k136) ((k137 + (-1))) (show LIX _ _ _ _ (k137 - 1) _ from LIX_n g142 (by omega) (by rw [(show gwh (U (Int.toNat x)) (ro (Int.toNat l)) (arr (U (Int.toNat x)) (ro (Int.toNat l)) (bxx U S (ro (Int.toNat l)) (Int.toNat x)) y) v121 (Int.toNat v43) (Int.toNat k137) = v162 by unfold gwh; rw [if_neg (by omega), show ((Int.toNat v43 : Nat) : Int) = v43 by omega]; exact p163.symm), y169]; omega)) (by omega) (by omega) (by omega) (by omega) rfl
                          · have c172 : v162 = v165 := c172
                            refine av_wp_seq 4 (pc' := 108) (lv' := [some (.inr (.inr (.inl (some (77))))), some (.inl x), some (.inl l), some (.inl y), some (.inl q), some (.inl j38), some (.inl v43), some (.inl k137), some (.inl (k137 + (-1)))]) (st' := []) (h' := h11) rfl ?_
                            exact I140 _ (by omega) (k137) ((k137 + (-1))) (show LIX _ _ _ _ (k137 - 1) _ from LIX_y g142 (by omega) ((show gwh (U (Int.toNat x)) (ro (Int.toNat l)) (arr (U (Int.toNat x)) (ro (Int.toNat l)) (bxx U S (ro (Int.toNat l)) (Int.toNat x)) y) v121 (Int.toNat v43) (Int.toNat k137) = v162 by unfold gwh; rw [if_neg (by omega), show ((Int.toNat v43 : Nat) : Int) = v43 by omega]; exact p163.symm).trans (by rw [y169]; omega))) (by omega) (by omega) (by omega) (by omega) rfl
                        · have c161 : v155 = (1) := c161
                          refine av_wp_seq 3 (pc' := 131) (lv' := [some (.inr (.inr (.inl (some (77))))), some (.inl x), some (.inl l), some (.inl y), some (.inl q), some (.inl j38), some (.inl v43), some (.inl k136), some (.inl k137)]) (st' := [.inl v43, .inl k137, .inr (.inr (.inl (some (77))))]) (h' := h11) rfl ?_
                          refine wq_cv (p' := 134) (av_qc (.invokevirtual 372) 171 2 0 8) 4 cd_171 [.inl v43, .inl k137] (77) 8 [some (.inr (.inr (.inl (some (77))))), some (.inl k137), some (.inl v43), none] rfl rfl rfl pp_171 rfl rfl rfl (congrArg Prod.fst (ly_k I21.1.1.1 77 rfl)) rfl rfl rfl rfl ?_
                          refine cx_171 I21 F22 e15 L20 (RX.2.1 (Int.toNat x) (Int.toNat l) (by omega) (by omega)).1 (RX.2.1 (Int.toNat x) (Int.toNat l) (by omega) (by omega)).2.1 (HBd_arr (RX.2.1 (Int.toNat x) (Int.toNat l) (by omega) (by omega)) (by omega) (by have := cbv_d (U (Int.toNat x)) (S (Int.toNat x)); omega)) (k137) (by omega) (v43) (by omega) (fun v173 p174 => ?_)
                          have g175 := bkv_r (u := (U (Int.toNat x))) (ro := (ro (Int.toNat l))) (show HBd (S (Int.toNat x)) (arr (U (Int.toNat x)) (ro (Int.toNat l)) (bxx U S (ro (Int.toNat l)) (Int.toNat x)) y) from (HBd_arr (RX.2.1 (Int.toNat x) (Int.toNat l) (by omega) (by omega)) (by omega) (by have := cbv_d (U (Int.toNat x)) (S (Int.toNat x)); omega))) (k := Int.toNat k137) (by omega) (v43)
                          rw [← p174] at g175
                          show av_wp _ cd_205 134 [some (.inr (.inr (.inl (some (77))))), some (.inl x), some (.inl l), some (.inl y), some (.inl q), some (.inl j38), some (.inl v43), some (.inl k136), some (.inl k137)] [.inl v173] h11 _
                          refine av_wp_seq 2 (pc' := 146) (lv' := [some (.inr (.inr (.inl (some (77))))), some (.inl x), some (.inl l), some (.inl y), some (.inl q), some (.inl j38), some (.inl v43), some (.inl k136), some (.inl k137)]) (st' := [.inr (.inr (.inl (some (77)))), .inl v173]) (h' := h11) rfl ?_
                          refine wq_gr (p' := 149) rfl rfl (congrArg Prod.fst (ly_k I21.1.1.1 77 rfl)) rfl (ly_g I21.1.1.1 77 48 114 rfl) ?_
                          refine av_wp_seq 1 (pc' := 151) (lv' := [some (.inr (.inr (.inl (some (77))))), some (.inl x), some (.inl l), some (.inl y), some (.inl q), some (.inl j38), some (.inl v43), some (.inl k136), some (.inl k137)]) (st' := [.inl v43, .inr (.inr (.inl (some (114)))), .inl v173]) (h' := h11) rfl ?_
                          obtain ⟨v176, e177⟩ : ∃ v, hA h11 114 (Int.toNat (v43)) = v := ⟨_, rfl⟩
                          have y180 : (eav (U (Int.toNat x)) (ro (Int.toNat l)) (arr (U (Int.toNat x)) (ro (Int.toNat l)) (bxx U S (ro (Int.toNat l)) (Int.toNat x)) y) (S (Int.toNat x)) (Int.toNat v43) (S (Int.toNat x))).1 = v176 := (end_eq (RX.2.1 (Int.toNat x) (Int.toNat l) (by omega) (by omega)).1 (RX.2.1 (Int.toNat x) (Int.toNat l) (by omega) (by omega)).2.1 (show HBd (S (Int.toNat x)) (arr (U (Int.toNat x)) (ro (Int.toNat l)) (bxx U S (ro (Int.toNat l)) (Int.toNat x)) y) from (HBd_arr (RX.2.1 (Int.toNat x) (Int.toNat l) (by omega) (by omega)) (by omega) (by have := cbv_d (U (Int.toNat x)) (S (Int.toNat x)); omega))) (fun k hk => arr_2) (o := (Int.toNat v43)) (by omega) (by rw [y117]; omega)).1.symm.trans ((congrArg Prod.fst (O18 (Int.toNat v43) (by omega) (by rw [y117]; omega)).2).symm.trans e177)
                          have g181 := eav_r (show HBd (S (Int.toNat x)) (arr (U (Int.toNat x)) (ro (Int.toNat l)) (bxx U S (ro (Int.toNat l)) (Int.toNat x)) y) from (HBd_arr (RX.2.1 (Int.toNat x) (Int.toNat l) (by omega) (by omega)) (by omega) (by have := cbv_d (U (Int.toNat x)) (S (Int.toNat x)); omega))) (RX.2.1 (Int.toNat x) (Int.toNat l) (by omega) (by omega)).2.2.1 (RX.2.1 (Int.toNat x) (Int.toNat l) (by omega) (by omega)).2.2.2.1 (RX.2.1 (Int.toNat x) (Int.toNat l) (by omega) (by omega)).2.2.2.2.1 (RX.2.1 (Int.toNat x) (Int.toNat l) (by omega) (by omega)).2.2.2.2.2.2 (q := (Int.toNat v43)) (by omega) (S (Int.toNat x)) (Nat.le_refl _)
                          have g181a := g181.1
                          have g181b := g181.2.1
                          rw [y180] at g181a
                          clear g181
                          refine wq_al (p' := 152) (n := 12) rfl rfl (ly_k I21.1.1.1 114 rfl) (by omega) (e177) ?_
                          refine wq_k2 (p' := 155) rfl rfl ⟨by omega, by omega⟩ ⟨by omega, by omega⟩ (fun c182 => ?_) (fun c183 => ?_)
                          · have c182 : v173 ≠ v176 := c182
                            refine av_wp_seq 2 (pc' := 108) (lv' := [some (.inr (.inr (.inl (some (77))))), some (.inl x), some (.inl l), some (.inl y), some (.inl q), some (.inl j38), some (.inl v43), some (.inl k136), some (.inl (k137 + (-1)))]) (st' := []) (h' := h11) rfl ?_
                            exact I140 _ (by omega) (k136) ((k137 + (-1))) (show LIX _ _ _ _ (k137 - 1) _ from LIX_n g142 (by omega) (by rw [(show gwh (U (Int.toNat x)) (ro (Int.toNat l)) (arr (U (Int.toNat x)) (ro (Int.toNat l)) (bxx U S (ro (Int.toNat l)) (Int.toNat x)) y) v121 (Int.toNat v43) (Int.toNat k137) = v173 by unfold gwh; rw [if_pos (by omega), show ((Int.toNat v43 : Nat) : Int) = v43 by omega]; exact p174.symm), y180]; omega)) (by omega) (by omega) (by omega) (by omega) rfl
                          · have c183 : v173 = v176 := c183
                            refine av_wp_seq 4 (pc' := 108) (lv' := [some (.inr (.inr (.inl (some (77))))), some (.inl x), some (.inl l), some (.inl y), some (.inl q), some (.inl j38), some (.inl v43), some (.inl k137), some (.inl (k137 + (-1)))]) (st' := []) (h' := h11) rfl ?_
                            exact I140 _ (by omega) (k137) ((k137 + (-1))) (show LIX _ _ _ _ (k137 - 1) _ from LIX_y g142 (by omega) ((show gwh (U (Int.toNat x)) (ro (Int.toNat l)) (arr (U (Int.toNat x)) (ro (Int.toNat l)) (bxx U S (ro (Int.toNat l)) (Int.toNat x)) y) v121 (Int.toNat v43) (Int.toNat k137) = v173 by unfold gwh; rw [if_pos (by omega), show ((Int.toNat v43 : Nat) : Int) = v43 by omega]; exact p174.symm).trans (by rw [y180]; omega))) (by omega) (by omega) (by omega) (by omega) rfl
                  exact L139 _ ((-1)) ((n8 - (1))) (by have z := LIX_0 (g := (gwh (U (Int.toNat x)) (ro (Int.toNat l)) (arr (U (Int.toNat x)) (ro (Int.toNat l)) (bxx U S (ro (Int.toNat l)) (Int.toNat x)) y) v121 (Int.toNat v43))) (e := (eav (U (Int.toNat x)) (ro (Int.toNat l)) (arr (U (Int.toNat x)) (ro (Int.toNat l)) (bxx U S (ro (Int.toNat l)) (Int.toNat x)) y) (S (Int.toNat x)) (Int.toNat v43) (S (Int.toNat x))).1) (q := Int.toNat v43) (s := (S (Int.toNat x))); rw [show (S (Int.toNat x) : Int) - 1 = (n8 - (1)) by omega] at z; exact z) (by omega) (by omega) (by omega) (by omega) rfl
        refine wq_k1 (p' := 36) rfl rfl ⟨by omega, by omega⟩ (fun c184 => ?_) (fun c185 => ?_)
        · have c184 : v34 = (0) := c184
          refine av_wp_seq 1 (pc' := 51) (lv' := [some (.inr (.inr (.inl (some (77))))), some (.inl x), some (.inl l), some (.inl y), some (.inl q), none, none, none, none]) (st' := [.inl (0)]) (h' := h11) rfl ?_
          exact J41 ((0)) (by omega) (Or.inr ⟨rfl, fun z => z (by unfold o5; rw [if_neg (fun y => y.1 (by omega))])⟩)
        · have c185 : v34 ≠ (0) := c185
          refine av_wp_seq 1 (pc' := 37) (lv' := [some (.inr (.inr (.inl (some (77))))), some (.inl x), some (.inl l), some (.inl y), some (.inl q), none, none, none, none]) (st' := [.inr (.inr (.inl (some (77))))]) (h' := h11) rfl ?_
          refine wq_gr (p' := 40) rfl rfl (congrArg Prod.fst (ly_k I21.1.1.1 77 rfl)) rfl (ly_g I21.1.1.1 77 47 113 rfl) ?_
          refine av_wp_seq 1 (pc' := 42) (lv' := [some (.inr (.inr (.inl (some (77))))), some (.inl x), some (.inl l), some (.inl y), some (.inl q), none, none, none, none]) (st' := [.inl q, .inr (.inr (.inl (some (113))))]) (h' := h11) rfl ?_
          obtain ⟨v186, e187⟩ : ∃ v, hA h11 113 (Int.toNat (q)) = v := ⟨_, rfl⟩
          have y190 : o5 (ro (Int.toNat l)) (arr (U (Int.toNat x)) (ro (Int.toNat l)) (bxx U S (ro (Int.toNat l)) (Int.toNat x)) y) (Int.toNat q) = v186 := (O18 (Int.toNat q) (by omega) (by rw [y36]; omega)).1.symm.trans e187
          have g191 := o5_r (ro := (ro (Int.toNat l))) (show HBd (S (Int.toNat x)) (arr (U (Int.toNat x)) (ro (Int.toNat l)) (bxx U S (ro (Int.toNat l)) (Int.toNat x)) y) from (HBd_arr (RX.2.1 (Int.toNat x) (Int.toNat l) (by omega) (by omega)) (by omega) (by have := cbv_d (U (Int.toNat x)) (S (Int.toNat x)); omega))) (q := (Int.toNat q)) (by omega)
          rw [y190] at g191
          refine wq_al (p' := 43) (n := 12) rfl rfl (ly_k I21.1.1.1 113 rfl) (by omega) (e187) ?_
          refine wq_k1 (p' := 46) rfl rfl ⟨by omega, by omega⟩ (fun c192 => ?_) (fun c193 => ?_)
          · have c192 : v186 < (0) := c192
            refine av_wp_seq 1 (pc' := 51) (lv' := [some (.inr (.inr (.inl (some (77))))), some (.inl x), some (.inl l), some (.inl y), some (.inl q), none, none, none, none]) (st' := [.inl (0)]) (h' := h11) rfl ?_
            exact J41 ((0)) (by omega) (Or.inr ⟨rfl, by omega⟩)
          · have c193 : (0) ≤ v186 := c193
            refine av_wp_seq 2 (pc' := 51) (lv' := [some (.inr (.inr (.inl (some (77))))), some (.inl x), some (.inl l), some (.inl y), some (.inl q), none, none, none, none]) (st' := [.inl (1)]) (h' := h11) rfl ?_
            exact J41 ((1)) (by omega) (Or.inl ⟨rfl, by omega⟩)
      · have c33 : n8 ≤ q := c33
        refine av_wp_seq 1 (pc' := 26) (lv' := [some (.inr (.inr (.inl (some (77))))), some (.inl x), some (.inl l), some (.inl y), some (.inl q), none, none, none, none]) (st' := [.inl (-2)]) (h' := h11) rfl ?_
        refine av_wp_ret (v := some (.inl (-2))) rfl rfl rfl ?_
        exact hq _ _ _ _ h11 (Or.inr ⟨by unfold okx; omega, rfl⟩) I21 F22

