section
/-! DOES, exactly: the reference -/
set_option maxRecDepth 100000 in
set_option maxHeartbeats 4000000 in
theorem cx_205 {g h : av_H} {n a m : Int} (I : IMF n a m h) (F : FM g h) {U : Nat → Nat → Int} {S : Nat → Nat} {ro : Nat → Nat → Int} (RX : RXX g U S ro) (x : Int) (qx : -2147483648 ≤ x ∧ x ≤ 2147483647) (l : Int) (ql : -2147483648 ≤ l ∧ l ≤ 2147483647) (y : Int) (qy : -2147483648 ≤ y ∧ y ≤ 2147483647) (q : Int) (qq : -2147483648 ≤ q ∧ q ≤ 2147483647) {Q : Option av_V → av_H → Prop} (hq : ∀ (v : Int) n' a' m' h', RSR (okx U S (hA g 78 0) (hA g 79 0) x l y ∧ (0 ≤ q ∧ q < (S (Int.toNat x) : Int))) (-2) (DOV (U (Int.toNat x)) (ro (Int.toNat l)) (arr (U (Int.toNat x)) (ro (Int.toNat l)) (bxx U S (ro (Int.toNat l)) (Int.toNat x)) y) (S (Int.toNat x)) (bgx U S ro x l y) (Int.toNat q)) v → IMF n' a' m' h' → FM g h' → Q (some (.inl v)) h') : av_wp none cd_205 0 [some (.inr (.inr (.inl (some (77))))), some (.inl x), some (.inl l), some (.inl y), some (.inl q), none, none, none, none] [] h Q := by
  have gn := im_n I.1.1
  rw [I.2.1] at gn
  have ga := im_a I.1.1
  rw [I.2.2.1] at ga
  have gm := im_cm I.1.1
  rw [I.2.2.2] at gm
  have G0 := I.1.1.2.1
  have G16 : 0 ≤ hA g 78 0 ∧ hA g 78 0 ≤ 16 := by rw [← F.2.2.2.2.2.2 78 rfl]; exact G0.2.1
  have G8 : 0 ≤ hA g 79 0 ∧ hA g 79 0 ≤ 8 := by rw [← F.2.2.2.2.2.2 79 rfl]; exact G0.2.2.1
  have G6 : 0 ≤ hA g 80 0 ∧ hA g 80 0 ≤ 6 := by rw [← F.2.2.2.2.2.2 80 rfl]; exact G0.2.2.2.1
  refine av_wp_sqF ck_205 4 (pc' := 4) (lv' := [some (.inr (.inr (.inl (some (77))))), some (.inl x), some (.inl l), some (.inl y), some (.inl q), none, none, none, none]) (st' := [.inl y, .inl l, .inl x, .inr (.inr (.inl (some (77))))]) (h' := h) rfl ?_
  refine wq_cv (p' := 7) (av_qc (.invokevirtual 446) 186 3 0 8) 4 cd_186 [.inl y, .inl l, .inl x] (77) 8 [some (.inr (.inr (.inl (some (77))))), some (.inl x), some (.inl l), some (.inl y)] (ck_205 _ _ rfl) rfl rfl pp_186 rfl rfl rfl (congrArg Prod.fst (ly_k I.1.1.1 77 rfl)) rfl rfl rfl rfl ?_
  refine cx_186 I F RX (x) (by omega) (l) (by omega) (y) (by omega) (fun n1 a2 m3 h4 z5 I6 F7 => ?_) (fun n8 a9 m10 h11 z12 z13 z14 e15 e16 A17 O18 B19 L20 I21 F22 => ?_)
  · have g23 := im_n I6.1.1
    rw [I6.2.1] at g23
    have g24 := im_a I6.1.1
    rw [I6.2.2.1] at g24
    have g25 := im_cm I6.1.1
    rw [I6.2.2.2] at g25
    show av_wp _ cd_205 7 [some (.inr (.inr (.inl (some (77))))), some (.inl x), some (.inl l), some (.inl y), some (.inl q), none, none, none, none] [.inl (0)] h4 _
    refine av_wp_sqF ck_205 2 (pc' := 26) (lv' := [some (.inr (.inr (.inl (some (77))))), some (.inl x), some (.inl l), some (.inl y), some (.inl q), none, none, none, none]) (st' := [.inl (-2)]) (h' := h4) rfl ?_
    refine av_wp_ret (v := some (.inl (-2))) (ck_205 _ _ rfl) rfl rfl ?_
    exact hq _ _ _ _ h4 (Or.inr ⟨by unfold okx; omega, rfl⟩) I6 F7
  · have g26 := im_n I21.1.1
    rw [I21.2.1] at g26
    have g27 := im_a I21.1.1
    rw [I21.2.2.1] at g27
    have g28 := im_cm I21.1.1
    rw [I21.2.2.2] at g28
    have g29 := (bgn_m (bar := bxx U S (ro (Int.toNat l)) (Int.toNat x)) (RX.2.1 (Int.toNat x) (Int.toNat l) (by omega) (by omega)) z14.1 (by have := cbv_d (U (Int.toNat x)) (S (Int.toNat x)); omega)).2.2
    have g29 : -1 ≤ (bgx U S ro x l y).2.2 ∧ (bgx U S ro x l y).2.2 ≤ 9999 := g29
    have B19 : BRR (bgx U S ro x l y) h11 := B19
    show av_wp _ cd_205 7 [some (.inr (.inr (.inl (some (77))))), some (.inl x), some (.inl l), some (.inl y), some (.inl q), none, none, none, none] [.inl (1)] h11 _
    refine av_wp_sqF ck_205 2 (pc' := 12) (lv' := [some (.inr (.inr (.inl (some (77))))), some (.inl x), some (.inl l), some (.inl y), some (.inl q), none, none, none, none]) (st' := [.inl q]) (h' := h11) rfl ?_
    refine wq_k1 (p' := 15) (ck_205 _ _ rfl) rfl ⟨by omega, by omega⟩ (fun c30 => ?_) (fun c31 => ?_)
    · have c30 : q < (0) := c30
      refine av_wp_sqF ck_205 1 (pc' := 26) (lv' := [some (.inr (.inr (.inl (some (77))))), some (.inl x), some (.inl l), some (.inl y), some (.inl q), none, none, none, none]) (st' := [.inl (-2)]) (h' := h11) rfl ?_
      refine av_wp_ret (v := some (.inl (-2))) (ck_205 _ _ rfl) rfl rfl ?_
      exact hq _ _ _ _ h11 (Or.inr ⟨by unfold okx; omega, rfl⟩) I21 F22
    · have c31 : (0) ≤ q := c31
      refine av_wp_sqF ck_205 2 (pc' := 18) (lv' := [some (.inr (.inr (.inl (some (77))))), some (.inl x), some (.inl l), some (.inl y), some (.inl q), none, none, none, none]) (st' := [.inr (.inr (.inl (some (77)))), .inl q]) (h' := h11) rfl ?_
      refine wq_gi (p' := 21) (ck_205 _ _ rfl) rfl (congrArg Prod.fst (ly_k I21.1.1.1 77 rfl)) rfl (I21.2.1) ?_
      refine wq_k2 (p' := 24) (ck_205 _ _ rfl) rfl ⟨by omega, by omega⟩ ⟨by omega, by omega⟩ (fun c32 => ?_) (fun c33 => ?_)
      · have c32 : q < n8 := c32
        refine av_wp_sqF ck_205 2 (pc' := 30) (lv' := [some (.inr (.inr (.inl (some (77))))), some (.inl x), some (.inl l), some (.inl y), some (.inl q), none, none, none, none]) (st' := [.inl q, .inr (.inr (.inl (some (77))))]) (h' := h11) rfl ?_
        refine wq_cv (p' := 33) (av_qc (.invokevirtual 369) 168 1 0 8) 2 cd_168 [.inl q] (77) 8 [some (.inr (.inr (.inl (some (77))))), some (.inl q)] (ck_205 _ _ rfl) rfl rfl pp_168 rfl rfl rfl (congrArg Prod.fst (ly_k I21.1.1.1 77 rfl)) rfl rfl rfl rfl ?_
        refine cx_168 I21 F22 e15 L20 (RX.2.1 (Int.toNat x) (Int.toNat l) (by omega) (by omega)).1 (RX.2.1 (Int.toNat x) (Int.toNat l) (by omega) (by omega)).2.1 (HBd_arr (RX.2.1 (Int.toNat x) (Int.toNat l) (by omega) (by omega)) (by omega) (by have := cbv_d (U (Int.toNat x)) (S (Int.toNat x)); omega)) (q) (by omega) (fun v34 p35 => ?_)
        have y36 : (arr (U (Int.toNat x)) (ro (Int.toNat l)) (bxx U S (ro (Int.toNat l)) (Int.toNat x)) y) 2 (Int.toNat q) = v34 := p35.symm
        have g37 : 0 ≤ v34 ∧ v34 ≤ 1 := by rw [p35, arr_2]; exact of_b _ _ _
        show av_wp _ cd_205 33 [some (.inr (.inr (.inl (some (77))))), some (.inl x), some (.inl l), some (.inl y), some (.inl q), none, none, none, none] [.inl v34] h11 _
        have J41 : ∀ (j38 : Int), (0 ≤ j38 ∧ j38 ≤ 1) → BIT j38 1 (o5 (ro (Int.toNat l)) (arr (U (Int.toNat x)) (ro (Int.toNat l)) (bxx U S (ro (Int.toNat l)) (Int.toNat x)) y) (Int.toNat q) ≠ -1) →  av_wp none cd_205 51 [some (.inr (.inr (.inl (some (77))))), some (.inl x), some (.inl l), some (.inl y), some (.inl q), none, none, none, none] [.inl j38] h11 Q := by
          intro j38 g39 g40
          have g42 := BIT_r g40
          refine av_wp_sqF ck_205 2 (pc' := 54) (lv' := [some (.inr (.inr (.inl (some (77))))), some (.inl x), some (.inl l), some (.inl y), some (.inl q), some (.inl j38), none, none, none]) (st' := [.inr (.inr (.inl (some (77))))]) (h' := h11) rfl ?_
          refine wq_gr (p' := 57) (ck_205 _ _ rfl) rfl (congrArg Prod.fst (ly_k I21.1.1.1 77 rfl)) rfl (ly_g I21.1.1.1 77 34 100 rfl) ?_
          refine av_wp_sqF ck_205 1 (pc' := 59) (lv' := [some (.inr (.inr (.inl (some (77))))), some (.inl x), some (.inl l), some (.inl y), some (.inl q), some (.inl j38), none, none, none]) (st' := [.inl q, .inr (.inr (.inl (some (100))))]) (h' := h11) rfl ?_
          obtain ⟨v43, e44⟩ : ∃ v, hA h11 100 (Int.toNat (q)) = v := ⟨_, rfl⟩
          have g45 : -1 ≤ hA h11 100 (Int.toNat (q)) ∧ hA h11 100 (Int.toNat (q)) ≤ 11 := im_w I21.1.1 100 (by decide) (by decide) _
          rw [e44] at g45
          have w46 := im_wr I21.1 (Int.toNat (q)) (by omega)
          rw [e44] at w46
          have y47 : (U (Int.toNat x)) (21 * (Int.toNat (q)) + 3) = v43 := (L20.1 (Int.toNat (q)) (by omega)).1.2.2.2.1.symm.trans e44
          have g48 := ((RX.2.1 (Int.toNat x) (Int.toNat l) (by omega) (by omega)).1 (Int.toNat q) (by omega)).2.1
          rw [y47] at g48
          refine wq_al (p' := 60) (n := 12) (ck_205 _ _ rfl) rfl (ly_k I21.1.1.1 100 rfl) (by omega) (e44) ?_
          refine av_wp_sqF ck_205 2 (pc' := 64) (lv' := [some (.inr (.inr (.inl (some (77))))), some (.inl x), some (.inl l), some (.inl y), some (.inl q), some (.inl j38), some (.inl v43), none, none]) (st' := [.inl v43]) (h' := h11) rfl ?_
          have J56 : ∀ (j49 : Int) (a50 : Option av_V) (a51 : Option av_V), (0 ≤ j49 ∧ j49 ≤ 3) → av_lg a50 = false → av_lg a51 = false → BT2 j49 (o5 (ro (Int.toNat l)) (arr (U (Int.toNat x)) (ro (Int.toNat l)) (bxx U S (ro (Int.toNat l)) (Int.toNat x)) y) (Int.toNat q) ≠ -1) (DC2 (U (Int.toNat x)) (ro (Int.toNat l)) (arr (U (Int.toNat x)) (ro (Int.toNat l)) (bxx U S (ro (Int.toNat l)) (Int.toNat x)) y) (S (Int.toNat x)) (Int.toNat q)) →  av_wp none cd_205 182 [some (.inr (.inr (.inl (some (77))))), some (.inl x), some (.inl l), some (.inl y), some (.inl q), some (.inl j49), some (.inl v43), a50, a51] [] h11 Q := by
            intro j49 a50 a51 g52 g53 g54 g55
            have la50 := g53
            have la51 := g54
            have g57 := BT2_r g55
            refine av_wp_sqF ck_205 2 (pc' := 185) (lv' := [some (.inr (.inr (.inl (some (77))))), some (.inl x), some (.inl l), some (.inl y), some (.inl q), some (.inl j49), some (.inl v43), a50, a51]) (st' := [.inr (.inr (.inl (some (77)))), .inl j49]) (h' := h11) rfl ?_
            obtain ⟨v58, e59⟩ : ∃ v, hF h11 77 50 = v := ⟨_, rfl⟩
            have g60 := im_has I21.1.1
            rw [e59] at g60
            refine wq_gb (p' := 188) (ck_205 _ _ rfl) rfl (congrArg Prod.fst (ly_k I21.1.1.1 77 rfl)) rfl (e59) ?_
            have J64 : ∀ (j61 : Int), (0 ≤ j61 ∧ j61 ≤ 4) → BIT j61 4 ((bgx U S ro x l y).2.2 ≠ 9999 ∧ (bgx U S ro x l y).1 = ((Int.toNat q : Nat) : Int)) →  av_wp none cd_205 205 [some (.inr (.inr (.inl (some (77))))), some (.inl x), some (.inl l), some (.inl y), some (.inl q), some (.inl j49), some (.inl v43), a50, a51] [.inl j61, .inl j49] h11 Q := by
              intro j61 g62 g63
              have g65 := BIT_r g63
              refine av_wp_sqF ck_205 1 (pc' := 206) (lv' := [some (.inr (.inr (.inl (some (77))))), some (.inl x), some (.inl l), some (.inl y), some (.inl q), some (.inl j49), some (.inl v43), a50, a51]) (st' := [.inl (av_or j49 j61)]) (h' := h11) rfl ?_
              have g67 : av_or j49 j61 = j49 + j61 := or_p4 (by omega) (by omega)
              generalize av_or j49 j61 = v66 at g67 ⊢
              refine av_wp_sqF ck_205 2 (pc' := 209) (lv' := [some (.inr (.inr (.inl (some (77))))), some (.inl x), some (.inl l), some (.inl y), some (.inl q), some (.inl v66), some (.inl v43), a50, a51]) (st' := [.inr (.inr (.inl (some (77))))]) (h' := h11) rfl ?_
              refine wq_gr (p' := 212) (ck_205 _ _ rfl) rfl (congrArg Prod.fst (ly_k I21.1.1.1 77 rfl)) rfl (ly_g I21.1.1.1 77 30 96 rfl) ?_
              refine av_wp_sqF ck_205 1 (pc' := 214) (lv' := [some (.inr (.inr (.inl (some (77))))), some (.inl x), some (.inl l), some (.inl y), some (.inl q), some (.inl v66), some (.inl v43), a50, a51]) (st' := [.inl q, .inr (.inr (.inl (some (96))))]) (h' := h11) rfl ?_
              obtain ⟨v68, e69⟩ : ∃ v, hA h11 96 (Int.toNat (q)) = v := ⟨_, rfl⟩
              have g70 : 0 ≤ hA h11 96 (Int.toNat (q)) ∧ hA h11 96 (Int.toNat (q)) ≤ 7 := im_w I21.1.1 96 (by decide) (by decide) _
              rw [e69] at g70
              have y71 : (U (Int.toNat x)) (21 * (Int.toNat (q)) + 0) = v68 := (L20.1 (Int.toNat (q)) (by omega)).1.1.symm.trans e69
              refine wq_al (p' := 215) (n := 12) (ck_205 _ _ rfl) rfl (ly_k I21.1.1.1 96 rfl) (by omega) (e69) ?_
              refine av_wp_sqF ck_205 1 (pc' := 216) (lv' := [some (.inr (.inr (.inl (some (77))))), some (.inl x), some (.inl l), some (.inl y), some (.inl q), some (.inl v66), some (.inl v43), a50, a51]) (st' := [.inl (5), .inl v68]) (h' := h11) rfl ?_
              refine wq_k2 (p' := 219) (ck_205 _ _ rfl) rfl ⟨by omega, by omega⟩ ⟨by omega, by omega⟩ (fun c72 => ?_) (fun c73 => ?_)
              · have c72 : v68 ≠ (5) := c72
                refine av_wp_sqF ck_205 1 (pc' := 271) (lv' := [some (.inr (.inr (.inl (some (77))))), some (.inl x), some (.inl l), some (.inl y), some (.inl q), some (.inl v66), some (.inl v43), a50, a51]) (st' := [.inl v66]) (h' := h11) rfl ?_
                refine av_wp_ret (v := some (.inl v66)) (ck_205 _ _ rfl) rfl rfl ?_
                exact hq _ _ _ _ h11 (Or.inl ⟨by unfold okx; omega, BT4_of g55 g63 (show BIT 0 8 _ from Or.inr ⟨rfl, (by unfold DC8; rw [y47]; omega)⟩) (by omega)⟩) I21 F22
              · have c73 : v68 = (5) := c73
                refine av_wp_sqF ck_205 2 (pc' := 222) (lv' := [some (.inr (.inr (.inl (some (77))))), some (.inl x), some (.inl l), some (.inl y), some (.inl q), some (.inl v66), some (.inl v43), a50, a51]) (st' := [.inl v43, .inr (.inr (.inl (some (77))))]) (h' := h11) rfl ?_
                refine wq_cv (p' := 225) (av_qc (.invokevirtual 393) 170 1 0 8) 2 cd_170 [.inl v43] (77) 8 [some (.inr (.inr (.inl (some (77))))), some (.inl v43)] (ck_205 _ _ rfl) rfl rfl pp_170 rfl rfl rfl (congrArg Prod.fst (ly_k I21.1.1.1 77 rfl)) rfl rfl rfl rfl ?_
                refine cx_170 I21 F22 e15 L20 (RX.2.1 (Int.toNat x) (Int.toNat l) (by omega) (by omega)).1 (RX.2.1 (Int.toNat x) (Int.toNat l) (by omega) (by omega)).2.1 (HBd_arr (RX.2.1 (Int.toNat x) (Int.toNat l) (by omega) (by omega)) (by omega) (by have := cbv_d (U (Int.toNat x)) (S (Int.toNat x)); omega)) (v43) (by omega) (fun v74 p75 => ?_)
                have y76 : (arr (U (Int.toNat x)) (ro (Int.toNat l)) (bxx U S (ro (Int.toNat l)) (Int.toNat x)) y) 3 (Int.toNat v43) = v74 := p75.symm
                have g77 : 0 ≤ v74 ∧ v74 ≤ 1 := by rw [p75]; exact ys_b _ _ _
                show av_wp _ cd_205 225 [some (.inr (.inr (.inl (some (77))))), some (.inl x), some (.inl l), some (.inl y), some (.inl q), some (.inl v66), some (.inl v43), a50, a51] [.inl v74] h11 _
                refine wq_k1 (p' := 228) (ck_205 _ _ rfl) rfl ⟨by omega, by omega⟩ (fun c78 => ?_) (fun c79 => ?_)
                · have c78 : v74 = (0) := c78
                  refine av_wp_sqF ck_205 1 (pc' := 271) (lv' := [some (.inr (.inr (.inl (some (77))))), some (.inl x), some (.inl l), some (.inl y), some (.inl q), some (.inl v66), some (.inl v43), a50, a51]) (st' := [.inl v66]) (h' := h11) rfl ?_
                  refine av_wp_ret (v := some (.inl v66)) (ck_205 _ _ rfl) rfl rfl ?_
                  exact hq _ _ _ _ h11 (Or.inl ⟨by unfold okx; omega, BT4_of g55 g63 (show BIT 0 8 _ from Or.inr ⟨rfl, (by unfold DC8; rw [y47]; omega)⟩) (by omega)⟩) I21 F22
                · have c79 : v74 ≠ (0) := c79
                  refine av_wp_sqF ck_205 3 (pc' := 232) (lv' := [some (.inr (.inr (.inl (some (77))))), some (.inl x), some (.inl l), some (.inl y), some (.inl q), some (.inl v66), some (.inl v43), a50, a51]) (st' := [.inr (.inr (.inl (some (77)))), .inl q, .inr (.inr (.inl (some (77))))]) (h' := h11) rfl ?_
                  refine wq_gr (p' := 235) (ck_205 _ _ rfl) rfl (congrArg Prod.fst (ly_k I21.1.1.1 77 rfl)) rfl (ly_g I21.1.1.1 77 26 95 rfl) ?_
                  refine av_wp_sqF ck_205 1 (pc' := 236) (lv' := [some (.inr (.inr (.inl (some (77))))), some (.inl x), some (.inl l), some (.inl y), some (.inl q), some (.inl v66), some (.inl v43), a50, a51]) (st' := [.inl (4), .inr (.inr (.inl (some (95)))), .inl q, .inr (.inr (.inl (some (77))))]) (h' := h11) rfl ?_
                  obtain ⟨v80, e81⟩ : ∃ v, hA h11 95 (Int.toNat ((4))) = v := ⟨_, rfl⟩
                  have y83 : (ro (Int.toNat l)) 4 = v80 := (L20.2 4 (by omega)).symm.trans e81
                  have g84 := rl_4 (RX.2.1 (Int.toNat x) (Int.toNat l) (by omega) (by omega)).2.1
                  rw [y83] at g84
                  refine wq_al (p' := 237) (n := 13) (ck_205 _ _ rfl) rfl (ly_k I21.1.1.1 95 rfl) (by omega) (e81) ?_
                  refine wq_cv (p' := 240) (av_qc (.invokevirtual 363) 166 2 0 8) 3 cd_166 [.inl v80, .inl q] (77) 8 [some (.inr (.inr (.inl (some (77))))), some (.inl q), some (.inl v80)] (ck_205 _ _ rfl) rfl rfl pp_166 rfl rfl rfl (congrArg Prod.fst (ly_k I21.1.1.1 77 rfl)) rfl rfl rfl rfl ?_
                  refine cx_166 I21 F22 (q) (by omega) (v80) (by omega) (fun v85 p86 => ?_)
                  have y87 : v85 = hw (arr (U (Int.toNat x)) (ro (Int.toNat l)) (bxx U S (ro (Int.toNat l)) (Int.toNat x)) y) (Int.toNat (q)) v80 := LR_w L20 (by omega) (by omega) (by omega) p86
                  have g88 := hw_r (show HBd (S (Int.toNat x)) (arr (U (Int.toNat x)) (ro (Int.toNat l)) (bxx U S (ro (Int.toNat l)) (Int.toNat x)) y) from (HBd_arr (RX.2.1 (Int.toNat x) (Int.toNat l) (by omega) (by omega)) (by omega) (by have := cbv_d (U (Int.toNat x)) (S (Int.toNat x)); omega))) (k := (Int.toNat (q))) (by omega) v80
                  rw [← y87] at g88
                  have y89 : hw (arr (U (Int.toNat x)) (ro (Int.toNat l)) (bxx U S (ro (Int.toNat l)) (Int.toNat x)) y) (Int.toNat q) ((ro (Int.toNat l)) 4) = v85 := by rw [y83]; exact y87.symm
                  show av_wp _ cd_205 240 [some (.inr (.inr (.inl (some (77))))), some (.inl x), some (.inl l), some (.inl y), some (.inl q), some (.inl v66), some (.inl v43), a50, a51] [.inl v85] h11 _
                  refine av_wp_sqF ck_205 3 (pc' := 246) (lv' := [some (.inr (.inr (.inl (some (77))))), some (.inl x), some (.inl l), some (.inl y), some (.inl q), some (.inl v66), some (.inl v43), some (.inl v85), a51]) (st' := [.inl v85, .inl v66]) (h' := h11) rfl ?_
                  have J93 : ∀ (j90 : Int), (0 ≤ j90 ∧ j90 ≤ 8) → BIT j90 8 (DC8 (U (Int.toNat x)) (ro (Int.toNat l)) (arr (U (Int.toNat x)) (ro (Int.toNat l)) (bxx U S (ro (Int.toNat l)) (Int.toNat x)) y) (S (Int.toNat x)) (Int.toNat q)) →  av_wp none cd_205 266 [some (.inr (.inr (.inl (some (77))))), some (.inl x), some (.inl l), some (.inl y), some (.inl q), some (.inl v66), some (.inl v43), some (.inl v85), a51] [.inl j90, .inl v66] h11 Q := by
                    intro j90 g91 g92
                    have g94 := BIT_r g92
                    refine av_wp_sqF ck_205 1 (pc' := 267) (lv' := [some (.inr (.inr (.inl (some (77))))), some (.inl x), some (.inl l), some (.inl y), some (.inl q), some (.inl v66), some (.inl v43), some (.inl v85), a51]) (st' := [.inl (av_or v66 j90)]) (h' := h11) rfl ?_
                    have g96 : av_or v66 j90 = v66 + j90 := or_p8 (by omega) (by omega)
                    generalize av_or v66 j90 = v95 at g96 ⊢
                    refine av_wp_sqF ck_205 2 (pc' := 271) (lv' := [some (.inr (.inr (.inl (some (77))))), some (.inl x), some (.inl l), some (.inl y), some (.inl q), some (.inl v95), some (.inl v43), some (.inl v85), a51]) (st' := [.inl v95]) (h' := h11) rfl ?_
                    refine av_wp_ret (v := some (.inl v95)) (ck_205 _ _ rfl) rfl rfl ?_
                    exact hq _ _ _ _ h11 (Or.inl ⟨by unfold okx; omega, BT4_of g55 g63 g92 (by omega)⟩) I21 F22
                  refine wq_k1 (p' := 249) (ck_205 _ _ rfl) rfl ⟨by omega, by omega⟩ (fun c97 => ?_) (fun c98 => ?_)
                  · have c97 : v85 < (0) := c97
                    refine av_wp_sqF ck_205 1 (pc' := 266) (lv' := [some (.inr (.inr (.inl (some (77))))), some (.inl x), some (.inl l), some (.inl y), some (.inl q), some (.inl v66), some (.inl v43), some (.inl v85), a51]) (st' := [.inl (0), .inl v66]) (h' := h11) rfl ?_
                    exact J93 ((0)) (by omega) (Or.inr ⟨rfl, (by unfold DC8; rw [y47]; omega)⟩)
                  · have c98 : (0) ≤ v85 := c98
                    refine av_wp_sqF ck_205 3 (pc' := 254) (lv' := [some (.inr (.inr (.inl (some (77))))), some (.inl x), some (.inl l), some (.inl y), some (.inl q), some (.inl v66), some (.inl v43), some (.inl v85), a51]) (st' := [.inl v43, .inr (.inr (.inl (some (77)))), .inl v85, .inl v66]) (h' := h11) rfl ?_
                    refine wq_cv (p' := 257) (av_qc (.invokevirtual 396) 176 1 0 8) 2 cd_176 [.inl v43] (77) 8 [some (.inr (.inr (.inl (some (77))))), some (.inl v43)] (ck_205 _ _ rfl) rfl rfl pp_176 rfl rfl rfl (congrArg Prod.fst (ly_k I21.1.1.1 77 rfl)) rfl rfl rfl rfl ?_
                    refine cx_176 I21 F22 e15 L20 (RX.2.1 (Int.toNat x) (Int.toNat l) (by omega) (by omega)).1 (RX.2.1 (Int.toNat x) (Int.toNat l) (by omega) (by omega)).2.1 (HBd_arr (RX.2.1 (Int.toNat x) (Int.toNat l) (by omega) (by omega)) (by omega) (by have := cbv_d (U (Int.toNat x)) (S (Int.toNat x)); omega)) (v43) (by omega) (fun v99 p100 => ?_)
                    have g101 := hw_r (show HBd (S (Int.toNat x)) (arr (U (Int.toNat x)) (ro (Int.toNat l)) (bxx U S (ro (Int.toNat l)) (Int.toNat x)) y) from (HBd_arr (RX.2.1 (Int.toNat x) (Int.toNat l) (by omega) (by omega)) (by omega) (by have := cbv_d (U (Int.toNat x)) (S (Int.toNat x)); omega))) (k := (Int.toNat v43)) (by omega) (yw (U (Int.toNat x)) (ro (Int.toNat l)) (Int.toNat v43))
                    rw [← p100] at g101
                    have y102 : hw (arr (U (Int.toNat x)) (ro (Int.toNat l)) (bxx U S (ro (Int.toNat l)) (Int.toNat x)) y) (Int.toNat v43) (yw (U (Int.toNat x)) (ro (Int.toNat l)) (Int.toNat v43)) = v99 := p100.symm
                    show av_wp _ cd_205 257 [some (.inr (.inr (.inl (some (77))))), some (.inl x), some (.inl l), some (.inl y), some (.inl q), some (.inl v66), some (.inl v43), some (.inl v85), a51] [.inl v99, .inl v85, .inl v66] h11 _
                    refine wq_k2 (p' := 260) (ck_205 _ _ rfl) rfl ⟨by omega, by omega⟩ ⟨by omega, by omega⟩ (fun c103 => ?_) (fun c104 => ?_)
                    · have c103 : v99 ≤ v85 := c103
                      refine av_wp_sqF ck_205 1 (pc' := 266) (lv' := [some (.inr (.inr (.inl (some (77))))), some (.inl x), some (.inl l), some (.inl y), some (.inl q), some (.inl v66), some (.inl v43), some (.inl v85), a51]) (st' := [.inl (0), .inl v66]) (h' := h11) rfl ?_
                      exact J93 ((0)) (by omega) (Or.inr ⟨rfl, (by unfold DC8; rw [y47]; omega)⟩)
                    · have c104 : v85 < v99 := c104
                      refine av_wp_sqF ck_205 2 (pc' := 266) (lv' := [some (.inr (.inr (.inl (some (77))))), some (.inl x), some (.inl l), some (.inl y), some (.inl q), some (.inl v66), some (.inl v43), some (.inl v85), a51]) (st' := [.inl (8), .inl v66]) (h' := h11) rfl ?_
                      exact J93 ((8)) (by omega) (Or.inl ⟨rfl, (by unfold DC8; rw [y47]; omega)⟩)
            refine wq_k1 (p' := 191) (ck_205 _ _ rfl) rfl ⟨by omega, by omega⟩ (fun c105 => ?_) (fun c106 => ?_)
            · have c105 : v58 = (0) := c105
              refine av_wp_sqF ck_205 1 (pc' := 205) (lv' := [some (.inr (.inr (.inl (some (77))))), some (.inl x), some (.inl l), some (.inl y), some (.inl q), some (.inl j49), some (.inl v43), a50, a51]) (st' := [.inl (0), .inl j49]) (h' := h11) rfl ?_
              exact J64 ((0)) (by omega) (Or.inr ⟨rfl, fun z => z.1 (BRR_no B19 e59 (by omega))⟩)
            · have c106 : v58 ≠ (0) := c106
              refine av_wp_sqF ck_205 1 (pc' := 192) (lv' := [some (.inr (.inr (.inl (some (77))))), some (.inl x), some (.inl l), some (.inl y), some (.inl q), some (.inl j49), some (.inl v43), a50, a51]) (st' := [.inr (.inr (.inl (some (77)))), .inl j49]) (h' := h11) rfl ?_
              obtain ⟨v107, e108⟩ : ∃ v, hF h11 77 51 = v := ⟨_, rfl⟩
              have g109 := im_by I21.1.1
              rw [e108] at g109
              have y110 : (bgx U S ro x l y).1 = v107 := (BRR_ye B19 e59 (by omega)).2.1.symm.trans e108
              refine wq_gi (p' := 195) (ck_205 _ _ rfl) rfl (congrArg Prod.fst (ly_k I21.1.1.1 77 rfl)) rfl (e108) ?_
              refine av_wp_sqF ck_205 1 (pc' := 197) (lv' := [some (.inr (.inr (.inl (some (77))))), some (.inl x), some (.inl l), some (.inl y), some (.inl q), some (.inl j49), some (.inl v43), a50, a51]) (st' := [.inl q, .inl v107, .inl j49]) (h' := h11) rfl ?_
              refine wq_k2 (p' := 200) (ck_205 _ _ rfl) rfl ⟨by omega, by omega⟩ ⟨by omega, by omega⟩ (fun c111 => ?_) (fun c112 => ?_)
              · have c111 : v107 ≠ q := c111
                refine av_wp_sqF ck_205 1 (pc' := 205) (lv' := [some (.inr (.inr (.inl (some (77))))), some (.inl x), some (.inl l), some (.inl y), some (.inl q), some (.inl j49), some (.inl v43), a50, a51]) (st' := [.inl (0), .inl j49]) (h' := h11) rfl ?_
                exact J64 ((0)) (by omega) (Or.inr ⟨rfl, fun z => by have := z.2; omega⟩)
              · have c112 : v107 = q := c112
                refine av_wp_sqF ck_205 2 (pc' := 205) (lv' := [some (.inr (.inr (.inl (some (77))))), some (.inl x), some (.inl l), some (.inl y), some (.inl q), some (.inl j49), some (.inl v43), a50, a51]) (st' := [.inl (4), .inl j49]) (h' := h11) rfl ?_
                exact J64 ((4)) (by omega) (Or.inl ⟨rfl, (BRR_ye B19 e59 (by omega)).1, by omega⟩)
          refine wq_k1 (p' := 67) (ck_205 _ _ rfl) rfl ⟨by omega, by omega⟩ (fun c113 => ?_) (fun c114 => ?_)
          · have c113 : v43 < (0) := c113
            exact J56 (j38) (none) (none) (by omega) rfl rfl (by exact ⟨j38, 0, g40, Or.inr ⟨rfl, by unfold DC2; rw [y47]; omega⟩, by omega⟩)
          · have c114 : (0) ≤ v43 := c114
            refine av_wp_sqF ck_205 2 (pc' := 70) (lv' := [some (.inr (.inr (.inl (some (77))))), some (.inl x), some (.inl l), some (.inl y), some (.inl q), some (.inl j38), some (.inl v43), none, none]) (st' := [.inl v43, .inr (.inr (.inl (some (77))))]) (h' := h11) rfl ?_
            refine wq_cv (p' := 73) (av_qc (.invokevirtual 369) 168 1 0 8) 2 cd_168 [.inl v43] (77) 8 [some (.inr (.inr (.inl (some (77))))), some (.inl v43)] (ck_205 _ _ rfl) rfl rfl pp_168 rfl rfl rfl (congrArg Prod.fst (ly_k I21.1.1.1 77 rfl)) rfl rfl rfl rfl ?_
            refine cx_168 I21 F22 e15 L20 (RX.2.1 (Int.toNat x) (Int.toNat l) (by omega) (by omega)).1 (RX.2.1 (Int.toNat x) (Int.toNat l) (by omega) (by omega)).2.1 (HBd_arr (RX.2.1 (Int.toNat x) (Int.toNat l) (by omega) (by omega)) (by omega) (by have := cbv_d (U (Int.toNat x)) (S (Int.toNat x)); omega)) (v43) (by omega) (fun v115 p116 => ?_)
            have y117 : (arr (U (Int.toNat x)) (ro (Int.toNat l)) (bxx U S (ro (Int.toNat l)) (Int.toNat x)) y) 2 (Int.toNat v43) = v115 := p116.symm
            have g118 : 0 ≤ v115 ∧ v115 ≤ 1 := by rw [p116, arr_2]; exact of_b _ _ _
            show av_wp _ cd_205 73 [some (.inr (.inr (.inl (some (77))))), some (.inl x), some (.inl l), some (.inl y), some (.inl q), some (.inl j38), some (.inl v43), none, none] [.inl v115] h11 _
            refine wq_k1 (p' := 76) (ck_205 _ _ rfl) rfl ⟨by omega, by omega⟩ (fun c119 => ?_) (fun c120 => ?_)
            · have c119 : v115 = (0) := c119
              exact J56 (j38) (none) (none) (by omega) rfl rfl (by have x7 : (eav (U (Int.toNat x)) (ro (Int.toNat l)) (arr (U (Int.toNat x)) (ro (Int.toNat l)) (bxx U S (ro (Int.toNat l)) (Int.toNat x)) y) (S (Int.toNat x)) (Int.toNat v43) (S (Int.toNat x))).2.2 = -1 := eav_n (RX.2.1 (Int.toNat x) (Int.toNat l) (by omega) (by omega)).1 (show HBd (S (Int.toNat x)) (arr (U (Int.toNat x)) (ro (Int.toNat l)) (bxx U S (ro (Int.toNat l)) (Int.toNat x)) y) from (HBd_arr (RX.2.1 (Int.toNat x) (Int.toNat l) (by omega) (by omega)) (by omega) (by have := cbv_d (U (Int.toNat x)) (S (Int.toNat x)); omega))) (fun k hk => arr_2) (by omega) (y117.trans (by omega)); exact ⟨j38, 0, g40, Or.inr ⟨rfl, by unfold DC2; rw [y47]; omega⟩, by omega⟩)
            · have c120 : v115 ≠ (0) := c120
              refine av_wp_sqF ck_205 1 (pc' := 77) (lv' := [some (.inr (.inr (.inl (some (77))))), some (.inl x), some (.inl l), some (.inl y), some (.inl q), some (.inl j38), some (.inl v43), none, none]) (st' := [.inr (.inr (.inl (some (77))))]) (h' := h11) rfl ?_
              refine wq_gr (p' := 80) (ck_205 _ _ rfl) rfl (congrArg Prod.fst (ly_k I21.1.1.1 77 rfl)) rfl (ly_g I21.1.1.1 77 49 115 rfl) ?_
              refine av_wp_sqF ck_205 1 (pc' := 82) (lv' := [some (.inr (.inr (.inl (some (77))))), some (.inl x), some (.inl l), some (.inl y), some (.inl q), some (.inl j38), some (.inl v43), none, none]) (st' := [.inl v43, .inr (.inr (.inl (some (115))))]) (h' := h11) rfl ?_
              obtain ⟨v121, e122⟩ : ∃ v, hA h11 115 (Int.toNat (v43)) = v := ⟨_, rfl⟩
              have y125 : (eav (U (Int.toNat x)) (ro (Int.toNat l)) (arr (U (Int.toNat x)) (ro (Int.toNat l)) (bxx U S (ro (Int.toNat l)) (Int.toNat x)) y) (S (Int.toNat x)) (Int.toNat v43) (S (Int.toNat x))).2.1 = v121 := (end_eq (RX.2.1 (Int.toNat x) (Int.toNat l) (by omega) (by omega)).1 (RX.2.1 (Int.toNat x) (Int.toNat l) (by omega) (by omega)).2.1 (show HBd (S (Int.toNat x)) (arr (U (Int.toNat x)) (ro (Int.toNat l)) (bxx U S (ro (Int.toNat l)) (Int.toNat x)) y) from (HBd_arr (RX.2.1 (Int.toNat x) (Int.toNat l) (by omega) (by omega)) (by omega) (by have := cbv_d (U (Int.toNat x)) (S (Int.toNat x)); omega))) (fun k hk => arr_2) (o := (Int.toNat v43)) (by omega) (by rw [y117]; omega)).2.symm.trans ((congrArg Prod.snd (O18 (Int.toNat v43) (by omega) (by rw [y117]; omega)).2).symm.trans e122)
              have g126 := eav_r (show HBd (S (Int.toNat x)) (arr (U (Int.toNat x)) (ro (Int.toNat l)) (bxx U S (ro (Int.toNat l)) (Int.toNat x)) y) from (HBd_arr (RX.2.1 (Int.toNat x) (Int.toNat l) (by omega) (by omega)) (by omega) (by have := cbv_d (U (Int.toNat x)) (S (Int.toNat x)); omega))) (RX.2.1 (Int.toNat x) (Int.toNat l) (by omega) (by omega)).2.2.1 (RX.2.1 (Int.toNat x) (Int.toNat l) (by omega) (by omega)).2.2.2.1 (RX.2.1 (Int.toNat x) (Int.toNat l) (by omega) (by omega)).2.2.2.2.1 (RX.2.1 (Int.toNat x) (Int.toNat l) (by omega) (by omega)).2.2.2.2.2.2 (q := (Int.toNat v43)) (by omega) (S (Int.toNat x)) (Nat.le_refl _)
              have g126a := g126.1
              have g126b := g126.2.1
              rw [y125] at g126b
              clear g126
              refine wq_al (p' := 83) (n := 12) (ck_205 _ _ rfl) rfl (ly_k I21.1.1.1 115 rfl) (by omega) (e122) ?_
              refine wq_k1 (p' := 86) (ck_205 _ _ rfl) rfl ⟨by omega, by omega⟩ (fun c127 => ?_) (fun c128 => ?_)
              · have c127 : v121 ≤ (0) := c127
                exact J56 (j38) (none) (none) (by omega) rfl rfl (by have x7 : (eav (U (Int.toNat x)) (ro (Int.toNat l)) (arr (U (Int.toNat x)) (ro (Int.toNat l)) (bxx U S (ro (Int.toNat l)) (Int.toNat x)) y) (S (Int.toNat x)) (Int.toNat v43) (S (Int.toNat x))).2.2 = -1 := DC2_w (RX.2.1 (Int.toNat x) (Int.toNat l) (by omega) (by omega)).1 (show HBd (S (Int.toNat x)) (arr (U (Int.toNat x)) (ro (Int.toNat l)) (bxx U S (ro (Int.toNat l)) (Int.toNat x)) y) from (HBd_arr (RX.2.1 (Int.toNat x) (Int.toNat l) (by omega) (by omega)) (by omega) (by have := cbv_d (U (Int.toNat x)) (S (Int.toNat x)); omega))) (fun k hk => arr_2) (by omega) (by rw [y117]; omega) y125 (by omega); exact ⟨j38, 0, g40, Or.inr ⟨rfl, by unfold DC2; rw [y47]; omega⟩, by omega⟩)
              · have c128 : (0) < v121 := c128
                refine av_wp_sqF ck_205 1 (pc' := 87) (lv' := [some (.inr (.inr (.inl (some (77))))), some (.inl x), some (.inl l), some (.inl y), some (.inl q), some (.inl j38), some (.inl v43), none, none]) (st' := [.inr (.inr (.inl (some (77))))]) (h' := h11) rfl ?_
                refine wq_gr (p' := 90) (ck_205 _ _ rfl) rfl (congrArg Prod.fst (ly_k I21.1.1.1 77 rfl)) rfl (ly_g I21.1.1.1 77 49 115 rfl) ?_
                refine av_wp_sqF ck_205 1 (pc' := 92) (lv' := [some (.inr (.inr (.inl (some (77))))), some (.inl x), some (.inl l), some (.inl y), some (.inl q), some (.inl j38), some (.inl v43), none, none]) (st' := [.inl v43, .inr (.inr (.inl (some (115))))]) (h' := h11) rfl ?_
                obtain ⟨v129, e130⟩ : ∃ v, hA h11 115 (Int.toNat (v43)) = v := ⟨_, rfl⟩
                have y133 : v129 = v121 := e130.symm.trans e122
                refine wq_al (p' := 93) (n := 12) (ck_205 _ _ rfl) rfl (ly_k I21.1.1.1 115 rfl) (by omega) (e130) ?_
                refine av_wp_sqF ck_205 1 (pc' := 94) (lv' := [some (.inr (.inr (.inl (some (77))))), some (.inl x), some (.inl l), some (.inl y), some (.inl q), some (.inl j38), some (.inl v43), none, none]) (st' := [.inl (3), .inl v129]) (h' := h11) rfl ?_
                refine wq_k2 (p' := 97) (ck_205 _ _ rfl) rfl ⟨by omega, by omega⟩ ⟨by omega, by omega⟩ (fun c134 => ?_) (fun c135 => ?_)
                · have c134 : (3) ≤ v129 := c134
                  exact J56 (j38) (none) (none) (by omega) rfl rfl (by have x7 : (eav (U (Int.toNat x)) (ro (Int.toNat l)) (arr (U (Int.toNat x)) (ro (Int.toNat l)) (bxx U S (ro (Int.toNat l)) (Int.toNat x)) y) (S (Int.toNat x)) (Int.toNat v43) (S (Int.toNat x))).2.2 = -1 := DC2_w (RX.2.1 (Int.toNat x) (Int.toNat l) (by omega) (by omega)).1 (show HBd (S (Int.toNat x)) (arr (U (Int.toNat x)) (ro (Int.toNat l)) (bxx U S (ro (Int.toNat l)) (Int.toNat x)) y) from (HBd_arr (RX.2.1 (Int.toNat x) (Int.toNat l) (by omega) (by omega)) (by omega) (by have := cbv_d (U (Int.toNat x)) (S (Int.toNat x)); omega))) (fun k hk => arr_2) (by omega) (by rw [y117]; omega) y125 (by omega); exact ⟨j38, 0, g40, Or.inr ⟨rfl, by unfold DC2; rw [y47]; omega⟩, by omega⟩)
                · have c135 : v129 < (3) := c135
                  refine av_wp_sqF ck_205 2 (pc' := 100) (lv' := [some (.inr (.inr (.inl (some (77))))), some (.inl x), some (.inl l), some (.inl y), some (.inl q), some (.inl j38), some (.inl v43), some (.inl (-1)), none]) (st' := []) (h' := h11) rfl ?_
                  refine av_wp_sqF ck_205 1 (pc' := 101) (lv' := [some (.inr (.inr (.inl (some (77))))), some (.inl x), some (.inl l), some (.inl y), some (.inl q), some (.inl j38), some (.inl v43), some (.inl (-1)), none]) (st' := [.inr (.inr (.inl (some (77))))]) (h' := h11) rfl ?_
                  refine wq_gi (p' := 104) (ck_205 _ _ rfl) rfl (congrArg Prod.fst (ly_k I21.1.1.1 77 rfl)) rfl (I21.2.1) ?_
                  refine av_wp_sqF ck_205 3 (pc' := 108) (lv' := [some (.inr (.inr (.inl (some (77))))), some (.inl x), some (.inl l), some (.inl y), some (.inl q), some (.inl j38), some (.inl v43), some (.inl (-1)), some (.inl (n8 - (1)))]) (st' := []) (h' := h11) rfl ?_
                  have L139 : ∀ (m138 : Nat) (k136 : Int) (k137 : Int), LIX (gwh (U (Int.toNat x)) (ro (Int.toNat l)) (arr (U (Int.toNat x)) (ro (Int.toNat l)) (bxx U S (ro (Int.toNat l)) (Int.toNat x)) y) v121 (Int.toNat v43)) (eav (U (Int.toNat x)) (ro (Int.toNat l)) (arr (U (Int.toNat x)) (ro (Int.toNat l)) (bxx U S (ro (Int.toNat l)) (Int.toNat x)) y) (S (Int.toNat x)) (Int.toNat v43) (S (Int.toNat x))).1 (Int.toNat v43) (S (Int.toNat x)) k137 k136 → v43 ≤ k137 → k137 < (S (Int.toNat x) : Int) → (-1 ≤ k136 ∧ k136 ≤ 11) → (-1 ≤ k137 ∧ k137 ≤ 11) → (k137 + 1).toNat = m138 → av_wp none cd_205 108 [some (.inr (.inr (.inl (some (77))))), some (.inl x), some (.inl l), some (.inl y), some (.inl q), some (.inl j38), some (.inl v43), some (.inl k136), some (.inl k137)] [] h11 Q := by
                    intro m138
                    induction m138 using Nat.strongRecOn with
                    | _ m138 I140 =>
                      intro k136 k137 g142 g143 g144 g145 g146 e141
                      refine av_wp_sqF ck_205 2 (pc' := 112) (lv' := [some (.inr (.inr (.inl (some (77))))), some (.inl x), some (.inl l), some (.inl y), some (.inl q), some (.inl j38), some (.inl v43), some (.inl k136), some (.inl k137)]) (st' := [.inl v43, .inl k137]) (h' := h11) rfl ?_
                      refine wq_k2 (p' := 115) (ck_205 _ _ rfl) rfl ⟨by omega, by omega⟩ ⟨by omega, by omega⟩ (fun c147 => ?_) (fun c148 => ?_)
                      · have c147 : k137 ≤ v43 := c147
                        refine av_wp_sqF ck_205 3 (pc' := 171) (lv' := [some (.inr (.inr (.inl (some (77))))), some (.inl x), some (.inl l), some (.inl y), some (.inl q), some (.inl j38), some (.inl v43), some (.inl k136), some (.inl k137)]) (st' := [.inl q, .inl k136, .inl j38]) (h' := h11) rfl ?_
                        refine wq_k2 (p' := 174) (ck_205 _ _ rfl) rfl ⟨by omega, by omega⟩ ⟨by omega, by omega⟩ (fun c149 => ?_) (fun c150 => ?_)
                        · have c149 : k136 ≠ q := c149
                          refine av_wp_sqF ck_205 1 (pc' := 179) (lv' := [some (.inr (.inr (.inl (some (77))))), some (.inl x), some (.inl l), some (.inl y), some (.inl q), some (.inl j38), some (.inl v43), some (.inl k136), some (.inl k137)]) (st' := [.inl (0), .inl j38]) (h' := h11) rfl ?_
                          refine av_wp_sqF ck_205 1 (pc' := 180) (lv' := [some (.inr (.inr (.inl (some (77))))), some (.inl x), some (.inl l), some (.inl y), some (.inl q), some (.inl j38), some (.inl v43), some (.inl k136), some (.inl k137)]) (st' := [.inl (av_or j38 (0))]) (h' := h11) rfl ?_
                          have g152 : av_or j38 (0) = j38 + (0) := or_p2 (by omega) (by omega)
                          generalize av_or j38 (0) = v151 at g152 ⊢
                          refine av_wp_sqF ck_205 1 (pc' := 182) (lv' := [some (.inr (.inr (.inl (some (77))))), some (.inl x), some (.inl l), some (.inl y), some (.inl q), some (.inl v151), some (.inl v43), some (.inl k136), some (.inl k137)]) (st' := []) (h' := h11) rfl ?_
                          exact J56 (v151) (some (.inl k136)) (some (.inl k137)) (by omega) rfl rfl (by have x7 : k136 = (eav (U (Int.toNat x)) (ro (Int.toNat l)) (arr (U (Int.toNat x)) (ro (Int.toNat l)) (bxx U S (ro (Int.toNat l)) (Int.toNat x)) y) (S (Int.toNat x)) (Int.toNat v43) (S (Int.toNat x))).2.2 := DC2_v (RX.2.1 (Int.toNat x) (Int.toNat l) (by omega) (by omega)).1 (show HBd (S (Int.toNat x)) (arr (U (Int.toNat x)) (ro (Int.toNat l)) (bxx U S (ro (Int.toNat l)) (Int.toNat x)) y) from (HBd_arr (RX.2.1 (Int.toNat x) (Int.toNat l) (by omega) (by omega)) (by omega) (by have := cbv_d (U (Int.toNat x)) (S (Int.toNat x)); omega))) (fun k hk => arr_2) (by omega) (by rw [y117]; omega) y125 rfl (by omega) (by have z := g142; rw [show k137 = ((Int.toNat v43 : Nat) : Int) by omega] at z; exact z); exact ⟨j38, 0, g40, Or.inr ⟨rfl, by unfold DC2; rw [y47]; omega⟩, by omega⟩)
                        · have c150 : k136 = q := c150
                          refine av_wp_sqF ck_205 2 (pc' := 179) (lv' := [some (.inr (.inr (.inl (some (77))))), some (.inl x), some (.inl l), some (.inl y), some (.inl q), some (.inl j38), some (.inl v43), some (.inl k136), some (.inl k137)]) (st' := [.inl (2), .inl j38]) (h' := h11) rfl ?_
                          refine av_wp_sqF ck_205 1 (pc' := 180) (lv' := [some (.inr (.inr (.inl (some (77))))), some (.inl x), some (.inl l), some (.inl y), some (.inl q), some (.inl j38), some (.inl v43), some (.inl k136), some (.inl k137)]) (st' := [.inl (av_or j38 (2))]) (h' := h11) rfl ?_
                          have g154 : av_or j38 (2) = j38 + (2) := or_p2 (by omega) (by omega)
                          generalize av_or j38 (2) = v153 at g154 ⊢
                          refine av_wp_sqF ck_205 1 (pc' := 182) (lv' := [some (.inr (.inr (.inl (some (77))))), some (.inl x), some (.inl l), some (.inl y), some (.inl q), some (.inl v153), some (.inl v43), some (.inl k136), some (.inl k137)]) (st' := []) (h' := h11) rfl ?_
                          exact J56 (v153) (some (.inl k136)) (some (.inl k137)) (by omega) rfl rfl (by have x7 : k136 = (eav (U (Int.toNat x)) (ro (Int.toNat l)) (arr (U (Int.toNat x)) (ro (Int.toNat l)) (bxx U S (ro (Int.toNat l)) (Int.toNat x)) y) (S (Int.toNat x)) (Int.toNat v43) (S (Int.toNat x))).2.2 := DC2_v (RX.2.1 (Int.toNat x) (Int.toNat l) (by omega) (by omega)).1 (show HBd (S (Int.toNat x)) (arr (U (Int.toNat x)) (ro (Int.toNat l)) (bxx U S (ro (Int.toNat l)) (Int.toNat x)) y) from (HBd_arr (RX.2.1 (Int.toNat x) (Int.toNat l) (by omega) (by omega)) (by omega) (by have := cbv_d (U (Int.toNat x)) (S (Int.toNat x)); omega))) (fun k hk => arr_2) (by omega) (by rw [y117]; omega) y125 rfl (by omega) (by have z := g142; rw [show k137 = ((Int.toNat v43 : Nat) : Int) by omega] at z; exact z); exact ⟨j38, 2, g40, Or.inl ⟨rfl, by unfold DC2; rw [y47]; omega⟩, by omega⟩)
                      · have c148 : v43 < k137 := c148
                        refine av_wp_sqF ck_205 1 (pc' := 116) (lv' := [some (.inr (.inr (.inl (some (77))))), some (.inl x), some (.inl l), some (.inl y), some (.inl q), some (.inl j38), some (.inl v43), some (.inl k136), some (.inl k137)]) (st' := [.inr (.inr (.inl (some (77))))]) (h' := h11) rfl ?_
                        refine wq_gr (p' := 119) (ck_205 _ _ rfl) rfl (congrArg Prod.fst (ly_k I21.1.1.1 77 rfl)) rfl (ly_g I21.1.1.1 77 49 115 rfl) ?_
                        refine av_wp_sqF ck_205 1 (pc' := 121) (lv' := [some (.inr (.inr (.inl (some (77))))), some (.inl x), some (.inl l), some (.inl y), some (.inl q), some (.inl j38), some (.inl v43), some (.inl k136), some (.inl k137)]) (st' := [.inl v43, .inr (.inr (.inl (some (115))))]) (h' := h11) rfl ?_
                        obtain ⟨v155, e156⟩ : ∃ v, hA h11 115 (Int.toNat (v43)) = v := ⟨_, rfl⟩
                        have y159 : v155 = v129 := e156.symm.trans e130
                        refine wq_al (p' := 122) (n := 12) (ck_205 _ _ rfl) rfl (ly_k I21.1.1.1 115 rfl) (by omega) (e156) ?_
                        refine av_wp_sqF ck_205 1 (pc' := 123) (lv' := [some (.inr (.inr (.inl (some (77))))), some (.inl x), some (.inl l), some (.inl y), some (.inl q), some (.inl j38), some (.inl v43), some (.inl k136), some (.inl k137)]) (st' := [.inl (1), .inl v155]) (h' := h11) rfl ?_
                        refine wq_k2 (p' := 126) (ck_205 _ _ rfl) rfl ⟨by omega, by omega⟩ ⟨by omega, by omega⟩ (fun c160 => ?_) (fun c161 => ?_)
                        · have c160 : v155 ≠ (1) := c160
                          refine av_wp_sqF ck_205 3 (pc' := 142) (lv' := [some (.inr (.inr (.inl (some (77))))), some (.inl x), some (.inl l), some (.inl y), some (.inl q), some (.inl j38), some (.inl v43), some (.inl k136), some (.inl k137)]) (st' := [.inl v43, .inl k137, .inr (.inr (.inl (some (77))))]) (h' := h11) rfl ?_
                          refine wq_cv (p' := 145) (av_qc (.invokevirtual 378) 172 2 0 8) 3 cd_172 [.inl v43, .inl k137] (77) 8 [some (.inr (.inr (.inl (some (77))))), some (.inl k137), some (.inl v43)] (ck_205 _ _ rfl) rfl rfl pp_172 rfl rfl rfl (congrArg Prod.fst (ly_k I21.1.1.1 77 rfl)) rfl rfl rfl rfl ?_
                          refine cx_172 I21 F22 e15 L20 (RX.2.1 (Int.toNat x) (Int.toNat l) (by omega) (by omega)).1 (RX.2.1 (Int.toNat x) (Int.toNat l) (by omega) (by omega)).2.1 (HBd_arr (RX.2.1 (Int.toNat x) (Int.toNat l) (by omega) (by omega)) (by omega) (by have := cbv_d (U (Int.toNat x)) (S (Int.toNat x)); omega)) (k137) (by omega) (v43) (by omega) (fun v162 p163 => ?_)
                          have g164 := nov_r (u := (U (Int.toNat x))) (ro := (ro (Int.toNat l))) (show HBd (S (Int.toNat x)) (arr (U (Int.toNat x)) (ro (Int.toNat l)) (bxx U S (ro (Int.toNat l)) (Int.toNat x)) y) from (HBd_arr (RX.2.1 (Int.toNat x) (Int.toNat l) (by omega) (by omega)) (by omega) (by have := cbv_d (U (Int.toNat x)) (S (Int.toNat x)); omega))) (k := Int.toNat k137) (by omega) (v43)
                          rw [← p163] at g164
                          show av_wp _ cd_205 145 [some (.inr (.inr (.inl (some (77))))), some (.inl x), some (.inl l), some (.inl y), some (.inl q), some (.inl j38), some (.inl v43), some (.inl k136), some (.inl k137)] [.inl v162] h11 _
                          refine av_wp_sqF ck_205 1 (pc' := 146) (lv' := [some (.inr (.inr (.inl (some (77))))), some (.inl x), some (.inl l), some (.inl y), some (.inl q), some (.inl j38), some (.inl v43), some (.inl k136), some (.inl k137)]) (st' := [.inr (.inr (.inl (some (77)))), .inl v162]) (h' := h11) rfl ?_
                          refine wq_gr (p' := 149) (ck_205 _ _ rfl) rfl (congrArg Prod.fst (ly_k I21.1.1.1 77 rfl)) rfl (ly_g I21.1.1.1 77 48 114 rfl) ?_
                          refine av_wp_sqF ck_205 1 (pc' := 151) (lv' := [some (.inr (.inr (.inl (some (77))))), some (.inl x), some (.inl l), some (.inl y), some (.inl q), some (.inl j38), some (.inl v43), some (.inl k136), some (.inl k137)]) (st' := [.inl v43, .inr (.inr (.inl (some (114)))), .inl v162]) (h' := h11) rfl ?_
                          obtain ⟨v165, e166⟩ : ∃ v, hA h11 114 (Int.toNat (v43)) = v := ⟨_, rfl⟩
                          have y169 : (eav (U (Int.toNat x)) (ro (Int.toNat l)) (arr (U (Int.toNat x)) (ro (Int.toNat l)) (bxx U S (ro (Int.toNat l)) (Int.toNat x)) y) (S (Int.toNat x)) (Int.toNat v43) (S (Int.toNat x))).1 = v165 := (end_eq (RX.2.1 (Int.toNat x) (Int.toNat l) (by omega) (by omega)).1 (RX.2.1 (Int.toNat x) (Int.toNat l) (by omega) (by omega)).2.1 (show HBd (S (Int.toNat x)) (arr (U (Int.toNat x)) (ro (Int.toNat l)) (bxx U S (ro (Int.toNat l)) (Int.toNat x)) y) from (HBd_arr (RX.2.1 (Int.toNat x) (Int.toNat l) (by omega) (by omega)) (by omega) (by have := cbv_d (U (Int.toNat x)) (S (Int.toNat x)); omega))) (fun k hk => arr_2) (o := (Int.toNat v43)) (by omega) (by rw [y117]; omega)).1.symm.trans ((congrArg Prod.fst (O18 (Int.toNat v43) (by omega) (by rw [y117]; omega)).2).symm.trans e166)
                          have g170 := eav_r (show HBd (S (Int.toNat x)) (arr (U (Int.toNat x)) (ro (Int.toNat l)) (bxx U S (ro (Int.toNat l)) (Int.toNat x)) y) from (HBd_arr (RX.2.1 (Int.toNat x) (Int.toNat l) (by omega) (by omega)) (by omega) (by have := cbv_d (U (Int.toNat x)) (S (Int.toNat x)); omega))) (RX.2.1 (Int.toNat x) (Int.toNat l) (by omega) (by omega)).2.2.1 (RX.2.1 (Int.toNat x) (Int.toNat l) (by omega) (by omega)).2.2.2.1 (RX.2.1 (Int.toNat x) (Int.toNat l) (by omega) (by omega)).2.2.2.2.1 (RX.2.1 (Int.toNat x) (Int.toNat l) (by omega) (by omega)).2.2.2.2.2.2 (q := (Int.toNat v43)) (by omega) (S (Int.toNat x)) (Nat.le_refl _)
                          have g170a := g170.1
                          have g170b := g170.2.1
                          rw [y169] at g170a
                          clear g170
                          refine wq_al (p' := 152) (n := 12) (ck_205 _ _ rfl) rfl (ly_k I21.1.1.1 114 rfl) (by omega) (e166) ?_
                          refine wq_k2 (p' := 155) (ck_205 _ _ rfl) rfl ⟨by omega, by omega⟩ ⟨by omega, by omega⟩ (fun c171 => ?_) (fun c172 => ?_)
                          · have c171 : v162 ≠ v165 := c171
                            refine av_wp_sqF ck_205 2 (pc' := 108) (lv' := [some (.inr (.inr (.inl (some (77))))), some (.inl x), some (.inl l), some (.inl y), some (.inl q), some (.inl j38), some (.inl v43), some (.inl k136), some (.inl (k137 + (-1)))]) (st' := []) (h' := h11) rfl ?_
                            exact I140 _ (by omega) (k136) ((k137 + (-1))) (show LIX _ _ _ _ (k137 - 1) _ from LIX_n g142 (by omega) (by rw [(show gwh (U (Int.toNat x)) (ro (Int.toNat l)) (arr (U (Int.toNat x)) (ro (Int.toNat l)) (bxx U S (ro (Int.toNat l)) (Int.toNat x)) y) v121 (Int.toNat v43) (Int.toNat k137) = v162 by unfold gwh; rw [if_neg (by omega), show ((Int.toNat v43 : Nat) : Int) = v43 by omega]; exact p163.symm), y169]; omega)) (by omega) (by omega) (by omega) (by omega) rfl
                          · have c172 : v162 = v165 := c172
                            refine av_wp_sqF ck_205 4 (pc' := 108) (lv' := [some (.inr (.inr (.inl (some (77))))), some (.inl x), some (.inl l), some (.inl y), some (.inl q), some (.inl j38), some (.inl v43), some (.inl k137), some (.inl (k137 + (-1)))]) (st' := []) (h' := h11) rfl ?_
                            exact I140 _ (by omega) (k137) ((k137 + (-1))) (show LIX _ _ _ _ (k137 - 1) _ from LIX_y g142 (by omega) ((show gwh (U (Int.toNat x)) (ro (Int.toNat l)) (arr (U (Int.toNat x)) (ro (Int.toNat l)) (bxx U S (ro (Int.toNat l)) (Int.toNat x)) y) v121 (Int.toNat v43) (Int.toNat k137) = v162 by unfold gwh; rw [if_neg (by omega), show ((Int.toNat v43 : Nat) : Int) = v43 by omega]; exact p163.symm).trans (by rw [y169]; omega))) (by omega) (by omega) (by omega) (by omega) rfl
                        · have c161 : v155 = (1) := c161
                          refine av_wp_sqF ck_205 3 (pc' := 131) (lv' := [some (.inr (.inr (.inl (some (77))))), some (.inl x), some (.inl l), some (.inl y), some (.inl q), some (.inl j38), some (.inl v43), some (.inl k136), some (.inl k137)]) (st' := [.inl v43, .inl k137, .inr (.inr (.inl (some (77))))]) (h' := h11) rfl ?_
                          refine wq_cv (p' := 134) (av_qc (.invokevirtual 372) 171 2 0 8) 4 cd_171 [.inl v43, .inl k137] (77) 8 [some (.inr (.inr (.inl (some (77))))), some (.inl k137), some (.inl v43), none] (ck_205 _ _ rfl) rfl rfl pp_171 rfl rfl rfl (congrArg Prod.fst (ly_k I21.1.1.1 77 rfl)) rfl rfl rfl rfl ?_
                          refine cx_171 I21 F22 e15 L20 (RX.2.1 (Int.toNat x) (Int.toNat l) (by omega) (by omega)).1 (RX.2.1 (Int.toNat x) (Int.toNat l) (by omega) (by omega)).2.1 (HBd_arr (RX.2.1 (Int.toNat x) (Int.toNat l) (by omega) (by omega)) (by omega) (by have := cbv_d (U (Int.toNat x)) (S (Int.toNat x)); omega)) (k137) (by omega) (v43) (by omega) (fun v173 p174 => ?_)
                          have g175 := bkv_r (u := (U (Int.toNat x))) (ro := (ro (Int.toNat l))) (show HBd (S (Int.toNat x)) (arr (U (Int.toNat x)) (ro (Int.toNat l)) (bxx U S (ro (Int.toNat l)) (Int.toNat x)) y) from (HBd_arr (RX.2.1 (Int.toNat x) (Int.toNat l) (by omega) (by omega)) (by omega) (by have := cbv_d (U (Int.toNat x)) (S (Int.toNat x)); omega))) (k := Int.toNat k137) (by omega) (v43)
                          rw [← p174] at g175
                          show av_wp _ cd_205 134 [some (.inr (.inr (.inl (some (77))))), some (.inl x), some (.inl l), some (.inl y), some (.inl q), some (.inl j38), some (.inl v43), some (.inl k136), some (.inl k137)] [.inl v173] h11 _
                          refine av_wp_sqF ck_205 2 (pc' := 146) (lv' := [some (.inr (.inr (.inl (some (77))))), some (.inl x), some (.inl l), some (.inl y), some (.inl q), some (.inl j38), some (.inl v43), some (.inl k136), some (.inl k137)]) (st' := [.inr (.inr (.inl (some (77)))), .inl v173]) (h' := h11) rfl ?_
                          refine wq_gr (p' := 149) (ck_205 _ _ rfl) rfl (congrArg Prod.fst (ly_k I21.1.1.1 77 rfl)) rfl (ly_g I21.1.1.1 77 48 114 rfl) ?_
                          refine av_wp_sqF ck_205 1 (pc' := 151) (lv' := [some (.inr (.inr (.inl (some (77))))), some (.inl x), some (.inl l), some (.inl y), some (.inl q), some (.inl j38), some (.inl v43), some (.inl k136), some (.inl k137)]) (st' := [.inl v43, .inr (.inr (.inl (some (114)))), .inl v173]) (h' := h11) rfl ?_
                          obtain ⟨v176, e177⟩ : ∃ v, hA h11 114 (Int.toNat (v43)) = v := ⟨_, rfl⟩
                          have y180 : (eav (U (Int.toNat x)) (ro (Int.toNat l)) (arr (U (Int.toNat x)) (ro (Int.toNat l)) (bxx U S (ro (Int.toNat l)) (Int.toNat x)) y) (S (Int.toNat x)) (Int.toNat v43) (S (Int.toNat x))).1 = v176 := (end_eq (RX.2.1 (Int.toNat x) (Int.toNat l) (by omega) (by omega)).1 (RX.2.1 (Int.toNat x) (Int.toNat l) (by omega) (by omega)).2.1 (show HBd (S (Int.toNat x)) (arr (U (Int.toNat x)) (ro (Int.toNat l)) (bxx U S (ro (Int.toNat l)) (Int.toNat x)) y) from (HBd_arr (RX.2.1 (Int.toNat x) (Int.toNat l) (by omega) (by omega)) (by omega) (by have := cbv_d (U (Int.toNat x)) (S (Int.toNat x)); omega))) (fun k hk => arr_2) (o := (Int.toNat v43)) (by omega) (by rw [y117]; omega)).1.symm.trans ((congrArg Prod.fst (O18 (Int.toNat v43) (by omega) (by rw [y117]; omega)).2).symm.trans e177)
                          have g181 := eav_r (show HBd (S (Int.toNat x)) (arr (U (Int.toNat x)) (ro (Int.toNat l)) (bxx U S (ro (Int.toNat l)) (Int.toNat x)) y) from (HBd_arr (RX.2.1 (Int.toNat x) (Int.toNat l) (by omega) (by omega)) (by omega) (by have := cbv_d (U (Int.toNat x)) (S (Int.toNat x)); omega))) (RX.2.1 (Int.toNat x) (Int.toNat l) (by omega) (by omega)).2.2.1 (RX.2.1 (Int.toNat x) (Int.toNat l) (by omega) (by omega)).2.2.2.1 (RX.2.1 (Int.toNat x) (Int.toNat l) (by omega) (by omega)).2.2.2.2.1 (RX.2.1 (Int.toNat x) (Int.toNat l) (by omega) (by omega)).2.2.2.2.2.2 (q := (Int.toNat v43)) (by omega) (S (Int.toNat x)) (Nat.le_refl _)
                          have g181a := g181.1
                          have g181b := g181.2.1
                          rw [y180] at g181a
                          clear g181
                          refine wq_al (p' := 152) (n := 12) (ck_205 _ _ rfl) rfl (ly_k I21.1.1.1 114 rfl) (by omega) (e177) ?_
                          refine wq_k2 (p' := 155) (ck_205 _ _ rfl) rfl ⟨by omega, by omega⟩ ⟨by omega, by omega⟩ (fun c182 => ?_) (fun c183 => ?_)
                          · have c182 : v173 ≠ v176 := c182
                            refine av_wp_sqF ck_205 2 (pc' := 108) (lv' := [some (.inr (.inr (.inl (some (77))))), some (.inl x), some (.inl l), some (.inl y), some (.inl q), some (.inl j38), some (.inl v43), some (.inl k136), some (.inl (k137 + (-1)))]) (st' := []) (h' := h11) rfl ?_
                            exact I140 _ (by omega) (k136) ((k137 + (-1))) (show LIX _ _ _ _ (k137 - 1) _ from LIX_n g142 (by omega) (by rw [(show gwh (U (Int.toNat x)) (ro (Int.toNat l)) (arr (U (Int.toNat x)) (ro (Int.toNat l)) (bxx U S (ro (Int.toNat l)) (Int.toNat x)) y) v121 (Int.toNat v43) (Int.toNat k137) = v173 by unfold gwh; rw [if_pos (by omega), show ((Int.toNat v43 : Nat) : Int) = v43 by omega]; exact p174.symm), y180]; omega)) (by omega) (by omega) (by omega) (by omega) rfl
                          · have c183 : v173 = v176 := c183
                            refine av_wp_sqF ck_205 4 (pc' := 108) (lv' := [some (.inr (.inr (.inl (some (77))))), some (.inl x), some (.inl l), some (.inl y), some (.inl q), some (.inl j38), some (.inl v43), some (.inl k137), some (.inl (k137 + (-1)))]) (st' := []) (h' := h11) rfl ?_
                            exact I140 _ (by omega) (k137) ((k137 + (-1))) (show LIX _ _ _ _ (k137 - 1) _ from LIX_y g142 (by omega) ((show gwh (U (Int.toNat x)) (ro (Int.toNat l)) (arr (U (Int.toNat x)) (ro (Int.toNat l)) (bxx U S (ro (Int.toNat l)) (Int.toNat x)) y) v121 (Int.toNat v43) (Int.toNat k137) = v173 by unfold gwh; rw [if_pos (by omega), show ((Int.toNat v43 : Nat) : Int) = v43 by omega]; exact p174.symm).trans (by rw [y180]; omega))) (by omega) (by omega) (by omega) (by omega) rfl
                  exact L139 _ ((-1)) ((n8 - (1))) (by have z := LIX_0 (g := (gwh (U (Int.toNat x)) (ro (Int.toNat l)) (arr (U (Int.toNat x)) (ro (Int.toNat l)) (bxx U S (ro (Int.toNat l)) (Int.toNat x)) y) v121 (Int.toNat v43))) (e := (eav (U (Int.toNat x)) (ro (Int.toNat l)) (arr (U (Int.toNat x)) (ro (Int.toNat l)) (bxx U S (ro (Int.toNat l)) (Int.toNat x)) y) (S (Int.toNat x)) (Int.toNat v43) (S (Int.toNat x))).1) (q := Int.toNat v43) (s := (S (Int.toNat x))); rw [show (S (Int.toNat x) : Int) - 1 = (n8 - (1)) by omega] at z; exact z) (by omega) (by omega) (by omega) (by omega) rfl
        refine wq_k1 (p' := 36) (ck_205 _ _ rfl) rfl ⟨by omega, by omega⟩ (fun c184 => ?_) (fun c185 => ?_)
        · have c184 : v34 = (0) := c184
          refine av_wp_sqF ck_205 1 (pc' := 51) (lv' := [some (.inr (.inr (.inl (some (77))))), some (.inl x), some (.inl l), some (.inl y), some (.inl q), none, none, none, none]) (st' := [.inl (0)]) (h' := h11) rfl ?_
          exact J41 ((0)) (by omega) (Or.inr ⟨rfl, fun z => z (by unfold o5; rw [if_neg (fun y => y.1 (by omega))])⟩)
        · have c185 : v34 ≠ (0) := c185
          refine av_wp_sqF ck_205 1 (pc' := 37) (lv' := [some (.inr (.inr (.inl (some (77))))), some (.inl x), some (.inl l), some (.inl y), some (.inl q), none, none, none, none]) (st' := [.inr (.inr (.inl (some (77))))]) (h' := h11) rfl ?_
          refine wq_gr (p' := 40) (ck_205 _ _ rfl) rfl (congrArg Prod.fst (ly_k I21.1.1.1 77 rfl)) rfl (ly_g I21.1.1.1 77 47 113 rfl) ?_
          refine av_wp_sqF ck_205 1 (pc' := 42) (lv' := [some (.inr (.inr (.inl (some (77))))), some (.inl x), some (.inl l), some (.inl y), some (.inl q), none, none, none, none]) (st' := [.inl q, .inr (.inr (.inl (some (113))))]) (h' := h11) rfl ?_
          obtain ⟨v186, e187⟩ : ∃ v, hA h11 113 (Int.toNat (q)) = v := ⟨_, rfl⟩
          have y190 : o5 (ro (Int.toNat l)) (arr (U (Int.toNat x)) (ro (Int.toNat l)) (bxx U S (ro (Int.toNat l)) (Int.toNat x)) y) (Int.toNat q) = v186 := (O18 (Int.toNat q) (by omega) (by rw [y36]; omega)).1.symm.trans e187
          have g191 := o5_r (ro := (ro (Int.toNat l))) (show HBd (S (Int.toNat x)) (arr (U (Int.toNat x)) (ro (Int.toNat l)) (bxx U S (ro (Int.toNat l)) (Int.toNat x)) y) from (HBd_arr (RX.2.1 (Int.toNat x) (Int.toNat l) (by omega) (by omega)) (by omega) (by have := cbv_d (U (Int.toNat x)) (S (Int.toNat x)); omega))) (q := (Int.toNat q)) (by omega)
          rw [y190] at g191
          refine wq_al (p' := 43) (n := 12) (ck_205 _ _ rfl) rfl (ly_k I21.1.1.1 113 rfl) (by omega) (e187) ?_
          refine wq_k1 (p' := 46) (ck_205 _ _ rfl) rfl ⟨by omega, by omega⟩ (fun c192 => ?_) (fun c193 => ?_)
          · have c192 : v186 < (0) := c192
            refine av_wp_sqF ck_205 1 (pc' := 51) (lv' := [some (.inr (.inr (.inl (some (77))))), some (.inl x), some (.inl l), some (.inl y), some (.inl q), none, none, none, none]) (st' := [.inl (0)]) (h' := h11) rfl ?_
            exact J41 ((0)) (by omega) (Or.inr ⟨rfl, by omega⟩)
          · have c193 : (0) ≤ v186 := c193
            refine av_wp_sqF ck_205 2 (pc' := 51) (lv' := [some (.inr (.inr (.inl (some (77))))), some (.inl x), some (.inl l), some (.inl y), some (.inl q), none, none, none, none]) (st' := [.inl (1)]) (h' := h11) rfl ?_
            exact J41 ((1)) (by omega) (Or.inl ⟨rfl, by omega⟩)
      · have c33 : n8 ≤ q := c33
        refine av_wp_sqF ck_205 1 (pc' := 26) (lv' := [some (.inr (.inr (.inl (some (77))))), some (.inl x), some (.inl l), some (.inl y), some (.inl q), none, none, none, none]) (st' := [.inl (-2)]) (h' := h11) rfl ?_
        refine av_wp_ret (v := some (.inl (-2))) (ck_205 _ _ rfl) rfl rfl ?_
        exact hq _ _ _ _ h11 (Or.inr ⟨by unfold okx; omega, rfl⟩) I21 F22
end
section
/-! A CASE WITH A SAYING LOST, OR WIRED -/
/-- the cells of a changed case: A below, behind them anything told -/
def CHG (A : Nat → Int) (s : Nat) (u : Nat → Int) : Prop := ∃ f, u = ctn f s ∧ (∀ j, j < 21 * s → f j = A j) ∧ ∀ j, 21 * s ≤ j → f j = 0 ∨ f j = A j
theorem CHG_o {A u : Nat → Int} {s : Nat} (x : CHG A s u) {q o : Nat} (hq : q < s) (ho : o < 20) : u (21 * q + o) = A (21 * q + o) := by
  obtain ⟨f, e, f1, _⟩ := x
  rw [e, ctn_o (by omega)]
  exact f1 _ (by omega)
theorem CHG_t {A u : Nat → Int} {s : Nat} (x : CHG A s u) : ∀ q, q < s → u (21 * q + 20) = tnv u q := fun q hq => by
  obtain ⟨f, e, _⟩ := x
  rw [e]
  exact ctn_t hq
theorem CHG_2 {A u : Nat → Int} {s : Nat} (x : CHG A s u) (h : ∀ j, A j ≤ 2000 ∨ j % 21 = 20) : ∀ j, u j ≤ 2000 ∨ j % 21 = 20 := fun j => by
  obtain ⟨f, e, f1, f2⟩ := x
  by_cases c : j % 21 = 20
  · exact Or.inr c
  · rw [e, ctn_o c]
    by_cases d : j < 21 * s
    · rw [f1 j d]
      exact h j
    · rcases f2 j (by omega) with z | z
      · rw [z]
        exact Or.inl (by omega)
      · rw [z]
        exact h j
/-- a saying lost for sure -/
def lsx (u : Nat → Int) (k : Nat) : Nat → Int := fun j => if j = 21 * k + 18 then 0 else if j = 21 * k + 19 then 1 else u j
/-- a saying by wire -/
def wix (u : Nat → Int) (k : Nat) : Nat → Int := fun j => if j = 21 * k + 4 then 1 else if j = 21 * k + 8 ∨ j = 21 * k + 9 ∨ (21 * k + 16 ≤ j ∧ j < 21 * k + 19) then 0 else u j
/-- the hours of a case's cells -/
def CWB (u : Nat → Int) (s : Nat) : Prop := ∀ k, k < s → (0 ≤ u (21 * k + 7) ∧ u (21 * k + 7) ≤ 1999) ∧ (0 ≤ u (21 * k + 8) ∧ u (21 * k + 8) ≤ 999) ∧ (0 ≤ u (21 * k + 9) ∧ u (21 * k + 9) ≤ 999) ∧ (∀ j, j < 4 → 0 ≤ u (21 * k + 15 + j) ∧ u (21 * k + 15 + j) ≤ 16) ∧ (u (21 * k + 18) = 0 ∨ u (21 * k + 18) = 2) ∧ u (21 * k + 19) = 0
theorem CWB_of {f : Nat → Int} {s : Nat} {ah : Int} (w : ∀ q, q < s → WRW ah q f) : CWB (ctn f s) s := fun k hk => by
  have a := w k hk
  have oc : ∀ o, o < 20 → ctn f s (21 * k + o) = f (k * 21 + o) := fun o ho => by
    rw [ctn_o (by omega), show 21 * k + o = k * 21 + o by omega]
  rw [oc 7 (by omega), oc 8 (by omega), oc 9 (by omega), oc 18 (by omega), oc 19 (by omega)]
  refine ⟨a.2.1 7 (by omega), a.2.1 8 (by omega), a.2.1 9 (by omega), fun j hj => ?_, a.1.2.2.2.2.2, ?_⟩
  · rw [show 21 * k + 15 + j = 21 * k + (15 + j) by omega, oc (15 + j) (by omega)]
    have h := a.2.1 (15 + j) (by omega)
    rcases (show j = 0 ∨ j = 1 ∨ j = 2 ∨ j = 3 by omega) with e | e | e | e <;> subst e
    · exact h
    · exact h
    · exact h
    · have h : (0 : Int) ≤ f (k * 21 + (15 + 3)) ∧ f (k * 21 + (15 + 3)) ≤ 2 := h
      omega
  · have h : (0 : Int) ≤ f (k * 21 + 19) ∧ f (k * 21 + 19) ≤ 0 := a.2.1 19 (by omega)
    omega
section
variable {u : Nat → Int} {s k q o : Nat}
theorem lsx_o (h : ¬ (q = k ∧ (o = 18 ∨ o = 19))) (ho : o < 20) : lsx u k (21 * q + o) = u (21 * q + o) := by
  unfold lsx
  rw [if_neg (by omega), if_neg (by omega)]
theorem wix_o (h : ¬ (q = k ∧ (o = 4 ∨ o = 8 ∨ o = 9 ∨ o = 16 ∨ o = 17 ∨ o = 18))) (ho : o < 20) : wix u k (21 * q + o) = u (21 * q + o) := by
  unfold wix
  rw [if_neg (by omega), if_neg (by omega)]
theorem wix_k : wix u k (21 * k + 4) = 1 ∧ wix u k (21 * k + 8) = 0 ∧ wix u k (21 * k + 9) = 0 ∧ wix u k (21 * k + 16) = 0 ∧ wix u k (21 * k + 17) = 0 ∧ wix u k (21 * k + 18) = 0 := by
  unfold wix
  refine ⟨if_pos rfl, ?_, ?_, ?_, ?_, ?_⟩
  · rw [if_neg (by omega), if_pos (by omega)]
  · rw [if_neg (by omega), if_pos (by omega)]
  · rw [if_neg (by omega), if_pos (by omega)]
  · rw [if_neg (by omega), if_pos (by omega)]
  · rw [if_neg (by omega), if_pos (by omega)]
end
/-- what a changed case keeps -/
def CHK (u A : Nat → Int) (s : Nat) : Prop := (∀ q, q < s → A (21 * q + 0) = u (21 * q + 0) ∧ A (21 * q + 1) = u (21 * q + 1) ∧ A (21 * q + 2) = u (21 * q + 2) ∧ A (21 * q + 3) = u (21 * q + 3) ∧ (0 ≤ A (21 * q + 4) ∧ A (21 * q + 4) ≤ 3) ∧ A (21 * q + 5) = u (21 * q + 5) ∧ A (21 * q + 6) = u (21 * q + 6) ∧ ∀ j, j < 5 → A (21 * q + 10 + j) = u (21 * q + 10 + j)) ∧ (∀ j, A j ≤ 2000 ∨ j % 21 = 20) ∧ (∀ k, k < s → (0 ≤ A (21 * k + 7) ∧ A (21 * k + 7) ≤ 1999) ∧ (0 ≤ A (21 * k + 8) ∧ A (21 * k + 8) ≤ 999) ∧ (0 ≤ A (21 * k + 9) ∧ A (21 * k + 9) ≤ 999) ∧ ∀ j, j < 3 → 0 ≤ A (21 * k + 15 + j) ∧ A (21 * k + 15 + j) ≤ 16)
theorem CHK_l {u : Nat → Int} {s k : Nat} (W1 : UW u s) (W5 : ∀ j, u j ≤ 2000 ∨ j % 21 = 20) (B : CWB u s) : CHK u (lsx u k) s := by
  refine ⟨fun q hq => ?_, fun j => ?_, fun q hq => ?_⟩
  · have w := W1 q hq
    rw [lsx_o (by omega) (by omega), lsx_o (by omega) (by omega), lsx_o (by omega) (by omega), lsx_o (by omega) (by omega), lsx_o (by omega) (by omega), lsx_o (by omega) (by omega), lsx_o (by omega) (by omega)]
    refine ⟨rfl, rfl, rfl, rfl, w.2.2.2.2.1, rfl, rfl, fun j hj => ?_⟩
    rw [show 21 * q + 10 + j = 21 * q + (10 + j) by omega]
    exact lsx_o (by omega) (by omega)
  · have h := W5 j
    unfold lsx
    (repeat' split) <;> omega
  · have b := B q hq
    rw [lsx_o (by omega) (by omega), lsx_o (by omega) (by omega), lsx_o (by omega) (by omega)]
    refine ⟨b.1, b.2.1, b.2.2.1, fun j hj => ?_⟩
    rw [show 21 * q + 15 + j = 21 * q + (15 + j) by omega, lsx_o (by omega) (by omega), show 21 * q + (15 + j) = 21 * q + 15 + j by omega]
    exact b.2.2.2.1 j (by omega)
theorem CHK_w {u : Nat → Int} {s k : Nat} (W1 : UW u s) (W5 : ∀ j, u j ≤ 2000 ∨ j % 21 = 20) (B : CWB u s) : CHK u (wix u k) s := by
  refine ⟨fun q hq => ?_, fun j => ?_, fun q hq => ?_⟩
  · have w := W1 q hq
    rw [wix_o (by omega) (by omega), wix_o (o := 1) (by omega) (by omega), wix_o (o := 2) (by omega) (by omega), wix_o (o := 3) (by omega) (by omega), wix_o (o := 5) (by omega) (by omega), wix_o (o := 6) (by omega) (by omega)]
    refine ⟨rfl, rfl, rfl, rfl, ?_, rfl, rfl, fun j hj => ?_⟩
    · by_cases c : q = k
      · rw [c, wix_k.1]
        omega
      · rw [wix_o (by omega) (by omega)]
        exact w.2.2.2.2.1
    · rw [show 21 * q + 10 + j = 21 * q + (10 + j) by omega]
      exact wix_o (by omega) (by omega)
  · have h := W5 j
    unfold wix
    (repeat' split) <;> omega
  · have b := B q hq
    by_cases c : q = k
    · have z := wix_k (u := u) (k := k)
      rw [c, z.2.1, z.2.2.1, wix_o (o := 7) (by omega) (by omega)]
      rw [c] at b
      refine ⟨b.1, by omega, by omega, fun j hj => ?_⟩
      rcases (show j = 0 ∨ j = 1 ∨ j = 2 by omega) with e | e | e <;> subst e
      · rw [show 21 * k + 15 + 0 = 21 * k + 15 by omega, wix_o (o := 15) (by omega) (by omega)]
        exact b.2.2.2.1 0 (by omega)
      · rw [show 21 * k + 15 + 1 = 21 * k + 16 by omega, z.2.2.2.1]
        omega
      · rw [show 21 * k + 15 + 2 = 21 * k + 17 by omega, z.2.2.2.2.1]
        omega
    · rw [wix_o (by omega) (by omega), wix_o (by omega) (by omega), wix_o (by omega) (by omega)]
      refine ⟨b.1, b.2.1, b.2.2.1, fun j hj => ?_⟩
      rw [show 21 * q + 15 + j = 21 * q + (15 + j) by omega, wix_o (by omega) (by omega), show 21 * q + (15 + j) = 21 * q + 15 + j by omega]
      exact b.2.2.2.1 j (by omega)
section
variable {u A v : Nat → Int} {s i : Nat}
theorem CHG_h (C : CHK u A s) (x : CHG A s v) : ∀ y : Int, 0 ≤ y → y ≤ 1023 → ∀ k, k < s → ∀ j, j < 3 → -1 ≤ hrv v y k j ∧ hrv v y k j ≤ 5000 := fun y y0 _ k hk j hj => by
  have c := C.2.2 k hk
  refine hrv_b y0 hj ?_ ?_ ?_ (fun p hp => ?_)
  · rw [show 21 * k + 7 + 0 = 21 * k + 7 by omega, CHG_o x hk (by omega)]
    exact c.1
  · rw [show 21 * k + 7 + 1 = 21 * k + 8 by omega, CHG_o x hk (by omega)]
    exact c.2.1
  · rw [show 21 * k + 7 + 2 = 21 * k + 9 by omega, CHG_o x hk (by omega)]
    exact c.2.2.1
  · rw [show 21 * k + 15 + p = 21 * k + (15 + p) by omega, CHG_o x hk (by omega), show 21 * k + (15 + p) = 21 * k + 15 + p by omega]
    exact (c.2.2.2 p hp).2
theorem CHG_sea {ro bar : Nat → Int} (C : CHK u A s) (x : CHG A s v) (hb : ∀ k, 0 ≤ bar k ∧ bar k ≤ 1) (r8 : -1 ≤ ro 8) : SEA v ro bar s := ⟨CHG_t x, hb, CHG_2 x C.2.1, CHG_h C x, r8⟩
end
theorem CRT_c {U : Nat → Nat → Int} {S : Nat → Nat} {n L : Int} {ro ro' : Nat → Nat → Int} (x : CRT U S n L ro) (hL : L ≤ 8) (e : ∀ l, l < 8 → ro' l = ro l) : CRT U S n L ro' := ⟨x.1, x.2.1, x.2.2.1, fun l h0 hl => by
  rw [e l.toNat (by omega)]
  exact x.2.2.2 l h0 hl⟩
theorem CF0_al {g h : av_H} {n m : Nat} (G : av_Gd g) (L : LY g) (A : AL g h n m) : CF0 g h := CF0_fq G L nun_low (FQ_al A) ⟨fun z => z, fun z => z, fun z => z, fun z => z⟩ ⟨fun z => z, fun z => z⟩ (fun q _ _ z => z)
theorem CJ_al {U : Nat → Nat → Int} {S : Nat → Nat} {n : Int} {sr nd : Nat → Int} {g h : av_H} {a b : Nat} (G : av_Gd g) (C : CJ U S n sr nd g) (A : AL g h a b) : CJ U S n sr nd h := by
  have L := C.1.1
  have l : ∀ {q : Nat}, q < 122 → q < g.1 := fun hq => ly_lt G L hq
  obtain ⟨c1, ⟨x1, x2, x3⟩, c3, c4⟩ := C
  refine ⟨IC_al G c1 A, ⟨(congrFun (A.2.2 3 (l (by omega))).2.2.1 3).trans x1, x2, fun i hi => ?_⟩, (A.2.2 27 (l (by omega))).2.1.trans c3, (A.2.2 28 (l (by omega))).2.1.trans c4⟩
  obtain ⟨t, c, y1, y2, y3⟩ := x3 i hi
  have cl : c < g.1 := gd_lt G y2.2.2.2.2.2.2.1 (by decide)
  exact ⟨t, c, by rw [(A.2.2 4 (l (by omega))).2.2.2.2]; exact y1, CO_fb G L y2 (AL_fb A), (A.2.2 c cl).2.1.trans y3⟩
/-- how many combos of the changed case have a bargain; -2: there are too many -/
noncomputable def lcv (u ro bar : Nat → Int) (s : Nat) : Int := if cbv u s = -1 then -2 else ta (fun q => (bgn u ro bar s q).2.2) (Int.toNat (cbv u s)) 0
/-- what a look at a changed case answers -/
def RSC (ok : Prop) (A : Nat → Int) (s : Nat) (V : (Nat → Int) → Int) (v : Int) : Prop := (¬ ok ∧ v = -2) ∨ (ok ∧ ∃ u, CHG A s u ∧ v = V u)
theorem AL_0 (h : av_H) : AL h h 0 0 := ⟨rfl, rfl, fun q _ => ⟨rfl, rfl, rfl, rfl, rfl⟩⟩
section
variable {sc : av_Sr} {cd : List (Nat × av_E)} {Q : Option av_V → av_H → Prop} {pc p' : Nat} {lv : av_L} {r' : List av_V} {g h : av_H} {n a m : Int}
end
end
section
/-! LOST, WIRED, exactly: the class makes the changed case -/
set_option maxRecDepth 100000 in
set_option maxHeartbeats 4000000 in
theorem ct_32x {h : av_H} (L : LY h) {t c s : Nat} {cb : Int} (o : CO h t c s cb) (k : Int) (kr : 0 ≤ k ∧ k < (s : Int)) {Q : Option av_V → av_H → Prop} (hq : ∀ h' t' c' u', AL h h' 3 (4 + 42 * s) → CO h' t' c' s (cbv u' s) → hA h' c' = u' → CHG (lsx (hA h c) (Int.toNat k)) s u' → Q (some (.inr (.inr (.inl (some t'))))) h') : av_wp none cd_32 0 [some (.inr (.inr (.inl (some (t))))), some (.inl k), none] [] h Q := by
  refine gd_of (fun hg => ?_)
  have l122 : 121 < h.1 := ly_lt hg L (by omega)
  have s12 := co_s12 o
  have tl : t < h.1 := gd_lt hg (co_kt o) (by decide)
  have fin : ∀ (g : av_H), MH h g s → hA g h.1 = lsx (hA h c) (Int.toNat k) → av_wp none cd_32 41 [some (.inr (.inr (.inl (some (t))))), some (.inl k), some (.inr (.inr (.inl (some h.1))))] [] g Q := by
    intro g M eA
    refine av_wp_sqF ck_32 4 (pc' := 47) (lv' := [some (.inr (.inr (.inl (some (t))))), some (.inl k), some (.inr (.inr (.inl (some h.1))))]) (st' := [.inr (.inr (.inl (some (t)))), .inr (.inr (.inl (some h.1))), .inr (.inr (.inl (some g.1))), .inr (.inr (.inl (some g.1)))]) (h' := av_newO 1 4 g) rfl ?_
    have om := CO_fb hg L o (AL_fb M.1)
    have h1 : g.1 = h.1 + 1 := M.1.1
    have kq : ∀ q, q ≠ g.1 → hK (av_newO 1 4 g) q = hK g q := fun q hq => if_neg hq
    have fq : hF (av_newO 1 4 g) t 1 = (s : Int) := by
      show av_u1 g.2.2.2.2.1 g.1 (fun _ => 0) t 1 = _
      rw [show av_u1 g.2.2.2.2.1 g.1 (fun _ => 0) t = g.2.2.2.2.1 t from if_neg (by omega)]
      exact co_s om
    refine wq_gi (p' := 50) (ck_32 _ _ rfl) rfl (congrArg Prod.fst ((kq t (by omega)).trans (co_kt om))) rfl fq ?_
    refine wq_cv (p' := 53) (av_qc (.invokespecial 52) 27 2 1 1) 9 cd_27 [.inl (s : Int), .inr (.inr (.inl (some h.1)))] (g.1) 1 [some (.inr (.inr (.inl (some g.1)))), some (.inr (.inr (.inl (some h.1)))), some (.inl (s : Int)), none, none, none, none, none, none] (ck_32 _ _ rfl) rfl rfl pp_27 rfl rfl rfl (congrArg Prod.fst (show hK (av_newO 1 4 g) g.1 = (1, 0) from if_pos rfl)) rfl rfl rfl rfl ?_
    refine ct_27 (n := 21 * s) (s := s) (show hK (av_newO 1 4 g) g.1 = (1, 0) from if_pos rfl) (by show g.1 ≠ g.1 + 1; omega) (by show h.1 ≠ g.1 + 1; omega) ((kq h.1 (by omega)).trans M.2.1) s12 (by omega) (by omega) (fun j hj => ⟨(M.2.2.1 j).1, (M.2.2.1 j).2, fun z1 z2 => ?_⟩) _ rfl (fun f h5 f1 f2 N5 => ?_)
    · have y := M.2.2.2 (j / 21) (j % 21 - 15) (by omega)
      rw [show 21 * (j / 21) + 15 + (j % 21 - 15) = j by omega] at y
      exact y
    · show av_wp _ cd_32 53 [some (.inr (.inr (.inl (some (t))))), some (.inl k), some (.inr (.inr (.inl (some h.1))))] [.inr (.inr (.inl (some g.1)))] h5 _
      obtain ⟨x5, a5⟩ := nc_cx N5
      refine av_wp_ret (v := some (.inr (.inr (.inl (some g.1))))) rfl rfl rfl ?_
      have fb : ∀ j, f j = hA g h.1 j ∨ f j = 0 := fun j => by
        by_cases e : j < 21 * s
        · exact Or.inl (f1 j e)
        · rcases f2 j (by omega) with w | w
          · exact Or.inr w
          · exact Or.inl w.2
      have b1 : ∀ j, -1 ≤ f j ∧ f j ≤ 100000 := fun j => by
        rcases fb j with e | e
        · rw [e]; exact M.2.2.1 j
        · rw [e]; omega
      have b2 : ∀ k j, j < 4 → f (21 * k + 15 + j) ≤ 16 := fun k j hj => by
        rcases fb (21 * k + 15 + j) with e | e
        · rw [e]; exact M.2.2.2 k j hj
        · rw [e]; omega
      obtain ⟨x1, x2, x3, x4, x6, x7⟩ := x5
      refine hq h5 g.1 (g.1 + 1) (ctn f s) (AL_eq (AL_tr M.1 a5) rfl (by omega)) ⟨x1, x2, s12, ?_, ?_, x4, x6, Or.inr (Or.inr (by omega)), ?_⟩ x7 ⟨f, rfl, fun j hj => ?_, fun j hj => ?_⟩
      · rw [x3]
        unfold cbv
        rw [cbf_ct]
      · have z := cbv_b (s := s) (f := f) (fun q _ o h1 h2 => by have := b2 q (o - 15) (by omega); rw [show 21 * q + 15 + (o - 15) = 21 * q + o by omega] at this; exact this)
        unfold cbv at z ⊢
        rw [cbf_ct]
        exact z
      · rw [x7]
        exact ctn_v2 b1 b2
      · have y := f1 j hj
        rw [show hA (av_newO 1 4 g) h.1 = hA g h.1 from rfl, eA] at y
        exact y
      · rcases f2 j hj with w | w
        · exact Or.inl w
        · have y := w.2
          rw [show hA (av_newO 1 4 g) h.1 = hA g h.1 from rfl, eA] at y
          exact Or.inr y
  refine av_wp_sqF ck_32 1 (pc' := 1) (lv' := [some (.inr (.inr (.inl (some (t))))), some (.inl k), none]) (st' := [.inr (.inr (.inl (some (t))))]) (h' := h) rfl ?_
  refine wq_gr (p' := 4) (ck_32 _ _ rfl) rfl (congrArg Prod.fst (co_kt o)) rfl (co_c o) ?_
  refine wq_cl (p' := 7) (ck_32 _ _ rfl) rfl rfl (fun _ _ => rfl) rfl (co_kc o) ?_
  have M0 := MH_new o
  have e0 : hA (av_newN 20 (21 * s) (hA h c) h) h.1 = hA h c := newN_a
  generalize av_newN 20 (21 * s) (hA h c) h = g0 at M0 e0 ⊢
  have o0 := CO_fb hg L o (AL_fb M0.1)
  refine wq_ck (p' := 10) (ck_32 _ _ rfl) rfl M0.2.1 ?_
  refine av_wp_sqF ck_32 3 (pc' := 13) (lv' := [some (.inr (.inr (.inl (some (t))))), some (.inl k), some (.inr (.inr (.inl (some h.1))))]) (st' := [.inl k, .inr (.inr (.inl (some (t))))]) (h' := g0) rfl ?_
  refine wq_cv (p' := 16) (av_qc (.invokevirtual 40) 28 1 0 1) 2 cd_28 [.inl k] (t) 1 [some (.inr (.inr (.inl (some (t))))), some (.inl k)] (ck_32 _ _ rfl) rfl rfl pp_28 rfl rfl rfl (congrArg Prod.fst (co_kt o0)) rfl rfl rfl rfl ?_
  refine ct_28 o0 k (by omega) (fun v p => ?_)
  show av_wp _ cd_32 16 [some (.inr (.inr (.inl (some (t))))), some (.inl k), some (.inr (.inr (.inl (some h.1))))] [.inl v] g0 _
  refine wq_k1 (p' := 19) (ck_32 _ _ rfl) rfl ⟨by omega, by omega⟩ (fun c1 => ?_) (fun c1 => ?_)
  · have c1 : v = (0) := c1
    exfalso
    omega
  · have c1 : v ≠ (0) := c1
    refine av_wp_sqF ck_32 9 (pc' := 30) (lv' := [some (.inr (.inr (.inl (some (t))))), some (.inl k), some (.inr (.inr (.inl (some h.1))))]) (st' := [.inl (0), .inl (k * (21) + (15) + (3)), .inr (.inr (.inl (some h.1)))]) (h' := g0) rfl ?_
    refine wq_as (p' := 31) (ck_32 _ _ rfl) rfl M0.2.1 ⟨by omega, by omega, by omega⟩ ?_
    have M1 := MH_w (i := (k * (21) + (15) + (3)).toNat) (v := (0)) M0 (by omega)
    have e1 : hA (hwA g0 h.1 (k * (21) + (15) + (3)).toNat (0)) h.1 = av_u1 (hA h c) (k * (21) + (15) + (3)).toNat (0) := by rw [hA_wu, e0]
    generalize hwA g0 h.1 (k * (21) + (15) + (3)).toNat (0) = g1 at M1 e1 ⊢
    refine av_wp_sqF ck_32 7 (pc' := 40) (lv' := [some (.inr (.inr (.inl (some (t))))), some (.inl k), some (.inr (.inr (.inl (some h.1))))]) (st' := [.inl (1), .inl (k * (21) + (19)), .inr (.inr (.inl (some h.1)))]) (h' := g1) rfl ?_
    refine wq_as (p' := 41) (ck_32 _ _ rfl) rfl M1.2.1 ⟨by omega, by omega, by omega⟩ ?_
    refine fin _ (MH_w (i := (k * (21) + (19)).toNat) (v := (1)) M1 (by omega)) ?_
    rw [hA_wu, e1]
    funext j
    unfold lsx
    by_cases d : j = 21 * k.toNat + 19
    · rw [show (k * (21) + (19)).toNat = j by omega, u1_eq, if_neg (by omega), if_pos d]
    · rw [u1_ne (by omega)]
      by_cases b : j = 21 * k.toNat + 18
      · rw [show (k * (21) + (15) + (3)).toNat = j by omega, u1_eq, if_pos b]
      · rw [u1_ne (by omega), if_neg b, if_neg d]

set_option maxRecDepth 100000 in
set_option maxHeartbeats 4000000 in
theorem ct_33x {h : av_H} (L : LY h) {t c s : Nat} {cb : Int} (o : CO h t c s cb) (k : Int) (kr : 0 ≤ k ∧ k < (s : Int)) {Q : Option av_V → av_H → Prop} (hq : ∀ h' t' c' u', AL h h' 3 (4 + 42 * s) → CO h' t' c' s (cbv u' s) → hA h' c' = u' → CHG (wix (hA h c) (Int.toNat k)) s u' → Q (some (.inr (.inr (.inl (some t'))))) h') : av_wp none cd_33 0 [some (.inr (.inr (.inl (some (t))))), some (.inl k), none, none] [] h Q := by
  refine gd_of (fun hg => ?_)
  have l122 : 121 < h.1 := ly_lt hg L (by omega)
  have s12 := co_s12 o
  have tl : t < h.1 := gd_lt hg (co_kt o) (by decide)
  have fin : ∀ (g : av_H), MH h g s → hA g h.1 = wix (hA h c) (Int.toNat k) → av_wp none cd_33 65 [some (.inr (.inr (.inl (some (t))))), some (.inl k), some (.inr (.inr (.inl (some h.1)))), some (.inl (k * (21)))] [] g Q := by
    intro g M eA
    refine av_wp_sqF ck_33 4 (pc' := 71) (lv' := [some (.inr (.inr (.inl (some (t))))), some (.inl k), some (.inr (.inr (.inl (some h.1)))), some (.inl (k * (21)))]) (st' := [.inr (.inr (.inl (some (t)))), .inr (.inr (.inl (some h.1))), .inr (.inr (.inl (some g.1))), .inr (.inr (.inl (some g.1)))]) (h' := av_newO 1 4 g) rfl ?_
    have om := CO_fb hg L o (AL_fb M.1)
    have h1 : g.1 = h.1 + 1 := M.1.1
    have kq : ∀ q, q ≠ g.1 → hK (av_newO 1 4 g) q = hK g q := fun q hq => if_neg hq
    have fq : hF (av_newO 1 4 g) t 1 = (s : Int) := by
      show av_u1 g.2.2.2.2.1 g.1 (fun _ => 0) t 1 = _
      rw [show av_u1 g.2.2.2.2.1 g.1 (fun _ => 0) t = g.2.2.2.2.1 t from if_neg (by omega)]
      exact co_s om
    refine wq_gi (p' := 74) (ck_33 _ _ rfl) rfl (congrArg Prod.fst ((kq t (by omega)).trans (co_kt om))) rfl fq ?_
    refine wq_cv (p' := 77) (av_qc (.invokespecial 52) 27 2 1 1) 9 cd_27 [.inl (s : Int), .inr (.inr (.inl (some h.1)))] (g.1) 1 [some (.inr (.inr (.inl (some g.1)))), some (.inr (.inr (.inl (some h.1)))), some (.inl (s : Int)), none, none, none, none, none, none] (ck_33 _ _ rfl) rfl rfl pp_27 rfl rfl rfl (congrArg Prod.fst (show hK (av_newO 1 4 g) g.1 = (1, 0) from if_pos rfl)) rfl rfl rfl rfl ?_
    refine ct_27 (n := 21 * s) (s := s) (show hK (av_newO 1 4 g) g.1 = (1, 0) from if_pos rfl) (by show g.1 ≠ g.1 + 1; omega) (by show h.1 ≠ g.1 + 1; omega) ((kq h.1 (by omega)).trans M.2.1) s12 (by omega) (by omega) (fun j hj => ⟨(M.2.2.1 j).1, (M.2.2.1 j).2, fun z1 z2 => ?_⟩) _ rfl (fun f h5 f1 f2 N5 => ?_)
    · have y := M.2.2.2 (j / 21) (j % 21 - 15) (by omega)
      rw [show 21 * (j / 21) + 15 + (j % 21 - 15) = j by omega] at y
      exact y
    · show av_wp _ cd_33 77 [some (.inr (.inr (.inl (some (t))))), some (.inl k), some (.inr (.inr (.inl (some h.1)))), some (.inl (k * (21)))] [.inr (.inr (.inl (some g.1)))] h5 _
      obtain ⟨x5, a5⟩ := nc_cx N5
      refine av_wp_ret (v := some (.inr (.inr (.inl (some g.1))))) rfl rfl rfl ?_
      have fb : ∀ j, f j = hA g h.1 j ∨ f j = 0 := fun j => by
        by_cases e : j < 21 * s
        · exact Or.inl (f1 j e)
        · rcases f2 j (by omega) with w | w
          · exact Or.inr w
          · exact Or.inl w.2
      have b1 : ∀ j, -1 ≤ f j ∧ f j ≤ 100000 := fun j => by
        rcases fb j with e | e
        · rw [e]; exact M.2.2.1 j
        · rw [e]; omega
      have b2 : ∀ k j, j < 4 → f (21 * k + 15 + j) ≤ 16 := fun k j hj => by
        rcases fb (21 * k + 15 + j) with e | e
        · rw [e]; exact M.2.2.2 k j hj
        · rw [e]; omega
      obtain ⟨x1, x2, x3, x4, x6, x7⟩ := x5
      refine hq h5 g.1 (g.1 + 1) (ctn f s) (AL_eq (AL_tr M.1 a5) rfl (by omega)) ⟨x1, x2, s12, ?_, ?_, x4, x6, Or.inr (Or.inr (by omega)), ?_⟩ x7 ⟨f, rfl, fun j hj => ?_, fun j hj => ?_⟩
      · rw [x3]
        unfold cbv
        rw [cbf_ct]
      · have z := cbv_b (s := s) (f := f) (fun q _ o h1 h2 => by have := b2 q (o - 15) (by omega); rw [show 21 * q + 15 + (o - 15) = 21 * q + o by omega] at this; exact this)
        unfold cbv at z ⊢
        rw [cbf_ct]
        exact z
      · rw [x7]
        exact ctn_v2 b1 b2
      · have y := f1 j hj
        rw [show hA (av_newO 1 4 g) h.1 = hA g h.1 from rfl, eA] at y
        exact y
      · rcases f2 j hj with w | w
        · exact Or.inl w
        · have y := w.2
          rw [show hA (av_newO 1 4 g) h.1 = hA g h.1 from rfl, eA] at y
          exact Or.inr y
  refine av_wp_sqF ck_33 1 (pc' := 1) (lv' := [some (.inr (.inr (.inl (some (t))))), some (.inl k), none, none]) (st' := [.inr (.inr (.inl (some (t))))]) (h' := h) rfl ?_
  refine wq_gr (p' := 4) (ck_33 _ _ rfl) rfl (congrArg Prod.fst (co_kt o)) rfl (co_c o) ?_
  refine wq_cl (p' := 7) (ck_33 _ _ rfl) rfl rfl (fun _ _ => rfl) rfl (co_kc o) ?_
  have M0 := MH_new o
  have e0 : hA (av_newN 20 (21 * s) (hA h c) h) h.1 = hA h c := newN_a
  generalize av_newN 20 (21 * s) (hA h c) h = g0 at M0 e0 ⊢
  have o0 := CO_fb hg L o (AL_fb M0.1)
  refine wq_ck (p' := 10) (ck_33 _ _ rfl) rfl M0.2.1 ?_
  refine av_wp_sqF ck_33 3 (pc' := 13) (lv' := [some (.inr (.inr (.inl (some (t))))), some (.inl k), some (.inr (.inr (.inl (some h.1)))), none]) (st' := [.inl k, .inr (.inr (.inl (some (t))))]) (h' := g0) rfl ?_
  refine wq_cv (p' := 16) (av_qc (.invokevirtual 40) 28 1 0 1) 2 cd_28 [.inl k] (t) 1 [some (.inr (.inr (.inl (some (t))))), some (.inl k)] (ck_33 _ _ rfl) rfl rfl pp_28 rfl rfl rfl (congrArg Prod.fst (co_kt o0)) rfl rfl rfl rfl ?_
  refine ct_28 o0 k (by omega) (fun v p => ?_)
  show av_wp _ cd_33 16 [some (.inr (.inr (.inl (some (t))))), some (.inl k), some (.inr (.inr (.inl (some h.1)))), none] [.inl v] g0 _
  refine wq_k1 (p' := 19) (ck_33 _ _ rfl) rfl ⟨by omega, by omega⟩ (fun c1 => ?_) (fun c1 => ?_)
  · have c1 : v = (0) := c1
    exfalso
    omega
  · have c1 : v ≠ (0) := c1
    refine av_wp_sqF ck_33 9 (pc' := 29) (lv' := [some (.inr (.inr (.inl (some (t))))), some (.inl k), some (.inr (.inr (.inl (some h.1)))), some (.inl (k * (21)))]) (st' := [.inl (1), .inl (k * (21) + (4)), .inr (.inr (.inl (some h.1)))]) (h' := g0) rfl ?_
    refine wq_as (p' := 30) (ck_33 _ _ rfl) rfl M0.2.1 ⟨by omega, by omega, by omega⟩ ?_
    have M1 := MH_w (i := (k * (21) + (4)).toNat) (v := (1)) M0 (by omega)
    have e1 : hA (hwA g0 h.1 (k * (21) + (4)).toNat (1)) h.1 = (av_u1 (hA h c) (k * (21) + (4)).toNat (1)) := by rw [hA_wu, e0]
    generalize hwA g0 h.1 (k * (21) + (4)).toNat (1) = g1 at M1 e1 ⊢
    refine av_wp_sqF ck_33 7 (pc' := 38) (lv' := [some (.inr (.inr (.inl (some (t))))), some (.inl k), some (.inr (.inr (.inl (some h.1)))), some (.inl (k * (21)))]) (st' := [.inl (0), .inl (k * (21) + (7) + (1)), .inr (.inr (.inl (some h.1)))]) (h' := g1) rfl ?_
    refine wq_as (p' := 39) (ck_33 _ _ rfl) rfl M1.2.1 ⟨by omega, by omega, by omega⟩ ?_
    have M2 := MH_w (i := (k * (21) + (7) + (1)).toNat) (v := (0)) M1 (by omega)
    have e2 : hA (hwA g1 h.1 (k * (21) + (7) + (1)).toNat (0)) h.1 = (av_u1 (av_u1 (hA h c) (k * (21) + (4)).toNat (1)) (k * (21) + (7) + (1)).toNat (0)) := by rw [hA_wu, e1]
    generalize hwA g1 h.1 (k * (21) + (7) + (1)).toNat (0) = g2 at M2 e2 ⊢
    refine av_wp_sqF ck_33 7 (pc' := 47) (lv' := [some (.inr (.inr (.inl (some (t))))), some (.inl k), some (.inr (.inr (.inl (some h.1)))), some (.inl (k * (21)))]) (st' := [.inl (0), .inl (k * (21) + (7) + (2)), .inr (.inr (.inl (some h.1)))]) (h' := g2) rfl ?_
    refine wq_as (p' := 48) (ck_33 _ _ rfl) rfl M2.2.1 ⟨by omega, by omega, by omega⟩ ?_
    have M3 := MH_w (i := (k * (21) + (7) + (2)).toNat) (v := (0)) M2 (by omega)
    have e3 : hA (hwA g2 h.1 (k * (21) + (7) + (2)).toNat (0)) h.1 = (av_u1 (av_u1 (av_u1 (hA h c) (k * (21) + (4)).toNat (1)) (k * (21) + (7) + (1)).toNat (0)) (k * (21) + (7) + (2)).toNat (0)) := by rw [hA_wu, e2]
    generalize hwA g2 h.1 (k * (21) + (7) + (2)).toNat (0) = g3 at M3 e3 ⊢
    refine av_wp_sqF ck_33 12 (pc' := 62) (lv' := [some (.inr (.inr (.inl (some (t))))), some (.inl k), some (.inr (.inr (.inl (some h.1)))), some (.inl (k * (21)))]) (st' := [.inl (0), .inl (k * (21) + (15) + (4)), .inl (k * (21) + (15) + (1)), .inr (.inr (.inl (some h.1)))]) (h' := g3) rfl ?_
    refine wq_cs (p' := 65) (av_qc (.invokestatic 55) 221 4 2 10) 5 cd_221 [.inr (.inr (.inl (some h.1))), .inl (k * (21) + (15) + (1)), .inl (k * (21) + (15) + (4)), .inl (0)] [.inl (0), .inl (k * (21) + (15) + (4)), .inl (k * (21) + (15) + (1)), .inr (.inr (.inl (some h.1)))] [some (.inr (.inr (.inl (some h.1)))), some (.inl (k * (21) + (15) + (1))), some (.inl (k * (21) + (15) + (4))), some (.inl (0)), none] (ck_33 _ _ rfl) rfl rfl pp_221 (fun _ => rfl) rfl rfl ?_
    refine ct_221 (n := 21 * s) (k * (21) + (15) + (1)).toNat (k * (21) + (15) + (4)).toNat (by omega) (by omega) M3.2.1 (by omega) (by omega) (by omega) ?_
    refine fin _ (MH_fil M3) ?_
    funext j
    rw [fil_s, e3]
    unfold wix
    by_cases d : 21 * k.toNat + 16 ≤ j ∧ j < 21 * k.toNat + 19
    · rw [if_pos (by omega), if_neg (by omega), if_pos (by omega)]
    · rw [if_neg (by omega)]
      by_cases b2 : j = 21 * k.toNat + 9
      · rw [show (k * (21) + (7) + (2)).toNat = j by omega, u1_eq, if_neg (by omega), if_pos (by omega)]
      · rw [u1_ne (by omega)]
        by_cases b1 : j = 21 * k.toNat + 8
        · rw [show (k * (21) + (7) + (1)).toNat = j by omega, u1_eq, if_neg (by omega), if_pos (by omega)]
        · rw [u1_ne (by omega)]
          by_cases b0 : j = 21 * k.toNat + 4
          · rw [show (k * (21) + (4)).toNat = j by omega, u1_eq, if_pos b0]
          · rw [u1_ne (by omega), if_neg b0, if_neg (by omega)]

set_option maxRecDepth 100000 in
set_option maxHeartbeats 4000000 in
theorem cx_122 {h : av_H} {U : Nat → Nat → Int} {S : Nat → Nat} {n : Int} {sr nd : Nat → Int} (C : CJ U S n sr nd h) {t c s : Nat} {cb : Int} (o : CO h t c s cb) {u : Nat → Int} (hu : hA h c = u) (m : Int) (qm : 0 ≤ m ∧ m ≤ 15) (mn : m ≤ n) (GM : ∀ k, k < s → -1 ≤ u (21 * k + 6) ∧ u (21 * k + 6) < m) (SE : ∀ ro bar : Nat → Int, (∀ k, 0 ≤ bar k ∧ bar k ≤ 1) → -1 ≤ ro 8 → SEA u ro bar s) (l : Int) (ql : -2147483648 ≤ l ∧ l ≤ 2147483647) (CR : CRT U S n (hF h 3 4) (fun k => hA h (6 + k))) (SU : SUA U S n (hF h 3 4) (fun k => hA h (6 + k)) sr) {Q : Option av_V → av_H → Prop} (hq0 : (cb = -1 ∨ l < 0 ∨ hF h 3 4 ≤ l) → Q (some (.inl (-2))) h) (hq1 : cb ≠ -1 → (0 ≤ l ∧ l < hF h 3 4) → ∀ (v : Int) h' sr' nd', CJ U S n sr' nd' h' → Fr h h' → SUA U S n (hF h 3 4) (fun k => hA h (6 + k)) sr' → v = ta (fun q => (bgn u (hA h (6 + Int.toNat l)) (brv u (srt U S (hA h (6 + Int.toNat l)) (Int.toNat m))) s q).2.2) (Int.toNat cb) 0 → Q (some (.inl v)) h') : av_wp none cd_122 0 [some (.inr (.inr (.inl (some (0))))), some (.inr (.inr (.inl (some (t))))), some (.inl m), some (.inl l)] [] h Q := by
  have F := Fr_rf h
  have nr := C.2.1.2.1
  have s12 := co_s12 o
  have cbr := co_cbr o
  refine av_wp_sqF ck_122 1 (pc' := 1) (lv' := [some (.inr (.inr (.inl (some (0))))), some (.inr (.inr (.inl (some (t))))), some (.inl m), some (.inl l)]) (st' := [.inr (.inr (.inl (some (0))))]) (h' := h) rfl ?_
  refine wq_gr (p' := 4) (ck_122 _ _ rfl) rfl (congrArg Prod.fst (ly_k C.1.1 0 rfl)) rfl (ly_g C.1.1 0 5 26 rfl) ?_
  refine av_wp_sqF ck_122 1 (pc' := 5) (lv' := [some (.inr (.inr (.inl (some (0))))), some (.inr (.inr (.inl (some (t))))), some (.inl m), some (.inl l)]) (st' := [.inr (.inr (.inl (some (0)))), .inr (.inr (.inl (some (26))))]) (h' := h) rfl ?_
  refine wq_gr (p' := 8) (ck_122 _ _ rfl) rfl (congrArg Prod.fst (ly_k C.1.1 0 rfl)) rfl (ly_g C.1.1 0 5 26 rfl) ?_
  refine wq_gr (p' := 11) (ck_122 _ _ rfl) rfl (congrArg Prod.fst (ly_k C.1.1 26 rfl)) rfl (ly_g C.1.1 26 1 35 rfl) ?_
  refine av_wp_sqF ck_122 3 (pc' := 14) (lv' := [some (.inr (.inr (.inl (some (0))))), some (.inr (.inr (.inl (some (t))))), some (.inl m), some (.inl l)]) (st' := [.inl l, .inl m, .inr (.inr (.inl (some (t)))), .inr (.inr (.inl (some (35)))), .inr (.inr (.inl (some (26))))]) (h' := h) rfl ?_
  refine wq_cv (p' := 17) (av_qc (.invokevirtual 262) 51 4 0 3) 5 cd_51 [.inl l, .inl m, .inr (.inr (.inl (some (t)))), .inr (.inr (.inl (some (35))))] (26) 3 [some (.inr (.inr (.inl (some (26))))), some (.inr (.inr (.inl (some (35))))), some (.inr (.inr (.inl (some (t))))), some (.inl m), some (.inl l)] (ck_122 _ _ rfl) rfl rfl pp_51 rfl rfl rfl (congrArg Prod.fst (ly_k C.1.1 26 rfl)) rfl rfl rfl rfl ?_
  refine cz_51 C (Or.inl rfl) o hu m (by omega) mn CR.1 GM CR.2.1 CR.2.2.1 l (by omega) SU (fun l h1 h2 => (rl_8 (CR.2.2.2 l h1 h2)).1) (fun z1 => ?_) (fun z1 z2 z3 h4 r5 n6 a7 C8 F9 U10 E11 Z12 T13 => ?_)
  · show av_wp _ cd_122 17 [some (.inr (.inr (.inl (some (0))))), some (.inr (.inr (.inl (some (t))))), some (.inl m), some (.inl l)] [.inl (0)] h _
    refine av_wp_sqF ck_122 2 (pc' := 22) (lv' := [some (.inr (.inr (.inl (some (0))))), some (.inr (.inr (.inl (some (t))))), some (.inl m), some (.inl l)]) (st' := [.inl (-2)]) (h' := h) rfl ?_
    refine av_wp_ret (v := some (.inl (-2))) (ck_122 _ _ rfl) rfl rfl ?_
    exact hq0 (by omega)
  · have X14 : SQ U S n r5 n6 t c s (6 + Int.toNat l) cb u (hA h (6 + Int.toNat l)) (brv u (srt U S (hA h (6 + Int.toNat l)) (Int.toNat m))) a7 (hF h4 35 13) (hF h4 35 14) (hF h4 35 15) (hA h4 31 0) (hA h4 31 1) (hA h4 31 2) (hA h4 31 3) (hA h4 31 4) h h4 := ⟨C8, E11, T13, Z12, F9.1, rfl, rfl, rfl, rfl, rfl⟩
    have G15 := SE (hA h (6 + Int.toNat l)) (brv u (srt U S (hA h (6 + Int.toNat l)) (Int.toNat m))) (brv_b u (srt U S (hA h (6 + Int.toNat l)) (Int.toNat m))) (rl_8 (CR.2.2.2 l (by omega) (by omega))).1
    have H16 : ∀ x : Int, 0 ≤ x → x ≤ 1023 → (bgn u (hA h (6 + Int.toNat l)) (brv u (srt U S (hA h (6 + Int.toNat l)) (Int.toNat m))) s x).2.2 = 9999 ∨ (0 ≤ (bgn u (hA h (6 + Int.toNat l)) (brv u (srt U S (hA h (6 + Int.toNat l)) (Int.toNat m))) s x).2.2 ∧ (bgn u (hA h (6 + Int.toNat l)) (brv u (srt U S (hA h (6 + Int.toNat l)) (Int.toNat m))) s x).2.2 < 9999) := fun x h0 h1 => bgn_0 (HBd_g (x := x) G15.2.2.2.1 (fun q hq i hi => arr_0 (by omega)) ⟨h0, h1⟩)
    show av_wp _ cd_122 17 [some (.inr (.inr (.inl (some (0))))), some (.inr (.inr (.inl (some (t))))), some (.inl m), some (.inl l)] [.inl (1)] h4 _
    refine av_wp_sqF ck_122 2 (pc' := 24) (lv' := [some (.inr (.inr (.inl (some (0))))), some (.inr (.inr (.inl (some (t))))), some (.inl m), some (.inl l)]) (st' := [.inr (.inr (.inl (some (0))))]) (h' := h4) rfl ?_
    refine wq_gr (p' := 27) (ck_122 _ _ rfl) rfl (congrArg Prod.fst (ly_k C8.1.1 0 rfl)) rfl (ly_g C8.1.1 0 5 26 rfl) ?_
    refine wq_cv (p' := 30) (av_qc (.invokevirtual 207) 56 0 0 3) 2 cd_56 [] (26) 3 [some (.inr (.inr (.inl (some (26))))), none] (ck_122 _ _ rfl) rfl rfl pp_56 rfl rfl rfl (congrArg Prod.fst (ly_k C8.1.1 26 rfl)) rfl rfl rfl rfl ?_
    refine cx_56 X14 G15 H16 (by omega) (fun h17 a18 m19 m20 m21 t22 t23 t24 t25 t26 X27 Y28 => ?_)
    show av_wp _ cd_122 30 [some (.inr (.inr (.inl (some (0))))), some (.inr (.inr (.inl (some (t))))), some (.inl m), some (.inl l)] [] h17 _
    refine av_wp_sqF ck_122 1 (pc' := 31) (lv' := [some (.inr (.inr (.inl (some (0))))), some (.inr (.inr (.inl (some (t))))), some (.inl m), some (.inl l)]) (st' := [.inr (.inr (.inl (some (0))))]) (h' := h17) rfl ?_
    refine wq_gr (p' := 34) (ck_122 _ _ rfl) rfl (congrArg Prod.fst (ly_k X27.1.1.1 0 rfl)) rfl (ly_g X27.1.1.1 0 5 26 rfl) ?_
    refine wq_gr (p' := 37) (ck_122 _ _ rfl) rfl (congrArg Prod.fst (ly_k X27.1.1.1 26 rfl)) rfl (ly_g X27.1.1.1 26 8 31 rfl) ?_
    refine av_wp_sqF ck_122 1 (pc' := 38) (lv' := [some (.inr (.inr (.inl (some (0))))), some (.inr (.inr (.inl (some (t))))), some (.inl m), some (.inl l)]) (st' := [.inl (0), .inr (.inr (.inl (some (31))))]) (h' := h17) rfl ?_
    refine wq_al (p' := 39) (n := 5) (ck_122 _ _ rfl) rfl (ly_k X27.1.1.1 31 rfl) (by omega) (X27.2.2.2.2.2.1) ?_
    refine av_wp_ret (v := some (.inl t22)) (ck_122 _ _ rfl) rfl rfl ?_
    exact hq1 (by omega) (by omega) _ h17 _ _ X27.1 X27.2.2.2.2.1 U10 Y28.1
end
section
/-! LOST, WIRED, exactly: the class -/
set_option maxRecDepth 100000 in
set_option maxHeartbeats 4000000 in
theorem cx_120 {h : av_H} {U : Nat → Nat → Int} {S : Nat → Nat} {n : Int} {sr nd : Nat → Int} (C : CJ U S n sr nd h) (k : Int) (qk : -2147483648 ≤ k ∧ k ≤ 2147483647) (l : Int) (ql : -2147483648 ≤ l ∧ l ≤ 2147483647) (q : Int) (qq : -2147483648 ≤ q ∧ q ≤ 2147483647) (CR : CRT U S n (hF h 3 4) (fun k => hA h (6 + k))) (SU : SUA U S n (hF h 3 4) (fun k => hA h (6 + k)) sr) (CB : ∀ i : Nat, (i : Int) < n → CWB (U i) (S i)) {Q : Option av_V → av_H → Prop} (hq : ∀ (v : Int) h1 h' a b sr' nd', a ≤ 3 → b ≤ 508 → AL h h1 a b → CJ U S n sr' nd' h' → Fr h1 h' → SUA U S n (hF h 3 4) (fun k => hA h (6 + k)) sr' → RSC ((0 ≤ k ∧ k < n) ∧ (0 ≤ l ∧ l < hF h 3 4) ∧ (0 ≤ q ∧ q < (S (Int.toNat k) : Int)) ∧ U (Int.toNat k) (21 * (Int.toNat q) + 4) ≤ 1) (lsx (U (Int.toNat k)) (Int.toNat q)) (S (Int.toNat k)) (fun u => lcv u (hA h (6 + Int.toNat l)) (brv u (srt U S (hA h (6 + Int.toNat l)) (Int.toNat k))) (S (Int.toNat k))) v → Q (some (.inl v)) h') : av_wp none cd_120 0 [some (.inr (.inr (.inl (some (0))))), some (.inl k), some (.inl l), some (.inl q), none] [] h Q := by
  have F := Fr_rf h
  have nr := C.2.1.2.1
  refine gd_of (fun hg => ?_)
  refine av_wp_sqF ck_120 1 (pc' := 1) (lv' := [some (.inr (.inr (.inl (some (0))))), some (.inl k), some (.inl l), some (.inl q), none]) (st' := [.inr (.inr (.inl (some (0))))]) (h' := h) rfl ?_
  refine wq_gr (p' := 4) (ck_120 _ _ rfl) rfl (congrArg Prod.fst (ly_k C.1.1 0 rfl)) rfl (ly_g C.1.1 0 1 3 rfl) ?_
  refine av_wp_sqF ck_120 1 (pc' := 5) (lv' := [some (.inr (.inr (.inl (some (0))))), some (.inl k), some (.inl l), some (.inl q), none]) (st' := [.inl k, .inr (.inr (.inl (some (3))))]) (h' := h) rfl ?_
  refine wq_cv (p' := 8) (av_qc (.invokevirtual 96) 69 1 0 5) 2 cd_69 [.inl k] (3) 5 [some (.inr (.inr (.inl (some (3))))), some (.inl k)] (ck_120 _ _ rfl) rfl rfl pp_69 rfl rfl rfl (congrArg Prod.fst (ly_k C.1.1 3 rfl)) rfl rfl rfl rfl ?_
  refine cz_69 C (k) (by omega) (fun z1 => ?_) (fun z1 z2 t3 c4 y5 y6 => ?_)
  · show av_wp _ cd_120 8 [some (.inr (.inr (.inl (some (0))))), some (.inl k), some (.inl l), some (.inl q), none] [.inr (.inr (.inl none))] h _
    refine av_wp_sqF ck_120 4 (pc' := 37) (lv' := [some (.inr (.inr (.inl (some (0))))), some (.inl k), some (.inl l), some (.inl q), some (.inr (.inr (.inl none)))]) (st' := [.inl (-2)]) (h' := h) rfl ?_
    refine av_wp_ret (v := some (.inl (-2))) (ck_120 _ _ rfl) rfl rfl ?_
    exact hq _ h h 0 0 _ _ (by omega) (by omega) (AL_0 h) C F SU (Or.inl ⟨by omega, rfl⟩)
  · have g7 := co_s12 y5
    have g8 := co_cbr y5
    show av_wp _ cd_120 8 [some (.inr (.inr (.inl (some (0))))), some (.inl k), some (.inl l), some (.inl q), none] [.inr (.inr (.inl (some (t3))))] h _
    refine av_wp_sqF ck_120 5 (pc' := 18) (lv' := [some (.inr (.inr (.inl (some (0))))), some (.inl k), some (.inl l), some (.inl q), some (.inr (.inr (.inl (some (t3)))))]) (st' := [.inl q, .inr (.inr (.inl (some (t3))))]) (h' := h) rfl ?_
    refine wq_cv (p' := 21) (av_qc (.invokevirtual 136) 28 1 0 1) 2 cd_28 [.inl q] (t3) 1 [some (.inr (.inr (.inl (some (t3))))), some (.inl q)] (ck_120 _ _ rfl) rfl rfl pp_28 rfl rfl rfl (congrArg Prod.fst (co_kt y5)) rfl rfl rfl rfl ?_
    refine ct_28 y5 (q) (by omega) (fun v9 p10 => ?_)
    show av_wp _ cd_120 21 [some (.inr (.inr (.inl (some (0))))), some (.inl k), some (.inl l), some (.inl q), some (.inr (.inr (.inl (some (t3)))))] [.inl v9] h _
    refine wq_k1 (p' := 24) (ck_120 _ _ rfl) rfl ⟨by omega, by omega⟩ (fun c11 => ?_) (fun c12 => ?_)
    · have c11 : v9 = (0) := c11
      refine av_wp_sqF ck_120 1 (pc' := 37) (lv' := [some (.inr (.inr (.inl (some (0))))), some (.inl k), some (.inl l), some (.inl q), some (.inr (.inr (.inl (some (t3)))))]) (st' := [.inl (-2)]) (h' := h) rfl ?_
      refine av_wp_ret (v := some (.inl (-2))) (ck_120 _ _ rfl) rfl rfl ?_
      exact hq _ h h 0 0 _ _ (by omega) (by omega) (AL_0 h) C F SU (Or.inl ⟨by omega, rfl⟩)
    · have c12 : v9 ≠ (0) := c12
      refine av_wp_sqF ck_120 3 (pc' := 28) (lv' := [some (.inr (.inr (.inl (some (0))))), some (.inl k), some (.inl l), some (.inl q), some (.inr (.inr (.inl (some (t3)))))]) (st' := [.inl (4), .inl q, .inr (.inr (.inl (some (t3))))]) (h' := h) rfl ?_
      refine wq_cv (p' := 31) (av_qc (.invokevirtual 139) 29 2 0 1) 3 cd_29 [.inl (4), .inl q] (t3) 1 [some (.inr (.inr (.inl (some (t3))))), some (.inl q), some (.inl (4))] (ck_120 _ _ rfl) rfl rfl pp_29 rfl rfl rfl (congrArg Prod.fst (co_kt y5)) rfl rfl rfl rfl ?_
      obtain ⟨v13, e14⟩ : ∃ v, (U (Int.toNat (k))) (21 * Int.toNat (q) + 4) = v := ⟨_, rfl⟩
      have g15 := co_v y5 (21 * Int.toNat (q) + 4)
      rw [y6, e14] at g15
      refine xc_29 y5 (q) (by omega) 4 (by omega) rfl ((congrFun y6 _).trans e14) ?_
      show av_wp _ cd_120 31 [some (.inr (.inr (.inl (some (0))))), some (.inl k), some (.inl l), some (.inl q), some (.inr (.inr (.inl (some (t3)))))] [.inl v13] h _
      refine av_wp_sqF ck_120 1 (pc' := 32) (lv' := [some (.inr (.inr (.inl (some (0))))), some (.inl k), some (.inl l), some (.inl q), some (.inr (.inr (.inl (some (t3)))))]) (st' := [.inl (1), .inl v13]) (h' := h) rfl ?_
      refine wq_k2 (p' := 35) (ck_120 _ _ rfl) rfl ⟨by omega, by omega⟩ ⟨by omega, by omega⟩ (fun c16 => ?_) (fun c17 => ?_)
      · have c16 : v13 ≤ (1) := c16
        refine av_wp_sqF ck_120 3 (pc' := 42) (lv' := [some (.inr (.inr (.inl (some (0))))), some (.inl k), some (.inl l), some (.inl q), some (.inr (.inr (.inl (some (t3)))))]) (st' := [.inl q, .inr (.inr (.inl (some (t3)))), .inr (.inr (.inl (some (0))))]) (h' := h) rfl ?_
        refine wq_cv (p' := 45) (av_qc (.invokevirtual 252) 32 1 0 1) 3 cd_32 [.inl q] (t3) 1 [some (.inr (.inr (.inl (some (t3))))), some (.inl q), none] (ck_120 _ _ rfl) rfl rfl pp_32 rfl rfl rfl (congrArg Prod.fst (co_kt y5)) rfl rfl rfl rfl ?_
        refine ct_32x C.1.1 y5 (q) (by omega) (fun h18 t19 c20 u21 A22 o23 e24 x25 => ?_)
        rw [y6] at x25
        have C26 := CJ_al hg C A22
        have K27 := CHK_l (k := (Int.toNat q)) (CR.1 (Int.toNat k) (by omega)).1 (CR.1 (Int.toNat k) (by omega)).2.2.2.2.1 (CB (Int.toNat k) (by omega))
        have e34 : hF h18 3 4 = hF h 3 4 := (CF0_al hg C.1.1 A22).2.1.2.1
        have e6 : ∀ l, l < 8 → hA h18 (6 + l) = hA h (6 + l) := fun l hl => (CF0_al hg C.1.1 A22).2.2.2.1 _ (by omega) (by omega)
        have g28 := ic_lc C.1
        have g28c := co_cbr o23
        show av_wp _ cd_120 45 [some (.inr (.inr (.inl (some (0))))), some (.inl k), some (.inl l), some (.inl q), some (.inr (.inr (.inl (some (t3)))))] [.inr (.inr (.inl (some (t19)))), .inr (.inr (.inl (some (0))))] h18 _
        refine av_wp_sqF ck_120 2 (pc' := 47) (lv' := [some (.inr (.inr (.inl (some (0))))), some (.inl k), some (.inl l), some (.inl q), some (.inr (.inr (.inl (some (t3)))))]) (st' := [.inl l, .inl k, .inr (.inr (.inl (some (t19)))), .inr (.inr (.inl (some (0))))]) (h' := h18) rfl ?_
        refine wq_cv (p' := 50) (av_qc (.invokevirtual 255) 122 3 0 7) 4 cd_122 [.inl l, .inl k, .inr (.inr (.inl (some (t19))))] (0) 7 [some (.inr (.inr (.inl (some (0))))), some (.inr (.inr (.inl (some (t19))))), some (.inl k), some (.inl l)] (ck_120 _ _ rfl) rfl rfl pp_122 rfl rfl rfl (congrArg Prod.fst (ly_k C26.1.1 0 rfl)) rfl rfl rfl rfl ?_
        refine cx_122 C26 o23 e24 (k) (by omega) (by omega) (fun q hq => by have w := (CR.1 (Int.toNat k) (by omega)).2.2.1 q hq; rw [CHG_o x25 hq (by omega), (K27.1 q hq).2.2.2.2.2.2.1]; exact ⟨w.1, by omega⟩) (fun ro bar hb r8 => CHG_sea K27 x25 hb r8) (l) (by omega) (by rw [e34]; exact CRT_c CR (by omega) e6) (by rw [e34]; exact SUA_c SU (fun l hl _ => e6 l hl)) (fun z29 => ?_) (fun z29 z30 v31 h32 r33 n34 C35 F36 U37 p38 => ?_)
        · rw [e34] at z29
          show av_wp _ cd_120 50 [some (.inr (.inr (.inl (some (0))))), some (.inl k), some (.inl l), some (.inl q), some (.inr (.inr (.inl (some (t3)))))] [.inl (-2)] h18 _
          refine av_wp_ret (v := some (.inl (-2))) (ck_120 _ _ rfl) rfl rfl ?_
          have q1 := ic_lc C.1
          by_cases cc : 0 ≤ l ∧ l < hF h 3 4
          · exact hq _ h18 h18 3 (4 + 42 * S (Int.toNat k)) _ _ (by omega) (by omega) A22 C26 (Fr_rf _) SU (Or.inr ⟨by omega, u21, x25, by show _ = lcv _ _ _ _; unfold lcv; rw [if_pos (by omega)]⟩)
          · exact hq _ h18 h18 3 (4 + 42 * S (Int.toNat k)) _ _ (by omega) (by omega) A22 C26 (Fr_rf _) SU (Or.inl ⟨by omega, rfl⟩)
        · rw [e34] at z30
          show av_wp _ cd_120 50 [some (.inr (.inr (.inl (some (0))))), some (.inl k), some (.inl l), some (.inl q), some (.inr (.inr (.inl (some (t3)))))] [.inl v31] h32 _
          refine av_wp_ret (v := some (.inl v31)) (ck_120 _ _ rfl) rfl rfl ?_
          rw [e6 (Int.toNat l) (by omega)] at p38
          rw [e34] at U37
          exact hq _ h18 h32 3 (4 + 42 * S (Int.toNat k)) _ _ (by omega) (by omega) A22 C35 F36 (SUA_c U37 (fun l hl _ => (e6 l hl).symm)) (Or.inr ⟨by omega, u21, x25, by show _ = lcv _ _ _ _; unfold lcv; rw [if_neg (by omega)]; exact p38⟩)
      · have c17 : (1) < v13 := c17
        refine av_wp_sqF ck_120 1 (pc' := 37) (lv' := [some (.inr (.inr (.inl (some (0))))), some (.inl k), some (.inl l), some (.inl q), some (.inr (.inr (.inl (some (t3)))))]) (st' := [.inl (-2)]) (h' := h) rfl ?_
        refine av_wp_ret (v := some (.inl (-2))) (ck_120 _ _ rfl) rfl rfl ?_
        exact hq _ h h 0 0 _ _ (by omega) (by omega) (AL_0 h) C F SU (Or.inl ⟨by omega, rfl⟩)

set_option maxRecDepth 100000 in
set_option maxHeartbeats 4000000 in
theorem cx_121 {h : av_H} {U : Nat → Nat → Int} {S : Nat → Nat} {n : Int} {sr nd : Nat → Int} (C : CJ U S n sr nd h) (k : Int) (qk : -2147483648 ≤ k ∧ k ≤ 2147483647) (l : Int) (ql : -2147483648 ≤ l ∧ l ≤ 2147483647) (q : Int) (qq : -2147483648 ≤ q ∧ q ≤ 2147483647) (CR : CRT U S n (hF h 3 4) (fun k => hA h (6 + k))) (SU : SUA U S n (hF h 3 4) (fun k => hA h (6 + k)) sr) (CB : ∀ i : Nat, (i : Int) < n → CWB (U i) (S i)) {Q : Option av_V → av_H → Prop} (hq : ∀ (v : Int) h1 h' a b sr' nd', a ≤ 3 → b ≤ 508 → AL h h1 a b → CJ U S n sr' nd' h' → Fr h1 h' → SUA U S n (hF h 3 4) (fun k => hA h (6 + k)) sr' → RSC ((0 ≤ k ∧ k < n) ∧ (0 ≤ l ∧ l < hF h 3 4) ∧ (0 ≤ q ∧ q < (S (Int.toNat k) : Int))) (wix (U (Int.toNat k)) (Int.toNat q)) (S (Int.toNat k)) (fun u => lcv u (hA h (6 + Int.toNat l)) (brv u (srt U S (hA h (6 + Int.toNat l)) (Int.toNat k))) (S (Int.toNat k))) v → Q (some (.inl v)) h') : av_wp none cd_121 0 [some (.inr (.inr (.inl (some (0))))), some (.inl k), some (.inl l), some (.inl q), none] [] h Q := by
  have F := Fr_rf h
  have nr := C.2.1.2.1
  refine gd_of (fun hg => ?_)
  refine av_wp_sqF ck_121 1 (pc' := 1) (lv' := [some (.inr (.inr (.inl (some (0))))), some (.inl k), some (.inl l), some (.inl q), none]) (st' := [.inr (.inr (.inl (some (0))))]) (h' := h) rfl ?_
  refine wq_gr (p' := 4) (ck_121 _ _ rfl) rfl (congrArg Prod.fst (ly_k C.1.1 0 rfl)) rfl (ly_g C.1.1 0 1 3 rfl) ?_
  refine av_wp_sqF ck_121 1 (pc' := 5) (lv' := [some (.inr (.inr (.inl (some (0))))), some (.inl k), some (.inl l), some (.inl q), none]) (st' := [.inl k, .inr (.inr (.inl (some (3))))]) (h' := h) rfl ?_
  refine wq_cv (p' := 8) (av_qc (.invokevirtual 96) 69 1 0 5) 2 cd_69 [.inl k] (3) 5 [some (.inr (.inr (.inl (some (3))))), some (.inl k)] (ck_121 _ _ rfl) rfl rfl pp_69 rfl rfl rfl (congrArg Prod.fst (ly_k C.1.1 3 rfl)) rfl rfl rfl rfl ?_
  refine cz_69 C (k) (by omega) (fun z1 => ?_) (fun z1 z2 t3 c4 y5 y6 => ?_)
  · show av_wp _ cd_121 8 [some (.inr (.inr (.inl (some (0))))), some (.inl k), some (.inl l), some (.inl q), none] [.inr (.inr (.inl none))] h _
    refine av_wp_sqF ck_121 4 (pc' := 26) (lv' := [some (.inr (.inr (.inl (some (0))))), some (.inl k), some (.inl l), some (.inl q), some (.inr (.inr (.inl none)))]) (st' := [.inl (-2)]) (h' := h) rfl ?_
    refine av_wp_ret (v := some (.inl (-2))) (ck_121 _ _ rfl) rfl rfl ?_
    exact hq _ h h 0 0 _ _ (by omega) (by omega) (AL_0 h) C F SU (Or.inl ⟨by omega, rfl⟩)
  · have g7 := co_s12 y5
    have g8 := co_cbr y5
    show av_wp _ cd_121 8 [some (.inr (.inr (.inl (some (0))))), some (.inl k), some (.inl l), some (.inl q), none] [.inr (.inr (.inl (some (t3))))] h _
    refine av_wp_sqF ck_121 5 (pc' := 18) (lv' := [some (.inr (.inr (.inl (some (0))))), some (.inl k), some (.inl l), some (.inl q), some (.inr (.inr (.inl (some (t3)))))]) (st' := [.inl q, .inr (.inr (.inl (some (t3))))]) (h' := h) rfl ?_
    refine wq_cv (p' := 21) (av_qc (.invokevirtual 136) 28 1 0 1) 2 cd_28 [.inl q] (t3) 1 [some (.inr (.inr (.inl (some (t3))))), some (.inl q)] (ck_121 _ _ rfl) rfl rfl pp_28 rfl rfl rfl (congrArg Prod.fst (co_kt y5)) rfl rfl rfl rfl ?_
    refine ct_28 y5 (q) (by omega) (fun v9 p10 => ?_)
    show av_wp _ cd_121 21 [some (.inr (.inr (.inl (some (0))))), some (.inl k), some (.inl l), some (.inl q), some (.inr (.inr (.inl (some (t3)))))] [.inl v9] h _
    refine wq_k1 (p' := 24) (ck_121 _ _ rfl) rfl ⟨by omega, by omega⟩ (fun c11 => ?_) (fun c12 => ?_)
    · have c11 : v9 ≠ (0) := c11
      refine av_wp_sqF ck_121 3 (pc' := 31) (lv' := [some (.inr (.inr (.inl (some (0))))), some (.inl k), some (.inl l), some (.inl q), some (.inr (.inr (.inl (some (t3)))))]) (st' := [.inl q, .inr (.inr (.inl (some (t3)))), .inr (.inr (.inl (some (0))))]) (h' := h) rfl ?_
      refine wq_cv (p' := 34) (av_qc (.invokevirtual 259) 33 1 0 1) 4 cd_33 [.inl q] (t3) 1 [some (.inr (.inr (.inl (some (t3))))), some (.inl q), none, none] (ck_121 _ _ rfl) rfl rfl pp_33 rfl rfl rfl (congrArg Prod.fst (co_kt y5)) rfl rfl rfl rfl ?_
      refine ct_33x C.1.1 y5 (q) (by omega) (fun h13 t14 c15 u16 A17 o18 e19 x20 => ?_)
      rw [y6] at x20
      have C21 := CJ_al hg C A17
      have K22 := CHK_w (k := (Int.toNat q)) (CR.1 (Int.toNat k) (by omega)).1 (CR.1 (Int.toNat k) (by omega)).2.2.2.2.1 (CB (Int.toNat k) (by omega))
      have e34 : hF h13 3 4 = hF h 3 4 := (CF0_al hg C.1.1 A17).2.1.2.1
      have e6 : ∀ l, l < 8 → hA h13 (6 + l) = hA h (6 + l) := fun l hl => (CF0_al hg C.1.1 A17).2.2.2.1 _ (by omega) (by omega)
      have g23 := ic_lc C.1
      have g23c := co_cbr o18
      show av_wp _ cd_121 34 [some (.inr (.inr (.inl (some (0))))), some (.inl k), some (.inl l), some (.inl q), some (.inr (.inr (.inl (some (t3)))))] [.inr (.inr (.inl (some (t14)))), .inr (.inr (.inl (some (0))))] h13 _
      refine av_wp_sqF ck_121 2 (pc' := 36) (lv' := [some (.inr (.inr (.inl (some (0))))), some (.inl k), some (.inl l), some (.inl q), some (.inr (.inr (.inl (some (t3)))))]) (st' := [.inl l, .inl k, .inr (.inr (.inl (some (t14)))), .inr (.inr (.inl (some (0))))]) (h' := h13) rfl ?_
      refine wq_cv (p' := 39) (av_qc (.invokevirtual 255) 122 3 0 7) 4 cd_122 [.inl l, .inl k, .inr (.inr (.inl (some (t14))))] (0) 7 [some (.inr (.inr (.inl (some (0))))), some (.inr (.inr (.inl (some (t14))))), some (.inl k), some (.inl l)] (ck_121 _ _ rfl) rfl rfl pp_122 rfl rfl rfl (congrArg Prod.fst (ly_k C21.1.1 0 rfl)) rfl rfl rfl rfl ?_
      refine cx_122 C21 o18 e19 (k) (by omega) (by omega) (fun q hq => by have w := (CR.1 (Int.toNat k) (by omega)).2.2.1 q hq; rw [CHG_o x20 hq (by omega), (K22.1 q hq).2.2.2.2.2.2.1]; exact ⟨w.1, by omega⟩) (fun ro bar hb r8 => CHG_sea K22 x20 hb r8) (l) (by omega) (by rw [e34]; exact CRT_c CR (by omega) e6) (by rw [e34]; exact SUA_c SU (fun l hl _ => e6 l hl)) (fun z24 => ?_) (fun z24 z25 v26 h27 r28 n29 C30 F31 U32 p33 => ?_)
      · rw [e34] at z24
        show av_wp _ cd_121 39 [some (.inr (.inr (.inl (some (0))))), some (.inl k), some (.inl l), some (.inl q), some (.inr (.inr (.inl (some (t3)))))] [.inl (-2)] h13 _
        refine av_wp_ret (v := some (.inl (-2))) (ck_121 _ _ rfl) rfl rfl ?_
        have q1 := ic_lc C.1
        by_cases cc : 0 ≤ l ∧ l < hF h 3 4
        · exact hq _ h13 h13 3 (4 + 42 * S (Int.toNat k)) _ _ (by omega) (by omega) A17 C21 (Fr_rf _) SU (Or.inr ⟨by omega, u16, x20, by show _ = lcv _ _ _ _; unfold lcv; rw [if_pos (by omega)]⟩)
        · exact hq _ h13 h13 3 (4 + 42 * S (Int.toNat k)) _ _ (by omega) (by omega) A17 C21 (Fr_rf _) SU (Or.inl ⟨by omega, rfl⟩)
      · rw [e34] at z25
        show av_wp _ cd_121 39 [some (.inr (.inr (.inl (some (0))))), some (.inl k), some (.inl l), some (.inl q), some (.inr (.inr (.inl (some (t3)))))] [.inl v26] h27 _
        refine av_wp_ret (v := some (.inl v26)) (ck_121 _ _ rfl) rfl rfl ?_
        rw [e6 (Int.toNat l) (by omega)] at p33
        rw [e34] at U32
        exact hq _ h13 h27 3 (4 + 42 * S (Int.toNat k)) _ _ (by omega) (by omega) A17 C30 F31 (SUA_c U32 (fun l hl _ => (e6 l hl).symm)) (Or.inr ⟨by omega, u16, x20, by show _ = lcv _ _ _ _; unfold lcv; rw [if_neg (by omega)]; exact p33⟩)
    · have c12 : v9 = (0) := c12
      refine av_wp_sqF ck_121 1 (pc' := 26) (lv' := [some (.inr (.inr (.inl (some (0))))), some (.inl k), some (.inl l), some (.inl q), some (.inr (.inr (.inl (some (t3)))))]) (st' := [.inl (-2)]) (h' := h) rfl ?_
      refine av_wp_ret (v := some (.inl (-2))) (ck_121 _ _ rfl) rfl rfl ?_
      exact hq _ h h 0 0 _ _ (by omega) (by omega) (AL_0 h) C F SU (Or.inl ⟨by omega, rfl⟩)
end
