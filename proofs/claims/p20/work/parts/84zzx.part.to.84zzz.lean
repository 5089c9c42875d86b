section
/-! PART, exactly: the class -/
set_option maxRecDepth 100000 in
set_option maxHeartbeats 4000000 in
theorem cx_114 {h : av_H} {U : Nat → Nat → Int} {S : Nat → Nat} {n : Int} {sr nd : Nat → Int} (C : CJ U S n sr nd h) (l : Int) (ql : -2147483648 ≤ l ∧ l ≤ 2147483647) (m : Int) (qm : -2147483648 ≤ m ∧ m ≤ 2147483647) (CR : CRT U S n (hF h 3 4) (fun k => hA h (6 + k))) (SU : SUA U S n (hF h 3 4) (fun k => hA h (6 + k)) sr) {Q : Option av_V → av_H → Prop} (hq : ∀ (v : Int) h' sr' nd', CJ U S n sr' nd' h' → Fr h h' → SUA U S n (hF h 3 4) (fun k => hA h (6 + k)) sr' → RSP ((0 ≤ l ∧ l < hF h 3 4) ∧ (0 ≤ m ∧ m < hF h 3 4)) (-2) (ptv S (PTQ U S (hA h (6 + Int.toNat l)) (hA h (6 + Int.toNat m))) (Int.toNat n)) v → Q (some (.inl v)) h') : av_wp none cd_114 0 [some (.inr (.inr (.inl (some (0))))), some (.inl l), some (.inl m), none, none, none, none, none] [] h Q := by
  have F := Fr_rf h
  have nr := C.2.1.2.1
  have l8 := ic_lc C.1
  refine av_wp_sqF ck_114 1 (pc' := 1) (lv' := [some (.inr (.inr (.inl (some (0))))), some (.inl l), some (.inl m), none, none, none, none, none]) (st' := [.inr (.inr (.inl (some (0))))]) (h' := h) rfl ?_
  refine wq_gr (p' := 4) (ck_114 _ _ rfl) rfl (congrArg Prod.fst (ly_k C.1.1 0 rfl)) rfl (ly_g C.1.1 0 1 3 rfl) ?_
  refine av_wp_sqF ck_114 1 (pc' := 5) (lv' := [some (.inr (.inr (.inl (some (0))))), some (.inl l), some (.inl m), none, none, none, none, none]) (st' := [.inl l, .inr (.inr (.inl (some (3))))]) (h' := h) rfl ?_
  refine wq_cv (p' := 8) (av_qc (.invokevirtual 153) 70 1 0 5) 2 cd_70 [.inl l] (3) 5 [some (.inr (.inr (.inl (some (3))))), some (.inl l)] (ck_114 _ _ rfl) rfl rfl pp_70 rfl rfl rfl (congrArg Prod.fst (ly_k C.1.1 3 rfl)) rfl rfl rfl rfl ?_
  refine cx_70 C.1 (l) (by omega) (fun v1 p2 => ?_)
  show av_wp _ cd_114 8 [some (.inr (.inr (.inl (some (0))))), some (.inl l), some (.inl m), none, none, none, none, none] [.inl v1] h _
  refine wq_k1 (p' := 11) (ck_114 _ _ rfl) rfl ⟨by omega, by omega⟩ (fun c3 => ?_) (fun c4 => ?_)
  · have c3 : v1 = (0) := c3
    refine av_wp_sqF ck_114 1 (pc' := 24) (lv' := [some (.inr (.inr (.inl (some (0))))), some (.inl l), some (.inl m), none, none, none, none, none]) (st' := [.inl (-2)]) (h' := h) rfl ?_
    refine av_wp_ret (v := some (.inl (-2))) (ck_114 _ _ rfl) rfl rfl ?_
    exact hq _ h _ _ C F SU (Or.inr ⟨by omega, rfl⟩)
  · have c4 : v1 ≠ (0) := c4
    refine av_wp_sqF ck_114 1 (pc' := 12) (lv' := [some (.inr (.inr (.inl (some (0))))), some (.inl l), some (.inl m), none, none, none, none, none]) (st' := [.inr (.inr (.inl (some (0))))]) (h' := h) rfl ?_
    refine wq_gr (p' := 15) (ck_114 _ _ rfl) rfl (congrArg Prod.fst (ly_k C.1.1 0 rfl)) rfl (ly_g C.1.1 0 1 3 rfl) ?_
    refine av_wp_sqF ck_114 1 (pc' := 16) (lv' := [some (.inr (.inr (.inl (some (0))))), some (.inl l), some (.inl m), none, none, none, none, none]) (st' := [.inl m, .inr (.inr (.inl (some (3))))]) (h' := h) rfl ?_
    refine wq_cv (p' := 19) (av_qc (.invokevirtual 153) 70 1 0 5) 2 cd_70 [.inl m] (3) 5 [some (.inr (.inr (.inl (some (3))))), some (.inl m)] (ck_114 _ _ rfl) rfl rfl pp_70 rfl rfl rfl (congrArg Prod.fst (ly_k C.1.1 3 rfl)) rfl rfl rfl rfl ?_
    refine cx_70 C.1 (m) (by omega) (fun v5 p6 => ?_)
    show av_wp _ cd_114 19 [some (.inr (.inr (.inl (some (0))))), some (.inl l), some (.inl m), none, none, none, none, none] [.inl v5] h _
    refine wq_k1 (p' := 22) (ck_114 _ _ rfl) rfl ⟨by omega, by omega⟩ (fun c7 => ?_) (fun c8 => ?_)
    · have c7 : v5 ≠ (0) := c7
      refine av_wp_sqF ck_114 6 (pc' := 34) (lv' := [some (.inr (.inr (.inl (some (0))))), some (.inl l), some (.inl m), some (.inl (-1)), some (.inl (13)), some (.inl (0)), none, none]) (st' := []) (h' := h) rfl ?_
      have L21 : ∀ (m20 : Nat) (k9 : Int) (k10 : Int) (k11 : Int) (a12 : Option av_V) (a13 : Option av_V) (h14 : av_H) (r15 : Nat → Int) (n16 : Nat → Int), av_lg a12 = false → av_lg a13 = false → (k9 = (ptv S (PTQ U S (hA h (6 + Int.toNat l)) (hA h (6 + Int.toNat m))) (Int.toNat k11)) ∧ (((ptv S (PTQ U S (hA h (6 + Int.toNat l)) (hA h (6 + Int.toNat m))) (Int.toNat k11)) = -1 ∧ k10 = 13) ∨ ((ptv S (PTQ U S (hA h (6 + Int.toNat l)) (hA h (6 + Int.toNat m))) (Int.toNat k11)) ≠ -1 ∧ k10 = (S (Int.toNat (ptv S (PTQ U S (hA h (6 + Int.toNat l)) (hA h (6 + Int.toNat m))) (Int.toNat k11))) : Int)))) → k11 ≤ n → (-1 ≤ k9 ∧ k9 ≤ 15) → (0 ≤ k10 ∧ k10 ≤ 13) → (0 ≤ k11 ∧ k11 ≤ 16) → CJ U S n r15 n16 h14 → Fr h h14 → SUA U S n (hF h 3 4) (fun k => hA h (6 + k)) r15 → (16 - k11).toNat = m20 → av_wp none cd_114 34 [some (.inr (.inr (.inl (some (0))))), some (.inl l), some (.inl m), some (.inl k9), some (.inl k10), some (.inl k11), a12, a13] [] h14 Q := by
        intro m20
        induction m20 using Nat.strongRecOn with
        | _ m20 I22 =>
          intro k9 k10 k11 a12 a13 h14 r15 n16 g24 g25 g26 g27 g28 g29 g30 C17 F18 U19 e23
          have la12 := g24
          have la13 := g25
          refine av_wp_sqF ck_114 2 (pc' := 37) (lv' := [some (.inr (.inr (.inl (some (0))))), some (.inl l), some (.inl m), some (.inl k9), some (.inl k10), some (.inl k11), a12, a13]) (st' := [.inr (.inr (.inl (some (0)))), .inl k11]) (h' := h14) rfl ?_
          refine wq_gr (p' := 40) (ck_114 _ _ rfl) rfl (congrArg Prod.fst (ly_k C17.1.1 0 rfl)) rfl (ly_g C17.1.1 0 1 3 rfl) ?_
          obtain ⟨v31, e32⟩ : ∃ v, hF h14 3 3 = v := ⟨_, rfl⟩
          have g33 := ic_cc C17.1
          rw [e32] at g33
          have u34 : v31 = n := e32.symm.trans C17.2.1.1
          refine wq_gi (p' := 43) (ck_114 _ _ rfl) rfl (congrArg Prod.fst (ly_k C17.1.1 3 rfl)) rfl (e32) ?_
          refine wq_k2 (p' := 46) (ck_114 _ _ rfl) rfl ⟨by omega, by omega⟩ ⟨by omega, by omega⟩ (fun c35 => ?_) (fun c36 => ?_)
          · have c35 : v31 ≤ k11 := c35
            refine av_wp_sqF ck_114 1 (pc' := 126) (lv' := [some (.inr (.inr (.inl (some (0))))), some (.inl l), some (.inl m), some (.inl k9), some (.inl k10), some (.inl k11), a12, a13]) (st' := [.inl k9]) (h' := h14) rfl ?_
            refine av_wp_ret (v := some (.inl k9)) (ck_114 _ _ rfl) rfl rfl ?_
            exact hq _ h14 _ _ C17 F18 U19 (Or.inl ⟨by omega, by rw [show Int.toNat n = Int.toNat k11 by omega]; exact g26.1⟩)
          · have c36 : k11 < v31 := c36
            refine av_wp_sqF ck_114 1 (pc' := 47) (lv' := [some (.inr (.inr (.inl (some (0))))), some (.inl l), some (.inl m), some (.inl k9), some (.inl k10), some (.inl k11), a12, a13]) (st' := [.inr (.inr (.inl (some (0))))]) (h' := h14) rfl ?_
            refine wq_gr (p' := 50) (ck_114 _ _ rfl) rfl (congrArg Prod.fst (ly_k C17.1.1 0 rfl)) rfl (ly_g C17.1.1 0 1 3 rfl) ?_
            refine av_wp_sqF ck_114 1 (pc' := 52) (lv' := [some (.inr (.inr (.inl (some (0))))), some (.inl l), some (.inl m), some (.inl k9), some (.inl k10), some (.inl k11), a12, a13]) (st' := [.inl k11, .inr (.inr (.inl (some (3))))]) (h' := h14) rfl ?_
            refine wq_cv (p' := 55) (av_qc (.invokevirtual 96) 69 1 0 5) 2 cd_69 [.inl k11] (3) 5 [some (.inr (.inr (.inl (some (3))))), some (.inl k11)] (ck_114 _ _ rfl) rfl rfl pp_69 rfl rfl rfl (congrArg Prod.fst (ly_k C17.1.1 3 rfl)) rfl rfl rfl rfl ?_
            refine cz_69 C17 (k11) (by omega) (fun z37 => ?_) (fun z37 z38 t39 c40 y41 y42 => ?_)
            · show av_wp _ cd_114 55 [some (.inr (.inr (.inl (some (0))))), some (.inl l), some (.inl m), some (.inl k9), some (.inl k10), some (.inl k11), a12, a13] [.inr (.inr (.inl none))] h14 _
              refine av_wp_sqF ck_114 9 (pc' := 34) (lv' := [some (.inr (.inr (.inl (some (0))))), some (.inl l), some (.inl m), some (.inl k9), some (.inl k10), some (.inl (k11 + (1))), some (.inr (.inr (.inl none))), some (.inl (0))]) (st' := []) (h' := h14) rfl ?_
              exact I22 _ (by omega) (k9) (k10) ((k11 + (1))) (some (.inr (.inr (.inl none)))) (some (.inl (0))) h14 r15 n16 rfl rfl (by have pr := ptv_r (S := S) (Q := (PTQ U S (hA h (6 + Int.toNat l)) (hA h (6 + Int.toNat m)))) (Int.toNat k11); rw [show Int.toNat (k11 + (1)) = Int.toNat k11 + 1 by omega, ptv_n (fun z => by have := z.1; omega)]; exact g26) (by omega) (by omega) (by omega) (by omega) C17 F18 U19 rfl
            · have g43 := co_s12 y41
              have g44 := co_cbr y41
              show av_wp _ cd_114 55 [some (.inr (.inr (.inl (some (0))))), some (.inl l), some (.inl m), some (.inl k9), some (.inl k10), some (.inl k11), a12, a13] [.inr (.inr (.inl (some (t39))))] h14 _
              refine av_wp_sqF ck_114 4 (pc' := 64) (lv' := [some (.inr (.inr (.inl (some (0))))), some (.inl l), some (.inl m), some (.inl k9), some (.inl k10), some (.inl k11), some (.inr (.inr (.inl (some (t39))))), a13]) (st' := [.inr (.inr (.inl (some (t39))))]) (h' := h14) rfl ?_
              refine wq_gi (p' := 67) (ck_114 _ _ rfl) rfl (congrArg Prod.fst (co_kt y41)) rfl (co_s y41) ?_
              refine av_wp_sqF ck_114 1 (pc' := 69) (lv' := [some (.inr (.inr (.inl (some (0))))), some (.inl l), some (.inl m), some (.inl k9), some (.inl k10), some (.inl k11), some (.inr (.inr (.inl (some (t39))))), a13]) (st' := [.inl k10, .inl ((S (Int.toNat (k11))) : Int)]) (h' := h14) rfl ?_
              refine wq_k2 (p' := 72) (ck_114 _ _ rfl) rfl ⟨by omega, by omega⟩ ⟨by omega, by omega⟩ (fun c45 => ?_) (fun c46 => ?_)
              · have c45 : k10 ≤ ((S (Int.toNat (k11))) : Int) := c45
                refine av_wp_sqF ck_114 6 (pc' := 34) (lv' := [some (.inr (.inr (.inl (some (0))))), some (.inl l), some (.inl m), some (.inl k9), some (.inl k10), some (.inl (k11 + (1))), some (.inr (.inr (.inl (some (t39))))), some (.inl (0))]) (st' := []) (h' := h14) rfl ?_
                exact I22 _ (by omega) (k9) (k10) ((k11 + (1))) (some (.inr (.inr (.inl (some (t39)))))) (some (.inl (0))) h14 r15 n16 rfl rfl (by have pr := ptv_r (S := S) (Q := (PTQ U S (hA h (6 + Int.toNat l)) (hA h (6 + Int.toNat m)))) (Int.toNat k11); rw [show Int.toNat (k11 + (1)) = Int.toNat k11 + 1 by omega, ptv_n (fun z => by have := z.1; omega)]; exact g26) (by omega) (by omega) (by omega) (by omega) C17 F18 U19 rfl
              · have c46 : ((S (Int.toNat (k11))) : Int) < k10 := c46
                refine av_wp_sqF ck_114 6 (pc' := 85) (lv' := [some (.inr (.inr (.inl (some (0))))), some (.inl l), some (.inl m), some (.inl k9), some (.inl k10), some (.inl k11), some (.inr (.inr (.inl (some (t39))))), some (.inl (1))]) (st' := [.inr (.inr (.inl (some (0))))]) (h' := h14) rfl ?_
                refine wq_gr (p' := 88) (ck_114 _ _ rfl) rfl (congrArg Prod.fst (ly_k C17.1.1 0 rfl)) rfl (ly_g C17.1.1 0 5 26 rfl) ?_
                refine av_wp_sqF ck_114 3 (pc' := 92) (lv' := [some (.inr (.inr (.inl (some (0))))), some (.inl l), some (.inl m), some (.inl k9), some (.inl k10), some (.inl k11), some (.inr (.inr (.inl (some (t39))))), some (.inl (1))]) (st' := [.inl m, .inl l, .inl k11, .inr (.inr (.inl (some (26))))]) (h' := h14) rfl ?_
                refine wq_cv (p' := 95) (av_qc (.invokevirtual 222) 50 3 0 3) 5 cd_50 [.inl m, .inl l, .inl k11] (26) 3 [some (.inr (.inr (.inl (some (26))))), some (.inl k11), some (.inl l), some (.inl m), none] (ck_114 _ _ rfl) rfl rfl pp_50 rfl rfl rfl (congrArg Prod.fst (ly_k C17.1.1 26 rfl)) rfl rfl rfl rfl ?_
                have G62cr : CRT U S n (hF h14 3 4) (fun k => hA h14 (6 + k)) := by rw [Fr_34 F18]; exact CRT_c CR (by have := ic_lc C.1; omega) (Fr_6 F18)
                have G62su : SUA U S n (hF h14 3 4) (fun k => hA h14 (6 + k)) r15 := by rw [Fr_34 F18]; exact SUA_c U19 (fun l hl _ => Fr_6 F18 l hl)
                refine cx_50 C17 (k11) (by omega) (l) (by omega) (m) (by omega) G62cr G62su (fun h47 r48 n49 C50 F51 U52 z53 => ?_) (fun z54 h55 r56 n57 t58 c59 X60 U61 => ?_)
                · rw [Fr_34 F18] at U52 z53
                  have F63 := Fr_tr F18 F51
                  have U52 := SUA_c U52 (fun l hl _ => (Fr_6 F18 l hl).symm)
                  show av_wp _ cd_114 95 [some (.inr (.inr (.inl (some (0))))), some (.inl l), some (.inl m), some (.inl k9), some (.inl k10), some (.inl k11), some (.inr (.inr (.inl (some (t39))))), some (.inl (1))] [.inl (0)] h47 _
                  refine av_wp_sqF ck_114 3 (pc' := 34) (lv' := [some (.inr (.inr (.inl (some (0))))), some (.inl l), some (.inl m), some (.inl k9), some (.inl k10), some (.inl (k11 + (1))), some (.inr (.inr (.inl (some (t39))))), some (.inl (1))]) (st' := []) (h' := h47) rfl ?_
                  exact I22 _ (by omega) (k9) (k10) ((k11 + (1))) (some (.inr (.inr (.inl (some (t39)))))) (some (.inl (1))) h47 r48 n49 rfl rfl (by have pr := ptv_r (S := S) (Q := (PTQ U S (hA h (6 + Int.toNat l)) (hA h (6 + Int.toNat m)))) (Int.toNat k11); rw [show Int.toNat (k11 + (1)) = Int.toNat k11 + 1 by omega, ptv_n (fun z => z53 ⟨by omega, z.2.1, by omega, by omega⟩)]; exact g26) (by omega) (by omega) (by omega) (by omega) C50 F63 U52 rfl
                · rw [Fr_34 F18] at z54 U61
                  have U61 := SUA_c U61 (fun l hl _ => (Fr_6 F18 l hl).symm)
                  rw [Fr_6 F18 (Int.toNat l) (by have := ic_lc C.1; omega), Fr_6 F18 (Int.toNat m) (by have := ic_lc C.1; omega)] at X60
                  have G621 := CWF_sea (ro := (hA h (6 + Int.toNat l))) (CR.1 (Int.toNat k11) (by omega)) (rl_8 (CR.2.2.2 l (by omega) (by omega))).1 (brv_b (U (Int.toNat k11)) (srt U S (hA h (6 + Int.toNat l)) (Int.toNat k11)))
                  have G622 := CWF_sea (ro := (hA h (6 + Int.toNat m))) (CR.1 (Int.toNat k11) (by omega)) (rl_8 (CR.2.2.2 m (by omega) (by omega))).1 (brv_b (U (Int.toNat k11)) (srt U S (hA h (6 + Int.toNat m)) (Int.toNat k11)))
                  have G62c := cbv_d (U (Int.toNat k11)) (S (Int.toNat k11))
                  have G62d := CR.2.2.1 (Int.toNat k11) (by omega)
                  show av_wp _ cd_114 95 [some (.inr (.inr (.inl (some (0))))), some (.inl l), some (.inl m), some (.inl k9), some (.inl k10), some (.inl k11), some (.inr (.inr (.inl (some (t39))))), some (.inl (1))] [.inl (1)] h55 _
                  refine av_wp_sqF ck_114 2 (pc' := 99) (lv' := [some (.inr (.inr (.inl (some (0))))), some (.inl l), some (.inl m), some (.inl k9), some (.inl k10), some (.inl k11), some (.inr (.inr (.inl (some (t39))))), some (.inl (1))]) (st' := [.inr (.inr (.inl (some (0))))]) (h' := h55) rfl ?_
                  refine wq_gr (p' := 102) (ck_114 _ _ rfl) rfl (congrArg Prod.fst (ly_k X60.1.1.1 0 rfl)) rfl (ly_g X60.1.1.1 0 5 26 rfl) ?_
                  refine wq_cv (p' := 105) (av_qc (.invokevirtual 228) 61 0 0 3) 2 cd_61 [] (26) 3 [some (.inr (.inr (.inl (some (26))))), none] (ck_114 _ _ rfl) rfl rfl pp_61 rfl rfl rfl (congrArg Prod.fst (ly_k X60.1.1.1 26 rfl)) rfl rfl rfl rfl ?_
                  refine cx_61 X60 G621 G622 (CR.1 (Int.toNat k11) (by omega)).1 (CR.2.2.2 l (by omega) (by omega)) (CR.2.2.2 m (by omega) (by omega)) (by omega) (fun v65 h66 X67 p68 => ?_)
                  have F69 := Fr_tr F18 X67.2.1
                  have g70 : -1 ≤ v65 ∧ v65 < (Int.toNat (cbv (U (Int.toNat k11)) (S (Int.toNat k11))) : Int) := by rw [p68]; exact fsP_r
                  have y71 := CO_fr C17.1.1 y41 X67.2.1
                  show av_wp _ cd_114 105 [some (.inr (.inr (.inl (some (0))))), some (.inl l), some (.inl m), some (.inl k9), some (.inl k10), some (.inl k11), some (.inr (.inr (.inl (some (t39))))), some (.inl (1))] [.inl v65] h66 _
                  refine av_wp_sqF ck_114 1 (pc' := 106) (lv' := [some (.inr (.inr (.inl (some (0))))), some (.inl l), some (.inl m), some (.inl k9), some (.inl k10), some (.inl k11), some (.inr (.inr (.inl (some (t39))))), some (.inl (1))]) (st' := [.inl (-1), .inl v65]) (h' := h66) rfl ?_
                  refine wq_k2 (p' := 109) (ck_114 _ _ rfl) rfl ⟨by omega, by omega⟩ ⟨by omega, by omega⟩ (fun c72 => ?_) (fun c73 => ?_)
                  · have c72 : v65 = (-1) := c72
                    refine av_wp_sqF ck_114 2 (pc' := 34) (lv' := [some (.inr (.inr (.inl (some (0))))), some (.inl l), some (.inl m), some (.inl k9), some (.inl k10), some (.inl (k11 + (1))), some (.inr (.inr (.inl (some (t39))))), some (.inl (1))]) (st' := []) (h' := h66) rfl ?_
                    exact I22 _ (by omega) (k9) (k10) ((k11 + (1))) (some (.inr (.inr (.inl (some (t39)))))) (some (.inl (1))) h66 r56 n57 rfl rfl (by have pr := ptv_r (S := S) (Q := (PTQ U S (hA h (6 + Int.toNat l)) (hA h (6 + Int.toNat m)))) (Int.toNat k11); rw [show Int.toNat (k11 + (1)) = Int.toNat k11 + 1 by omega, ptv_n (fun z => z.2.2 (by rw [← p68]; omega))]; exact g26) (by omega) (by omega) (by omega) (by omega) X67.1 F69 U61 rfl
                  · have c73 : v65 ≠ (-1) := c73
                    refine av_wp_sqF ck_114 3 (pc' := 114) (lv' := [some (.inr (.inr (.inl (some (0))))), some (.inl l), some (.inl m), some (.inl k11), some (.inl k10), some (.inl k11), some (.inr (.inr (.inl (some (t39))))), some (.inl (1))]) (st' := [.inr (.inr (.inl (some (t39))))]) (h' := h66) rfl ?_
                    refine wq_gi (p' := 117) (ck_114 _ _ rfl) rfl (congrArg Prod.fst (co_kt y71)) rfl (co_s y71) ?_
                    refine av_wp_sqF ck_114 3 (pc' := 34) (lv' := [some (.inr (.inr (.inl (some (0))))), some (.inl l), some (.inl m), some (.inl k11), some (.inl ((S (Int.toNat (k11))) : Int)), some (.inl (k11 + (1))), some (.inr (.inr (.inl (some (t39))))), some (.inl (1))]) (st' := []) (h' := h66) rfl ?_
                    exact I22 _ (by omega) (k11) (((S (Int.toNat (k11))) : Int)) ((k11 + (1))) (some (.inr (.inr (.inl (some (t39)))))) (some (.inl (1))) h66 r56 n57 rfl rfl (by have pr := ptv_r (S := S) (Q := (PTQ U S (hA h (6 + Int.toNat l)) (hA h (6 + Int.toNat m)))) (Int.toNat k11); rw [show Int.toNat (k11 + (1)) = Int.toNat k11 + 1 by omega, ptv_y (by omega) ⟨by omega, by rw [← p68]; omega⟩]; refine ⟨by omega, Or.inr ⟨by omega, ?_⟩⟩; rw [show ((((Int.toNat k11) : Nat) : Int)).toNat = (Int.toNat k11) by omega]) (by omega) (by omega) (by omega) (by omega) X67.1 F69 U61 rfl
      exact L21 _ ((-1)) ((13)) ((0)) (none) (none) h sr nd rfl rfl ⟨rfl, Or.inl ⟨rfl, rfl⟩⟩ (by omega) (by omega) (by omega) (by omega) C F SU rfl
    · have c8 : v5 = (0) := c8
      refine av_wp_sqF ck_114 1 (pc' := 24) (lv' := [some (.inr (.inr (.inl (some (0))))), some (.inl l), some (.inl m), none, none, none, none, none]) (st' := [.inl (-2)]) (h' := h) rfl ?_
      refine av_wp_ret (v := some (.inl (-2))) (ck_114 _ _ rfl) rfl rfl ?_
      exact hq _ h _ _ C F SU (Or.inr ⟨by omega, rfl⟩)
end
section
/-! APART, PART of the reference: what it keeps of the first law -/
def tt3 (t : T3) : Int := if t.2.2 = 9999 then -1 else t.2.2
def ww3 (u ro : Nat → Int) (t : T3) (w : Nat) : Int := if t.2.2 = 9999 then -1 else bwv u ro t.1 t.2.1 w
theorem tt3_n {t : T3} (e : t.2.2 = 9999) : tt3 t = -1 := if_pos e
theorem tt3_y {t : T3} (e : t.2.2 ≠ 9999) : tt3 t = t.2.2 := if_neg e
theorem ww3_n {u ro : Nat → Int} {t : T3} {w : Nat} (e : t.2.2 = 9999) : ww3 u ro t w = -1 := if_pos e
theorem ww3_y {u ro : Nat → Int} {t : T3} {w : Nat} (e : t.2.2 ≠ 9999) : ww3 u ro t w = bwv u ro t.1 t.2.1 w := if_neg e
theorem tt3_r {t : T3} (h : t.2.2 = 9999 ∨ (0 ≤ t.2.2 ∧ t.2.2 < 9999)) : -1 ≤ tt3 t ∧ tt3 t ≤ 9998 := by
  unfold tt3
  split <;> omega
theorem tt3_e {a b : T3} (h : a.2.2 = 9999 ∨ (0 ≤ a.2.2 ∧ a.2.2 < 9999)) (k : b.2.2 = 9999 ∨ (0 ≤ b.2.2 ∧ b.2.2 < 9999)) (e : tt3 a = tt3 b) : a.2.2 = b.2.2 := by
  unfold tt3 at e
  split at e <;> split at e <;> omega
section
variable {u ro bar : Nat → Int} {s k w : Nat} {A A' : Nat → Nat → Int} {g h h' : av_H}
theorem bw_r {x : Int} (W : UW u s) (hw : w < 5) (ne : (bgn u ro bar s x).2.2 ≠ 9999) : -1 ≤ bwv u ro (bgn u ro bar s x).1 (bgn u ro bar s x).2.1 w ∧ bwv u ro (bgn u ro bar s x).1 (bgn u ro bar s x).2.1 w ≤ 999 := by
  rcases bgn_f (u := u) (ro := ro) (bar := bar) (s := s) (x := x) with z | z
  · exact absurd z.1 ne
  · refine bwv_r W hw ?_ z.2.1.2.1
    rcases z.2.2 with y | y
    · rw [y]
      omega
    · exact y.2.1
theorem ww3_r {x : Int} (W : UW u s) (hw : w < 5) : -1 ≤ ww3 u ro (bgn u ro bar s x) w ∧ ww3 u ro (bgn u ro bar s x) w ≤ 999 := by
  by_cases c : (bgn u ro bar s x).2.2 = 9999
  · rw [ww3_n c]
    omega
  · rw [ww3_y c]
    exact bw_r W hw c
/-- the hours and words of the first k combos are kept -/
def APS (u ro bar : Nat → Int) (s k : Nat) (A : Nat → Nat → Int) : Prop := ∀ j : Nat, j < k → A 120 j = tt3 (bgn u ro bar s (j : Int)) ∧ ∀ w, w < 5 → A 121 (5 * j + w) = ww3 u ro (bgn u ro bar s (j : Int)) w
/-- and of the next one w words -/
def APW (u ro bar : Nat → Int) (s k w : Nat) (A : Nat → Nat → Int) : Prop := APS u ro bar s k A ∧ A 120 k = tt3 (bgn u ro bar s (k : Int)) ∧ ∀ i, i < w → A 121 (5 * k + i) = ww3 u ro (bgn u ro bar s (k : Int)) i
theorem APS_0 : APS u ro bar s 0 A := fun _ h => absurd h (Nat.not_lt_zero _)
theorem APS_c (x : APS u ro bar s k A) (e0 : A' 120 = A 120) (e1 : A' 121 = A 121) : APS u ro bar s k A' := by
  unfold APS
  rw [e0, e1]
  exact x
theorem APW_0 {v : Int} (x : APS u ro bar s k (hA h)) (e : h' = hwA h 120 k v) (ev : v = tt3 (bgn u ro bar s (k : Int))) : APW u ro bar s k 0 (hA h') := by
  refine ⟨fun j hj => ⟨?_, ?_⟩, ?_, fun i hi => absurd hi (Nat.not_lt_zero _)⟩
  · rw [hA_eu e, u1_ne (by omega)]
    exact (x j hj).1
  · rw [hA_en e (by decide)]
    exact (x j hj).2
  · rw [hA_eu e, u1_eq]
    exact ev
theorem APW_s {v : Int} (x : APW u ro bar s k w (hA h)) (e : h' = hwA h 121 (5 * k + w) v) (hw : w < 5) (ev : v = ww3 u ro (bgn u ro bar s (k : Int)) w) : APW u ro bar s k (w + 1) (hA h') := by
  refine ⟨fun j hj => ⟨?_, fun i hi => ?_⟩, ?_, fun i hi => ?_⟩
  · rw [hA_en e (by decide)]
    exact (x.1 j hj).1
  · rw [hA_eu e, u1_ne (by omega)]
    exact (x.1 j hj).2 i hi
  · rw [hA_en e (by decide)]
    exact x.2.1
  · by_cases c : i = w
    · rw [c, hA_eu e, u1_eq]
      exact ev
    · rw [hA_eu e, u1_ne (by omega)]
      exact x.2.2 i (by omega)
theorem APW_e {k' : Nat} (x : APW u ro bar s k w A) (e : w = 5) (e' : k' = k + 1) : APS u ro bar s k' A := fun j hj => by
  subst e
  by_cases c : j = k
  · rw [c]
    exact ⟨x.2.1, x.2.2⟩
  · exact x.1 j (by omega)
theorem APS_g (x : APS u ro bar s k A) (y : Int) (h0 : 0 ≤ y) (h1 : y.toNat < k) : A 120 y.toNat = tt3 (bgn u ro bar s y) ∧ ∀ w, w < 5 → A 121 (5 * y.toNat + w) = ww3 u ro (bgn u ro bar s y) w := by
  have z := x y.toNat h1
  rw [Int.toNat_of_nonneg h0] at z
  exact z
theorem RBA_t (x : RBA u ro bar s g) (Z : ZE [120, 121] [60, 61] g h) : RBA u ro bar s h := ⟨RBB_z x.1 (ZE_low Z (elem_12 ⟨rfl, rfl, rfl, rfl, rfl, rfl, rfl, rfl, rfl, rfl, rfl, rfl⟩)), by
  unfold AQL
  rw [Z.1 105 rfl, Z.1 106 rfl, Z.1 98 rfl, Z.1 107 rfl, Z.1 108 rfl, Z.2 28 rfl]
  exact x.2⟩
theorem LR_t {a : Nat → Nat → Int} (x : LR u ro a s (hA g)) (Z : ZE [120, 121] [60, 61] g h) : LR u ro a s (hA h) := LR_c x (fun q hq => by
  refine Z.1 q ?_
  rcases (show q = 95 ∨ q = 96 ∨ q = 97 ∨ q = 99 ∨ q = 100 ∨ q = 101 ∨ q = 102 ∨ q = 103 ∨ q = 104 ∨ q = 109 ∨ q = 110 ∨ q = 111 by omega) with e | e | e | e | e | e | e | e | e | e | e | e <;> subst e <;> rfl)
theorem BRR_t {t : T3} (x : BRR t g) (Z : ZE [120, 121] [60, 61] g h) : BRR t h := BRR_n x (fun k h1 h2 => by
  rcases (show k = 50 ∨ k = 51 ∨ k = 52 ∨ k = 53 by omega) with e | e | e | e <;> subst e <;> exact Z.2 _ rfl)
end
/-- whether they part in combo x: what the flag says behind w words -/
def PJ (u ro bar ro2 bar2 : Nat → Int) (s : Nat) (x v : Int) (w : Nat) : Prop := (v = 1 ∧ PRT u ro bar ro2 bar2 s x) ∨ (v = 0 ∧ (bgn u ro bar s x).2.2 = (bgn u ro2 bar2 s x).2.2 ∧ ∀ i, i < w → ww3 u ro (bgn u ro bar s x) i = bwv u ro2 (bgn u ro2 bar2 s x).1 (bgn u ro2 bar2 s x).2.1 i)
section
variable {u ro bar ro2 bar2 : Nat → Int} {s w w' : Nat} {x v : Int}
theorem PJ_0n (ne : tt3 (bgn u ro bar s x) ≠ tt3 (bgn u ro2 bar2 s x)) : PJ u ro bar ro2 bar2 s x 1 0 := Or.inl ⟨rfl, Or.inl (fun e => ne (by unfold tt3; rw [e]))⟩
theorem PJ_0y (h : (bgn u ro bar s x).2.2 = 9999 ∨ (0 ≤ (bgn u ro bar s x).2.2 ∧ (bgn u ro bar s x).2.2 < 9999)) (k : (bgn u ro2 bar2 s x).2.2 = 9999 ∨ (0 ≤ (bgn u ro2 bar2 s x).2.2 ∧ (bgn u ro2 bar2 s x).2.2 < 9999)) (e : tt3 (bgn u ro bar s x) = tt3 (bgn u ro2 bar2 s x)) : PJ u ro bar ro2 bar2 s x 0 0 := Or.inr ⟨rfl, tt3_e h k e, fun i hi => absurd hi (Nat.not_lt_zero _)⟩
theorem PJ_1 (J : PJ u ro bar ro2 bar2 s x v w) (h : v ≠ 0) : PJ u ro bar ro2 bar2 s x 1 w' := Or.inl ⟨rfl, J.elim (fun z => z.2) (fun z => absurd z.1 h)⟩
theorem PJ_n (J : PJ u ro bar ro2 bar2 s x v w) (h : v = 0) (hw : w < 5) (e' : w' = w + 1) (nb : (bgn u ro2 bar2 s x).2.2 ≠ 9999) (ne : ww3 u ro (bgn u ro bar s x) w ≠ bwv u ro2 (bgn u ro2 bar2 s x).1 (bgn u ro2 bar2 s x).2.1 w) : PJ u ro bar ro2 bar2 s x 1 w' := by
  rcases J with z | z
  · exact absurd z.1 (by omega)
  · have na : (bgn u ro bar s x).2.2 ≠ 9999 := by rw [z.2.1]; exact nb
    refine Or.inl ⟨rfl, Or.inr ⟨na, w, hw, ?_⟩⟩
    rw [ww3_y na] at ne
    exact ne
theorem PJ_y (J : PJ u ro bar ro2 bar2 s x v w) (h : v = 0) (e' : w' = w + 1) (ne : ww3 u ro (bgn u ro bar s x) w = bwv u ro2 (bgn u ro2 bar2 s x).1 (bgn u ro2 bar2 s x).2.1 w) : PJ u ro bar ro2 bar2 s x 0 w' := by
  subst e'
  rcases J with z | z
  · exact absurd z.1 (by omega)
  · refine Or.inr ⟨rfl, z.2.1, fun i hi => ?_⟩
    by_cases c : i = w
    · rw [c]
      exact ne
    · exact z.2.2 i (by omega)
theorem PJ_p (J : PJ u ro bar ro2 bar2 s x v w) (h : v ≠ 0) : PRT u ro bar ro2 bar2 s x := J.elim (fun z => z.2) (fun z => absurd z.1 h)
theorem PJ_z (J : PJ u ro bar ro2 bar2 s x v w) (h : v = 0) (e : (bgn u ro2 bar2 s x).2.2 = 9999 ∨ w = 5) : ¬ PRT u ro bar ro2 bar2 s x := by
  rcases J with z | z
  · exact absurd z.1 (by omega)
  · intro p
    rcases p with p | p
    · exact p z.2.1
    · obtain ⟨na, i, hi, q⟩ := p
      rcases e with e | e
      · exact na (z.2.1.trans e)
      · have y := z.2.2 i (by omega)
        rw [ww3_y na] at y
        exact q y
end
theorem cv_185 {g h : av_H} {n a m : Int} (I : IMF n a m h) (F : FM g h) {U : Nat → Nat → Int} {S : Nat → Nat} {ro : Nat → Nat → Int} (R : RXX g U S ro) (g16 : hA g 78 0 ≤ 16) (x : Int) (qx : 0 ≤ x ∧ x < hA g 78 0) (l : Int) (ql : 0 ≤ l ∧ l < hA g 79 0) (RO : ∀ j, j < 13 → hA h 95 j = ro (Int.toNat l) j) {Q : Option av_V → av_H → Prop} (hq : ∀ n' a' m' h', n' = (S (Int.toNat x) : Int) → m' = cbf (U (Int.toNat x)) (S (Int.toNat x)) → RBA (U (Int.toNat x)) (ro (Int.toNat l)) (bxx U S (ro (Int.toNat l)) (Int.toNat x)) (S (Int.toNat x)) h' → ZE [96, 97, 98, 99, 100, 101, 102, 103, 104, 105, 106, 107, 108, 109, 110, 111, 112, 113, 114, 115, 116, 117] [27, 28, 29, 50, 51, 52, 53] h h' → IMF n' a' m' h' → FM g h' → Q none h') : av_wp none cd_185 0 [some (.inr (.inr (.inl (some (77))))), some (.inl x), none, none] [] h Q :=
  cx_185 I F x (by omega) qx.2 (fun c hc => R.1 c (by omega)) (fun c hc => R.2.1 c (Int.toNat l) (by omega) (by omega)) (fun c hc => R.2.2.1 c (by omega)) RO hq
end
section
/-! APART, PART, exactly: the reference -/
theorem fsP_s2 {P : Int → Prop} {k : Nat} (h : ¬ P (k : Int)) : fsP P (k + 1) = fsP P k := by
  by_cases e : fsP P k = -1
  · rw [fsP_n e h, e]
  · exact fsP_k e
end
section
set_option maxRecDepth 100000 in
set_option maxHeartbeats 4000000 in
theorem cx_200 {g h : av_H} {n a m : Int} (I : IMF n a m h) (F : FM g h) {U : Nat → Nat → Int} {S : Nat → Nat} {ro : Nat → Nat → Int} (RX : RXX g U S ro) (x : Int) (qx : -2147483648 ≤ x ∧ x ≤ 2147483647) (l : Int) (ql : -2147483648 ≤ l ∧ l ≤ 2147483647) (y : Int) (qy : 0 ≤ y ∧ y < hA g 79 0) {Q : Option av_V → av_H → Prop} (hq0 : ∀ n' a' m' h', ¬ (okx U S (hA g 78 0) (hA g 79 0) x l 0) → IMF n' a' m' h' → FM g h' → Q (some (.inl 0)) h') (hq1 : ∀ n' a' m' h', (okx U S (hA g 78 0) (hA g 79 0) x l 0) → IMF n' a' m' h' → FM g h' → hF h' 77 60 = cnP (PRT (U (Int.toNat x)) (ro (Int.toNat l)) (bxx U S (ro (Int.toNat l)) (Int.toNat x)) (ro (Int.toNat y)) (bxx U S (ro (Int.toNat y)) (Int.toNat x)) (S (Int.toNat x))) (Int.toNat (cbv (U (Int.toNat x)) (S (Int.toNat x)))) → hF h' 77 61 = fsP (PRT (U (Int.toNat x)) (ro (Int.toNat l)) (bxx U S (ro (Int.toNat l)) (Int.toNat x)) (ro (Int.toNat y)) (bxx U S (ro (Int.toNat y)) (Int.toNat x)) (S (Int.toNat x))) (Int.toNat (cbv (U (Int.toNat x)) (S (Int.toNat x)))) → Q (some (.inl 1)) h') : av_wp none cd_200 0 [some (.inr (.inr (.inl (some (77))))), some (.inl x), some (.inl l), some (.inl y), none, none, none] [] h Q := by
  have gn := im_n I.1.1
  rw [I.2.1] at gn
  have ga := im_a I.1.1
  rw [I.2.2.1] at ga
  have gm := im_cm I.1.1
  rw [I.2.2.2] at gm
  have G0 := I.1.1.2.1
  have G16 : 0 ≤ hA g 78 0 ∧ hA g 78 0 ≤ 16 := by rw [← F.2.2.2.2.2.2 78 rfl]; exact G0.2.1
  have G8 : 0 ≤ hA g 79 0 ∧ hA g 79 0 ≤ 8 := by rw [← F.2.2.2.2.2.2 79 rfl]; exact G0.2.2.1
  have G6 : 0 ≤ hA g 80 0 ∧ hA g 80 0 ≤ 6 := by rw [← F.2.2.2.2.2.2 80 rfl]; exact G0.2.2.2.1
  have dcb := cbv_d (U (Int.toNat x)) (S (Int.toNat x))
  refine av_wp_sqF ck_200 4 (pc' := 4) (lv' := [some (.inr (.inr (.inl (some (77))))), some (.inl x), some (.inl l), some (.inl y), none, none, none]) (st' := [.inl (0), .inl l, .inl x, .inr (.inr (.inl (some (77))))]) (h' := h) rfl ?_
  refine wq_cv (p' := 7) (av_qc (.invokevirtual 446) 186 3 0 8) 4 cd_186 [.inl (0), .inl l, .inl x] (77) 8 [some (.inr (.inr (.inl (some (77))))), some (.inl x), some (.inl l), some (.inl (0))] (ck_200 _ _ rfl) rfl rfl pp_186 rfl rfl rfl (congrArg Prod.fst (ly_k I.1.1.1 77 rfl)) rfl rfl rfl rfl ?_
  refine cx_186 I F RX (x) (by omega) (l) (by omega) ((0)) (by omega) (fun n1 a2 m3 h4 z5 I6 F7 => ?_) (fun n8 a9 m10 h11 z12 z13 z14 e15 e16 A17 O18 B19 L20 I21 F22 => ?_)
  · have g23 := im_n I6.1.1
    rw [I6.2.1] at g23
    have g24 := im_a I6.1.1
    rw [I6.2.2.1] at g24
    have g25 := im_cm I6.1.1
    rw [I6.2.2.2] at g25
    show av_wp _ cd_200 7 [some (.inr (.inr (.inl (some (77))))), some (.inl x), some (.inl l), some (.inl y), none, none, none] [.inl (0)] h4 _
    refine av_wp_sqF ck_200 2 (pc' := 11) (lv' := [some (.inr (.inr (.inl (some (77))))), some (.inl x), some (.inl l), some (.inl y), none, none, none]) (st' := [.inl (0)]) (h' := h4) rfl ?_
    refine av_wp_ret (v := some (.inl (0))) (ck_200 _ _ rfl) rfl rfl ?_
    exact hq0 _ _ _ h4 (by unfold okx; omega) I6 F7
  · have g26 := im_n I21.1.1
    rw [I21.2.1] at g26
    have g27 := im_a I21.1.1
    rw [I21.2.2.1] at g27
    have g28 := im_cm I21.1.1
    rw [I21.2.2.2] at g28
    have H29 : ∀ x_ : Int, 0 ≤ x_ → x_ ≤ 1023 → (bgn (U (Int.toNat x)) (ro (Int.toNat l)) (bxx U S (ro (Int.toNat l)) (Int.toNat x)) (S (Int.toNat x)) x_).2.2 = 9999 ∨ (0 ≤ (bgn (U (Int.toNat x)) (ro (Int.toNat l)) (bxx U S (ro (Int.toNat l)) (Int.toNat x)) (S (Int.toNat x)) x_).2.2 ∧ (bgn (U (Int.toNat x)) (ro (Int.toNat l)) (bxx U S (ro (Int.toNat l)) (Int.toNat x)) (S (Int.toNat x)) x_).2.2 < 9999) := fun x_ h0 h1 => bgn_0 (HBd_arr (RX.2.1 (Int.toNat x) (Int.toNat l) (by omega) (by omega)) h0 h1)
    have g30 := cbv_d (U (Int.toNat x)) (S (Int.toNat x))
    show av_wp _ cd_200 7 [some (.inr (.inr (.inl (some (77))))), some (.inl x), some (.inl l), some (.inl y), none, none, none] [.inl (1)] h11 _
    refine av_wp_sqF ck_200 3 (pc' := 14) (lv' := [some (.inr (.inr (.inl (some (77))))), some (.inl x), some (.inl l), some (.inl y), none, none, none]) (st' := [.inl (0), .inr (.inr (.inl (some (77))))]) (h' := h11) rfl ?_
    refine xm_pf (p' := 17) rfl rfl I21 F22 (by omega) rfl (fun h31 I32 F33 e34 => ?_)
    have Z35 := ZE_f (L := [120, 121]) (K := [60, 61]) (ZE_rf h11) e34 rfl
    have f36 := hF_es e34
    have A38 := RBA_t A17 Z35
    refine av_wp_sqF ck_200 2 (pc' := 19) (lv' := [some (.inr (.inr (.inl (some (77))))), some (.inl x), some (.inl l), some (.inl y), none, none, none]) (st' := [.inl (-1), .inr (.inr (.inl (some (77))))]) (h' := h31) rfl ?_
    refine xm_pf (p' := 22) rfl rfl I32 F33 (by omega) rfl (fun h39 I40 F41 e42 => ?_)
    have Z43 := ZE_f (L := [120, 121]) (K := [60, 61]) (ZE_rf h31) e42 rfl
    have f44 := hF_es e42
    have f45 := (hF_eo (k := 60) e42 (by decide)).trans f36
    have A46 := RBA_t A38 Z43
    refine av_wp_sqF ck_200 2 (pc' := 25) (lv' := [some (.inr (.inr (.inl (some (77))))), some (.inl x), some (.inl l), some (.inl y), some (.inl (0)), none, none]) (st' := []) (h' := h39) rfl ?_
    have L57 : ∀ (m56 : Nat) (k47 : Int) (a48 : Option av_V) (h49 : av_H), av_lg a48 = false → k47 ≤ m10 → (0 ≤ k47 ∧ k47 ≤ 1024) → IMF n8 a9 m10 h49 → FM g h49 → RBA (U (Int.toNat x)) (ro (Int.toNat l)) (bxx U S (ro (Int.toNat l)) (Int.toNat x)) (S (Int.toNat x)) h49 → APS (U (Int.toNat x)) (ro (Int.toNat l)) (bxx U S (ro (Int.toNat l)) (Int.toNat x)) (S (Int.toNat x)) (Int.toNat k47) (hA h49) → hF h49 77 60 = 0 → hF h49 77 61 = -1 → (1024 - k47).toNat = m56 → av_wp none cd_200 25 [some (.inr (.inr (.inl (some (77))))), some (.inl x), some (.inl l), some (.inl y), some (.inl k47), a48, none] [] h49 Q := by
      intro m56
      induction m56 using Nat.strongRecOn with
      | _ m56 I58 =>
        intro k47 a48 h49 g60 g61 g62 I50 F51 A52 P53 f54 f55 e59
        have la48 := g60
        refine av_wp_sqF ck_200 2 (pc' := 28) (lv' := [some (.inr (.inr (.inl (some (77))))), some (.inl x), some (.inl l), some (.inl y), some (.inl k47), a48, none]) (st' := [.inr (.inr (.inl (some (77)))), .inl k47]) (h' := h49) rfl ?_
        refine wq_gi (p' := 31) (ck_200 _ _ rfl) rfl (congrArg Prod.fst (ly_k I50.1.1.1 77 rfl)) rfl (I50.2.2.2) ?_
        refine wq_k2 (p' := 34) (ck_200 _ _ rfl) rfl ⟨by omega, by omega⟩ ⟨by omega, by omega⟩ (fun c63 => ?_) (fun c64 => ?_)
        · have c63 : m10 ≤ k47 := c63
          refine av_wp_sqF ck_200 3 (pc' := 115) (lv' := [some (.inr (.inr (.inl (some (77))))), some (.inl x), some (.inl l), some (.inl y), some (.inl k47), a48, none]) (st' := [.inl (0), .inl y, .inr (.inr (.inl (some (77))))]) (h' := h49) rfl ?_
          refine wq_cv (p' := 118) (av_qc (.invokevirtual 348) 159 2 0 8) 5 cd_159 [.inl (0), .inl y] (77) 8 [some (.inr (.inr (.inl (some (77))))), some (.inl y), some (.inl (0)), none, none] (ck_200 _ _ rfl) rfl rfl pp_159 rfl rfl rfl (congrArg Prod.fst (ly_k I50.1.1.1 77 rfl)) rfl rfl rfl rfl ?_
          refine cy_159 I50 F51 G8 G6 RX (y) (by omega) (fun h65 I66 F67 y68 Z69 => ?_)
          have P70 : APS (U (Int.toNat x)) (ro (Int.toNat l)) (bxx U S (ro (Int.toNat l)) (Int.toNat x)) (S (Int.toNat x)) (Int.toNat (cbv (U (Int.toNat x)) (S (Int.toNat x)))) (hA h65) := by rw [show (Int.toNat (cbv (U (Int.toNat x)) (S (Int.toNat x)))) = Int.toNat k47 by omega]; exact APS_c P53 (Z69.1 120 rfl) (Z69.1 121 rfl)
          have f71 := (Z69.2 60 rfl).trans f54
          have f72 := (Z69.2 61 rfl).trans f55
          show av_wp _ cd_200 118 [some (.inr (.inr (.inl (some (77))))), some (.inl x), some (.inl l), some (.inl y), some (.inl k47), a48, none] [] h65 _
          refine av_wp_sqF ck_200 2 (pc' := 120) (lv' := [some (.inr (.inr (.inl (some (77))))), some (.inl x), some (.inl l), some (.inl y), some (.inl k47), a48, none]) (st' := [.inl x, .inr (.inr (.inl (some (77))))]) (h' := h65) rfl ?_
          refine wq_cv (p' := 123) (av_qc (.invokevirtual 440) 185 1 0 8) 4 cd_185 [.inl x] (77) 8 [some (.inr (.inr (.inl (some (77))))), some (.inl x), none, none] (ck_200 _ _ rfl) rfl rfl pp_185 rfl rfl rfl (congrArg Prod.fst (ly_k I66.1.1.1 77 rfl)) rfl rfl rfl rfl ?_
          refine cv_185 I66 F67 RX (by omega) (x) (by omega) (y) (by omega) y68 (fun n73 a74 m75 h76 e77 e78 A79 Z80 I81 F82 => ?_)
          have P83 := APS_c P70 (Z80.1 120 rfl) (Z80.1 121 rfl)
          have f84 := (Z80.2 60 rfl).trans f71
          have f85 := (Z80.2 61 rfl).trans f72
          have g86 := im_n I81.1.1
          rw [I81.2.1] at g86
          have g87 := im_a I81.1.1
          rw [I81.2.2.1] at g87
          have g88 := im_cm I81.1.1
          rw [I81.2.2.2] at g88
          have H89 : ∀ x_ : Int, 0 ≤ x_ → x_ ≤ 1023 → (bgn (U (Int.toNat x)) (ro (Int.toNat y)) (bxx U S (ro (Int.toNat y)) (Int.toNat x)) (S (Int.toNat x)) x_).2.2 = 9999 ∨ (0 ≤ (bgn (U (Int.toNat x)) (ro (Int.toNat y)) (bxx U S (ro (Int.toNat y)) (Int.toNat x)) (S (Int.toNat x)) x_).2.2 ∧ (bgn (U (Int.toNat x)) (ro (Int.toNat y)) (bxx U S (ro (Int.toNat y)) (Int.toNat x)) (S (Int.toNat x)) x_).2.2 < 9999) := fun x_ h0 h1 => bgn_0 (HBd_arr (RX.2.1 (Int.toNat x) (Int.toNat y) (by omega) (by omega)) h0 h1)
          show av_wp _ cd_200 123 [some (.inr (.inr (.inl (some (77))))), some (.inl x), some (.inl l), some (.inl y), some (.inl k47), a48, none] [] h76 _
          refine av_wp_sqF ck_200 2 (pc' := 126) (lv' := [some (.inr (.inr (.inl (some (77))))), some (.inl x), some (.inl l), some (.inl y), some (.inl (0)), a48, none]) (st' := []) (h' := h76) rfl ?_
          have L101 : ∀ (m100 : Nat) (k90 : Int) (a91 : Option av_V) (a92 : Option av_V) (h93 : av_H), av_lg a91 = false → av_lg a92 = false → k90 ≤ m75 → (0 ≤ k90 ∧ k90 ≤ 1024) → IMF n73 a74 m75 h93 → FM g h93 → RBA (U (Int.toNat x)) (ro (Int.toNat y)) (bxx U S (ro (Int.toNat y)) (Int.toNat x)) (S (Int.toNat x)) h93 → APS (U (Int.toNat x)) (ro (Int.toNat l)) (bxx U S (ro (Int.toNat l)) (Int.toNat x)) (S (Int.toNat x)) (Int.toNat (cbv (U (Int.toNat x)) (S (Int.toNat x)))) (hA h93) → hF h93 77 60 = cnP (PRT (U (Int.toNat x)) (ro (Int.toNat l)) (bxx U S (ro (Int.toNat l)) (Int.toNat x)) (ro (Int.toNat y)) (bxx U S (ro (Int.toNat y)) (Int.toNat x)) (S (Int.toNat x))) (Int.toNat k90) → hF h93 77 61 = fsP (PRT (U (Int.toNat x)) (ro (Int.toNat l)) (bxx U S (ro (Int.toNat l)) (Int.toNat x)) (ro (Int.toNat y)) (bxx U S (ro (Int.toNat y)) (Int.toNat x)) (S (Int.toNat x))) (Int.toNat k90) → (1024 - k90).toNat = m100 → av_wp none cd_200 126 [some (.inr (.inr (.inl (some (77))))), some (.inl x), some (.inl l), some (.inl y), some (.inl k90), a91, a92] [] h93 Q := by
            intro m100
            induction m100 using Nat.strongRecOn with
            | _ m100 I102 =>
              intro k90 a91 a92 h93 g104 g105 g106 g107 I94 F95 A96 P97 f98 f99 e103
              have la91 := g104
              have la92 := g105
              refine av_wp_sqF ck_200 2 (pc' := 129) (lv' := [some (.inr (.inr (.inl (some (77))))), some (.inl x), some (.inl l), some (.inl y), some (.inl k90), a91, a92]) (st' := [.inr (.inr (.inl (some (77)))), .inl k90]) (h' := h93) rfl ?_
              refine wq_gi (p' := 132) (ck_200 _ _ rfl) rfl (congrArg Prod.fst (ly_k I94.1.1.1 77 rfl)) rfl (I94.2.2.2) ?_
              refine wq_k2 (p' := 135) (ck_200 _ _ rfl) rfl ⟨by omega, by omega⟩ ⟨by omega, by omega⟩ (fun c108 => ?_) (fun c109 => ?_)
              · have c108 : m75 ≤ k90 := c108
                refine av_wp_sqF ck_200 1 (pc' := 266) (lv' := [some (.inr (.inr (.inl (some (77))))), some (.inl x), some (.inl l), some (.inl y), some (.inl k90), a91, a92]) (st' := [.inl (1)]) (h' := h93) rfl ?_
                refine av_wp_ret (v := some (.inl (1))) (ck_200 _ _ rfl) rfl rfl ?_
                exact hq1 _ _ _ h93 (by unfold okx; omega) I94 F95 (by rw [show (Int.toNat (cbv (U (Int.toNat x)) (S (Int.toNat x)))) = Int.toNat k90 by omega]; exact f98) (by rw [show (Int.toNat (cbv (U (Int.toNat x)) (S (Int.toNat x)))) = Int.toNat k90 by omega]; exact f99)
              · have c109 : k90 < m75 := c109
                refine av_wp_sqF ck_200 2 (pc' := 138) (lv' := [some (.inr (.inr (.inl (some (77))))), some (.inl x), some (.inl l), some (.inl y), some (.inl k90), a91, a92]) (st' := [.inl k90, .inr (.inr (.inl (some (77))))]) (h' := h93) rfl ?_
                refine wq_cv (p' := 141) (av_qc (.invokevirtual 431) 181 1 0 8) 2 cd_181 [.inl k90] (77) 8 [some (.inr (.inr (.inl (some (77))))), some (.inl k90)] (ck_200 _ _ rfl) rfl rfl pp_181 rfl rfl rfl (congrArg Prod.fst (ly_k I94.1.1.1 77 rfl)) rfl rfl rfl rfl ?_
                refine cy_181 I94 F95 e77 A96 (RX.2.1 (Int.toNat x) (Int.toNat y) (by omega) (by omega)) (k90) (by omega) (fun h110 I111 F112 Z113 A114 O115 B116 L117 => ?_)
                have P118 := APS_c P97 (Z113.1 120 rfl) (Z113.1 121 rfl)
                have f119 := (Z113.2 60 rfl).trans f98
                have f120 := (Z113.2 61 rfl).trans f99
                show av_wp _ cd_200 141 [some (.inr (.inr (.inl (some (77))))), some (.inl x), some (.inl l), some (.inl y), some (.inl k90), a91, a92] [] h110 _
                refine av_wp_sqF ck_200 1 (pc' := 142) (lv' := [some (.inr (.inr (.inl (some (77))))), some (.inl x), some (.inl l), some (.inl y), some (.inl k90), a91, a92]) (st' := [.inr (.inr (.inl (some (77))))]) (h' := h110) rfl ?_
                refine wq_gr (p' := 145) (ck_200 _ _ rfl) rfl (congrArg Prod.fst (ly_k I111.1.1.1 77 rfl)) rfl (ly_g I111.1.1.1 77 58 120 rfl) ?_
                refine av_wp_sqF ck_200 1 (pc' := 147) (lv' := [some (.inr (.inr (.inl (some (77))))), some (.inl x), some (.inl l), some (.inl y), some (.inl k90), a91, a92]) (st' := [.inl k90, .inr (.inr (.inl (some (120))))]) (h' := h110) rfl ?_
                obtain ⟨v121, e122⟩ : ∃ v, hA h110 120 (Int.toNat (k90)) = v := ⟨_, rfl⟩
                have y124 : tt3 (bgn (U (Int.toNat x)) (ro (Int.toNat l)) (bxx U S (ro (Int.toNat l)) (Int.toNat x)) (S (Int.toNat x)) k90) = v121 := (APS_g P118 k90 (by omega) (by omega)).1.symm.trans e122
                have g125 := tt3_r (H29 k90 (by omega) (by omega))
                rw [y124] at g125
                refine wq_al (p' := 148) (n := 1024) (ck_200 _ _ rfl) rfl (ly_k I111.1.1.1 120 rfl) (by omega) (e122) ?_
                refine av_wp_sqF ck_200 1 (pc' := 149) (lv' := [some (.inr (.inr (.inl (some (77))))), some (.inl x), some (.inl l), some (.inl y), some (.inl k90), a91, a92]) (st' := [.inr (.inr (.inl (some (77)))), .inl v121]) (h' := h110) rfl ?_
                obtain ⟨v126, e127⟩ : ∃ v, hF h110 77 50 = v := ⟨_, rfl⟩
                have g128 := im_has I111.1.1
                rw [e127] at g128
                refine wq_gb (p' := 152) (ck_200 _ _ rfl) rfl (congrArg Prod.fst (ly_k I111.1.1.1 77 rfl)) rfl (e127) ?_
                refine wq_k1 (p' := 155) (ck_200 _ _ rfl) rfl ⟨by omega, by omega⟩ (fun c129 => ?_) (fun c130 => ?_)
                · have c129 : v126 = (0) := c129
                  refine av_wp_sqF ck_200 1 (pc' := 163) (lv' := [some (.inr (.inr (.inl (some (77))))), some (.inl x), some (.inl l), some (.inl y), some (.inl k90), a91, a92]) (st' := [.inl (-1), .inl v121]) (h' := h110) rfl ?_
                  have J134 : ∀ (j131 : Int), (0 ≤ j131 ∧ j131 ≤ 1) → PJ (U (Int.toNat x)) (ro (Int.toNat l)) (bxx U S (ro (Int.toNat l)) (Int.toNat x)) (ro (Int.toNat y)) (bxx U S (ro (Int.toNat y)) (Int.toNat x)) (S (Int.toNat x)) k90 j131 0 →  av_wp none cd_200 171 [some (.inr (.inr (.inl (some (77))))), some (.inl x), some (.inl l), some (.inl y), some (.inl k90), a91, a92] [.inl j131] h110 Q := by
                    intro j131 g132 g133
                    refine av_wp_sqF ck_200 3 (pc' := 176) (lv' := [some (.inr (.inr (.inl (some (77))))), some (.inl x), some (.inl l), some (.inl y), some (.inl k90), some (.inl j131), some (.inl (0))]) (st' := []) (h' := h110) rfl ?_
                    have L138 : ∀ (m137 : Nat) (k135 : Int) (k136 : Int), PJ (U (Int.toNat x)) (ro (Int.toNat l)) (bxx U S (ro (Int.toNat l)) (Int.toNat x)) (ro (Int.toNat y)) (bxx U S (ro (Int.toNat y)) (Int.toNat x)) (S (Int.toNat x)) k90 k135 (Int.toNat k136) → (0 ≤ k135 ∧ k135 ≤ 1) → (0 ≤ k136 ∧ k136 ≤ 5) → (5 - k136).toNat = m137 → av_wp none cd_200 176 [some (.inr (.inr (.inl (some (77))))), some (.inl x), some (.inl l), some (.inl y), some (.inl k90), some (.inl k135), some (.inl k136)] [] h110 Q := by
                      intro m137
                      induction m137 using Nat.strongRecOn with
                      | _ m137 I139 =>
                        intro k135 k136 g141 g142 g143 e140
                        refine av_wp_sqF ck_200 2 (pc' := 179) (lv' := [some (.inr (.inr (.inl (some (77))))), some (.inl x), some (.inl l), some (.inl y), some (.inl k90), some (.inl k135), some (.inl k136)]) (st' := [.inl (5), .inl k136]) (h' := h110) rfl ?_
                        refine wq_k2 (p' := 182) (ck_200 _ _ rfl) rfl ⟨by omega, by omega⟩ ⟨by omega, by omega⟩ (fun c144 => ?_) (fun c145 => ?_)
                        · have c144 : (5) ≤ k136 := c144
                          refine av_wp_sqF ck_200 1 (pc' := 230) (lv' := [some (.inr (.inr (.inl (some (77))))), some (.inl x), some (.inl l), some (.inl y), some (.inl k90), some (.inl k135), some (.inl k136)]) (st' := [.inl k135]) (h' := h110) rfl ?_
                          refine wq_k1 (p' := 233) (ck_200 _ _ rfl) rfl ⟨by omega, by omega⟩ (fun c146 => ?_) (fun c147 => ?_)
                          · have c146 : k135 ≠ (0) := c146
                            have N148 := PJ_p g141 (by omega)
                            refine av_wp_sqF ck_200 2 (pc' := 238) (lv' := [some (.inr (.inr (.inl (some (77))))), some (.inl x), some (.inl l), some (.inl y), some (.inl k90), some (.inl k135), some (.inl k136)]) (st' := [.inr (.inr (.inl (some (77)))), .inr (.inr (.inl (some (77))))]) (h' := h110) rfl ?_
                            obtain ⟨v149, e150⟩ : ∃ v, hF h110 77 60 = v := ⟨_, rfl⟩
                            have y151 := e150.symm.trans f119
                            have g152 := cn_fs (P := (PRT (U (Int.toNat x)) (ro (Int.toNat l)) (bxx U S (ro (Int.toNat l)) (Int.toNat x)) (ro (Int.toNat y)) (bxx U S (ro (Int.toNat y)) (Int.toNat x)) (S (Int.toNat x)))) (k := Int.toNat k90)
                            rw [← y151] at g152
                            refine wq_gi (p' := 241) (ck_200 _ _ rfl) rfl (congrArg Prod.fst (ly_k I111.1.1.1 77 rfl)) rfl (e150) ?_
                            refine av_wp_sqF ck_200 2 (pc' := 243) (lv' := [some (.inr (.inr (.inl (some (77))))), some (.inl x), some (.inl l), some (.inl y), some (.inl k90), some (.inl k135), some (.inl k136)]) (st' := [.inl (v149 + (1)), .inr (.inr (.inl (some (77))))]) (h' := h110) rfl ?_
                            refine xm_pf (p' := 246) rfl rfl I111 F112 (by omega) rfl (fun h153 I154 F155 e156 => ?_)
                            have Z157 := ZE_f (L := [120, 121]) (K := [60, 61]) (ZE_rf h110) e156 rfl
                            have f158 := hF_es e156
                            have f159 := (hF_eo (k := 61) e156 (by decide)).trans f120
                            have P160 := APS_c P118 (show hA h153 120 = hA h110 120 by rw [e156]; rfl) (show hA h153 121 = hA h110 121 by rw [e156]; rfl)
                            have A161 := RBA_t A114 Z157
                            have B162 := BRR_t B116 Z157
                            have L163 := LR_t L117 Z157
                            refine av_wp_sqF ck_200 1 (pc' := 247) (lv' := [some (.inr (.inr (.inl (some (77))))), some (.inl x), some (.inl l), some (.inl y), some (.inl k90), some (.inl k135), some (.inl k136)]) (st' := [.inr (.inr (.inl (some (77))))]) (h' := h153) rfl ?_
                            obtain ⟨v164, e165⟩ : ∃ v, hF h153 77 61 = v := ⟨_, rfl⟩
                            have y166 := e165.symm.trans f159
                            have g167 := fsP_r (P := (PRT (U (Int.toNat x)) (ro (Int.toNat l)) (bxx U S (ro (Int.toNat l)) (Int.toNat x)) (ro (Int.toNat y)) (bxx U S (ro (Int.toNat y)) (Int.toNat x)) (S (Int.toNat x)))) (k := Int.toNat k90)
                            rw [← y166] at g167
                            refine wq_gi (p' := 250) (ck_200 _ _ rfl) rfl (congrArg Prod.fst (ly_k I154.1.1.1 77 rfl)) rfl (e165) ?_
                            refine wq_k1 (p' := 253) (ck_200 _ _ rfl) rfl ⟨by omega, by omega⟩ (fun c168 => ?_) (fun c169 => ?_)
                            · have c168 : (0) ≤ v164 := c168
                              refine av_wp_sqF ck_200 2 (pc' := 126) (lv' := [some (.inr (.inr (.inl (some (77))))), some (.inl x), some (.inl l), some (.inl y), some (.inl (k90 + (1))), some (.inl k135), some (.inl k136)]) (st' := []) (h' := h153) rfl ?_
                              exact I102 _ (by omega) ((k90 + (1))) (some (.inl k135)) (some (.inl k136)) h153 rfl rfl (by omega) (by omega) I154 F155 A161 P160 (by rw [show Int.toNat (k90 + (1)) = Int.toNat k90 + 1 by omega, cnP_y (by rw [show ((Int.toNat k90 : Nat) : Int) = k90 by omega]; exact N148), ← y151]; exact f158) (by rw [show Int.toNat (k90 + (1)) = Int.toNat k90 + 1 by omega, fsP_k (by omega)]; exact f159) rfl
                            · have c169 : v164 < (0) := c169
                              refine av_wp_sqF ck_200 2 (pc' := 256) (lv' := [some (.inr (.inr (.inl (some (77))))), some (.inl x), some (.inl l), some (.inl y), some (.inl k90), some (.inl k135), some (.inl k136)]) (st' := [.inl k90, .inr (.inr (.inl (some (77))))]) (h' := h153) rfl ?_
                              refine xm_pf (p' := 259) rfl rfl I154 F155 (by omega) rfl (fun h170 I171 F172 e173 => ?_)
                              have Z174 := ZE_f (L := [120, 121]) (K := [60, 61]) (ZE_rf h153) e173 rfl
                              have f175 := hF_es e173
                              have f176 := (hF_eo (k := 60) e173 (by decide)).trans f158
                              have P177 := APS_c P160 (show hA h170 120 = hA h153 120 by rw [e173]; rfl) (show hA h170 121 = hA h153 121 by rw [e173]; rfl)
                              have A178 := RBA_t A161 Z174
                              have B179 := BRR_t B162 Z174
                              have L180 := LR_t L163 Z174
                              refine av_wp_sqF ck_200 2 (pc' := 126) (lv' := [some (.inr (.inr (.inl (some (77))))), some (.inl x), some (.inl l), some (.inl y), some (.inl (k90 + (1))), some (.inl k135), some (.inl k136)]) (st' := []) (h' := h170) rfl ?_
                              exact I102 _ (by omega) ((k90 + (1))) (some (.inl k135)) (some (.inl k136)) h170 rfl rfl (by omega) (by omega) I171 F172 A178 P177 (by rw [show Int.toNat (k90 + (1)) = Int.toNat k90 + 1 by omega, cnP_y (by rw [show ((Int.toNat k90 : Nat) : Int) = k90 by omega]; exact N148), ← y151]; exact f176) (by rw [show Int.toNat (k90 + (1)) = Int.toNat k90 + 1 by omega, fsP_y (by omega) (by rw [show ((Int.toNat k90 : Nat) : Int) = k90 by omega]; exact N148)]; exact f175.trans (by omega)) rfl
                          · have c147 : k135 = (0) := c147
                            have N181 := PJ_z g141 (by omega) (Or.inl (BRR_no B116 e127 (by omega)))
                            refine av_wp_sqF ck_200 3 (pc' := 126) (lv' := [some (.inr (.inr (.inl (some (77))))), some (.inl x), some (.inl l), some (.inl y), some (.inl (k90 + (1))), some (.inl k135), some (.inl k136)]) (st' := []) (h' := h110) rfl ?_
                            exact I102 _ (by omega) ((k90 + (1))) (some (.inl k135)) (some (.inl k136)) h110 rfl rfl (by omega) (by omega) I111 F112 A114 P118 (by rw [show Int.toNat (k90 + (1)) = Int.toNat k90 + 1 by omega, cnP_n (by rw [show ((Int.toNat k90 : Nat) : Int) = k90 by omega]; exact N181)]; exact f119) (by rw [show Int.toNat (k90 + (1)) = Int.toNat k90 + 1 by omega]; exact f120.trans (fsP_s2 (by rw [show ((Int.toNat k90 : Nat) : Int) = k90 by omega]; exact N181)).symm) rfl
                        · have c145 : k136 < (5) := c145
                          refine av_wp_sqF ck_200 1 (pc' := 183) (lv' := [some (.inr (.inr (.inl (some (77))))), some (.inl x), some (.inl l), some (.inl y), some (.inl k90), some (.inl k135), some (.inl k136)]) (st' := [.inr (.inr (.inl (some (77))))]) (h' := h110) rfl ?_
                          refine wq_gb (p' := 186) (ck_200 _ _ rfl) rfl (congrArg Prod.fst (ly_k I111.1.1.1 77 rfl)) rfl (e127) ?_
                          refine wq_k1 (p' := 189) (ck_200 _ _ rfl) rfl ⟨by omega, by omega⟩ (fun c182 => ?_) (fun c183 => ?_)
                          · have c182 : v126 = (0) := c182
                            refine av_wp_sqF ck_200 1 (pc' := 230) (lv' := [some (.inr (.inr (.inl (some (77))))), some (.inl x), some (.inl l), some (.inl y), some (.inl k90), some (.inl k135), some (.inl k136)]) (st' := [.inl k135]) (h' := h110) rfl ?_
                            refine wq_k1 (p' := 233) (ck_200 _ _ rfl) rfl ⟨by omega, by omega⟩ (fun c184 => ?_) (fun c185 => ?_)
                            · have c184 : k135 ≠ (0) := c184
                              have N186 := PJ_p g141 (by omega)
                              refine av_wp_sqF ck_200 2 (pc' := 238) (lv' := [some (.inr (.inr (.inl (some (77))))), some (.inl x), some (.inl l), some (.inl y), some (.inl k90), some (.inl k135), some (.inl k136)]) (st' := [.inr (.inr (.inl (some (77)))), .inr (.inr (.inl (some (77))))]) (h' := h110) rfl ?_
                              obtain ⟨v187, e188⟩ : ∃ v, hF h110 77 60 = v := ⟨_, rfl⟩
                              have y189 := e188.symm.trans f119
                              have g190 := cn_fs (P := (PRT (U (Int.toNat x)) (ro (Int.toNat l)) (bxx U S (ro (Int.toNat l)) (Int.toNat x)) (ro (Int.toNat y)) (bxx U S (ro (Int.toNat y)) (Int.toNat x)) (S (Int.toNat x)))) (k := Int.toNat k90)
                              rw [← y189] at g190
                              refine wq_gi (p' := 241) (ck_200 _ _ rfl) rfl (congrArg Prod.fst (ly_k I111.1.1.1 77 rfl)) rfl (e188) ?_
                              refine av_wp_sqF ck_200 2 (pc' := 243) (lv' := [some (.inr (.inr (.inl (some (77))))), some (.inl x), some (.inl l), some (.inl y), some (.inl k90), some (.inl k135), some (.inl k136)]) (st' := [.inl (v187 + (1)), .inr (.inr (.inl (some (77))))]) (h' := h110) rfl ?_
                              refine xm_pf (p' := 246) rfl rfl I111 F112 (by omega) rfl (fun h191 I192 F193 e194 => ?_)
                              have Z195 := ZE_f (L := [120, 121]) (K := [60, 61]) (ZE_rf h110) e194 rfl
                              have f196 := hF_es e194
                              have f197 := (hF_eo (k := 61) e194 (by decide)).trans f120
                              have P198 := APS_c P118 (show hA h191 120 = hA h110 120 by rw [e194]; rfl) (show hA h191 121 = hA h110 121 by rw [e194]; rfl)
                              have A199 := RBA_t A114 Z195
                              have B200 := BRR_t B116 Z195
                              have L201 := LR_t L117 Z195
                              refine av_wp_sqF ck_200 1 (pc' := 247) (lv' := [some (.inr (.inr (.inl (some (77))))), some (.inl x), some (.inl l), some (.inl y), some (.inl k90), some (.inl k135), some (.inl k136)]) (st' := [.inr (.inr (.inl (some (77))))]) (h' := h191) rfl ?_
                              obtain ⟨v202, e203⟩ : ∃ v, hF h191 77 61 = v := ⟨_, rfl⟩
                              have y204 := e203.symm.trans f197
                              have g205 := fsP_r (P := (PRT (U (Int.toNat x)) (ro (Int.toNat l)) (bxx U S (ro (Int.toNat l)) (Int.toNat x)) (ro (Int.toNat y)) (bxx U S (ro (Int.toNat y)) (Int.toNat x)) (S (Int.toNat x)))) (k := Int.toNat k90)
                              rw [← y204] at g205
                              refine wq_gi (p' := 250) (ck_200 _ _ rfl) rfl (congrArg Prod.fst (ly_k I192.1.1.1 77 rfl)) rfl (e203) ?_
                              refine wq_k1 (p' := 253) (ck_200 _ _ rfl) rfl ⟨by omega, by omega⟩ (fun c206 => ?_) (fun c207 => ?_)
                              · have c206 : (0) ≤ v202 := c206
                                refine av_wp_sqF ck_200 2 (pc' := 126) (lv' := [some (.inr (.inr (.inl (some (77))))), some (.inl x), some (.inl l), some (.inl y), some (.inl (k90 + (1))), some (.inl k135), some (.inl k136)]) (st' := []) (h' := h191) rfl ?_
                                exact I102 _ (by omega) ((k90 + (1))) (some (.inl k135)) (some (.inl k136)) h191 rfl rfl (by omega) (by omega) I192 F193 A199 P198 (by rw [show Int.toNat (k90 + (1)) = Int.toNat k90 + 1 by omega, cnP_y (by rw [show ((Int.toNat k90 : Nat) : Int) = k90 by omega]; exact N186), ← y189]; exact f196) (by rw [show Int.toNat (k90 + (1)) = Int.toNat k90 + 1 by omega, fsP_k (by omega)]; exact f197) rfl
                              · have c207 : v202 < (0) := c207
                                refine av_wp_sqF ck_200 2 (pc' := 256) (lv' := [some (.inr (.inr (.inl (some (77))))), some (.inl x), some (.inl l), some (.inl y), some (.inl k90), some (.inl k135), some (.inl k136)]) (st' := [.inl k90, .inr (.inr (.inl (some (77))))]) (h' := h191) rfl ?_
                                refine xm_pf (p' := 259) rfl rfl I192 F193 (by omega) rfl (fun h208 I209 F210 e211 => ?_)
                                have Z212 := ZE_f (L := [120, 121]) (K := [60, 61]) (ZE_rf h191) e211 rfl
                                have f213 := hF_es e211
                                have f214 := (hF_eo (k := 60) e211 (by decide)).trans f196
                                have P215 := APS_c P198 (show hA h208 120 = hA h191 120 by rw [e211]; rfl) (show hA h208 121 = hA h191 121 by rw [e211]; rfl)
                                have A216 := RBA_t A199 Z212
                                have B217 := BRR_t B200 Z212
                                have L218 := LR_t L201 Z212
                                refine av_wp_sqF ck_200 2 (pc' := 126) (lv' := [some (.inr (.inr (.inl (some (77))))), some (.inl x), some (.inl l), some (.inl y), some (.inl (k90 + (1))), some (.inl k135), some (.inl k136)]) (st' := []) (h' := h208) rfl ?_
                                exact I102 _ (by omega) ((k90 + (1))) (some (.inl k135)) (some (.inl k136)) h208 rfl rfl (by omega) (by omega) I209 F210 A216 P215 (by rw [show Int.toNat (k90 + (1)) = Int.toNat k90 + 1 by omega, cnP_y (by rw [show ((Int.toNat k90 : Nat) : Int) = k90 by omega]; exact N186), ← y189]; exact f214) (by rw [show Int.toNat (k90 + (1)) = Int.toNat k90 + 1 by omega, fsP_y (by omega) (by rw [show ((Int.toNat k90 : Nat) : Int) = k90 by omega]; exact N186)]; exact f213.trans (by omega)) rfl
                            · have c185 : k135 = (0) := c185
                              have N219 := PJ_z g141 (by omega) (Or.inl (BRR_no B116 e127 (by omega)))
                              refine av_wp_sqF ck_200 3 (pc' := 126) (lv' := [some (.inr (.inr (.inl (some (77))))), some (.inl x), some (.inl l), some (.inl y), some (.inl (k90 + (1))), some (.inl k135), some (.inl k136)]) (st' := []) (h' := h110) rfl ?_
                              exact I102 _ (by omega) ((k90 + (1))) (some (.inl k135)) (some (.inl k136)) h110 rfl rfl (by omega) (by omega) I111 F112 A114 P118 (by rw [show Int.toNat (k90 + (1)) = Int.toNat k90 + 1 by omega, cnP_n (by rw [show ((Int.toNat k90 : Nat) : Int) = k90 by omega]; exact N219)]; exact f119) (by rw [show Int.toNat (k90 + (1)) = Int.toNat k90 + 1 by omega]; exact f120.trans (fsP_s2 (by rw [show ((Int.toNat k90 : Nat) : Int) = k90 by omega]; exact N219)).symm) rfl
                          · have c183 : v126 ≠ (0) := c183
                            exfalso; omega
                    exact L138 _ (j131) ((0)) g133 (by omega) (by omega) rfl
                  refine wq_k2 (p' := 166) (ck_200 _ _ rfl) rfl ⟨by omega, by omega⟩ ⟨by omega, by omega⟩ (fun c220 => ?_) (fun c221 => ?_)
                  · have c220 : v121 = (-1) := c220
                    refine av_wp_sqF ck_200 1 (pc' := 171) (lv' := [some (.inr (.inr (.inl (some (77))))), some (.inl x), some (.inl l), some (.inl y), some (.inl k90), a91, a92]) (st' := [.inl (0)]) (h' := h110) rfl ?_
                    exact J134 ((0)) (by omega) (PJ_0y (H29 k90 (by omega) (by omega)) (H89 k90 (by omega) (by omega)) (by rw [y124, (tt3_n (BRR_no B116 e127 (by omega)))]; omega))
                  · have c221 : v121 ≠ (-1) := c221
                    refine av_wp_sqF ck_200 2 (pc' := 171) (lv' := [some (.inr (.inr (.inl (some (77))))), some (.inl x), some (.inl l), some (.inl y), some (.inl k90), a91, a92]) (st' := [.inl (1)]) (h' := h110) rfl ?_
                    exact J134 ((1)) (by omega) (PJ_0n (by rw [y124, (tt3_n (BRR_no B116 e127 (by omega)))]; omega))
                · have c130 : v126 ≠ (0) := c130
                  refine av_wp_sqF ck_200 1 (pc' := 156) (lv' := [some (.inr (.inr (.inl (some (77))))), some (.inl x), some (.inl l), some (.inl y), some (.inl k90), a91, a92]) (st' := [.inr (.inr (.inl (some (77)))), .inl v121]) (h' := h110) rfl ?_
                  obtain ⟨v222, e223⟩ : ∃ v, hF h110 77 53 = v := ⟨_, rfl⟩
                  have y224 : (bgn (U (Int.toNat x)) (ro (Int.toNat y)) (bxx U S (ro (Int.toNat y)) (Int.toNat x)) (S (Int.toNat x)) k90).2.2 = v222 := (BRR_ye B116 e127 (by omega)).2.2.2.symm.trans e223
                  have g225 := H89 k90 (by omega) (by omega)
                  rw [show (bgn (U (Int.toNat x)) (ro (Int.toNat y)) (bxx U S (ro (Int.toNat y)) (Int.toNat x)) (S (Int.toNat x)) k90).2.2 = v222 from y224] at g225
                  refine wq_gi (p' := 159) (ck_200 _ _ rfl) rfl (congrArg Prod.fst (ly_k I111.1.1.1 77 rfl)) rfl (e223) ?_
                  refine av_wp_sqF ck_200 1 (pc' := 163) (lv' := [some (.inr (.inr (.inl (some (77))))), some (.inl x), some (.inl l), some (.inl y), some (.inl k90), a91, a92]) (st' := [.inl v222, .inl v121]) (h' := h110) rfl ?_
                  have J229 : ∀ (j226 : Int), (0 ≤ j226 ∧ j226 ≤ 1) → PJ (U (Int.toNat x)) (ro (Int.toNat l)) (bxx U S (ro (Int.toNat l)) (Int.toNat x)) (ro (Int.toNat y)) (bxx U S (ro (Int.toNat y)) (Int.toNat x)) (S (Int.toNat x)) k90 j226 0 →  av_wp none cd_200 171 [some (.inr (.inr (.inl (some (77))))), some (.inl x), some (.inl l), some (.inl y), some (.inl k90), a91, a92] [.inl j226] h110 Q := by
                    intro j226 g227 g228
                    refine av_wp_sqF ck_200 3 (pc' := 176) (lv' := [some (.inr (.inr (.inl (some (77))))), some (.inl x), some (.inl l), some (.inl y), some (.inl k90), some (.inl j226), some (.inl (0))]) (st' := []) (h' := h110) rfl ?_
                    have L233 : ∀ (m232 : Nat) (k230 : Int) (k231 : Int), PJ (U (Int.toNat x)) (ro (Int.toNat l)) (bxx U S (ro (Int.toNat l)) (Int.toNat x)) (ro (Int.toNat y)) (bxx U S (ro (Int.toNat y)) (Int.toNat x)) (S (Int.toNat x)) k90 k230 (Int.toNat k231) → (0 ≤ k230 ∧ k230 ≤ 1) → (0 ≤ k231 ∧ k231 ≤ 5) → (5 - k231).toNat = m232 → av_wp none cd_200 176 [some (.inr (.inr (.inl (some (77))))), some (.inl x), some (.inl l), some (.inl y), some (.inl k90), some (.inl k230), some (.inl k231)] [] h110 Q := by
                      intro m232
                      induction m232 using Nat.strongRecOn with
                      | _ m232 I234 =>
                        intro k230 k231 g236 g237 g238 e235
                        refine av_wp_sqF ck_200 2 (pc' := 179) (lv' := [some (.inr (.inr (.inl (some (77))))), some (.inl x), some (.inl l), some (.inl y), some (.inl k90), some (.inl k230), some (.inl k231)]) (st' := [.inl (5), .inl k231]) (h' := h110) rfl ?_
                        refine wq_k2 (p' := 182) (ck_200 _ _ rfl) rfl ⟨by omega, by omega⟩ ⟨by omega, by omega⟩ (fun c239 => ?_) (fun c240 => ?_)
                        · have c239 : (5) ≤ k231 := c239
                          refine av_wp_sqF ck_200 1 (pc' := 230) (lv' := [some (.inr (.inr (.inl (some (77))))), some (.inl x), some (.inl l), some (.inl y), some (.inl k90), some (.inl k230), some (.inl k231)]) (st' := [.inl k230]) (h' := h110) rfl ?_
                          refine wq_k1 (p' := 233) (ck_200 _ _ rfl) rfl ⟨by omega, by omega⟩ (fun c241 => ?_) (fun c242 => ?_)
                          · have c241 : k230 ≠ (0) := c241
                            have N243 := PJ_p g236 (by omega)
                            refine av_wp_sqF ck_200 2 (pc' := 238) (lv' := [some (.inr (.inr (.inl (some (77))))), some (.inl x), some (.inl l), some (.inl y), some (.inl k90), some (.inl k230), some (.inl k231)]) (st' := [.inr (.inr (.inl (some (77)))), .inr (.inr (.inl (some (77))))]) (h' := h110) rfl ?_
                            obtain ⟨v244, e245⟩ : ∃ v, hF h110 77 60 = v := ⟨_, rfl⟩
                            have y246 := e245.symm.trans f119
                            have g247 := cn_fs (P := (PRT (U (Int.toNat x)) (ro (Int.toNat l)) (bxx U S (ro (Int.toNat l)) (Int.toNat x)) (ro (Int.toNat y)) (bxx U S (ro (Int.toNat y)) (Int.toNat x)) (S (Int.toNat x)))) (k := Int.toNat k90)
                            rw [← y246] at g247
                            refine wq_gi (p' := 241) (ck_200 _ _ rfl) rfl (congrArg Prod.fst (ly_k I111.1.1.1 77 rfl)) rfl (e245) ?_
                            refine av_wp_sqF ck_200 2 (pc' := 243) (lv' := [some (.inr (.inr (.inl (some (77))))), some (.inl x), some (.inl l), some (.inl y), some (.inl k90), some (.inl k230), some (.inl k231)]) (st' := [.inl (v244 + (1)), .inr (.inr (.inl (some (77))))]) (h' := h110) rfl ?_
                            refine xm_pf (p' := 246) rfl rfl I111 F112 (by omega) rfl (fun h248 I249 F250 e251 => ?_)
                            have Z252 := ZE_f (L := [120, 121]) (K := [60, 61]) (ZE_rf h110) e251 rfl
                            have f253 := hF_es e251
                            have f254 := (hF_eo (k := 61) e251 (by decide)).trans f120
                            have P255 := APS_c P118 (show hA h248 120 = hA h110 120 by rw [e251]; rfl) (show hA h248 121 = hA h110 121 by rw [e251]; rfl)
                            have A256 := RBA_t A114 Z252
                            have B257 := BRR_t B116 Z252
                            have L258 := LR_t L117 Z252
                            refine av_wp_sqF ck_200 1 (pc' := 247) (lv' := [some (.inr (.inr (.inl (some (77))))), some (.inl x), some (.inl l), some (.inl y), some (.inl k90), some (.inl k230), some (.inl k231)]) (st' := [.inr (.inr (.inl (some (77))))]) (h' := h248) rfl ?_
                            obtain ⟨v259, e260⟩ : ∃ v, hF h248 77 61 = v := ⟨_, rfl⟩
                            have y261 := e260.symm.trans f254
                            have g262 := fsP_r (P := (PRT (U (Int.toNat x)) (ro (Int.toNat l)) (bxx U S (ro (Int.toNat l)) (Int.toNat x)) (ro (Int.toNat y)) (bxx U S (ro (Int.toNat y)) (Int.toNat x)) (S (Int.toNat x)))) (k := Int.toNat k90)
                            rw [← y261] at g262
                            refine wq_gi (p' := 250) (ck_200 _ _ rfl) rfl (congrArg Prod.fst (ly_k I249.1.1.1 77 rfl)) rfl (e260) ?_
                            refine wq_k1 (p' := 253) (ck_200 _ _ rfl) rfl ⟨by omega, by omega⟩ (fun c263 => ?_) (fun c264 => ?_)
                            · have c263 : (0) ≤ v259 := c263
                              refine av_wp_sqF ck_200 2 (pc' := 126) (lv' := [some (.inr (.inr (.inl (some (77))))), some (.inl x), some (.inl l), some (.inl y), some (.inl (k90 + (1))), some (.inl k230), some (.inl k231)]) (st' := []) (h' := h248) rfl ?_
                              exact I102 _ (by omega) ((k90 + (1))) (some (.inl k230)) (some (.inl k231)) h248 rfl rfl (by omega) (by omega) I249 F250 A256 P255 (by rw [show Int.toNat (k90 + (1)) = Int.toNat k90 + 1 by omega, cnP_y (by rw [show ((Int.toNat k90 : Nat) : Int) = k90 by omega]; exact N243), ← y246]; exact f253) (by rw [show Int.toNat (k90 + (1)) = Int.toNat k90 + 1 by omega, fsP_k (by omega)]; exact f254) rfl
                            · have c264 : v259 < (0) := c264
                              refine av_wp_sqF ck_200 2 (pc' := 256) (lv' := [some (.inr (.inr (.inl (some (77))))), some (.inl x), some (.inl l), some (.inl y), some (.inl k90), some (.inl k230), some (.inl k231)]) (st' := [.inl k90, .inr (.inr (.inl (some (77))))]) (h' := h248) rfl ?_
                              refine xm_pf (p' := 259) rfl rfl I249 F250 (by omega) rfl (fun h265 I266 F267 e268 => ?_)
                              have Z269 := ZE_f (L := [120, 121]) (K := [60, 61]) (ZE_rf h248) e268 rfl
                              have f270 := hF_es e268
                              have f271 := (hF_eo (k := 60) e268 (by decide)).trans f253
                              have P272 := APS_c P255 (show hA h265 120 = hA h248 120 by rw [e268]; rfl) (show hA h265 121 = hA h248 121 by rw [e268]; rfl)
                              have A273 := RBA_t A256 Z269
                              have B274 := BRR_t B257 Z269
                              have L275 := LR_t L258 Z269
                              refine av_wp_sqF ck_200 2 (pc' := 126) (lv' := [some (.inr (.inr (.inl (some (77))))), some (.inl x), some (.inl l), some (.inl y), some (.inl (k90 + (1))), some (.inl k230), some (.inl k231)]) (st' := []) (h' := h265) rfl ?_
                              exact I102 _ (by omega) ((k90 + (1))) (some (.inl k230)) (some (.inl k231)) h265 rfl rfl (by omega) (by omega) I266 F267 A273 P272 (by rw [show Int.toNat (k90 + (1)) = Int.toNat k90 + 1 by omega, cnP_y (by rw [show ((Int.toNat k90 : Nat) : Int) = k90 by omega]; exact N243), ← y246]; exact f271) (by rw [show Int.toNat (k90 + (1)) = Int.toNat k90 + 1 by omega, fsP_y (by omega) (by rw [show ((Int.toNat k90 : Nat) : Int) = k90 by omega]; exact N243)]; exact f270.trans (by omega)) rfl
                          · have c242 : k230 = (0) := c242
                            have N276 := PJ_z g236 (by omega) (Or.inr (by omega))
                            refine av_wp_sqF ck_200 3 (pc' := 126) (lv' := [some (.inr (.inr (.inl (some (77))))), some (.inl x), some (.inl l), some (.inl y), some (.inl (k90 + (1))), some (.inl k230), some (.inl k231)]) (st' := []) (h' := h110) rfl ?_
                            exact I102 _ (by omega) ((k90 + (1))) (some (.inl k230)) (some (.inl k231)) h110 rfl rfl (by omega) (by omega) I111 F112 A114 P118 (by rw [show Int.toNat (k90 + (1)) = Int.toNat k90 + 1 by omega, cnP_n (by rw [show ((Int.toNat k90 : Nat) : Int) = k90 by omega]; exact N276)]; exact f119) (by rw [show Int.toNat (k90 + (1)) = Int.toNat k90 + 1 by omega]; exact f120.trans (fsP_s2 (by rw [show ((Int.toNat k90 : Nat) : Int) = k90 by omega]; exact N276)).symm) rfl
                        · have c240 : k231 < (5) := c240
                          refine av_wp_sqF ck_200 1 (pc' := 183) (lv' := [some (.inr (.inr (.inl (some (77))))), some (.inl x), some (.inl l), some (.inl y), some (.inl k90), some (.inl k230), some (.inl k231)]) (st' := [.inr (.inr (.inl (some (77))))]) (h' := h110) rfl ?_
                          refine wq_gb (p' := 186) (ck_200 _ _ rfl) rfl (congrArg Prod.fst (ly_k I111.1.1.1 77 rfl)) rfl (e127) ?_
                          refine wq_k1 (p' := 189) (ck_200 _ _ rfl) rfl ⟨by omega, by omega⟩ (fun c277 => ?_) (fun c278 => ?_)
                          · have c277 : v126 = (0) := c277
                            exfalso; omega
                          · have c278 : v126 ≠ (0) := c278
                            refine av_wp_sqF ck_200 1 (pc' := 191) (lv' := [some (.inr (.inr (.inl (some (77))))), some (.inl x), some (.inl l), some (.inl y), some (.inl k90), some (.inl k230), some (.inl k231)]) (st' := [.inl k230]) (h' := h110) rfl ?_
                            refine wq_k1 (p' := 194) (ck_200 _ _ rfl) rfl ⟨by omega, by omega⟩ (fun c279 => ?_) (fun c280 => ?_)
                            · have c279 : k230 ≠ (0) := c279
                              refine av_wp_sqF ck_200 5 (pc' := 176) (lv' := [some (.inr (.inr (.inl (some (77))))), some (.inl x), some (.inl l), some (.inl y), some (.inl k90), some (.inl (1)), some (.inl (k231 + (1)))]) (st' := []) (h' := h110) rfl ?_
                              exact I234 _ (by omega) ((1)) ((k231 + (1))) (PJ_1 g236 (by omega)) (by omega) (by omega) rfl
                            · have c280 : k230 = (0) := c280
                              refine av_wp_sqF ck_200 1 (pc' := 195) (lv' := [some (.inr (.inr (.inl (some (77))))), some (.inl x), some (.inl l), some (.inl y), some (.inl k90), some (.inl k230), some (.inl k231)]) (st' := [.inr (.inr (.inl (some (77))))]) (h' := h110) rfl ?_
                              refine wq_gr (p' := 198) (ck_200 _ _ rfl) rfl (congrArg Prod.fst (ly_k I111.1.1.1 77 rfl)) rfl (ly_g I111.1.1.1 77 59 121 rfl) ?_
                              refine av_wp_sqF ck_200 5 (pc' := 205) (lv' := [some (.inr (.inr (.inl (some (77))))), some (.inl x), some (.inl l), some (.inl y), some (.inl k90), some (.inl k230), some (.inl k231)]) (st' := [.inl (((5) * k90) + k231), .inr (.inr (.inl (some (121))))]) (h' := h110) rfl ?_
                              obtain ⟨v281, e282⟩ : ∃ v, hA h110 121 (Int.toNat ((((5) * k90) + k231))) = v := ⟨_, rfl⟩
                              have y284 : ww3 (U (Int.toNat x)) (ro (Int.toNat l)) (bgn (U (Int.toNat x)) (ro (Int.toNat l)) (bxx U S (ro (Int.toNat l)) (Int.toNat x)) (S (Int.toNat x)) k90) (Int.toNat k231) = v281 := ((APS_g P118 k90 (by omega) (by omega)).2 (Int.toNat k231) (by omega)).symm.trans (by rw [show 5 * Int.toNat k90 + Int.toNat k231 = Int.toNat ((((5) * k90) + k231)) by omega]; exact e282)
                              have g285 := ww3_r (u := (U (Int.toNat x))) (ro := (ro (Int.toNat l))) (bar := (bxx U S (ro (Int.toNat l)) (Int.toNat x))) (s := (S (Int.toNat x))) (x := k90) (w := Int.toNat k231) (RX.2.1 (Int.toNat x) (Int.toNat l) (by omega) (by omega)).1 (by omega)
                              rw [y284] at g285
                              refine wq_al (p' := 206) (n := 5120) (ck_200 _ _ rfl) rfl (ly_k I111.1.1.1 121 rfl) (by omega) (e282) ?_
                              refine av_wp_sqF ck_200 2 (pc' := 209) (lv' := [some (.inr (.inr (.inl (some (77))))), some (.inl x), some (.inl l), some (.inl y), some (.inl k90), some (.inl k230), some (.inl k231)]) (st' := [.inl k231, .inr (.inr (.inl (some (77)))), .inl v281]) (h' := h110) rfl ?_
                              refine wq_cv (p' := 212) (av_qc (.invokevirtual 449) 183 1 0 8) 3 cd_183 [.inl k231] (77) 8 [some (.inr (.inr (.inl (some (77))))), some (.inl k231), none] (ck_200 _ _ rfl) rfl rfl pp_183 rfl rfl rfl (congrArg Prod.fst (ly_k I111.1.1.1 77 rfl)) rfl rfl rfl rfl ?_
                              have q288 := BRR_ye B116 e127 (by omega)
                              have q288a := q288.1
                              have b289 := bgn_f (u := (U (Int.toNat x))) (ro := (ro (Int.toNat y))) (bar := (bxx U S (ro (Int.toNat y)) (Int.toNat x))) (s := (S (Int.toNat x))) (x := k90)
                              refine cx_183 I111 F112 e77 L117 (RX.2.1 (Int.toNat x) (Int.toNat y) (by omega) (by omega)).1 (RX.2.1 (Int.toNat x) (Int.toNat y) (by omega) (by omega)).2.1 (HBd_arr (RX.2.1 (Int.toNat x) (Int.toNat y) (by omega) (by omega)) (by omega) (by omega)) q288.2.1 q288.2.2.1 (by omega) (b289.elim (fun z => absurd z.1 q288a) (fun z => z.2.2)) (k231) (by omega) (fun v286 p287 => ?_)
                              have g290 := bw_r (u := (U (Int.toNat x))) (ro := (ro (Int.toNat y))) (bar := (bxx U S (ro (Int.toNat y)) (Int.toNat x))) (s := (S (Int.toNat x))) (x := k90) (w := Int.toNat k231) (RX.2.1 (Int.toNat x) (Int.toNat y) (by omega) (by omega)).1 (by omega) q288a
                              rw [← p287] at g290
                              clear b289
                              show av_wp _ cd_200 212 [some (.inr (.inr (.inl (some (77))))), some (.inl x), some (.inl l), some (.inl y), some (.inl k90), some (.inl k230), some (.inl k231)] [.inl v286, .inl v281] h110 _
                              refine wq_k2 (p' := 215) (ck_200 _ _ rfl) rfl ⟨by omega, by omega⟩ ⟨by omega, by omega⟩ (fun c291 => ?_) (fun c292 => ?_)
                              · have c291 : v281 = v286 := c291
                                refine av_wp_sqF ck_200 4 (pc' := 176) (lv' := [some (.inr (.inr (.inl (some (77))))), some (.inl x), some (.inl l), some (.inl y), some (.inl k90), some (.inl (0)), some (.inl (k231 + (1)))]) (st' := []) (h' := h110) rfl ?_
                                exact I234 _ (by omega) ((0)) ((k231 + (1))) (PJ_y g236 (by omega) (by omega) (by rw [y284, ← p287]; omega)) (by omega) (by omega) rfl
                              · have c292 : v281 ≠ v286 := c292
                                refine av_wp_sqF ck_200 5 (pc' := 176) (lv' := [some (.inr (.inr (.inl (some (77))))), some (.inl x), some (.inl l), some (.inl y), some (.inl k90), some (.inl (1)), some (.inl (k231 + (1)))]) (st' := []) (h' := h110) rfl ?_
                                exact I234 _ (by omega) ((1)) ((k231 + (1))) (PJ_n g236 (by omega) (by omega) (by omega) q288a (by rw [y284, ← p287]; omega)) (by omega) (by omega) rfl
                    exact L233 _ (j226) ((0)) g228 (by omega) (by omega) rfl
                  refine wq_k2 (p' := 166) (ck_200 _ _ rfl) rfl ⟨by omega, by omega⟩ ⟨by omega, by omega⟩ (fun c293 => ?_) (fun c294 => ?_)
                  · have c293 : v121 = v222 := c293
                    refine av_wp_sqF ck_200 1 (pc' := 171) (lv' := [some (.inr (.inr (.inl (some (77))))), some (.inl x), some (.inl l), some (.inl y), some (.inl k90), a91, a92]) (st' := [.inl (0)]) (h' := h110) rfl ?_
                    exact J229 ((0)) (by omega) (PJ_0y (H29 k90 (by omega) (by omega)) (H89 k90 (by omega) (by omega)) (by rw [y124, ((tt3_y (BRR_ye B116 e127 (by omega)).1).trans y224)]; omega))
                  · have c294 : v121 ≠ v222 := c294
                    refine av_wp_sqF ck_200 2 (pc' := 171) (lv' := [some (.inr (.inr (.inl (some (77))))), some (.inl x), some (.inl l), some (.inl y), some (.inl k90), a91, a92]) (st' := [.inl (1)]) (h' := h110) rfl ?_
                    exact J229 ((1)) (by omega) (PJ_0n (by rw [y124, ((tt3_y (BRR_ye B116 e127 (by omega)).1).trans y224)]; omega))
          exact L101 _ ((0)) (a48) (none) h76 la48 rfl (by omega) (by omega) I81 F82 A79 P83 f84 f85 rfl
        · have c64 : k47 < m10 := c64
          refine av_wp_sqF ck_200 2 (pc' := 37) (lv' := [some (.inr (.inr (.inl (some (77))))), some (.inl x), some (.inl l), some (.inl y), some (.inl k47), a48, none]) (st' := [.inl k47, .inr (.inr (.inl (some (77))))]) (h' := h49) rfl ?_
          refine wq_cv (p' := 40) (av_qc (.invokevirtual 431) 181 1 0 8) 2 cd_181 [.inl k47] (77) 8 [some (.inr (.inr (.inl (some (77))))), some (.inl k47)] (ck_200 _ _ rfl) rfl rfl pp_181 rfl rfl rfl (congrArg Prod.fst (ly_k I50.1.1.1 77 rfl)) rfl rfl rfl rfl ?_
          refine cy_181 I50 F51 e15 A52 (RX.2.1 (Int.toNat x) (Int.toNat l) (by omega) (by omega)) (k47) (by omega) (fun h295 I296 F297 Z298 A299 O300 B301 L302 => ?_)
          have P303 := APS_c P53 (Z298.1 120 rfl) (Z298.1 121 rfl)
          have f304 := (Z298.2 60 rfl).trans f54
          have f305 := (Z298.2 61 rfl).trans f55
          show av_wp _ cd_200 40 [some (.inr (.inr (.inl (some (77))))), some (.inl x), some (.inl l), some (.inl y), some (.inl k47), a48, none] [] h295 _
          refine av_wp_sqF ck_200 1 (pc' := 41) (lv' := [some (.inr (.inr (.inl (some (77))))), some (.inl x), some (.inl l), some (.inl y), some (.inl k47), a48, none]) (st' := [.inr (.inr (.inl (some (77))))]) (h' := h295) rfl ?_
          refine wq_gr (p' := 44) (ck_200 _ _ rfl) rfl (congrArg Prod.fst (ly_k I296.1.1.1 77 rfl)) rfl (ly_g I296.1.1.1 77 58 120 rfl) ?_
          refine av_wp_sqF ck_200 2 (pc' := 47) (lv' := [some (.inr (.inr (.inl (some (77))))), some (.inl x), some (.inl l), some (.inl y), some (.inl k47), a48, none]) (st' := [.inr (.inr (.inl (some (77)))), .inl k47, .inr (.inr (.inl (some (120))))]) (h' := h295) rfl ?_
          obtain ⟨v306, e307⟩ : ∃ v, hF h295 77 50 = v := ⟨_, rfl⟩
          have g308 := im_has I296.1.1
          rw [e307] at g308
          refine wq_gb (p' := 50) (ck_200 _ _ rfl) rfl (congrArg Prod.fst (ly_k I296.1.1.1 77 rfl)) rfl (e307) ?_
          refine wq_k1 (p' := 53) (ck_200 _ _ rfl) rfl ⟨by omega, by omega⟩ (fun c309 => ?_) (fun c310 => ?_)
          · have c309 : v306 = (0) := c309
            refine av_wp_sqF ck_200 1 (pc' := 61) (lv' := [some (.inr (.inr (.inl (some (77))))), some (.inl x), some (.inl l), some (.inl y), some (.inl k47), a48, none]) (st' := [.inl (-1), .inl k47, .inr (.inr (.inl (some (120))))]) (h' := h295) rfl ?_
            refine xm_as (p' := 62) (l := 1024) rfl rfl I296 F297 (ly_k I296.1.1.1 120 rfl) (by omega) (by omega) (fun h311 I312 F313 e314 => ?_)
            have P317 := APW_0 P303 e314 (by rw [show ((Int.toNat k47 : Nat) : Int) = k47 by omega, tt3_n (BRR_no B301 e307 (by omega))])
            have Z315 := ZE_a (L := [120, 121]) (K := [60, 61]) (ZE_rf h295) e314 rfl
            have f318 := (show hF h311 77 60 = hF h295 77 60 by rw [e314]; rfl).trans f304
            have f319 := (show hF h311 77 61 = hF h295 77 61 by rw [e314]; rfl).trans f305
            have A320 := RBA_t A299 Z315
            have B321 := BRR_t B301 Z315
            have L322 := LR_t L302 Z315
            refine av_wp_sqF ck_200 2 (pc' := 65) (lv' := [some (.inr (.inr (.inl (some (77))))), some (.inl x), some (.inl l), some (.inl y), some (.inl k47), some (.inl (0)), none]) (st' := []) (h' := h311) rfl ?_
            have L334 : ∀ (m333 : Nat) (k323 : Int) (h324 : av_H), (0 ≤ k323 ∧ k323 ≤ 5) → IMF n8 a9 m10 h324 → FM g h324 → RBA (U (Int.toNat x)) (ro (Int.toNat l)) (bxx U S (ro (Int.toNat l)) (Int.toNat x)) (S (Int.toNat x)) h324 → APW (U (Int.toNat x)) (ro (Int.toNat l)) (bxx U S (ro (Int.toNat l)) (Int.toNat x)) (S (Int.toNat x)) (Int.toNat k47) (Int.toNat k323) (hA h324) → hF h324 77 60 = 0 → hF h324 77 61 = -1 → BRR (bgn (U (Int.toNat x)) (ro (Int.toNat l)) (bxx U S (ro (Int.toNat l)) (Int.toNat x)) (S (Int.toNat x)) k47) h324 → LR (U (Int.toNat x)) (ro (Int.toNat l)) (arr (U (Int.toNat x)) (ro (Int.toNat l)) (bxx U S (ro (Int.toNat l)) (Int.toNat x)) k47) (S (Int.toNat x)) (hA h324) → (5 - k323).toNat = m333 → av_wp none cd_200 65 [some (.inr (.inr (.inl (some (77))))), some (.inl x), some (.inl l), some (.inl y), some (.inl k47), some (.inl k323), none] [] h324 Q := by
              intro m333
              induction m333 using Nat.strongRecOn with
              | _ m333 I335 =>
                intro k323 h324 g337 I325 F326 A327 P328 f329 f330 B331 L332 e336
                refine av_wp_sqF ck_200 2 (pc' := 68) (lv' := [some (.inr (.inr (.inl (some (77))))), some (.inl x), some (.inl l), some (.inl y), some (.inl k47), some (.inl k323), none]) (st' := [.inl (5), .inl k323]) (h' := h324) rfl ?_
                refine wq_k2 (p' := 71) (ck_200 _ _ rfl) rfl ⟨by omega, by omega⟩ ⟨by omega, by omega⟩ (fun c338 => ?_) (fun c339 => ?_)
                · have c338 : (5) ≤ k323 := c338
                  refine av_wp_sqF ck_200 2 (pc' := 25) (lv' := [some (.inr (.inr (.inl (some (77))))), some (.inl x), some (.inl l), some (.inl y), some (.inl (k47 + (1))), some (.inl k323), none]) (st' := []) (h' := h324) rfl ?_
                  exact I58 _ (by omega) ((k47 + (1))) (some (.inl k323)) h324 rfl (by omega) (by omega) I325 F326 A327 (APW_e P328 (by omega) (by omega)) f329 f330 rfl
                · have c339 : k323 < (5) := c339
                  refine av_wp_sqF ck_200 1 (pc' := 72) (lv' := [some (.inr (.inr (.inl (some (77))))), some (.inl x), some (.inl l), some (.inl y), some (.inl k47), some (.inl k323), none]) (st' := [.inr (.inr (.inl (some (77))))]) (h' := h324) rfl ?_
                  refine wq_gr (p' := 75) (ck_200 _ _ rfl) rfl (congrArg Prod.fst (ly_k I325.1.1.1 77 rfl)) rfl (ly_g I325.1.1.1 77 59 121 rfl) ?_
                  refine av_wp_sqF ck_200 6 (pc' := 83) (lv' := [some (.inr (.inr (.inl (some (77))))), some (.inl x), some (.inl l), some (.inl y), some (.inl k47), some (.inl k323), none]) (st' := [.inr (.inr (.inl (some (77)))), .inl (((5) * k47) + k323), .inr (.inr (.inl (some (121))))]) (h' := h324) rfl ?_
                  obtain ⟨v340, e341⟩ : ∃ v, hF h324 77 50 = v := ⟨_, rfl⟩
                  have g342 := im_has I325.1.1
                  rw [e341] at g342
                  refine wq_gb (p' := 86) (ck_200 _ _ rfl) rfl (congrArg Prod.fst (ly_k I325.1.1.1 77 rfl)) rfl (e341) ?_
                  refine wq_k1 (p' := 89) (ck_200 _ _ rfl) rfl ⟨by omega, by omega⟩ (fun c343 => ?_) (fun c344 => ?_)
                  · have c343 : v340 = (0) := c343
                    refine av_wp_sqF ck_200 1 (pc' := 99) (lv' := [some (.inr (.inr (.inl (some (77))))), some (.inl x), some (.inl l), some (.inl y), some (.inl k47), some (.inl k323), none]) (st' := [.inl (-1), .inl (((5) * k47) + k323), .inr (.inr (.inl (some (121))))]) (h' := h324) rfl ?_
                    refine xm_as (p' := 100) (l := 5120) rfl rfl I325 F326 (ly_k I325.1.1.1 121 rfl) (by omega) (by omega) (fun h345 I346 F347 e348 => ?_)
                    rw [show Int.toNat ((((5) * k47) + k323)) = 5 * Int.toNat k47 + Int.toNat k323 by omega] at e348
                    have P351 := APW_s P328 e348 (by omega) (by rw [show ((Int.toNat k47 : Nat) : Int) = k47 by omega, ww3_n (BRR_no B331 e341 (by omega))])
                    have Z349 := ZE_a (L := [120, 121]) (K := [60, 61]) (ZE_rf h324) e348 rfl
                    have f352 := (show hF h345 77 60 = hF h324 77 60 by rw [e348]; rfl).trans f329
                    have f353 := (show hF h345 77 61 = hF h324 77 61 by rw [e348]; rfl).trans f330
                    have A354 := RBA_t A327 Z349
                    have B355 := BRR_t B331 Z349
                    have L356 := LR_t L332 Z349
                    refine av_wp_sqF ck_200 2 (pc' := 65) (lv' := [some (.inr (.inr (.inl (some (77))))), some (.inl x), some (.inl l), some (.inl y), some (.inl k47), some (.inl (k323 + (1))), none]) (st' := []) (h' := h345) rfl ?_
                    exact I335 _ (by omega) ((k323 + (1))) h345 (by omega) I346 F347 A354 (by rw [show Int.toNat (k323 + (1)) = Int.toNat k323 + 1 by omega]; exact P351) f352 f353 B355 L356 rfl
                  · have c344 : v340 ≠ (0) := c344
                    refine av_wp_sqF ck_200 2 (pc' := 92) (lv' := [some (.inr (.inr (.inl (some (77))))), some (.inl x), some (.inl l), some (.inl y), some (.inl k47), some (.inl k323), none]) (st' := [.inl k323, .inr (.inr (.inl (some (77)))), .inl (((5) * k47) + k323), .inr (.inr (.inl (some (121))))]) (h' := h324) rfl ?_
                    refine wq_cv (p' := 95) (av_qc (.invokevirtual 449) 183 1 0 8) 3 cd_183 [.inl k323] (77) 8 [some (.inr (.inr (.inl (some (77))))), some (.inl k323), none] (ck_200 _ _ rfl) rfl rfl pp_183 rfl rfl rfl (congrArg Prod.fst (ly_k I325.1.1.1 77 rfl)) rfl rfl rfl rfl ?_
                    have q359 := BRR_ye B331 e341 (by omega)
                    have q359a := q359.1
                    have b360 := bgn_f (u := (U (Int.toNat x))) (ro := (ro (Int.toNat l))) (bar := (bxx U S (ro (Int.toNat l)) (Int.toNat x))) (s := (S (Int.toNat x))) (x := k47)
                    refine cx_183 I325 F326 e15 L332 (RX.2.1 (Int.toNat x) (Int.toNat l) (by omega) (by omega)).1 (RX.2.1 (Int.toNat x) (Int.toNat l) (by omega) (by omega)).2.1 (HBd_arr (RX.2.1 (Int.toNat x) (Int.toNat l) (by omega) (by omega)) (by omega) (by omega)) q359.2.1 q359.2.2.1 (by omega) (b360.elim (fun z => absurd z.1 q359a) (fun z => z.2.2)) (k323) (by omega) (fun v357 p358 => ?_)
                    have g361 := bw_r (u := (U (Int.toNat x))) (ro := (ro (Int.toNat l))) (bar := (bxx U S (ro (Int.toNat l)) (Int.toNat x))) (s := (S (Int.toNat x))) (x := k47) (w := Int.toNat k323) (RX.2.1 (Int.toNat x) (Int.toNat l) (by omega) (by omega)).1 (by omega) q359a
                    rw [← p358] at g361
                    clear b360
                    show av_wp _ cd_200 95 [some (.inr (.inr (.inl (some (77))))), some (.inl x), some (.inl l), some (.inl y), some (.inl k47), some (.inl k323), none] [.inl v357, .inl (((5) * k47) + k323), .inr (.inr (.inl (some (121))))] h324 _
                    refine av_wp_sqF ck_200 1 (pc' := 99) (lv' := [some (.inr (.inr (.inl (some (77))))), some (.inl x), some (.inl l), some (.inl y), some (.inl k47), some (.inl k323), none]) (st' := [.inl v357, .inl (((5) * k47) + k323), .inr (.inr (.inl (some (121))))]) (h' := h324) rfl ?_
                    refine xm_as (p' := 100) (l := 5120) rfl rfl I325 F326 (ly_k I325.1.1.1 121 rfl) (by omega) (by omega) (fun h362 I363 F364 e365 => ?_)
                    rw [show Int.toNat ((((5) * k47) + k323)) = 5 * Int.toNat k47 + Int.toNat k323 by omega] at e365
                    have P368 := APW_s P328 e365 (by omega) (by rw [show ((Int.toNat k47 : Nat) : Int) = k47 by omega, ww3_y (BRR_ye B331 e341 (by omega)).1]; exact p358)
                    have Z366 := ZE_a (L := [120, 121]) (K := [60, 61]) (ZE_rf h324) e365 rfl
                    have f369 := (show hF h362 77 60 = hF h324 77 60 by rw [e365]; rfl).trans f329
                    have f370 := (show hF h362 77 61 = hF h324 77 61 by rw [e365]; rfl).trans f330
                    have A371 := RBA_t A327 Z366
                    have B372 := BRR_t B331 Z366
                    have L373 := LR_t L332 Z366
                    refine av_wp_sqF ck_200 2 (pc' := 65) (lv' := [some (.inr (.inr (.inl (some (77))))), some (.inl x), some (.inl l), some (.inl y), some (.inl k47), some (.inl (k323 + (1))), none]) (st' := []) (h' := h362) rfl ?_
                    exact I335 _ (by omega) ((k323 + (1))) h362 (by omega) I363 F364 A371 (by rw [show Int.toNat (k323 + (1)) = Int.toNat k323 + 1 by omega]; exact P368) f369 f370 B372 L373 rfl
            exact L334 _ ((0)) h311 (by omega) I312 F313 A320 P317 f318 f319 B321 L322 rfl
          · have c310 : v306 ≠ (0) := c310
            refine av_wp_sqF ck_200 1 (pc' := 54) (lv' := [some (.inr (.inr (.inl (some (77))))), some (.inl x), some (.inl l), some (.inl y), some (.inl k47), a48, none]) (st' := [.inr (.inr (.inl (some (77)))), .inl k47, .inr (.inr (.inl (some (120))))]) (h' := h295) rfl ?_
            obtain ⟨v374, e375⟩ : ∃ v, hF h295 77 53 = v := ⟨_, rfl⟩
            have y376 : (bgn (U (Int.toNat x)) (ro (Int.toNat l)) (bxx U S (ro (Int.toNat l)) (Int.toNat x)) (S (Int.toNat x)) k47).2.2 = v374 := (BRR_ye B301 e307 (by omega)).2.2.2.symm.trans e375
            have g377 := H29 k47 (by omega) (by omega)
            rw [show (bgn (U (Int.toNat x)) (ro (Int.toNat l)) (bxx U S (ro (Int.toNat l)) (Int.toNat x)) (S (Int.toNat x)) k47).2.2 = v374 from y376] at g377
            refine wq_gi (p' := 57) (ck_200 _ _ rfl) rfl (congrArg Prod.fst (ly_k I296.1.1.1 77 rfl)) rfl (e375) ?_
            refine av_wp_sqF ck_200 1 (pc' := 61) (lv' := [some (.inr (.inr (.inl (some (77))))), some (.inl x), some (.inl l), some (.inl y), some (.inl k47), a48, none]) (st' := [.inl v374, .inl k47, .inr (.inr (.inl (some (120))))]) (h' := h295) rfl ?_
            refine xm_as (p' := 62) (l := 1024) rfl rfl I296 F297 (ly_k I296.1.1.1 120 rfl) (by omega) (by omega) (fun h378 I379 F380 e381 => ?_)
            have P384 := APW_0 P303 e381 (by rw [show ((Int.toNat k47 : Nat) : Int) = k47 by omega, tt3_y (BRR_ye B301 e307 (by omega)).1]; exact y376.symm)
            have Z382 := ZE_a (L := [120, 121]) (K := [60, 61]) (ZE_rf h295) e381 rfl
            have f385 := (show hF h378 77 60 = hF h295 77 60 by rw [e381]; rfl).trans f304
            have f386 := (show hF h378 77 61 = hF h295 77 61 by rw [e381]; rfl).trans f305
            have A387 := RBA_t A299 Z382
            have B388 := BRR_t B301 Z382
            have L389 := LR_t L302 Z382
            refine av_wp_sqF ck_200 2 (pc' := 65) (lv' := [some (.inr (.inr (.inl (some (77))))), some (.inl x), some (.inl l), some (.inl y), some (.inl k47), some (.inl (0)), none]) (st' := []) (h' := h378) rfl ?_
            have L401 : ∀ (m400 : Nat) (k390 : Int) (h391 : av_H), (0 ≤ k390 ∧ k390 ≤ 5) → IMF n8 a9 m10 h391 → FM g h391 → RBA (U (Int.toNat x)) (ro (Int.toNat l)) (bxx U S (ro (Int.toNat l)) (Int.toNat x)) (S (Int.toNat x)) h391 → APW (U (Int.toNat x)) (ro (Int.toNat l)) (bxx U S (ro (Int.toNat l)) (Int.toNat x)) (S (Int.toNat x)) (Int.toNat k47) (Int.toNat k390) (hA h391) → hF h391 77 60 = 0 → hF h391 77 61 = -1 → BRR (bgn (U (Int.toNat x)) (ro (Int.toNat l)) (bxx U S (ro (Int.toNat l)) (Int.toNat x)) (S (Int.toNat x)) k47) h391 → LR (U (Int.toNat x)) (ro (Int.toNat l)) (arr (U (Int.toNat x)) (ro (Int.toNat l)) (bxx U S (ro (Int.toNat l)) (Int.toNat x)) k47) (S (Int.toNat x)) (hA h391) → (5 - k390).toNat = m400 → av_wp none cd_200 65 [some (.inr (.inr (.inl (some (77))))), some (.inl x), some (.inl l), some (.inl y), some (.inl k47), some (.inl k390), none] [] h391 Q := by
              intro m400
              induction m400 using Nat.strongRecOn with
              | _ m400 I402 =>
                intro k390 h391 g404 I392 F393 A394 P395 f396 f397 B398 L399 e403
                refine av_wp_sqF ck_200 2 (pc' := 68) (lv' := [some (.inr (.inr (.inl (some (77))))), some (.inl x), some (.inl l), some (.inl y), some (.inl k47), some (.inl k390), none]) (st' := [.inl (5), .inl k390]) (h' := h391) rfl ?_
                refine wq_k2 (p' := 71) (ck_200 _ _ rfl) rfl ⟨by omega, by omega⟩ ⟨by omega, by omega⟩ (fun c405 => ?_) (fun c406 => ?_)
                · have c405 : (5) ≤ k390 := c405
                  refine av_wp_sqF ck_200 2 (pc' := 25) (lv' := [some (.inr (.inr (.inl (some (77))))), some (.inl x), some (.inl l), some (.inl y), some (.inl (k47 + (1))), some (.inl k390), none]) (st' := []) (h' := h391) rfl ?_
                  exact I58 _ (by omega) ((k47 + (1))) (some (.inl k390)) h391 rfl (by omega) (by omega) I392 F393 A394 (APW_e P395 (by omega) (by omega)) f396 f397 rfl
                · have c406 : k390 < (5) := c406
                  refine av_wp_sqF ck_200 1 (pc' := 72) (lv' := [some (.inr (.inr (.inl (some (77))))), some (.inl x), some (.inl l), some (.inl y), some (.inl k47), some (.inl k390), none]) (st' := [.inr (.inr (.inl (some (77))))]) (h' := h391) rfl ?_
                  refine wq_gr (p' := 75) (ck_200 _ _ rfl) rfl (congrArg Prod.fst (ly_k I392.1.1.1 77 rfl)) rfl (ly_g I392.1.1.1 77 59 121 rfl) ?_
                  refine av_wp_sqF ck_200 6 (pc' := 83) (lv' := [some (.inr (.inr (.inl (some (77))))), some (.inl x), some (.inl l), some (.inl y), some (.inl k47), some (.inl k390), none]) (st' := [.inr (.inr (.inl (some (77)))), .inl (((5) * k47) + k390), .inr (.inr (.inl (some (121))))]) (h' := h391) rfl ?_
                  obtain ⟨v407, e408⟩ : ∃ v, hF h391 77 50 = v := ⟨_, rfl⟩
                  have g409 := im_has I392.1.1
                  rw [e408] at g409
                  refine wq_gb (p' := 86) (ck_200 _ _ rfl) rfl (congrArg Prod.fst (ly_k I392.1.1.1 77 rfl)) rfl (e408) ?_
                  refine wq_k1 (p' := 89) (ck_200 _ _ rfl) rfl ⟨by omega, by omega⟩ (fun c410 => ?_) (fun c411 => ?_)
                  · have c410 : v407 = (0) := c410
                    refine av_wp_sqF ck_200 1 (pc' := 99) (lv' := [some (.inr (.inr (.inl (some (77))))), some (.inl x), some (.inl l), some (.inl y), some (.inl k47), some (.inl k390), none]) (st' := [.inl (-1), .inl (((5) * k47) + k390), .inr (.inr (.inl (some (121))))]) (h' := h391) rfl ?_
                    refine xm_as (p' := 100) (l := 5120) rfl rfl I392 F393 (ly_k I392.1.1.1 121 rfl) (by omega) (by omega) (fun h412 I413 F414 e415 => ?_)
                    rw [show Int.toNat ((((5) * k47) + k390)) = 5 * Int.toNat k47 + Int.toNat k390 by omega] at e415
                    have P418 := APW_s P395 e415 (by omega) (by rw [show ((Int.toNat k47 : Nat) : Int) = k47 by omega, ww3_n (BRR_no B398 e408 (by omega))])
                    have Z416 := ZE_a (L := [120, 121]) (K := [60, 61]) (ZE_rf h391) e415 rfl
                    have f419 := (show hF h412 77 60 = hF h391 77 60 by rw [e415]; rfl).trans f396
                    have f420 := (show hF h412 77 61 = hF h391 77 61 by rw [e415]; rfl).trans f397
                    have A421 := RBA_t A394 Z416
                    have B422 := BRR_t B398 Z416
                    have L423 := LR_t L399 Z416
                    refine av_wp_sqF ck_200 2 (pc' := 65) (lv' := [some (.inr (.inr (.inl (some (77))))), some (.inl x), some (.inl l), some (.inl y), some (.inl k47), some (.inl (k390 + (1))), none]) (st' := []) (h' := h412) rfl ?_
                    exact I402 _ (by omega) ((k390 + (1))) h412 (by omega) I413 F414 A421 (by rw [show Int.toNat (k390 + (1)) = Int.toNat k390 + 1 by omega]; exact P418) f419 f420 B422 L423 rfl
                  · have c411 : v407 ≠ (0) := c411
                    refine av_wp_sqF ck_200 2 (pc' := 92) (lv' := [some (.inr (.inr (.inl (some (77))))), some (.inl x), some (.inl l), some (.inl y), some (.inl k47), some (.inl k390), none]) (st' := [.inl k390, .inr (.inr (.inl (some (77)))), .inl (((5) * k47) + k390), .inr (.inr (.inl (some (121))))]) (h' := h391) rfl ?_
                    refine wq_cv (p' := 95) (av_qc (.invokevirtual 449) 183 1 0 8) 3 cd_183 [.inl k390] (77) 8 [some (.inr (.inr (.inl (some (77))))), some (.inl k390), none] (ck_200 _ _ rfl) rfl rfl pp_183 rfl rfl rfl (congrArg Prod.fst (ly_k I392.1.1.1 77 rfl)) rfl rfl rfl rfl ?_
                    have q426 := BRR_ye B398 e408 (by omega)
                    have q426a := q426.1
                    have b427 := bgn_f (u := (U (Int.toNat x))) (ro := (ro (Int.toNat l))) (bar := (bxx U S (ro (Int.toNat l)) (Int.toNat x))) (s := (S (Int.toNat x))) (x := k47)
                    refine cx_183 I392 F393 e15 L399 (RX.2.1 (Int.toNat x) (Int.toNat l) (by omega) (by omega)).1 (RX.2.1 (Int.toNat x) (Int.toNat l) (by omega) (by omega)).2.1 (HBd_arr (RX.2.1 (Int.toNat x) (Int.toNat l) (by omega) (by omega)) (by omega) (by omega)) q426.2.1 q426.2.2.1 (by omega) (b427.elim (fun z => absurd z.1 q426a) (fun z => z.2.2)) (k390) (by omega) (fun v424 p425 => ?_)
                    have g428 := bw_r (u := (U (Int.toNat x))) (ro := (ro (Int.toNat l))) (bar := (bxx U S (ro (Int.toNat l)) (Int.toNat x))) (s := (S (Int.toNat x))) (x := k47) (w := Int.toNat k390) (RX.2.1 (Int.toNat x) (Int.toNat l) (by omega) (by omega)).1 (by omega) q426a
                    rw [← p425] at g428
                    clear b427
                    show av_wp _ cd_200 95 [some (.inr (.inr (.inl (some (77))))), some (.inl x), some (.inl l), some (.inl y), some (.inl k47), some (.inl k390), none] [.inl v424, .inl (((5) * k47) + k390), .inr (.inr (.inl (some (121))))] h391 _
                    refine av_wp_sqF ck_200 1 (pc' := 99) (lv' := [some (.inr (.inr (.inl (some (77))))), some (.inl x), some (.inl l), some (.inl y), some (.inl k47), some (.inl k390), none]) (st' := [.inl v424, .inl (((5) * k47) + k390), .inr (.inr (.inl (some (121))))]) (h' := h391) rfl ?_
                    refine xm_as (p' := 100) (l := 5120) rfl rfl I392 F393 (ly_k I392.1.1.1 121 rfl) (by omega) (by omega) (fun h429 I430 F431 e432 => ?_)
                    rw [show Int.toNat ((((5) * k47) + k390)) = 5 * Int.toNat k47 + Int.toNat k390 by omega] at e432
                    have P435 := APW_s P395 e432 (by omega) (by rw [show ((Int.toNat k47 : Nat) : Int) = k47 by omega, ww3_y (BRR_ye B398 e408 (by omega)).1]; exact p425)
                    have Z433 := ZE_a (L := [120, 121]) (K := [60, 61]) (ZE_rf h391) e432 rfl
                    have f436 := (show hF h429 77 60 = hF h391 77 60 by rw [e432]; rfl).trans f396
                    have f437 := (show hF h429 77 61 = hF h391 77 61 by rw [e432]; rfl).trans f397
                    have A438 := RBA_t A394 Z433
                    have B439 := BRR_t B398 Z433
                    have L440 := LR_t L399 Z433
                    refine av_wp_sqF ck_200 2 (pc' := 65) (lv' := [some (.inr (.inr (.inl (some (77))))), some (.inl x), some (.inl l), some (.inl y), some (.inl k47), some (.inl (k390 + (1))), none]) (st' := []) (h' := h429) rfl ?_
                    exact I402 _ (by omega) ((k390 + (1))) h429 (by omega) I430 F431 A438 (by rw [show Int.toNat (k390 + (1)) = Int.toNat k390 + 1 by omega]; exact P435) f436 f437 B439 L440 rfl
            exact L401 _ ((0)) h378 (by omega) I379 F380 A387 P384 f385 f386 B388 L389 rfl
    exact L57 _ ((0)) (none) h39 rfl (by omega) (by omega) I40 F41 A46 APS_0 f45 f44 rfl
end
