/-! PART, exactly: the class -/
set_option maxRecDepth 100000 in
set_option maxHeartbeats 4000000 in
theorem cx_114 {h : av_H} {U : Nat → Nat → Int} {S : Nat → Nat} {n : Int} {sr nd : Nat → Int} (C : CJ U S n sr nd h) (l : Int) (ql : -2147483648 ≤ l ∧ l ≤ 2147483647) (m : Int) (qm : -2147483648 ≤ m ∧ m ≤ 2147483647) (CR : CRT U S n (hF h 3 4) (fun k => hA h (6 + k))) (SU : SUA U S n (hF h 3 4) (fun k => hA h (6 + k)) sr) {Q : Option av_V → av_H → Prop} (hq : ∀ (v : Int) h' sr' nd', CJ U S n sr' nd' h' → Fr h h' → SUA U S n (hF h 3 4) (fun k => hA h (6 + k)) sr' → RSP ((0 ≤ l ∧ l < hF h 3 4) ∧ (0 ≤ m ∧ m < hF h 3 4)) (-2) (ptv S (PTQ U S (hA h (6 + Int.toNat l)) (hA h (6 + Int.toNat m))) (Int.toNat n)) v → Q (some (.inl v)) h') : av_wp none cd_114 0 [some (.inr (.inr (.inl (some (0))))), some (.inl l), some (.inl m), none, none, none, none, none] [] h Q := by
  have F := Fr_rf h
  have nr := C.2.1.2.1
  have l8 := ic_lc C.1
  refine av_wp_seq 1 (pc' := 1) (lv' := [some (.inr (.inr (.inl (some (0))))), some (.inl l), some (.inl m), none, none, none, none, none]) (st' := [.inr (.inr (.inl (some (0))))]) (h' := h) rfl ?_
  refine wq_gr (p' := 4) rfl rfl (congrArg Prod.fst (ly_k C.1.1 0 rfl)) rfl (ly_g C.1.1 0 1 3 rfl) ?_
  refine av_wp_seq 1 (pc' := 5) (lv' := [some (.inr (.inr (.inl (some (0))))), some (.inl l), some (.inl m), none, none, none, none, none]) (st' := [.inl l, .inr (.inr (.inl (some (3))))]) (h' := h) rfl ?_
  refine wq_cv (p' := 8) (av_qc (.invokevirtual 153) 70 1 0 5) 2 cd_70 [.inl l] (3) 5 [some (.inr (.inr (.inl (some (3))))), some (.inl l)] rfl rfl rfl pp_70 rfl rfl rfl (congrArg Prod.fst (ly_k C.1.1 3 rfl)) rfl rfl rfl rfl ?_
  refine cx_70 C.1 (l) (by omega) (fun v1 p2 => ?_)
  show av_wp _ cd_114 8 [some (.inr (.inr (.inl (some (0))))), some (.inl l), some (.inl m), none, none, none, none, none] [.inl v1] h _
  refine wq_k1 (p' := 11) rfl rfl ⟨by omega, by omega⟩ (fun c3 => ?_) (fun c4 => ?_)
  · have c3 : v1 = (0) := c3
    refine av_wp_seq 1 (pc' := 24) (lv' := [some (.inr (.inr (.inl (some (0))))), some (.inl l), some (.inl m), none, none, none, none, none]) (st' := [.inl (-2)]) (h' := h) rfl ?_
    refine av_wp_ret (v := some (.inl (-2))) rfl rfl rfl ?_
    exact hq _ h _ _ C F SU (Or.inr ⟨by omega, rfl⟩)
  · have c4 : v1 ≠ (0) := c4
    refine av_wp_seq 1 (pc' := 12) (lv' := [some (.inr (.inr (.inl (some (0))))), some (.inl l), some (.inl m), none, none, none, none, none]) (st' := [.inr (.inr (.inl (some (0))))]) (h' := h) rfl ?_
    refine wq_gr (p' := 15) rfl rfl (congrArg Prod.fst (ly_k C.1.1 0 rfl)) rfl (ly_g C.1.1 0 1 3 rfl) ?_
    refine av_wp_seq 1 (pc' := 16) (lv' := [some (.inr (.inr (.inl (some (0))))), some (.inl l), some (.inl m), none, none, none, none, none]) (st' := [.inl m, .inr (.inr (.inl (some (3))))]) (h' := h) rfl ?_
    refine wq_cv (p' := 19) (av_qc (.invokevirtual 153) 70 1 0 5) 2 cd_70 [.inl m] (3) 5 [some (.inr (.inr (.inl (some (3))))), some (.inl m)] rfl rfl rfl pp_70 rfl rfl rfl (congrArg Prod.fst (ly_k C.1.1 3 rfl)) rfl rfl rfl rfl ?_
    refine cx_70 C.1 (m) (by omega) (fun v5 p6 => ?_)
    show av_wp _ cd_114 19 [some (.inr (.inr (.inl (some (0))))), some (.inl l), some (.inl m), none, none, none, none, none] [.inl v5] h _
    refine wq_k1 (p' := 22) rfl rfl ⟨by omega, by omega⟩ (fun c7 => ?_) (fun c8 => ?_)
    · have c7 : v5 ≠ (0) := c7
      refine av_wp_seq 6 (pc' := 34) (lv' := [some (.inr (.inr (.inl (some (0))))), some (.inl l), some (.inl m), some (.inl (-1)), some (.inl (13)), some (.inl (0)), none, none]) (st' := []) (h' := h) rfl ?_
      have L21 : ∀ (m20 : Nat) (k9 : Int) (k10 : Int) (k11 : Int) (a12 : Option av_V) (a13 : Option av_V) (h14 : av_H) (r15 : Nat → Int) (n16 : Nat → Int), av_lg a12 = false → av_lg a13 = false → (k9 = (ptv S (PTQ U S (hA h (6 + Int.toNat l)) (hA h (6 + Int.toNat m))) (Int.toNat k11)) ∧ (((ptv S (PTQ U S (hA h (6 + Int.toNat l)) (hA h (6 + Int.toNat m))) (Int.toNat k11)) = -1 ∧ k10 = 13) ∨ ((ptv S (PTQ U S (hA h (6 + Int.toNat l)) (hA h (6 + Int.toNat m))) (Int.toNat k11)) ≠ -1 ∧ k10 = (S (Int.toNat (ptv S (PTQ U S (hA h (6 + Int.toNat l)) (hA h (6 + Int.toNat m))) (Int.toNat k11))) : Int)))) → k11 ≤ n → (-1 ≤ k9 ∧ k9 ≤ 15) → (0 ≤ k10 ∧ k10 ≤ 13) → (0 ≤ k11 ∧ k11 ≤ 16) → CJ U S n r15 n16 h14 → Fr h h14 → SUA U S n (hF h 3 4) (fun k => hA h (6 + k)) r15 → (16 - k11).toNat = m20 → av_wp none cd_114 34 [some (.inr (.inr (.inl (some (0))))), some (.inl l), some (.inl m), some (.inl k9), some (.inl k10), some (.inl k11), a12, a13] [] h14 Q := by
        intro m20
        induction m20 using Nat.strongRecOn with
        | _ m20 I22 =>
          intro k9 k10 k11 a12 a13 h14 r15 n16 g24 g25 g26 g27 g28 g29 g30 C17 F18 U19 e23
          have la12 := g24
          have la13 := g25
          refine av_wp_seq 2 (pc' := 37) (lv' := [some (.inr (.inr (.inl (some (0))))), some (.inl l), some (.inl m), some (.inl k9), some (.inl k10), some (.inl k11), a12, a13]) (st' := [.inr (.inr (.inl (some (0)))), .inl k11]) (h' := h14) rfl ?_
          refine wq_gr (p' := 40) rfl rfl (congrArg Prod.fst (ly_k C17.1.1 0 rfl)) rfl (ly_g C17.1.1 0 1 3 rfl) ?_
          obtain ⟨v31, e32⟩ : ∃ v, hF h14 3 3 = v := ⟨_, rfl⟩
          have g33 := ic_cc C17.1
          rw [e32] at g33
          have u34 : v31 = n := e32.symm.trans C17.2.1.1
          refine wq_gi (p' := 43) rfl rfl (congrArg Prod.fst (ly_k C17.1.1 3 rfl)) rfl (e32) ?_
          refine wq_k2 (p' := 46) rfl rfl ⟨by omega, by omega⟩ ⟨by omega, by omega⟩ (fun c35 => ?_) (fun c36 => ?_)
          · have c35 : v31 ≤ k11 := c35
            refine av_wp_seq 1 (pc' := 126) (lv' := [some (.inr (.inr (.inl (some (0))))), some (.inl l), some (.inl m), some (.inl k9), some (.inl k10), some (.inl k11), a12, a13]) (st' := [.inl k9]) (h' := h14) rfl ?_
            refine av_wp_ret (v := some (.inl k9)) rfl rfl rfl ?_
            exact hq _ h14 _ _ C17 F18 U19 (Or.inl ⟨by omega, by rw [show Int.toNat n = Int.toNat k11 by omega]; exact g26.1⟩)
          · have c36 : k11 < v31 := c36
            refine av_wp_seq 1 (pc' := 47) (lv' := [some (.inr (.inr (.inl (some (0))))), some (.inl l), some (.inl m), some (.inl k9), some (.inl k10), some (.inl k11), a12, a13]) (st' := [.inr (.inr (.inl (some (0))))]) (h' := h14) rfl ?_
            refine wq_gr (p' := 50) rfl rfl (congrArg Prod.fst (ly_k C17.1.1 0 rfl)) rfl (ly_g C17.1.1 0 1 3 rfl) ?_
            refine av_wp_seq 1 (pc' := 52) (lv' := [some (.inr (.inr (.inl (some (0))))), some (.inl l), some (.inl m), some (.inl k9), some (.inl k10), some (.inl k11), a12, a13]) (st' := [.inl k11, .inr (.inr (.inl (some (3))))]) (h' := h14) rfl ?_
            refine wq_cv (p' := 55) (av_qc (.invokevirtual 96) 69 1 0 5) 2 cd_69 [.inl k11] (3) 5 [some (.inr (.inr (.inl (some (3))))), some (.inl k11)] rfl rfl rfl pp_69 rfl rfl rfl (congrArg Prod.fst (ly_k C17.1.1 3 rfl)) rfl rfl rfl rfl ?_
            refine cz_69 C17 (k11) (by omega) (fun z37 => ?_) (fun z37 z38 t39 c40 y41 y42 => ?_)
            · show av_wp _ cd_114 55 [some (.inr (.inr (.inl (some (0))))), some (.inl l), some (.inl m), some (.inl k9), some (.inl k10), some (.inl k11), a12, a13] [.inr (.inr (.inl none))] h14 _
              refine av_wp_seq 9 (pc' := 34) (lv' := [some (.inr (.inr (.inl (some (0))))), some (.inl l), some (.inl m), some (.inl k9), some (.inl k10), some (.inl (k11 + (1))), some (.inr (.inr (.inl none))), some (.inl (0))]) (st' := []) (h' := h14) rfl ?_
              exact I22 _ (by omega) (k9) (k10) ((k11 + (1))) (some (.inr (.inr (.inl none)))) (some (.inl (0))) h14 r15 n16 rfl rfl (by have pr := ptv_r (S := S) (Q := (PTQ U S (hA h (6 + Int.toNat l)) (hA h (6 + Int.toNat m)))) (Int.toNat k11); rw [show Int.toNat (k11 + (1)) = Int.toNat k11 + 1 by omega, ptv_n (fun z => by have := z.1; omega)]; exact g26) (by omega) (by omega) (by omega) (by omega) C17 F18 U19 rfl
            · have g43 := co_s12 y41
              have g44 := co_cbr y41
              show av_wp _ cd_114 55 [some (.inr (.inr (.inl (some (0))))), some (.inl l), some (.inl m), some (.inl k9), some (.inl k10), some (.inl k11), a12, a13] [.inr (.inr (.inl (some (t39))))] h14 _
              refine av_wp_seq 4 (pc' := 64) (lv' := [some (.inr (.inr (.inl (some (0))))), some (.inl l), some (.inl m), some (.inl k9), some (.inl k10), some (.inl k11), some (.inr (.inr (.inl (some (t39))))), a13]) (st' := [.inr (.inr (.inl (some (t39))))]) (h' := h14) rfl ?_
              refine wq_gi (p' := 67) rfl rfl (congrArg Prod.fst (co_kt y41)) rfl (co_s y41) ?_
              refine av_wp_seq 1 (pc' := 69) (lv' := [some (.inr (.inr (.inl (some (0))))), some (.inl l), some (.inl m), some (.inl k9), some (.inl k10), some (.inl k11), some (.inr (.inr (.inl (some (t39))))), a13]) (st' := [.inl k10, .inl ((S (Int.toNat (k11))) : Int)]) (h' := h14) rfl ?_
              refine wq_k2 (p' := 72) rfl rfl ⟨by omega, by omega⟩ ⟨by omega, by omega⟩ (fun c45 => ?_) (fun c46 => ?_)
              · have c45 : k10 ≤ ((S (Int.toNat (k11))) : Int) := c45
                refine av_wp_seq 6 (pc' := 34) (lv' := [some (.inr (.inr (.inl (some (0))))), some (.inl l), some (.inl m), some (.inl k9), some (.inl k10), some (.inl (k11 + (1))), some (.inr (.inr (.inl (some (t39))))), some (.inl (0))]) (st' := []) (h' := h14) rfl ?_
                exact I22 _ (by omega) (k9) (k10) ((k11 + (1))) (some (.inr (.inr (.inl (some (t39)))))) (some (.inl (0))) h14 r15 n16 rfl rfl (by have pr := ptv_r (S := S) (Q := (PTQ U S (hA h (6 + Int.toNat l)) (hA h (6 + Int.toNat m)))) (Int.toNat k11); rw [show Int.toNat (k11 + (1)) = Int.toNat k11 + 1 by omega, ptv_n (fun z => by have := z.1; omega)]; exact g26) (by omega) (by omega) (by omega) (by omega) C17 F18 U19 rfl
              · have c46 : ((S (Int.toNat (k11))) : Int) < k10 := c46
                refine av_wp_seq 6 (pc' := 85) (lv' := [some (.inr (.inr (.inl (some (0))))), some (.inl l), some (.inl m), some (.inl k9), some (.inl k10), some (.inl k11), some (.inr (.inr (.inl (some (t39))))), some (.inl (1))]) (st' := [.inr (.inr (.inl (some (0))))]) (h' := h14) rfl ?_
                refine wq_gr (p' := 88) rfl rfl (congrArg Prod.fst (ly_k C17.1.1 0 rfl)) rfl (ly_g C17.1.1 0 5 26 rfl) ?_
                refine av_wp_seq 3 (pc' := 92) (lv' := [some (.inr (.inr (.inl (some (0))))), some (.inl l), some (.inl m), some (.inl k9), some (.inl k10), some (.inl k11), some (.inr (.inr (.inl (some (t39))))), some (.inl (1))]) (st' := [.inl m, .inl l, .inl k11, .inr (.inr (.inl (some (26))))]) (h' := h14) rfl ?_
                refine wq_cv (p' := 95) (av_qc (.invokevirtual 222) 50 3 0 3) 5 cd_50 [.inl m, .inl l, .inl k11] (26) 3 [some (.inr (.inr (.inl (some (26))))), some (.inl k11), some (.inl l), some (.inl m), none] rfl rfl rfl pp_50 rfl rfl rfl (congrArg Prod.fst (ly_k C17.1.1 26 rfl)) rfl rfl rfl rfl ?_
                have G62cr : CRT U S n (hF h14 3 4) (fun k => hA h14 (6 + k)) := by rw [Fr_34 F18]; exact CRT_c CR (by have := ic_lc C.1; omega) (Fr_6 F18)
                have G62su : SUA U S n (hF h14 3 4) (fun k => hA h14 (6 + k)) r15 := by rw [Fr_34 F18]; exact SUA_c U19 (fun l hl _ => Fr_6 F18 l hl)
                refine cx_50 C17 (k11) (by omega) (l) (by omega) (m) (by omega) G62cr G62su (fun h47 r48 n49 C50 F51 U52 z53 => ?_) (fun z54 h55 r56 n57 t58 c59 X60 U61 => ?_)
                · rw [Fr_34 F18] at U52 z53
                  have F63 := Fr_tr F18 F51
                  have U52 := SUA_c U52 (fun l hl _ => (Fr_6 F18 l hl).symm)
                  show av_wp _ cd_114 95 [some (.inr (.inr (.inl (some (0))))), some (.inl l), some (.inl m), some (.inl k9), some (.inl k10), some (.inl k11), some (.inr (.inr (.inl (some (t39))))), some (.inl (1))] [.inl (0)] h47 _
                  refine av_wp_seq 3 (pc' := 34) (lv' := [some (.inr (.inr (.inl (some (0))))), some (.inl l), some (.inl m), some (.inl k9), some (.inl k10), some (.inl (k11 + (1))), some (.inr (.inr (.inl (some (t39))))), some (.inl (1))]) (st' := []) (h' := h47) rfl ?_
                  exact I22 _ (by omega) (k9) (k10) ((k11 + (1))) (some (.inr (.inr (.inl (some (t39)))))) (some (.inl (1))) h47 r48 n49 rfl rfl (by have pr := ptv_r (S := S) (Q := (PTQ U S (hA h (6 + Int.toNat l)) (hA h (6 + Int.toNat m)))) (Int.toNat k11); rw [show Int.toNat (k11 + (1)) = Int.toNat k11 + 1 by omega, ptv_n (fun z => z53 ⟨by omega, z.2.1, by omega, by omega⟩)]; exact g26) (by omega) (by omega) (by omega) (by omega) C50 F63 U52 rfl
                · rw [Fr_34 F18] at z54 U61
                  have U61 := SUA_c U61 (fun l hl _ => (Fr_6 F18 l hl).symm)
                  rw [Fr_6 F18 (Int.toNat l) (by have := ic_lc C.1; omega), Fr_6 F18 (Int.toNat m) (by have := ic_lc C.1; omega)] at X60
                  have G621 := CWF_sea (ro := (hA h (6 + Int.toNat l))) (CR.1 (Int.toNat k11) (by omega)) (rl_8 (CR.2.2.2 l (by omega) (by omega))).1 (brv_b (U (Int.toNat k11)) (srt U S (hA h (6 + Int.toNat l)) (Int.toNat k11)))
                  have G622 := CWF_sea (ro := (hA h (6 + Int.toNat m))) (CR.1 (Int.toNat k11) (by omega)) (rl_8 (CR.2.2.2 m (by omega) (by omega))).1 (brv_b (U (Int.toNat k11)) (srt U S (hA h (6 + Int.toNat m)) (Int.toNat k11)))
                  have G62c := cbv_d (U (Int.toNat k11)) (S (Int.toNat k11))
                  have G62d := CR.2.2.1 (Int.toNat k11) (by omega)
                  show av_wp _ cd_114 95 [some (.inr (.inr (.inl (some (0))))), some (.inl l), some (.inl m), some (.inl k9), some (.inl k10), some (.inl k11), some (.inr (.inr (.inl (some (t39))))), some (.inl (1))] [.inl (1)] h55 _
                  refine av_wp_seq 2 (pc' := 99) (lv' := [some (.inr (.inr (.inl (some (0))))), some (.inl l), some (.inl m), some (.inl k9), some (.inl k10), some (.inl k11), some (.inr (.inr (.inl (some (t39))))), some (.inl (1))]) (st' := [.inr (.inr (.inl (some (0))))]) (h' := h55) rfl ?_
                  refine wq_gr (p' := 102) rfl rfl (congrArg Prod.fst (ly_k X60.1.1.1 0 rfl)) rfl (ly_g X60.1.1.1 0 5 26 rfl) ?_
                  refine wq_cv (p' := 105) (av_qc (.invokevirtual 228) 61 0 0 3) 2 cd_61 [] (26) 3 [some (.inr (.inr (.inl (some (26))))), none] rfl rfl rfl pp_61 rfl rfl rfl (congrArg Prod.fst (ly_k X60.1.1.1 26 rfl)) rfl rfl rfl rfl ?_
                  refine cx_61 X60 G621 G622 (CR.1 (Int.toNat k11) (by omega)).1 (CR.2.2.2 l (by omega) (by omega)) (CR.2.2.2 m (by omega) (by omega)) (by omega) (fun v65 h66 X67 p68 => ?_)
                  have F69 := Fr_tr F18 X67.2.1
                  have g70 : -1 ≤ v65 ∧ v65 < (Int.toNat (cbv (U (Int.toNat k11)) (S (Int.toNat k11))) : Int) := by rw [p68]; exact fsP_r
                  have y71 := CO_fr C17.1.1 y41 X67.2.1
                  show av_wp _ cd_114 105 [some (.inr (.inr (.inl (some (0))))), some (.inl l), some (.inl m), some (.inl k9), some (.inl k10), some (.inl k11), some (.inr (.inr (.inl (some (t39))))), some (.inl (1))] [.inl v65] h66 _
                  refine av_wp_seq 1 (pc' := 106) (lv' := [some (.inr (.inr (.inl (some (0))))), some (.inl l), some (.inl m), some (.inl k9), some (.inl k10), some (.inl k11), some (.inr (.inr (.inl (some (t39))))), some (.inl (1))]) (st' := [.inl (-1), .inl v65]) (h' := h66) rfl ?_
                  refine wq_k2 (p' := 109) rfl rfl ⟨by omega, by omega⟩ ⟨by omega, by omega⟩ (fun c72 => ?_) (fun c73 => ?_)
                  · have c72 : v65 = (-1) := c72
                    refine av_wp_seq 2 (pc' := 34) (lv' := [some (.inr (.inr (.inl (some (0))))), some (.inl l), some (.inl m), some (.inl k9), some (.inl k10), some (.inl (k11 + (1))), some (.inr (.inr (.inl (some (t39))))), some (.inl (1))]) (st' := []) (h' := h66) rfl ?_
                    exact I22 _ (by omega) (k9) (k10) ((k11 + (1))) (some (.inr (.inr (.inl (some (t39)))))) (some (.inl (1))) h66 r56 n57 rfl rfl (by have pr := ptv_r (S := S) (Q := (PTQ U S (hA h (6 + Int.toNat l)) (hA h (6 + Int.toNat m)))) (Int.toNat k11); rw [show Int.toNat (k11 + (1)) = Int.toNat k11 + 1 by omega, ptv_n (fun z => z.2.2 (by rw [← p68]; omega))]; exact g26) (by omega) (by omega) (by omega) (by omega) X67.1 F69 U61 rfl
                  · have c73 : v65 ≠ (-1) := c73
                    refine av_wp_seq 3 (pc' := 114) (lv' := [some (.inr (.inr (.inl (some (0))))), some (.inl l), some (.inl m), some (.inl k11), some (.inl k10), some (.inl k11), some (.inr (.inr (.inl (some (t39))))), some (.inl (1))]) (st' := [.inr (.inr (.inl (some (t39))))]) (h' := h66) rfl ?_
                    refine wq_gi (p' := 117) rfl rfl (congrArg Prod.fst (co_kt y71)) rfl (co_s y71) ?_
                    refine av_wp_seq 3 (pc' := 34) (lv' := [some (.inr (.inr (.inl (some (0))))), some (.inl l), some (.inl m), some (.inl k11), some (.inl ((S (Int.toNat (k11))) : Int)), some (.inl (k11 + (1))), some (.inr (.inr (.inl (some (t39))))), some (.inl (1))]) (st' := []) (h' := h66) rfl ?_
                    exact I22 _ (by omega) (k11) (((S (Int.toNat (k11))) : Int)) ((k11 + (1))) (some (.inr (.inr (.inl (some (t39)))))) (some (.inl (1))) h66 r56 n57 rfl rfl (by have pr := ptv_r (S := S) (Q := (PTQ U S (hA h (6 + Int.toNat l)) (hA h (6 + Int.toNat m)))) (Int.toNat k11); rw [show Int.toNat (k11 + (1)) = Int.toNat k11 + 1 by omega, ptv_y (by omega) ⟨by omega, by rw [← p68]; omega⟩]; refine ⟨by omega, Or.inr ⟨by omega, ?_⟩⟩; rw [show ((((Int.toNat k11) : Nat) : Int)).toNat = (Int.toNat k11) by omega]) (by omega) (by omega) (by omega) (by omega) X67.1 F69 U61 rfl
      exact L21 _ ((-1)) ((13)) ((0)) (none) (none) h sr nd rfl rfl ⟨rfl, Or.inl ⟨rfl, rfl⟩⟩ (by omega) (by omega) (by omega) (by omega) C F SU rfl
    · have c8 : v5 = (0) := c8
      refine av_wp_seq 1 (pc' := 24) (lv' := [some (.inr (.inr (.inl (some (0))))), some (.inl l), some (.inl m), none, none, none, none, none]) (st' := [.inl (-2)]) (h' := h) rfl ?_
      refine av_wp_ret (v := some (.inl (-2))) rfl rfl rfl ?_
      exact hq _ h _ _ C F SU (Or.inr ⟨by omega, rfl⟩)

