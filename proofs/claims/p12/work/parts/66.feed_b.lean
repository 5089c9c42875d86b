set_option maxRecDepth 100000 in
set_option maxHeartbeats 4000000 in
theorem ct_128 {h : av_H} (L : LY h) {l : Nat} (hl : hF h 77 17 = (l : Int)) (h900 : l ≤ 900) (a b c d e : Int) {Q : Option av_V → av_H → Prop} (hqA : 880 < l → Q (some (.inl (-1))) h) (hq : l ≤ 880 → ∀ h', FE mfA mfF h h' → hA h' 94 = fd5 (hA h 94) l a b c d e → hF h' 77 17 = (l : Int) + 20 → Q (some (.inl ((l : Int) + 20))) h') : av_wp none cd_128 0 [some (.inr (.inr (.inl (some (77))))), some (.inl a), some (.inl b), some (.inl c), some (.inl d), some (.inl e), none, none] [] h Q := by
  refine av_wp_seq 1 (pc' := 1) (lv' := [some (.inr (.inr (.inl (some (77))))), some (.inl a), some (.inl b), some (.inl c), some (.inl d), some (.inl e), none, none]) (st' := [.inr (.inr (.inl (some (77))))]) (h' := h) rfl ?_
  refine wq_gi (p' := 4) rfl rfl (congrArg Prod.fst (ly_k L 77 rfl)) rfl (hl) ?_
  refine av_wp_seq 3 (pc' := 10) (lv' := [some (.inr (.inr (.inl (some (77))))), some (.inl a), some (.inl b), some (.inl c), some (.inl d), some (.inl e), none, none]) (st' := [.inl (900), .inl ((l : Int) + (20))]) (h' := h) rfl ?_
  refine wq_k2 (p' := 13) rfl rfl ⟨by omega, by omega⟩ ⟨by omega, by omega⟩ (fun c1 => ?_) (fun c2 => ?_)
  · have c1 : ((l : Int) + (20)) ≤ (900) := c1
    refine av_wp_seq 12 (pc' := 74) (lv' := [some (.inr (.inr (.inl (some (77))))), some (.inl a), some (.inl b), some (.inl c), some (.inl d), some (.inl e), some (.inl (0)), some (.inl a)]) (st' := [.inr (.inr (.inl (some (77))))]) (h' := h) rfl ?_
    refine wq_gr (p' := 77) rfl rfl (congrArg Prod.fst (ly_k L 77 rfl)) rfl (ly_g L 77 16 94 rfl) ?_
    refine av_wp_seq 1 (pc' := 78) (lv' := [some (.inr (.inr (.inl (some (77))))), some (.inl a), some (.inl b), some (.inl c), some (.inl d), some (.inl e), some (.inl (0)), some (.inl a)]) (st' := [.inr (.inr (.inl (some (77)))), .inr (.inr (.inl (some (94))))]) (h' := h) rfl ?_
    refine wq_gi (p' := 81) rfl rfl (congrArg Prod.fst (ly_k L 77 rfl)) rfl (hl) ?_
    refine av_wp_seq 5 (pc' := 90) (lv' := [some (.inr (.inr (.inl (some (77))))), some (.inl a), some (.inl b), some (.inl c), some (.inl d), some (.inl e), some (.inl (0)), some (.inl a)]) (st' := [.inl (4), .inl (0), .inl (8), .inl (24), .inl a, .inl (l : Int), .inr (.inr (.inl (some (94))))]) (h' := h) rfl ?_
    refine wq_rm (p' := 91) rfl rfl ⟨by decide, by decide⟩ (by decide) (fun v3 e4 => ?_)
    have e4 : v3 = 0 := e4 ⟨by decide, by decide⟩
    subst e4
    refine av_wp_seq 4 (pc' := 95) (lv' := [some (.inr (.inr (.inl (some (77))))), some (.inl a), some (.inl b), some (.inl c), some (.inl d), some (.inl e), some (.inl (0)), some (.inl a)]) (st' := [.inl (av_b (av_shr a (24))), .inl (l : Int), .inr (.inr (.inl (some (94))))]) (h' := h) rfl ?_
    refine wq_bs (p' := 96) (n := 900) rfl rfl (ly_k L 94 rfl) (by omega) ?_
    obtain ⟨f8, q9⟩ : ∃ f, f = av_u1 (hA h 94) (l + 0) (bt a 24) := ⟨_, rfl⟩
    have a6 : hA (hwA h 94 (Int.toNat ((l : Int))) (av_b (av_b (av_shr a (24))))) 94 = f8 := by rw [hA_wu, show Int.toNat ((l : Int)) = l + 0 by omega, q9]; rfl
    have F7 := FE_wA (eF := mfF) (j := Int.toNat ((l : Int))) (v := av_b (av_b (av_shr a (24)))) (FE_rf h) (show mfA 94 from rfl)
    have eh5 : hF (hwA h 94 (Int.toNat ((l : Int))) (av_b (av_b (av_shr a (24))))) 77 17 = (l : Int) := hl
    generalize hwA h 94 (Int.toNat ((l : Int))) (av_b (av_b (av_shr a (24)))) = h5 at a6 F7 eh5 ⊢
    refine av_wp_seq 2 (pc' := 98) (lv' := [some (.inr (.inr (.inl (some (77))))), some (.inl a), some (.inl b), some (.inl c), some (.inl d), some (.inl e), some (.inl (0)), some (.inl a)]) (st' := [.inr (.inr (.inl (some (77)))), .inr (.inr (.inl (some (77))))]) (h' := h5) rfl ?_
    refine wq_gi (p' := 101) rfl rfl (congrArg Prod.fst (ly_k (FE_ly F7 L) 77 rfl)) rfl (eh5) ?_
    refine av_wp_seq 2 (pc' := 103) (lv' := [some (.inr (.inr (.inl (some (77))))), some (.inl a), some (.inl b), some (.inl c), some (.inl d), some (.inl e), some (.inl (0)), some (.inl a)]) (st' := [.inl ((l : Int) + (1)), .inr (.inr (.inl (some (77))))]) (h' := h5) rfl ?_
    refine wq_pi (p' := 106) rfl rfl (congrArg Prod.fst (ly_k (FE_ly F7 L) 77 rfl)) rfl ?_
    rw [show ((l : Int) + (1)) = ((l + 1 : Nat) : Int) by omega]
    have a11 : hA (hwF h5 77 17 ((l + 1 : Nat) : Int)) 94 = f8 := a6
    have F12 := FE_wF (v := ((l + 1 : Nat) : Int)) F7 (show mfF 77 17 from ⟨rfl, rfl⟩)
    have eh10 : hF (hwF h5 77 17 ((l + 1 : Nat) : Int)) 77 17 = ((l + 1 : Nat) : Int) := hF_self
    generalize hwF h5 77 17 ((l + 1 : Nat) : Int) = h10 at a11 F12 eh10 ⊢
    clear a6 F7 eh5
    refine av_wp_seq 12 (pc' := 74) (lv' := [some (.inr (.inr (.inl (some (77))))), some (.inl a), some (.inl b), some (.inl c), some (.inl d), some (.inl e), some (.inl (1)), some (.inl a)]) (st' := [.inr (.inr (.inl (some (77))))]) (h' := h10) rfl ?_
    refine wq_gr (p' := 77) rfl rfl (congrArg Prod.fst (ly_k (FE_ly F12 L) 77 rfl)) rfl (ly_g (FE_ly F12 L) 77 16 94 rfl) ?_
    refine av_wp_seq 1 (pc' := 78) (lv' := [some (.inr (.inr (.inl (some (77))))), some (.inl a), some (.inl b), some (.inl c), some (.inl d), some (.inl e), some (.inl (1)), some (.inl a)]) (st' := [.inr (.inr (.inl (some (77)))), .inr (.inr (.inl (some (94))))]) (h' := h10) rfl ?_
    refine wq_gi (p' := 81) rfl rfl (congrArg Prod.fst (ly_k (FE_ly F12 L) 77 rfl)) rfl (eh10) ?_
    refine av_wp_seq 5 (pc' := 90) (lv' := [some (.inr (.inr (.inl (some (77))))), some (.inl a), some (.inl b), some (.inl c), some (.inl d), some (.inl e), some (.inl (1)), some (.inl a)]) (st' := [.inl (4), .inl (1), .inl (8), .inl (24), .inl a, .inl ((l + 1 : Nat) : Int), .inr (.inr (.inl (some (94))))]) (h' := h10) rfl ?_
    refine wq_rm (p' := 91) rfl rfl ⟨by decide, by decide⟩ (by decide) (fun v13 e14 => ?_)
    have e14 : v13 = 1 := e14 ⟨by decide, by decide⟩
    subst e14
    refine av_wp_seq 4 (pc' := 95) (lv' := [some (.inr (.inr (.inl (some (77))))), some (.inl a), some (.inl b), some (.inl c), some (.inl d), some (.inl e), some (.inl (1)), some (.inl a)]) (st' := [.inl (av_b (av_shr a (16))), .inl ((l + 1 : Nat) : Int), .inr (.inr (.inl (some (94))))]) (h' := h10) rfl ?_
    refine wq_bs (p' := 96) (n := 900) rfl rfl (ly_k (FE_ly F12 L) 94 rfl) (by omega) ?_
    obtain ⟨f18, q19⟩ : ∃ f, f = av_u1 f8 (l + 1) (bt a 16) := ⟨_, rfl⟩
    have a16 : hA (hwA h10 94 (Int.toNat (((l + 1 : Nat) : Int))) (av_b (av_b (av_shr a (16))))) 94 = f18 := by rw [hA_wu, a11, show Int.toNat (((l + 1 : Nat) : Int)) = l + 1 by omega, q19]; rfl
    have F17 := FE_wA (eF := mfF) (j := Int.toNat (((l + 1 : Nat) : Int))) (v := av_b (av_b (av_shr a (16)))) F12 (show mfA 94 from rfl)
    have eh15 : hF (hwA h10 94 (Int.toNat (((l + 1 : Nat) : Int))) (av_b (av_b (av_shr a (16))))) 77 17 = ((l + 1 : Nat) : Int) := eh10
    generalize hwA h10 94 (Int.toNat (((l + 1 : Nat) : Int))) (av_b (av_b (av_shr a (16)))) = h15 at a16 F17 eh15 ⊢
    clear a11 F12 eh10
    refine av_wp_seq 2 (pc' := 98) (lv' := [some (.inr (.inr (.inl (some (77))))), some (.inl a), some (.inl b), some (.inl c), some (.inl d), some (.inl e), some (.inl (1)), some (.inl a)]) (st' := [.inr (.inr (.inl (some (77)))), .inr (.inr (.inl (some (77))))]) (h' := h15) rfl ?_
    refine wq_gi (p' := 101) rfl rfl (congrArg Prod.fst (ly_k (FE_ly F17 L) 77 rfl)) rfl (eh15) ?_
    refine av_wp_seq 2 (pc' := 103) (lv' := [some (.inr (.inr (.inl (some (77))))), some (.inl a), some (.inl b), some (.inl c), some (.inl d), some (.inl e), some (.inl (1)), some (.inl a)]) (st' := [.inl (((l + 1 : Nat) : Int) + (1)), .inr (.inr (.inl (some (77))))]) (h' := h15) rfl ?_
    refine wq_pi (p' := 106) rfl rfl (congrArg Prod.fst (ly_k (FE_ly F17 L) 77 rfl)) rfl ?_
    rw [show (((l + 1 : Nat) : Int) + (1)) = ((l + 2 : Nat) : Int) by omega]
    have a21 : hA (hwF h15 77 17 ((l + 2 : Nat) : Int)) 94 = f18 := a16
    have F22 := FE_wF (v := ((l + 2 : Nat) : Int)) F17 (show mfF 77 17 from ⟨rfl, rfl⟩)
    have eh20 : hF (hwF h15 77 17 ((l + 2 : Nat) : Int)) 77 17 = ((l + 2 : Nat) : Int) := hF_self
    generalize hwF h15 77 17 ((l + 2 : Nat) : Int) = h20 at a21 F22 eh20 ⊢
    clear a16 F17 eh15
    refine av_wp_seq 12 (pc' := 74) (lv' := [some (.inr (.inr (.inl (some (77))))), some (.inl a), some (.inl b), some (.inl c), some (.inl d), some (.inl e), some (.inl (2)), some (.inl a)]) (st' := [.inr (.inr (.inl (some (77))))]) (h' := h20) rfl ?_
    refine wq_gr (p' := 77) rfl rfl (congrArg Prod.fst (ly_k (FE_ly F22 L) 77 rfl)) rfl (ly_g (FE_ly F22 L) 77 16 94 rfl) ?_
    refine av_wp_seq 1 (pc' := 78) (lv' := [some (.inr (.inr (.inl (some (77))))), some (.inl a), some (.inl b), some (.inl c), some (.inl d), some (.inl e), some (.inl (2)), some (.inl a)]) (st' := [.inr (.inr (.inl (some (77)))), .inr (.inr (.inl (some (94))))]) (h' := h20) rfl ?_
    refine wq_gi (p' := 81) rfl rfl (congrArg Prod.fst (ly_k (FE_ly F22 L) 77 rfl)) rfl (eh20) ?_
    refine av_wp_seq 5 (pc' := 90) (lv' := [some (.inr (.inr (.inl (some (77))))), some (.inl a), some (.inl b), some (.inl c), some (.inl d), some (.inl e), some (.inl (2)), some (.inl a)]) (st' := [.inl (4), .inl (2), .inl (8), .inl (24), .inl a, .inl ((l + 2 : Nat) : Int), .inr (.inr (.inl (some (94))))]) (h' := h20) rfl ?_
    refine wq_rm (p' := 91) rfl rfl ⟨by decide, by decide⟩ (by decide) (fun v23 e24 => ?_)
    have e24 : v23 = 2 := e24 ⟨by decide, by decide⟩
    subst e24
    refine av_wp_seq 4 (pc' := 95) (lv' := [some (.inr (.inr (.inl (some (77))))), some (.inl a), some (.inl b), some (.inl c), some (.inl d), some (.inl e), some (.inl (2)), some (.inl a)]) (st' := [.inl (av_b (av_shr a (8))), .inl ((l + 2 : Nat) : Int), .inr (.inr (.inl (some (94))))]) (h' := h20) rfl ?_
    refine wq_bs (p' := 96) (n := 900) rfl rfl (ly_k (FE_ly F22 L) 94 rfl) (by omega) ?_
    obtain ⟨f28, q29⟩ : ∃ f, f = av_u1 f18 (l + 2) (bt a 8) := ⟨_, rfl⟩
    have a26 : hA (hwA h20 94 (Int.toNat (((l + 2 : Nat) : Int))) (av_b (av_b (av_shr a (8))))) 94 = f28 := by rw [hA_wu, a21, show Int.toNat (((l + 2 : Nat) : Int)) = l + 2 by omega, q29]; rfl
    have F27 := FE_wA (eF := mfF) (j := Int.toNat (((l + 2 : Nat) : Int))) (v := av_b (av_b (av_shr a (8)))) F22 (show mfA 94 from rfl)
    have eh25 : hF (hwA h20 94 (Int.toNat (((l + 2 : Nat) : Int))) (av_b (av_b (av_shr a (8))))) 77 17 = ((l + 2 : Nat) : Int) := eh20
    generalize hwA h20 94 (Int.toNat (((l + 2 : Nat) : Int))) (av_b (av_b (av_shr a (8)))) = h25 at a26 F27 eh25 ⊢
    clear a21 F22 eh20
    refine av_wp_seq 2 (pc' := 98) (lv' := [some (.inr (.inr (.inl (some (77))))), some (.inl a), some (.inl b), some (.inl c), some (.inl d), some (.inl e), some (.inl (2)), some (.inl a)]) (st' := [.inr (.inr (.inl (some (77)))), .inr (.inr (.inl (some (77))))]) (h' := h25) rfl ?_
    refine wq_gi (p' := 101) rfl rfl (congrArg Prod.fst (ly_k (FE_ly F27 L) 77 rfl)) rfl (eh25) ?_
    refine av_wp_seq 2 (pc' := 103) (lv' := [some (.inr (.inr (.inl (some (77))))), some (.inl a), some (.inl b), some (.inl c), some (.inl d), some (.inl e), some (.inl (2)), some (.inl a)]) (st' := [.inl (((l + 2 : Nat) : Int) + (1)), .inr (.inr (.inl (some (77))))]) (h' := h25) rfl ?_
    refine wq_pi (p' := 106) rfl rfl (congrArg Prod.fst (ly_k (FE_ly F27 L) 77 rfl)) rfl ?_
    rw [show (((l + 2 : Nat) : Int) + (1)) = ((l + 3 : Nat) : Int) by omega]
    have a31 : hA (hwF h25 77 17 ((l + 3 : Nat) : Int)) 94 = f28 := a26
    have F32 := FE_wF (v := ((l + 3 : Nat) : Int)) F27 (show mfF 77 17 from ⟨rfl, rfl⟩)
    have eh30 : hF (hwF h25 77 17 ((l + 3 : Nat) : Int)) 77 17 = ((l + 3 : Nat) : Int) := hF_self
    generalize hwF h25 77 17 ((l + 3 : Nat) : Int) = h30 at a31 F32 eh30 ⊢
    clear a26 F27 eh25
    refine av_wp_seq 12 (pc' := 74) (lv' := [some (.inr (.inr (.inl (some (77))))), some (.inl a), some (.inl b), some (.inl c), some (.inl d), some (.inl e), some (.inl (3)), some (.inl a)]) (st' := [.inr (.inr (.inl (some (77))))]) (h' := h30) rfl ?_
    refine wq_gr (p' := 77) rfl rfl (congrArg Prod.fst (ly_k (FE_ly F32 L) 77 rfl)) rfl (ly_g (FE_ly F32 L) 77 16 94 rfl) ?_
    refine av_wp_seq 1 (pc' := 78) (lv' := [some (.inr (.inr (.inl (some (77))))), some (.inl a), some (.inl b), some (.inl c), some (.inl d), some (.inl e), some (.inl (3)), some (.inl a)]) (st' := [.inr (.inr (.inl (some (77)))), .inr (.inr (.inl (some (94))))]) (h' := h30) rfl ?_
    refine wq_gi (p' := 81) rfl rfl (congrArg Prod.fst (ly_k (FE_ly F32 L) 77 rfl)) rfl (eh30) ?_
    refine av_wp_seq 5 (pc' := 90) (lv' := [some (.inr (.inr (.inl (some (77))))), some (.inl a), some (.inl b), some (.inl c), some (.inl d), some (.inl e), some (.inl (3)), some (.inl a)]) (st' := [.inl (4), .inl (3), .inl (8), .inl (24), .inl a, .inl ((l + 3 : Nat) : Int), .inr (.inr (.inl (some (94))))]) (h' := h30) rfl ?_
    refine wq_rm (p' := 91) rfl rfl ⟨by decide, by decide⟩ (by decide) (fun v33 e34 => ?_)
    have e34 : v33 = 3 := e34 ⟨by decide, by decide⟩
    subst e34
    refine av_wp_seq 4 (pc' := 95) (lv' := [some (.inr (.inr (.inl (some (77))))), some (.inl a), some (.inl b), some (.inl c), some (.inl d), some (.inl e), some (.inl (3)), some (.inl a)]) (st' := [.inl (av_b (av_shr a (0))), .inl ((l + 3 : Nat) : Int), .inr (.inr (.inl (some (94))))]) (h' := h30) rfl ?_
    refine wq_bs (p' := 96) (n := 900) rfl rfl (ly_k (FE_ly F32 L) 94 rfl) (by omega) ?_
    obtain ⟨f38, q39⟩ : ∃ f, f = av_u1 f28 (l + 3) (bt a 0) := ⟨_, rfl⟩
    have a36 : hA (hwA h30 94 (Int.toNat (((l + 3 : Nat) : Int))) (av_b (av_b (av_shr a (0))))) 94 = f38 := by rw [hA_wu, a31, show Int.toNat (((l + 3 : Nat) : Int)) = l + 3 by omega, q39]; rfl
    have F37 := FE_wA (eF := mfF) (j := Int.toNat (((l + 3 : Nat) : Int))) (v := av_b (av_b (av_shr a (0)))) F32 (show mfA 94 from rfl)
    have eh35 : hF (hwA h30 94 (Int.toNat (((l + 3 : Nat) : Int))) (av_b (av_b (av_shr a (0))))) 77 17 = ((l + 3 : Nat) : Int) := eh30
    generalize hwA h30 94 (Int.toNat (((l + 3 : Nat) : Int))) (av_b (av_b (av_shr a (0)))) = h35 at a36 F37 eh35 ⊢
    clear a31 F32 eh30
    have p40 : f38 = put4 (hA h 94) (l + 0) a := by rw [q39, q29, q19, q9]; rfl
    clear q39 q29 q19 q9
    refine av_wp_seq 2 (pc' := 98) (lv' := [some (.inr (.inr (.inl (some (77))))), some (.inl a), some (.inl b), some (.inl c), some (.inl d), some (.inl e), some (.inl (3)), some (.inl a)]) (st' := [.inr (.inr (.inl (some (77)))), .inr (.inr (.inl (some (77))))]) (h' := h35) rfl ?_
    refine wq_gi (p' := 101) rfl rfl (congrArg Prod.fst (ly_k (FE_ly F37 L) 77 rfl)) rfl (eh35) ?_
    refine av_wp_seq 2 (pc' := 103) (lv' := [some (.inr (.inr (.inl (some (77))))), some (.inl a), some (.inl b), some (.inl c), some (.inl d), some (.inl e), some (.inl (3)), some (.inl a)]) (st' := [.inl (((l + 3 : Nat) : Int) + (1)), .inr (.inr (.inl (some (77))))]) (h' := h35) rfl ?_
    refine wq_pi (p' := 106) rfl rfl (congrArg Prod.fst (ly_k (FE_ly F37 L) 77 rfl)) rfl ?_
    rw [show (((l + 3 : Nat) : Int) + (1)) = ((l + 4 : Nat) : Int) by omega]
    have a42 : hA (hwF h35 77 17 ((l + 4 : Nat) : Int)) 94 = f38 := a36
    have F43 := FE_wF (v := ((l + 4 : Nat) : Int)) F37 (show mfF 77 17 from ⟨rfl, rfl⟩)
    have eh41 : hF (hwF h35 77 17 ((l + 4 : Nat) : Int)) 77 17 = ((l + 4 : Nat) : Int) := hF_self
    generalize hwF h35 77 17 ((l + 4 : Nat) : Int) = h41 at a42 F43 eh41 ⊢
    clear a36 F37 eh35
    refine av_wp_seq 12 (pc' := 43) (lv' := [some (.inr (.inr (.inl (some (77))))), some (.inl a), some (.inl b), some (.inl c), some (.inl d), some (.inl e), some (.inl (4)), some (.inl a)]) (st' := [.inl b]) (h' := h41) rfl ?_
    refine av_wp_seq 3 (pc' := 74) (lv' := [some (.inr (.inr (.inl (some (77))))), some (.inl a), some (.inl b), some (.inl c), some (.inl d), some (.inl e), some (.inl (4)), some (.inl b)]) (st' := [.inr (.inr (.inl (some (77))))]) (h' := h41) rfl ?_
    refine wq_gr (p' := 77) rfl rfl (congrArg Prod.fst (ly_k (FE_ly F43 L) 77 rfl)) rfl (ly_g (FE_ly F43 L) 77 16 94 rfl) ?_
    refine av_wp_seq 1 (pc' := 78) (lv' := [some (.inr (.inr (.inl (some (77))))), some (.inl a), some (.inl b), some (.inl c), some (.inl d), some (.inl e), some (.inl (4)), some (.inl b)]) (st' := [.inr (.inr (.inl (some (77)))), .inr (.inr (.inl (some (94))))]) (h' := h41) rfl ?_
    refine wq_gi (p' := 81) rfl rfl (congrArg Prod.fst (ly_k (FE_ly F43 L) 77 rfl)) rfl (eh41) ?_
    refine av_wp_seq 5 (pc' := 90) (lv' := [some (.inr (.inr (.inl (some (77))))), some (.inl a), some (.inl b), some (.inl c), some (.inl d), some (.inl e), some (.inl (4)), some (.inl b)]) (st' := [.inl (4), .inl (4), .inl (8), .inl (24), .inl b, .inl ((l + 4 : Nat) : Int), .inr (.inr (.inl (some (94))))]) (h' := h41) rfl ?_
    refine wq_rm (p' := 91) rfl rfl ⟨by decide, by decide⟩ (by decide) (fun v44 e45 => ?_)
    have e45 : v44 = 0 := e45 ⟨by decide, by decide⟩
    subst e45
    refine av_wp_seq 4 (pc' := 95) (lv' := [some (.inr (.inr (.inl (some (77))))), some (.inl a), some (.inl b), some (.inl c), some (.inl d), some (.inl e), some (.inl (4)), some (.inl b)]) (st' := [.inl (av_b (av_shr b (24))), .inl ((l + 4 : Nat) : Int), .inr (.inr (.inl (some (94))))]) (h' := h41) rfl ?_
    refine wq_bs (p' := 96) (n := 900) rfl rfl (ly_k (FE_ly F43 L) 94 rfl) (by omega) ?_
    obtain ⟨f49, q50⟩ : ∃ f, f = av_u1 f38 (l + 4) (bt b 24) := ⟨_, rfl⟩
    have a47 : hA (hwA h41 94 (Int.toNat (((l + 4 : Nat) : Int))) (av_b (av_b (av_shr b (24))))) 94 = f49 := by rw [hA_wu, a42, show Int.toNat (((l + 4 : Nat) : Int)) = l + 4 by omega, q50]; rfl
    have F48 := FE_wA (eF := mfF) (j := Int.toNat (((l + 4 : Nat) : Int))) (v := av_b (av_b (av_shr b (24)))) F43 (show mfA 94 from rfl)
    have eh46 : hF (hwA h41 94 (Int.toNat (((l + 4 : Nat) : Int))) (av_b (av_b (av_shr b (24))))) 77 17 = ((l + 4 : Nat) : Int) := eh41
    generalize hwA h41 94 (Int.toNat (((l + 4 : Nat) : Int))) (av_b (av_b (av_shr b (24)))) = h46 at a47 F48 eh46 ⊢
    clear a42 F43 eh41
    refine av_wp_seq 2 (pc' := 98) (lv' := [some (.inr (.inr (.inl (some (77))))), some (.inl a), some (.inl b), some (.inl c), some (.inl d), some (.inl e), some (.inl (4)), some (.inl b)]) (st' := [.inr (.inr (.inl (some (77)))), .inr (.inr (.inl (some (77))))]) (h' := h46) rfl ?_
    refine wq_gi (p' := 101) rfl rfl (congrArg Prod.fst (ly_k (FE_ly F48 L) 77 rfl)) rfl (eh46) ?_
    refine av_wp_seq 2 (pc' := 103) (lv' := [some (.inr (.inr (.inl (some (77))))), some (.inl a), some (.inl b), some (.inl c), some (.inl d), some (.inl e), some (.inl (4)), some (.inl b)]) (st' := [.inl (((l + 4 : Nat) : Int) + (1)), .inr (.inr (.inl (some (77))))]) (h' := h46) rfl ?_
    refine wq_pi (p' := 106) rfl rfl (congrArg Prod.fst (ly_k (FE_ly F48 L) 77 rfl)) rfl ?_
    rw [show (((l + 4 : Nat) : Int) + (1)) = ((l + 5 : Nat) : Int) by omega]
    have a52 : hA (hwF h46 77 17 ((l + 5 : Nat) : Int)) 94 = f49 := a47
    have F53 := FE_wF (v := ((l + 5 : Nat) : Int)) F48 (show mfF 77 17 from ⟨rfl, rfl⟩)
    have eh51 : hF (hwF h46 77 17 ((l + 5 : Nat) : Int)) 77 17 = ((l + 5 : Nat) : Int) := hF_self
    generalize hwF h46 77 17 ((l + 5 : Nat) : Int) = h51 at a52 F53 eh51 ⊢
    clear a47 F48 eh46
    refine av_wp_seq 12 (pc' := 43) (lv' := [some (.inr (.inr (.inl (some (77))))), some (.inl a), some (.inl b), some (.inl c), some (.inl d), some (.inl e), some (.inl (5)), some (.inl b)]) (st' := [.inl b]) (h' := h51) rfl ?_
    refine av_wp_seq 3 (pc' := 74) (lv' := [some (.inr (.inr (.inl (some (77))))), some (.inl a), some (.inl b), some (.inl c), some (.inl d), some (.inl e), some (.inl (5)), some (.inl b)]) (st' := [.inr (.inr (.inl (some (77))))]) (h' := h51) rfl ?_
    refine wq_gr (p' := 77) rfl rfl (congrArg Prod.fst (ly_k (FE_ly F53 L) 77 rfl)) rfl (ly_g (FE_ly F53 L) 77 16 94 rfl) ?_
    refine av_wp_seq 1 (pc' := 78) (lv' := [some (.inr (.inr (.inl (some (77))))), some (.inl a), some (.inl b), some (.inl c), some (.inl d), some (.inl e), some (.inl (5)), some (.inl b)]) (st' := [.inr (.inr (.inl (some (77)))), .inr (.inr (.inl (some (94))))]) (h' := h51) rfl ?_
    refine wq_gi (p' := 81) rfl rfl (congrArg Prod.fst (ly_k (FE_ly F53 L) 77 rfl)) rfl (eh51) ?_
    refine av_wp_seq 5 (pc' := 90) (lv' := [some (.inr (.inr (.inl (some (77))))), some (.inl a), some (.inl b), some (.inl c), some (.inl d), some (.inl e), some (.inl (5)), some (.inl b)]) (st' := [.inl (4), .inl (5), .inl (8), .inl (24), .inl b, .inl ((l + 5 : Nat) : Int), .inr (.inr (.inl (some (94))))]) (h' := h51) rfl ?_
    refine wq_rm (p' := 91) rfl rfl ⟨by decide, by decide⟩ (by decide) (fun v54 e55 => ?_)
    have e55 : v54 = 1 := e55 ⟨by decide, by decide⟩
    subst e55
    refine av_wp_seq 4 (pc' := 95) (lv' := [some (.inr (.inr (.inl (some (77))))), some (.inl a), some (.inl b), some (.inl c), some (.inl d), some (.inl e), some (.inl (5)), some (.inl b)]) (st' := [.inl (av_b (av_shr b (16))), .inl ((l + 5 : Nat) : Int), .inr (.inr (.inl (some (94))))]) (h' := h51) rfl ?_
    refine wq_bs (p' := 96) (n := 900) rfl rfl (ly_k (FE_ly F53 L) 94 rfl) (by omega) ?_
    obtain ⟨f59, q60⟩ : ∃ f, f = av_u1 f49 (l + 5) (bt b 16) := ⟨_, rfl⟩
    have a57 : hA (hwA h51 94 (Int.toNat (((l + 5 : Nat) : Int))) (av_b (av_b (av_shr b (16))))) 94 = f59 := by rw [hA_wu, a52, show Int.toNat (((l + 5 : Nat) : Int)) = l + 5 by omega, q60]; rfl
    have F58 := FE_wA (eF := mfF) (j := Int.toNat (((l + 5 : Nat) : Int))) (v := av_b (av_b (av_shr b (16)))) F53 (show mfA 94 from rfl)
    have eh56 : hF (hwA h51 94 (Int.toNat (((l + 5 : Nat) : Int))) (av_b (av_b (av_shr b (16))))) 77 17 = ((l + 5 : Nat) : Int) := eh51
    generalize hwA h51 94 (Int.toNat (((l + 5 : Nat) : Int))) (av_b (av_b (av_shr b (16)))) = h56 at a57 F58 eh56 ⊢
    clear a52 F53 eh51
    refine av_wp_seq 2 (pc' := 98) (lv' := [some (.inr (.inr (.inl (some (77))))), some (.inl a), some (.inl b), some (.inl c), some (.inl d), some (.inl e), some (.inl (5)), some (.inl b)]) (st' := [.inr (.inr (.inl (some (77)))), .inr (.inr (.inl (some (77))))]) (h' := h56) rfl ?_
    refine wq_gi (p' := 101) rfl rfl (congrArg Prod.fst (ly_k (FE_ly F58 L) 77 rfl)) rfl (eh56) ?_
    refine av_wp_seq 2 (pc' := 103) (lv' := [some (.inr (.inr (.inl (some (77))))), some (.inl a), some (.inl b), some (.inl c), some (.inl d), some (.inl e), some (.inl (5)), some (.inl b)]) (st' := [.inl (((l + 5 : Nat) : Int) + (1)), .inr (.inr (.inl (some (77))))]) (h' := h56) rfl ?_
    refine wq_pi (p' := 106) rfl rfl (congrArg Prod.fst (ly_k (FE_ly F58 L) 77 rfl)) rfl ?_
    rw [show (((l + 5 : Nat) : Int) + (1)) = ((l + 6 : Nat) : Int) by omega]
    have a62 : hA (hwF h56 77 17 ((l + 6 : Nat) : Int)) 94 = f59 := a57
    have F63 := FE_wF (v := ((l + 6 : Nat) : Int)) F58 (show mfF 77 17 from ⟨rfl, rfl⟩)
    have eh61 : hF (hwF h56 77 17 ((l + 6 : Nat) : Int)) 77 17 = ((l + 6 : Nat) : Int) := hF_self
    generalize hwF h56 77 17 ((l + 6 : Nat) : Int) = h61 at a62 F63 eh61 ⊢
    clear a57 F58 eh56
    refine av_wp_seq 12 (pc' := 43) (lv' := [some (.inr (.inr (.inl (some (77))))), some (.inl a), some (.inl b), some (.inl c), some (.inl d), some (.inl e), some (.inl (6)), some (.inl b)]) (st' := [.inl b]) (h' := h61) rfl ?_
    refine av_wp_seq 3 (pc' := 74) (lv' := [some (.inr (.inr (.inl (some (77))))), some (.inl a), some (.inl b), some (.inl c), some (.inl d), some (.inl e), some (.inl (6)), some (.inl b)]) (st' := [.inr (.inr (.inl (some (77))))]) (h' := h61) rfl ?_
    refine wq_gr (p' := 77) rfl rfl (congrArg Prod.fst (ly_k (FE_ly F63 L) 77 rfl)) rfl (ly_g (FE_ly F63 L) 77 16 94 rfl) ?_
    refine av_wp_seq 1 (pc' := 78) (lv' := [some (.inr (.inr (.inl (some (77))))), some (.inl a), some (.inl b), some (.inl c), some (.inl d), some (.inl e), some (.inl (6)), some (.inl b)]) (st' := [.inr (.inr (.inl (some (77)))), .inr (.inr (.inl (some (94))))]) (h' := h61) rfl ?_
    refine wq_gi (p' := 81) rfl rfl (congrArg Prod.fst (ly_k (FE_ly F63 L) 77 rfl)) rfl (eh61) ?_
    refine av_wp_seq 5 (pc' := 90) (lv' := [some (.inr (.inr (.inl (some (77))))), some (.inl a), some (.inl b), some (.inl c), some (.inl d), some (.inl e), some (.inl (6)), some (.inl b)]) (st' := [.inl (4), .inl (6), .inl (8), .inl (24), .inl b, .inl ((l + 6 : Nat) : Int), .inr (.inr (.inl (some (94))))]) (h' := h61) rfl ?_
    refine wq_rm (p' := 91) rfl rfl ⟨by decide, by decide⟩ (by decide) (fun v64 e65 => ?_)
    have e65 : v64 = 2 := e65 ⟨by decide, by decide⟩
    subst e65
    refine av_wp_seq 4 (pc' := 95) (lv' := [some (.inr (.inr (.inl (some (77))))), some (.inl a), some (.inl b), some (.inl c), some (.inl d), some (.inl e), some (.inl (6)), some (.inl b)]) (st' := [.inl (av_b (av_shr b (8))), .inl ((l + 6 : Nat) : Int), .inr (.inr (.inl (some (94))))]) (h' := h61) rfl ?_
    refine wq_bs (p' := 96) (n := 900) rfl rfl (ly_k (FE_ly F63 L) 94 rfl) (by omega) ?_
    obtain ⟨f69, q70⟩ : ∃ f, f = av_u1 f59 (l + 6) (bt b 8) := ⟨_, rfl⟩
    have a67 : hA (hwA h61 94 (Int.toNat (((l + 6 : Nat) : Int))) (av_b (av_b (av_shr b (8))))) 94 = f69 := by rw [hA_wu, a62, show Int.toNat (((l + 6 : Nat) : Int)) = l + 6 by omega, q70]; rfl
    have F68 := FE_wA (eF := mfF) (j := Int.toNat (((l + 6 : Nat) : Int))) (v := av_b (av_b (av_shr b (8)))) F63 (show mfA 94 from rfl)
    have eh66 : hF (hwA h61 94 (Int.toNat (((l + 6 : Nat) : Int))) (av_b (av_b (av_shr b (8))))) 77 17 = ((l + 6 : Nat) : Int) := eh61
    generalize hwA h61 94 (Int.toNat (((l + 6 : Nat) : Int))) (av_b (av_b (av_shr b (8)))) = h66 at a67 F68 eh66 ⊢
    clear a62 F63 eh61
    refine av_wp_seq 2 (pc' := 98) (lv' := [some (.inr (.inr (.inl (some (77))))), some (.inl a), some (.inl b), some (.inl c), some (.inl d), some (.inl e), some (.inl (6)), some (.inl b)]) (st' := [.inr (.inr (.inl (some (77)))), .inr (.inr (.inl (some (77))))]) (h' := h66) rfl ?_
    refine wq_gi (p' := 101) rfl rfl (congrArg Prod.fst (ly_k (FE_ly F68 L) 77 rfl)) rfl (eh66) ?_
    refine av_wp_seq 2 (pc' := 103) (lv' := [some (.inr (.inr (.inl (some (77))))), some (.inl a), some (.inl b), some (.inl c), some (.inl d), some (.inl e), some (.inl (6)), some (.inl b)]) (st' := [.inl (((l + 6 : Nat) : Int) + (1)), .inr (.inr (.inl (some (77))))]) (h' := h66) rfl ?_
    refine wq_pi (p' := 106) rfl rfl (congrArg Prod.fst (ly_k (FE_ly F68 L) 77 rfl)) rfl ?_
    rw [show (((l + 6 : Nat) : Int) + (1)) = ((l + 7 : Nat) : Int) by omega]
    have a72 : hA (hwF h66 77 17 ((l + 7 : Nat) : Int)) 94 = f69 := a67
    have F73 := FE_wF (v := ((l + 7 : Nat) : Int)) F68 (show mfF 77 17 from ⟨rfl, rfl⟩)
    have eh71 : hF (hwF h66 77 17 ((l + 7 : Nat) : Int)) 77 17 = ((l + 7 : Nat) : Int) := hF_self
    generalize hwF h66 77 17 ((l + 7 : Nat) : Int) = h71 at a72 F73 eh71 ⊢
    clear a67 F68 eh66
    refine av_wp_seq 12 (pc' := 43) (lv' := [some (.inr (.inr (.inl (some (77))))), some (.inl a), some (.inl b), some (.inl c), some (.inl d), some (.inl e), some (.inl (7)), some (.inl b)]) (st' := [.inl b]) (h' := h71) rfl ?_
    refine av_wp_seq 3 (pc' := 74) (lv' := [some (.inr (.inr (.inl (some (77))))), some (.inl a), some (.inl b), some (.inl c), some (.inl d), some (.inl e), some (.inl (7)), some (.inl b)]) (st' := [.inr (.inr (.inl (some (77))))]) (h' := h71) rfl ?_
    refine wq_gr (p' := 77) rfl rfl (congrArg Prod.fst (ly_k (FE_ly F73 L) 77 rfl)) rfl (ly_g (FE_ly F73 L) 77 16 94 rfl) ?_
    refine av_wp_seq 1 (pc' := 78) (lv' := [some (.inr (.inr (.inl (some (77))))), some (.inl a), some (.inl b), some (.inl c), some (.inl d), some (.inl e), some (.inl (7)), some (.inl b)]) (st' := [.inr (.inr (.inl (some (77)))), .inr (.inr (.inl (some (94))))]) (h' := h71) rfl ?_
    refine wq_gi (p' := 81) rfl rfl (congrArg Prod.fst (ly_k (FE_ly F73 L) 77 rfl)) rfl (eh71) ?_
    refine av_wp_seq 5 (pc' := 90) (lv' := [some (.inr (.inr (.inl (some (77))))), some (.inl a), some (.inl b), some (.inl c), some (.inl d), some (.inl e), some (.inl (7)), some (.inl b)]) (st' := [.inl (4), .inl (7), .inl (8), .inl (24), .inl b, .inl ((l + 7 : Nat) : Int), .inr (.inr (.inl (some (94))))]) (h' := h71) rfl ?_
    refine wq_rm (p' := 91) rfl rfl ⟨by decide, by decide⟩ (by decide) (fun v74 e75 => ?_)
    have e75 : v74 = 3 := e75 ⟨by decide, by decide⟩
    subst e75
    refine av_wp_seq 4 (pc' := 95) (lv' := [some (.inr (.inr (.inl (some (77))))), some (.inl a), some (.inl b), some (.inl c), some (.inl d), some (.inl e), some (.inl (7)), some (.inl b)]) (st' := [.inl (av_b (av_shr b (0))), .inl ((l + 7 : Nat) : Int), .inr (.inr (.inl (some (94))))]) (h' := h71) rfl ?_
    refine wq_bs (p' := 96) (n := 900) rfl rfl (ly_k (FE_ly F73 L) 94 rfl) (by omega) ?_
    obtain ⟨f79, q80⟩ : ∃ f, f = av_u1 f69 (l + 7) (bt b 0) := ⟨_, rfl⟩
    have a77 : hA (hwA h71 94 (Int.toNat (((l + 7 : Nat) : Int))) (av_b (av_b (av_shr b (0))))) 94 = f79 := by rw [hA_wu, a72, show Int.toNat (((l + 7 : Nat) : Int)) = l + 7 by omega, q80]; rfl
    have F78 := FE_wA (eF := mfF) (j := Int.toNat (((l + 7 : Nat) : Int))) (v := av_b (av_b (av_shr b (0)))) F73 (show mfA 94 from rfl)
    have eh76 : hF (hwA h71 94 (Int.toNat (((l + 7 : Nat) : Int))) (av_b (av_b (av_shr b (0))))) 77 17 = ((l + 7 : Nat) : Int) := eh71
    generalize hwA h71 94 (Int.toNat (((l + 7 : Nat) : Int))) (av_b (av_b (av_shr b (0)))) = h76 at a77 F78 eh76 ⊢
    clear a72 F73 eh71
    have p81 : f79 = put4 f38 (l + 4) b := by rw [q80, q70, q60, q50]; rfl
    clear q80 q70 q60 q50
    refine av_wp_seq 2 (pc' := 98) (lv' := [some (.inr (.inr (.inl (some (77))))), some (.inl a), some (.inl b), some (.inl c), some (.inl d), some (.inl e), some (.inl (7)), some (.inl b)]) (st' := [.inr (.inr (.inl (some (77)))), .inr (.inr (.inl (some (77))))]) (h' := h76) rfl ?_
    refine wq_gi (p' := 101) rfl rfl (congrArg Prod.fst (ly_k (FE_ly F78 L) 77 rfl)) rfl (eh76) ?_
    refine av_wp_seq 2 (pc' := 103) (lv' := [some (.inr (.inr (.inl (some (77))))), some (.inl a), some (.inl b), some (.inl c), some (.inl d), some (.inl e), some (.inl (7)), some (.inl b)]) (st' := [.inl (((l + 7 : Nat) : Int) + (1)), .inr (.inr (.inl (some (77))))]) (h' := h76) rfl ?_
    refine wq_pi (p' := 106) rfl rfl (congrArg Prod.fst (ly_k (FE_ly F78 L) 77 rfl)) rfl ?_
    rw [show (((l + 7 : Nat) : Int) + (1)) = ((l + 8 : Nat) : Int) by omega]
    have a83 : hA (hwF h76 77 17 ((l + 8 : Nat) : Int)) 94 = f79 := a77
    have F84 := FE_wF (v := ((l + 8 : Nat) : Int)) F78 (show mfF 77 17 from ⟨rfl, rfl⟩)
    have eh82 : hF (hwF h76 77 17 ((l + 8 : Nat) : Int)) 77 17 = ((l + 8 : Nat) : Int) := hF_self
    generalize hwF h76 77 17 ((l + 8 : Nat) : Int) = h82 at a83 F84 eh82 ⊢
    clear a77 F78 eh76
    refine av_wp_seq 12 (pc' := 48) (lv' := [some (.inr (.inr (.inl (some (77))))), some (.inl a), some (.inl b), some (.inl c), some (.inl d), some (.inl e), some (.inl (8)), some (.inl b)]) (st' := [.inl (8)]) (h' := h82) rfl ?_
    refine av_wp_seq 6 (pc' := 74) (lv' := [some (.inr (.inr (.inl (some (77))))), some (.inl a), some (.inl b), some (.inl c), some (.inl d), some (.inl e), some (.inl (8)), some (.inl c)]) (st' := [.inr (.inr (.inl (some (77))))]) (h' := h82) rfl ?_
    refine wq_gr (p' := 77) rfl rfl (congrArg Prod.fst (ly_k (FE_ly F84 L) 77 rfl)) rfl (ly_g (FE_ly F84 L) 77 16 94 rfl) ?_
    refine av_wp_seq 1 (pc' := 78) (lv' := [some (.inr (.inr (.inl (some (77))))), some (.inl a), some (.inl b), some (.inl c), some (.inl d), some (.inl e), some (.inl (8)), some (.inl c)]) (st' := [.inr (.inr (.inl (some (77)))), .inr (.inr (.inl (some (94))))]) (h' := h82) rfl ?_
    refine wq_gi (p' := 81) rfl rfl (congrArg Prod.fst (ly_k (FE_ly F84 L) 77 rfl)) rfl (eh82) ?_
    refine av_wp_seq 5 (pc' := 90) (lv' := [some (.inr (.inr (.inl (some (77))))), some (.inl a), some (.inl b), some (.inl c), some (.inl d), some (.inl e), some (.inl (8)), some (.inl c)]) (st' := [.inl (4), .inl (8), .inl (8), .inl (24), .inl c, .inl ((l + 8 : Nat) : Int), .inr (.inr (.inl (some (94))))]) (h' := h82) rfl ?_
    refine wq_rm (p' := 91) rfl rfl ⟨by decide, by decide⟩ (by decide) (fun v85 e86 => ?_)
    have e86 : v85 = 0 := e86 ⟨by decide, by decide⟩
    subst e86
    refine av_wp_seq 4 (pc' := 95) (lv' := [some (.inr (.inr (.inl (some (77))))), some (.inl a), some (.inl b), some (.inl c), some (.inl d), some (.inl e), some (.inl (8)), some (.inl c)]) (st' := [.inl (av_b (av_shr c (24))), .inl ((l + 8 : Nat) : Int), .inr (.inr (.inl (some (94))))]) (h' := h82) rfl ?_
    refine wq_bs (p' := 96) (n := 900) rfl rfl (ly_k (FE_ly F84 L) 94 rfl) (by omega) ?_
    obtain ⟨f90, q91⟩ : ∃ f, f = av_u1 f79 (l + 8) (bt c 24) := ⟨_, rfl⟩
    have a88 : hA (hwA h82 94 (Int.toNat (((l + 8 : Nat) : Int))) (av_b (av_b (av_shr c (24))))) 94 = f90 := by rw [hA_wu, a83, show Int.toNat (((l + 8 : Nat) : Int)) = l + 8 by omega, q91]; rfl
    have F89 := FE_wA (eF := mfF) (j := Int.toNat (((l + 8 : Nat) : Int))) (v := av_b (av_b (av_shr c (24)))) F84 (show mfA 94 from rfl)
    have eh87 : hF (hwA h82 94 (Int.toNat (((l + 8 : Nat) : Int))) (av_b (av_b (av_shr c (24))))) 77 17 = ((l + 8 : Nat) : Int) := eh82
    generalize hwA h82 94 (Int.toNat (((l + 8 : Nat) : Int))) (av_b (av_b (av_shr c (24)))) = h87 at a88 F89 eh87 ⊢
    clear a83 F84 eh82
    refine av_wp_seq 2 (pc' := 98) (lv' := [some (.inr (.inr (.inl (some (77))))), some (.inl a), some (.inl b), some (.inl c), some (.inl d), some (.inl e), some (.inl (8)), some (.inl c)]) (st' := [.inr (.inr (.inl (some (77)))), .inr (.inr (.inl (some (77))))]) (h' := h87) rfl ?_
    refine wq_gi (p' := 101) rfl rfl (congrArg Prod.fst (ly_k (FE_ly F89 L) 77 rfl)) rfl (eh87) ?_
    refine av_wp_seq 2 (pc' := 103) (lv' := [some (.inr (.inr (.inl (some (77))))), some (.inl a), some (.inl b), some (.inl c), some (.inl d), some (.inl e), some (.inl (8)), some (.inl c)]) (st' := [.inl (((l + 8 : Nat) : Int) + (1)), .inr (.inr (.inl (some (77))))]) (h' := h87) rfl ?_
    refine wq_pi (p' := 106) rfl rfl (congrArg Prod.fst (ly_k (FE_ly F89 L) 77 rfl)) rfl ?_
    rw [show (((l + 8 : Nat) : Int) + (1)) = ((l + 9 : Nat) : Int) by omega]
    have a93 : hA (hwF h87 77 17 ((l + 9 : Nat) : Int)) 94 = f90 := a88
    have F94 := FE_wF (v := ((l + 9 : Nat) : Int)) F89 (show mfF 77 17 from ⟨rfl, rfl⟩)
    have eh92 : hF (hwF h87 77 17 ((l + 9 : Nat) : Int)) 77 17 = ((l + 9 : Nat) : Int) := hF_self
    generalize hwF h87 77 17 ((l + 9 : Nat) : Int) = h92 at a93 F94 eh92 ⊢
    clear a88 F89 eh87
    refine av_wp_seq 12 (pc' := 48) (lv' := [some (.inr (.inr (.inl (some (77))))), some (.inl a), some (.inl b), some (.inl c), some (.inl d), some (.inl e), some (.inl (9)), some (.inl c)]) (st' := [.inl (9)]) (h' := h92) rfl ?_
    refine av_wp_seq 6 (pc' := 74) (lv' := [some (.inr (.inr (.inl (some (77))))), some (.inl a), some (.inl b), some (.inl c), some (.inl d), some (.inl e), some (.inl (9)), some (.inl c)]) (st' := [.inr (.inr (.inl (some (77))))]) (h' := h92) rfl ?_
    refine wq_gr (p' := 77) rfl rfl (congrArg Prod.fst (ly_k (FE_ly F94 L) 77 rfl)) rfl (ly_g (FE_ly F94 L) 77 16 94 rfl) ?_
    refine av_wp_seq 1 (pc' := 78) (lv' := [some (.inr (.inr (.inl (some (77))))), some (.inl a), some (.inl b), some (.inl c), some (.inl d), some (.inl e), some (.inl (9)), some (.inl c)]) (st' := [.inr (.inr (.inl (some (77)))), .inr (.inr (.inl (some (94))))]) (h' := h92) rfl ?_
    refine wq_gi (p' := 81) rfl rfl (congrArg Prod.fst (ly_k (FE_ly F94 L) 77 rfl)) rfl (eh92) ?_
    refine av_wp_seq 5 (pc' := 90) (lv' := [some (.inr (.inr (.inl (some (77))))), some (.inl a), some (.inl b), some (.inl c), some (.inl d), some (.inl e), some (.inl (9)), some (.inl c)]) (st' := [.inl (4), .inl (9), .inl (8), .inl (24), .inl c, .inl ((l + 9 : Nat) : Int), .inr (.inr (.inl (some (94))))]) (h' := h92) rfl ?_
    refine wq_rm (p' := 91) rfl rfl ⟨by decide, by decide⟩ (by decide) (fun v95 e96 => ?_)
    have e96 : v95 = 1 := e96 ⟨by decide, by decide⟩
    subst e96
    refine av_wp_seq 4 (pc' := 95) (lv' := [some (.inr (.inr (.inl (some (77))))), some (.inl a), some (.inl b), some (.inl c), some (.inl d), some (.inl e), some (.inl (9)), some (.inl c)]) (st' := [.inl (av_b (av_shr c (16))), .inl ((l + 9 : Nat) : Int), .inr (.inr (.inl (some (94))))]) (h' := h92) rfl ?_
    refine wq_bs (p' := 96) (n := 900) rfl rfl (ly_k (FE_ly F94 L) 94 rfl) (by omega) ?_
    obtain ⟨f100, q101⟩ : ∃ f, f = av_u1 f90 (l + 9) (bt c 16) := ⟨_, rfl⟩
    have a98 : hA (hwA h92 94 (Int.toNat (((l + 9 : Nat) : Int))) (av_b (av_b (av_shr c (16))))) 94 = f100 := by rw [hA_wu, a93, show Int.toNat (((l + 9 : Nat) : Int)) = l + 9 by omega, q101]; rfl
    have F99 := FE_wA (eF := mfF) (j := Int.toNat (((l + 9 : Nat) : Int))) (v := av_b (av_b (av_shr c (16)))) F94 (show mfA 94 from rfl)
    have eh97 : hF (hwA h92 94 (Int.toNat (((l + 9 : Nat) : Int))) (av_b (av_b (av_shr c (16))))) 77 17 = ((l + 9 : Nat) : Int) := eh92
    generalize hwA h92 94 (Int.toNat (((l + 9 : Nat) : Int))) (av_b (av_b (av_shr c (16)))) = h97 at a98 F99 eh97 ⊢
    clear a93 F94 eh92
    refine av_wp_seq 2 (pc' := 98) (lv' := [some (.inr (.inr (.inl (some (77))))), some (.inl a), some (.inl b), some (.inl c), some (.inl d), some (.inl e), some (.inl (9)), some (.inl c)]) (st' := [.inr (.inr (.inl (some (77)))), .inr (.inr (.inl (some (77))))]) (h' := h97) rfl ?_
    refine wq_gi (p' := 101) rfl rfl (congrArg Prod.fst (ly_k (FE_ly F99 L) 77 rfl)) rfl (eh97) ?_
    refine av_wp_seq 2 (pc' := 103) (lv' := [some (.inr (.inr (.inl (some (77))))), some (.inl a), some (.inl b), some (.inl c), some (.inl d), some (.inl e), some (.inl (9)), some (.inl c)]) (st' := [.inl (((l + 9 : Nat) : Int) + (1)), .inr (.inr (.inl (some (77))))]) (h' := h97) rfl ?_
    refine wq_pi (p' := 106) rfl rfl (congrArg Prod.fst (ly_k (FE_ly F99 L) 77 rfl)) rfl ?_
    rw [show (((l + 9 : Nat) : Int) + (1)) = ((l + 10 : Nat) : Int) by omega]
    have a103 : hA (hwF h97 77 17 ((l + 10 : Nat) : Int)) 94 = f100 := a98
    have F104 := FE_wF (v := ((l + 10 : Nat) : Int)) F99 (show mfF 77 17 from ⟨rfl, rfl⟩)
    have eh102 : hF (hwF h97 77 17 ((l + 10 : Nat) : Int)) 77 17 = ((l + 10 : Nat) : Int) := hF_self
    generalize hwF h97 77 17 ((l + 10 : Nat) : Int) = h102 at a103 F104 eh102 ⊢
    clear a98 F99 eh97
    refine av_wp_seq 12 (pc' := 48) (lv' := [some (.inr (.inr (.inl (some (77))))), some (.inl a), some (.inl b), some (.inl c), some (.inl d), some (.inl e), some (.inl (10)), some (.inl c)]) (st' := [.inl (10)]) (h' := h102) rfl ?_
    refine av_wp_seq 6 (pc' := 74) (lv' := [some (.inr (.inr (.inl (some (77))))), some (.inl a), some (.inl b), some (.inl c), some (.inl d), some (.inl e), some (.inl (10)), some (.inl c)]) (st' := [.inr (.inr (.inl (some (77))))]) (h' := h102) rfl ?_
    refine wq_gr (p' := 77) rfl rfl (congrArg Prod.fst (ly_k (FE_ly F104 L) 77 rfl)) rfl (ly_g (FE_ly F104 L) 77 16 94 rfl) ?_
    refine av_wp_seq 1 (pc' := 78) (lv' := [some (.inr (.inr (.inl (some (77))))), some (.inl a), some (.inl b), some (.inl c), some (.inl d), some (.inl e), some (.inl (10)), some (.inl c)]) (st' := [.inr (.inr (.inl (some (77)))), .inr (.inr (.inl (some (94))))]) (h' := h102) rfl ?_
    refine wq_gi (p' := 81) rfl rfl (congrArg Prod.fst (ly_k (FE_ly F104 L) 77 rfl)) rfl (eh102) ?_
    refine av_wp_seq 5 (pc' := 90) (lv' := [some (.inr (.inr (.inl (some (77))))), some (.inl a), some (.inl b), some (.inl c), some (.inl d), some (.inl e), some (.inl (10)), some (.inl c)]) (st' := [.inl (4), .inl (10), .inl (8), .inl (24), .inl c, .inl ((l + 10 : Nat) : Int), .inr (.inr (.inl (some (94))))]) (h' := h102) rfl ?_
    refine wq_rm (p' := 91) rfl rfl ⟨by decide, by decide⟩ (by decide) (fun v105 e106 => ?_)
    have e106 : v105 = 2 := e106 ⟨by decide, by decide⟩
    subst e106
    refine av_wp_seq 4 (pc' := 95) (lv' := [some (.inr (.inr (.inl (some (77))))), some (.inl a), some (.inl b), some (.inl c), some (.inl d), some (.inl e), some (.inl (10)), some (.inl c)]) (st' := [.inl (av_b (av_shr c (8))), .inl ((l + 10 : Nat) : Int), .inr (.inr (.inl (some (94))))]) (h' := h102) rfl ?_
    refine wq_bs (p' := 96) (n := 900) rfl rfl (ly_k (FE_ly F104 L) 94 rfl) (by omega) ?_
    obtain ⟨f110, q111⟩ : ∃ f, f = av_u1 f100 (l + 10) (bt c 8) := ⟨_, rfl⟩
    have a108 : hA (hwA h102 94 (Int.toNat (((l + 10 : Nat) : Int))) (av_b (av_b (av_shr c (8))))) 94 = f110 := by rw [hA_wu, a103, show Int.toNat (((l + 10 : Nat) : Int)) = l + 10 by omega, q111]; rfl
    have F109 := FE_wA (eF := mfF) (j := Int.toNat (((l + 10 : Nat) : Int))) (v := av_b (av_b (av_shr c (8)))) F104 (show mfA 94 from rfl)
    have eh107 : hF (hwA h102 94 (Int.toNat (((l + 10 : Nat) : Int))) (av_b (av_b (av_shr c (8))))) 77 17 = ((l + 10 : Nat) : Int) := eh102
    generalize hwA h102 94 (Int.toNat (((l + 10 : Nat) : Int))) (av_b (av_b (av_shr c (8)))) = h107 at a108 F109 eh107 ⊢
    clear a103 F104 eh102
    refine av_wp_seq 2 (pc' := 98) (lv' := [some (.inr (.inr (.inl (some (77))))), some (.inl a), some (.inl b), some (.inl c), some (.inl d), some (.inl e), some (.inl (10)), some (.inl c)]) (st' := [.inr (.inr (.inl (some (77)))), .inr (.inr (.inl (some (77))))]) (h' := h107) rfl ?_
    refine wq_gi (p' := 101) rfl rfl (congrArg Prod.fst (ly_k (FE_ly F109 L) 77 rfl)) rfl (eh107) ?_
    refine av_wp_seq 2 (pc' := 103) (lv' := [some (.inr (.inr (.inl (some (77))))), some (.inl a), some (.inl b), some (.inl c), some (.inl d), some (.inl e), some (.inl (10)), some (.inl c)]) (st' := [.inl (((l + 10 : Nat) : Int) + (1)), .inr (.inr (.inl (some (77))))]) (h' := h107) rfl ?_
    refine wq_pi (p' := 106) rfl rfl (congrArg Prod.fst (ly_k (FE_ly F109 L) 77 rfl)) rfl ?_
    rw [show (((l + 10 : Nat) : Int) + (1)) = ((l + 11 : Nat) : Int) by omega]
    have a113 : hA (hwF h107 77 17 ((l + 11 : Nat) : Int)) 94 = f110 := a108
    have F114 := FE_wF (v := ((l + 11 : Nat) : Int)) F109 (show mfF 77 17 from ⟨rfl, rfl⟩)
    have eh112 : hF (hwF h107 77 17 ((l + 11 : Nat) : Int)) 77 17 = ((l + 11 : Nat) : Int) := hF_self
    generalize hwF h107 77 17 ((l + 11 : Nat) : Int) = h112 at a113 F114 eh112 ⊢
    clear a108 F109 eh107
    refine av_wp_seq 12 (pc' := 48) (lv' := [some (.inr (.inr (.inl (some (77))))), some (.inl a), some (.inl b), some (.inl c), some (.inl d), some (.inl e), some (.inl (11)), some (.inl c)]) (st' := [.inl (11)]) (h' := h112) rfl ?_
    refine av_wp_seq 6 (pc' := 74) (lv' := [some (.inr (.inr (.inl (some (77))))), some (.inl a), some (.inl b), some (.inl c), some (.inl d), some (.inl e), some (.inl (11)), some (.inl c)]) (st' := [.inr (.inr (.inl (some (77))))]) (h' := h112) rfl ?_
    refine wq_gr (p' := 77) rfl rfl (congrArg Prod.fst (ly_k (FE_ly F114 L) 77 rfl)) rfl (ly_g (FE_ly F114 L) 77 16 94 rfl) ?_
    refine av_wp_seq 1 (pc' := 78) (lv' := [some (.inr (.inr (.inl (some (77))))), some (.inl a), some (.inl b), some (.inl c), some (.inl d), some (.inl e), some (.inl (11)), some (.inl c)]) (st' := [.inr (.inr (.inl (some (77)))), .inr (.inr (.inl (some (94))))]) (h' := h112) rfl ?_
    refine wq_gi (p' := 81) rfl rfl (congrArg Prod.fst (ly_k (FE_ly F114 L) 77 rfl)) rfl (eh112) ?_
    refine av_wp_seq 5 (pc' := 90) (lv' := [some (.inr (.inr (.inl (some (77))))), some (.inl a), some (.inl b), some (.inl c), some (.inl d), some (.inl e), some (.inl (11)), some (.inl c)]) (st' := [.inl (4), .inl (11), .inl (8), .inl (24), .inl c, .inl ((l + 11 : Nat) : Int), .inr (.inr (.inl (some (94))))]) (h' := h112) rfl ?_
    refine wq_rm (p' := 91) rfl rfl ⟨by decide, by decide⟩ (by decide) (fun v115 e116 => ?_)
    have e116 : v115 = 3 := e116 ⟨by decide, by decide⟩
    subst e116
    refine av_wp_seq 4 (pc' := 95) (lv' := [some (.inr (.inr (.inl (some (77))))), some (.inl a), some (.inl b), some (.inl c), some (.inl d), some (.inl e), some (.inl (11)), some (.inl c)]) (st' := [.inl (av_b (av_shr c (0))), .inl ((l + 11 : Nat) : Int), .inr (.inr (.inl (some (94))))]) (h' := h112) rfl ?_
    refine wq_bs (p' := 96) (n := 900) rfl rfl (ly_k (FE_ly F114 L) 94 rfl) (by omega) ?_
    obtain ⟨f120, q121⟩ : ∃ f, f = av_u1 f110 (l + 11) (bt c 0) := ⟨_, rfl⟩
    have a118 : hA (hwA h112 94 (Int.toNat (((l + 11 : Nat) : Int))) (av_b (av_b (av_shr c (0))))) 94 = f120 := by rw [hA_wu, a113, show Int.toNat (((l + 11 : Nat) : Int)) = l + 11 by omega, q121]; rfl
    have F119 := FE_wA (eF := mfF) (j := Int.toNat (((l + 11 : Nat) : Int))) (v := av_b (av_b (av_shr c (0)))) F114 (show mfA 94 from rfl)
    have eh117 : hF (hwA h112 94 (Int.toNat (((l + 11 : Nat) : Int))) (av_b (av_b (av_shr c (0))))) 77 17 = ((l + 11 : Nat) : Int) := eh112
    generalize hwA h112 94 (Int.toNat (((l + 11 : Nat) : Int))) (av_b (av_b (av_shr c (0)))) = h117 at a118 F119 eh117 ⊢
    clear a113 F114 eh112
    have p122 : f120 = put4 f79 (l + 8) c := by rw [q121, q111, q101, q91]; rfl
    clear q121 q111 q101 q91
    refine av_wp_seq 2 (pc' := 98) (lv' := [some (.inr (.inr (.inl (some (77))))), some (.inl a), some (.inl b), some (.inl c), some (.inl d), some (.inl e), some (.inl (11)), some (.inl c)]) (st' := [.inr (.inr (.inl (some (77)))), .inr (.inr (.inl (some (77))))]) (h' := h117) rfl ?_
    refine wq_gi (p' := 101) rfl rfl (congrArg Prod.fst (ly_k (FE_ly F119 L) 77 rfl)) rfl (eh117) ?_
    refine av_wp_seq 2 (pc' := 103) (lv' := [some (.inr (.inr (.inl (some (77))))), some (.inl a), some (.inl b), some (.inl c), some (.inl d), some (.inl e), some (.inl (11)), some (.inl c)]) (st' := [.inl (((l + 11 : Nat) : Int) + (1)), .inr (.inr (.inl (some (77))))]) (h' := h117) rfl ?_
    refine wq_pi (p' := 106) rfl rfl (congrArg Prod.fst (ly_k (FE_ly F119 L) 77 rfl)) rfl ?_
    rw [show (((l + 11 : Nat) : Int) + (1)) = ((l + 12 : Nat) : Int) by omega]
    have a124 : hA (hwF h117 77 17 ((l + 12 : Nat) : Int)) 94 = f120 := a118
    have F125 := FE_wF (v := ((l + 12 : Nat) : Int)) F119 (show mfF 77 17 from ⟨rfl, rfl⟩)
    have eh123 : hF (hwF h117 77 17 ((l + 12 : Nat) : Int)) 77 17 = ((l + 12 : Nat) : Int) := hF_self
    generalize hwF h117 77 17 ((l + 12 : Nat) : Int) = h123 at a124 F125 eh123 ⊢
    clear a118 F119 eh117
    refine av_wp_seq 12 (pc' := 48) (lv' := [some (.inr (.inr (.inl (some (77))))), some (.inl a), some (.inl b), some (.inl c), some (.inl d), some (.inl e), some (.inl (12)), some (.inl c)]) (st' := [.inl (12)]) (h' := h123) rfl ?_
    refine av_wp_seq 9 (pc' := 74) (lv' := [some (.inr (.inr (.inl (some (77))))), some (.inl a), some (.inl b), some (.inl c), some (.inl d), some (.inl e), some (.inl (12)), some (.inl d)]) (st' := [.inr (.inr (.inl (some (77))))]) (h' := h123) rfl ?_
    refine wq_gr (p' := 77) rfl rfl (congrArg Prod.fst (ly_k (FE_ly F125 L) 77 rfl)) rfl (ly_g (FE_ly F125 L) 77 16 94 rfl) ?_
    refine av_wp_seq 1 (pc' := 78) (lv' := [some (.inr (.inr (.inl (some (77))))), some (.inl a), some (.inl b), some (.inl c), some (.inl d), some (.inl e), some (.inl (12)), some (.inl d)]) (st' := [.inr (.inr (.inl (some (77)))), .inr (.inr (.inl (some (94))))]) (h' := h123) rfl ?_
    refine wq_gi (p' := 81) rfl rfl (congrArg Prod.fst (ly_k (FE_ly F125 L) 77 rfl)) rfl (eh123) ?_
    refine av_wp_seq 5 (pc' := 90) (lv' := [some (.inr (.inr (.inl (some (77))))), some (.inl a), some (.inl b), some (.inl c), some (.inl d), some (.inl e), some (.inl (12)), some (.inl d)]) (st' := [.inl (4), .inl (12), .inl (8), .inl (24), .inl d, .inl ((l + 12 : Nat) : Int), .inr (.inr (.inl (some (94))))]) (h' := h123) rfl ?_
    refine wq_rm (p' := 91) rfl rfl ⟨by decide, by decide⟩ (by decide) (fun v126 e127 => ?_)
    have e127 : v126 = 0 := e127 ⟨by decide, by decide⟩
    subst e127
    refine av_wp_seq 4 (pc' := 95) (lv' := [some (.inr (.inr (.inl (some (77))))), some (.inl a), some (.inl b), some (.inl c), some (.inl d), some (.inl e), some (.inl (12)), some (.inl d)]) (st' := [.inl (av_b (av_shr d (24))), .inl ((l + 12 : Nat) : Int), .inr (.inr (.inl (some (94))))]) (h' := h123) rfl ?_
    refine wq_bs (p' := 96) (n := 900) rfl rfl (ly_k (FE_ly F125 L) 94 rfl) (by omega) ?_
    obtain ⟨f131, q132⟩ : ∃ f, f = av_u1 f120 (l + 12) (bt d 24) := ⟨_, rfl⟩
    have a129 : hA (hwA h123 94 (Int.toNat (((l + 12 : Nat) : Int))) (av_b (av_b (av_shr d (24))))) 94 = f131 := by rw [hA_wu, a124, show Int.toNat (((l + 12 : Nat) : Int)) = l + 12 by omega, q132]; rfl
    have F130 := FE_wA (eF := mfF) (j := Int.toNat (((l + 12 : Nat) : Int))) (v := av_b (av_b (av_shr d (24)))) F125 (show mfA 94 from rfl)
    have eh128 : hF (hwA h123 94 (Int.toNat (((l + 12 : Nat) : Int))) (av_b (av_b (av_shr d (24))))) 77 17 = ((l + 12 : Nat) : Int) := eh123
    generalize hwA h123 94 (Int.toNat (((l + 12 : Nat) : Int))) (av_b (av_b (av_shr d (24)))) = h128 at a129 F130 eh128 ⊢
    clear a124 F125 eh123
    refine av_wp_seq 2 (pc' := 98) (lv' := [some (.inr (.inr (.inl (some (77))))), some (.inl a), some (.inl b), some (.inl c), some (.inl d), some (.inl e), some (.inl (12)), some (.inl d)]) (st' := [.inr (.inr (.inl (some (77)))), .inr (.inr (.inl (some (77))))]) (h' := h128) rfl ?_
    refine wq_gi (p' := 101) rfl rfl (congrArg Prod.fst (ly_k (FE_ly F130 L) 77 rfl)) rfl (eh128) ?_
    refine av_wp_seq 2 (pc' := 103) (lv' := [some (.inr (.inr (.inl (some (77))))), some (.inl a), some (.inl b), some (.inl c), some (.inl d), some (.inl e), some (.inl (12)), some (.inl d)]) (st' := [.inl (((l + 12 : Nat) : Int) + (1)), .inr (.inr (.inl (some (77))))]) (h' := h128) rfl ?_
    refine wq_pi (p' := 106) rfl rfl (congrArg Prod.fst (ly_k (FE_ly F130 L) 77 rfl)) rfl ?_
    rw [show (((l + 12 : Nat) : Int) + (1)) = ((l + 13 : Nat) : Int) by omega]
    have a134 : hA (hwF h128 77 17 ((l + 13 : Nat) : Int)) 94 = f131 := a129
    have F135 := FE_wF (v := ((l + 13 : Nat) : Int)) F130 (show mfF 77 17 from ⟨rfl, rfl⟩)
    have eh133 : hF (hwF h128 77 17 ((l + 13 : Nat) : Int)) 77 17 = ((l + 13 : Nat) : Int) := hF_self
    generalize hwF h128 77 17 ((l + 13 : Nat) : Int) = h133 at a134 F135 eh133 ⊢
    clear a129 F130 eh128
    refine av_wp_seq 12 (pc' := 48) (lv' := [some (.inr (.inr (.inl (some (77))))), some (.inl a), some (.inl b), some (.inl c), some (.inl d), some (.inl e), some (.inl (13)), some (.inl d)]) (st' := [.inl (13)]) (h' := h133) rfl ?_
    refine av_wp_seq 9 (pc' := 74) (lv' := [some (.inr (.inr (.inl (some (77))))), some (.inl a), some (.inl b), some (.inl c), some (.inl d), some (.inl e), some (.inl (13)), some (.inl d)]) (st' := [.inr (.inr (.inl (some (77))))]) (h' := h133) rfl ?_
    refine wq_gr (p' := 77) rfl rfl (congrArg Prod.fst (ly_k (FE_ly F135 L) 77 rfl)) rfl (ly_g (FE_ly F135 L) 77 16 94 rfl) ?_
    refine av_wp_seq 1 (pc' := 78) (lv' := [some (.inr (.inr (.inl (some (77))))), some (.inl a), some (.inl b), some (.inl c), some (.inl d), some (.inl e), some (.inl (13)), some (.inl d)]) (st' := [.inr (.inr (.inl (some (77)))), .inr (.inr (.inl (some (94))))]) (h' := h133) rfl ?_
    refine wq_gi (p' := 81) rfl rfl (congrArg Prod.fst (ly_k (FE_ly F135 L) 77 rfl)) rfl (eh133) ?_
    refine av_wp_seq 5 (pc' := 90) (lv' := [some (.inr (.inr (.inl (some (77))))), some (.inl a), some (.inl b), some (.inl c), some (.inl d), some (.inl e), some (.inl (13)), some (.inl d)]) (st' := [.inl (4), .inl (13), .inl (8), .inl (24), .inl d, .inl ((l + 13 : Nat) : Int), .inr (.inr (.inl (some (94))))]) (h' := h133) rfl ?_
    refine wq_rm (p' := 91) rfl rfl ⟨by decide, by decide⟩ (by decide) (fun v136 e137 => ?_)
    have e137 : v136 = 1 := e137 ⟨by decide, by decide⟩
    subst e137
    refine av_wp_seq 4 (pc' := 95) (lv' := [some (.inr (.inr (.inl (some (77))))), some (.inl a), some (.inl b), some (.inl c), some (.inl d), some (.inl e), some (.inl (13)), some (.inl d)]) (st' := [.inl (av_b (av_shr d (16))), .inl ((l + 13 : Nat) : Int), .inr (.inr (.inl (some (94))))]) (h' := h133) rfl ?_
    refine wq_bs (p' := 96) (n := 900) rfl rfl (ly_k (FE_ly F135 L) 94 rfl) (by omega) ?_
    obtain ⟨f141, q142⟩ : ∃ f, f = av_u1 f131 (l + 13) (bt d 16) := ⟨_, rfl⟩
    have a139 : hA (hwA h133 94 (Int.toNat (((l + 13 : Nat) : Int))) (av_b (av_b (av_shr d (16))))) 94 = f141 := by rw [hA_wu, a134, show Int.toNat (((l + 13 : Nat) : Int)) = l + 13 by omega, q142]; rfl
    have F140 := FE_wA (eF := mfF) (j := Int.toNat (((l + 13 : Nat) : Int))) (v := av_b (av_b (av_shr d (16)))) F135 (show mfA 94 from rfl)
    have eh138 : hF (hwA h133 94 (Int.toNat (((l + 13 : Nat) : Int))) (av_b (av_b (av_shr d (16))))) 77 17 = ((l + 13 : Nat) : Int) := eh133
    generalize hwA h133 94 (Int.toNat (((l + 13 : Nat) : Int))) (av_b (av_b (av_shr d (16)))) = h138 at a139 F140 eh138 ⊢
    clear a134 F135 eh133
    refine av_wp_seq 2 (pc' := 98) (lv' := [some (.inr (.inr (.inl (some (77))))), some (.inl a), some (.inl b), some (.inl c), some (.inl d), some (.inl e), some (.inl (13)), some (.inl d)]) (st' := [.inr (.inr (.inl (some (77)))), .inr (.inr (.inl (some (77))))]) (h' := h138) rfl ?_
    refine wq_gi (p' := 101) rfl rfl (congrArg Prod.fst (ly_k (FE_ly F140 L) 77 rfl)) rfl (eh138) ?_
    refine av_wp_seq 2 (pc' := 103) (lv' := [some (.inr (.inr (.inl (some (77))))), some (.inl a), some (.inl b), some (.inl c), some (.inl d), some (.inl e), some (.inl (13)), some (.inl d)]) (st' := [.inl (((l + 13 : Nat) : Int) + (1)), .inr (.inr (.inl (some (77))))]) (h' := h138) rfl ?_
    refine wq_pi (p' := 106) rfl rfl (congrArg Prod.fst (ly_k (FE_ly F140 L) 77 rfl)) rfl ?_
    rw [show (((l + 13 : Nat) : Int) + (1)) = ((l + 14 : Nat) : Int) by omega]
    have a144 : hA (hwF h138 77 17 ((l + 14 : Nat) : Int)) 94 = f141 := a139
    have F145 := FE_wF (v := ((l + 14 : Nat) : Int)) F140 (show mfF 77 17 from ⟨rfl, rfl⟩)
    have eh143 : hF (hwF h138 77 17 ((l + 14 : Nat) : Int)) 77 17 = ((l + 14 : Nat) : Int) := hF_self
    generalize hwF h138 77 17 ((l + 14 : Nat) : Int) = h143 at a144 F145 eh143 ⊢
    clear a139 F140 eh138
    refine av_wp_seq 12 (pc' := 48) (lv' := [some (.inr (.inr (.inl (some (77))))), some (.inl a), some (.inl b), some (.inl c), some (.inl d), some (.inl e), some (.inl (14)), some (.inl d)]) (st' := [.inl (14)]) (h' := h143) rfl ?_
    refine av_wp_seq 9 (pc' := 74) (lv' := [some (.inr (.inr (.inl (some (77))))), some (.inl a), some (.inl b), some (.inl c), some (.inl d), some (.inl e), some (.inl (14)), some (.inl d)]) (st' := [.inr (.inr (.inl (some (77))))]) (h' := h143) rfl ?_
    refine wq_gr (p' := 77) rfl rfl (congrArg Prod.fst (ly_k (FE_ly F145 L) 77 rfl)) rfl (ly_g (FE_ly F145 L) 77 16 94 rfl) ?_
    refine av_wp_seq 1 (pc' := 78) (lv' := [some (.inr (.inr (.inl (some (77))))), some (.inl a), some (.inl b), some (.inl c), some (.inl d), some (.inl e), some (.inl (14)), some (.inl d)]) (st' := [.inr (.inr (.inl (some (77)))), .inr (.inr (.inl (some (94))))]) (h' := h143) rfl ?_
    refine wq_gi (p' := 81) rfl rfl (congrArg Prod.fst (ly_k (FE_ly F145 L) 77 rfl)) rfl (eh143) ?_
    refine av_wp_seq 5 (pc' := 90) (lv' := [some (.inr (.inr (.inl (some (77))))), some (.inl a), some (.inl b), some (.inl c), some (.inl d), some (.inl e), some (.inl (14)), some (.inl d)]) (st' := [.inl (4), .inl (14), .inl (8), .inl (24), .inl d, .inl ((l + 14 : Nat) : Int), .inr (.inr (.inl (some (94))))]) (h' := h143) rfl ?_
    refine wq_rm (p' := 91) rfl rfl ⟨by decide, by decide⟩ (by decide) (fun v146 e147 => ?_)
    have e147 : v146 = 2 := e147 ⟨by decide, by decide⟩
    subst e147
    refine av_wp_seq 4 (pc' := 95) (lv' := [some (.inr (.inr (.inl (some (77))))), some (.inl a), some (.inl b), some (.inl c), some (.inl d), some (.inl e), some (.inl (14)), some (.inl d)]) (st' := [.inl (av_b (av_shr d (8))), .inl ((l + 14 : Nat) : Int), .inr (.inr (.inl (some (94))))]) (h' := h143) rfl ?_
    refine wq_bs (p' := 96) (n := 900) rfl rfl (ly_k (FE_ly F145 L) 94 rfl) (by omega) ?_
    obtain ⟨f151, q152⟩ : ∃ f, f = av_u1 f141 (l + 14) (bt d 8) := ⟨_, rfl⟩
    have a149 : hA (hwA h143 94 (Int.toNat (((l + 14 : Nat) : Int))) (av_b (av_b (av_shr d (8))))) 94 = f151 := by rw [hA_wu, a144, show Int.toNat (((l + 14 : Nat) : Int)) = l + 14 by omega, q152]; rfl
    have F150 := FE_wA (eF := mfF) (j := Int.toNat (((l + 14 : Nat) : Int))) (v := av_b (av_b (av_shr d (8)))) F145 (show mfA 94 from rfl)
    have eh148 : hF (hwA h143 94 (Int.toNat (((l + 14 : Nat) : Int))) (av_b (av_b (av_shr d (8))))) 77 17 = ((l + 14 : Nat) : Int) := eh143
    generalize hwA h143 94 (Int.toNat (((l + 14 : Nat) : Int))) (av_b (av_b (av_shr d (8)))) = h148 at a149 F150 eh148 ⊢
    clear a144 F145 eh143
    refine av_wp_seq 2 (pc' := 98) (lv' := [some (.inr (.inr (.inl (some (77))))), some (.inl a), some (.inl b), some (.inl c), some (.inl d), some (.inl e), some (.inl (14)), some (.inl d)]) (st' := [.inr (.inr (.inl (some (77)))), .inr (.inr (.inl (some (77))))]) (h' := h148) rfl ?_
    refine wq_gi (p' := 101) rfl rfl (congrArg Prod.fst (ly_k (FE_ly F150 L) 77 rfl)) rfl (eh148) ?_
    refine av_wp_seq 2 (pc' := 103) (lv' := [some (.inr (.inr (.inl (some (77))))), some (.inl a), some (.inl b), some (.inl c), some (.inl d), some (.inl e), some (.inl (14)), some (.inl d)]) (st' := [.inl (((l + 14 : Nat) : Int) + (1)), .inr (.inr (.inl (some (77))))]) (h' := h148) rfl ?_
    refine wq_pi (p' := 106) rfl rfl (congrArg Prod.fst (ly_k (FE_ly F150 L) 77 rfl)) rfl ?_
    rw [show (((l + 14 : Nat) : Int) + (1)) = ((l + 15 : Nat) : Int) by omega]
    have a154 : hA (hwF h148 77 17 ((l + 15 : Nat) : Int)) 94 = f151 := a149
    have F155 := FE_wF (v := ((l + 15 : Nat) : Int)) F150 (show mfF 77 17 from ⟨rfl, rfl⟩)
    have eh153 : hF (hwF h148 77 17 ((l + 15 : Nat) : Int)) 77 17 = ((l + 15 : Nat) : Int) := hF_self
    generalize hwF h148 77 17 ((l + 15 : Nat) : Int) = h153 at a154 F155 eh153 ⊢
    clear a149 F150 eh148
    refine av_wp_seq 12 (pc' := 48) (lv' := [some (.inr (.inr (.inl (some (77))))), some (.inl a), some (.inl b), some (.inl c), some (.inl d), some (.inl e), some (.inl (15)), some (.inl d)]) (st' := [.inl (15)]) (h' := h153) rfl ?_
    refine av_wp_seq 9 (pc' := 74) (lv' := [some (.inr (.inr (.inl (some (77))))), some (.inl a), some (.inl b), some (.inl c), some (.inl d), some (.inl e), some (.inl (15)), some (.inl d)]) (st' := [.inr (.inr (.inl (some (77))))]) (h' := h153) rfl ?_
    refine wq_gr (p' := 77) rfl rfl (congrArg Prod.fst (ly_k (FE_ly F155 L) 77 rfl)) rfl (ly_g (FE_ly F155 L) 77 16 94 rfl) ?_
    refine av_wp_seq 1 (pc' := 78) (lv' := [some (.inr (.inr (.inl (some (77))))), some (.inl a), some (.inl b), some (.inl c), some (.inl d), some (.inl e), some (.inl (15)), some (.inl d)]) (st' := [.inr (.inr (.inl (some (77)))), .inr (.inr (.inl (some (94))))]) (h' := h153) rfl ?_
    refine wq_gi (p' := 81) rfl rfl (congrArg Prod.fst (ly_k (FE_ly F155 L) 77 rfl)) rfl (eh153) ?_
    refine av_wp_seq 5 (pc' := 90) (lv' := [some (.inr (.inr (.inl (some (77))))), some (.inl a), some (.inl b), some (.inl c), some (.inl d), some (.inl e), some (.inl (15)), some (.inl d)]) (st' := [.inl (4), .inl (15), .inl (8), .inl (24), .inl d, .inl ((l + 15 : Nat) : Int), .inr (.inr (.inl (some (94))))]) (h' := h153) rfl ?_
    refine wq_rm (p' := 91) rfl rfl ⟨by decide, by decide⟩ (by decide) (fun v156 e157 => ?_)
    have e157 : v156 = 3 := e157 ⟨by decide, by decide⟩
    subst e157
    refine av_wp_seq 4 (pc' := 95) (lv' := [some (.inr (.inr (.inl (some (77))))), some (.inl a), some (.inl b), some (.inl c), some (.inl d), some (.inl e), some (.inl (15)), some (.inl d)]) (st' := [.inl (av_b (av_shr d (0))), .inl ((l + 15 : Nat) : Int), .inr (.inr (.inl (some (94))))]) (h' := h153) rfl ?_
    refine wq_bs (p' := 96) (n := 900) rfl rfl (ly_k (FE_ly F155 L) 94 rfl) (by omega) ?_
    obtain ⟨f161, q162⟩ : ∃ f, f = av_u1 f151 (l + 15) (bt d 0) := ⟨_, rfl⟩
    have a159 : hA (hwA h153 94 (Int.toNat (((l + 15 : Nat) : Int))) (av_b (av_b (av_shr d (0))))) 94 = f161 := by rw [hA_wu, a154, show Int.toNat (((l + 15 : Nat) : Int)) = l + 15 by omega, q162]; rfl
    have F160 := FE_wA (eF := mfF) (j := Int.toNat (((l + 15 : Nat) : Int))) (v := av_b (av_b (av_shr d (0)))) F155 (show mfA 94 from rfl)
    have eh158 : hF (hwA h153 94 (Int.toNat (((l + 15 : Nat) : Int))) (av_b (av_b (av_shr d (0))))) 77 17 = ((l + 15 : Nat) : Int) := eh153
    generalize hwA h153 94 (Int.toNat (((l + 15 : Nat) : Int))) (av_b (av_b (av_shr d (0)))) = h158 at a159 F160 eh158 ⊢
    clear a154 F155 eh153
    have p163 : f161 = put4 f120 (l + 12) d := by rw [q162, q152, q142, q132]; rfl
    clear q162 q152 q142 q132
    refine av_wp_seq 2 (pc' := 98) (lv' := [some (.inr (.inr (.inl (some (77))))), some (.inl a), some (.inl b), some (.inl c), some (.inl d), some (.inl e), some (.inl (15)), some (.inl d)]) (st' := [.inr (.inr (.inl (some (77)))), .inr (.inr (.inl (some (77))))]) (h' := h158) rfl ?_
    refine wq_gi (p' := 101) rfl rfl (congrArg Prod.fst (ly_k (FE_ly F160 L) 77 rfl)) rfl (eh158) ?_
    refine av_wp_seq 2 (pc' := 103) (lv' := [some (.inr (.inr (.inl (some (77))))), some (.inl a), some (.inl b), some (.inl c), some (.inl d), some (.inl e), some (.inl (15)), some (.inl d)]) (st' := [.inl (((l + 15 : Nat) : Int) + (1)), .inr (.inr (.inl (some (77))))]) (h' := h158) rfl ?_
    refine wq_pi (p' := 106) rfl rfl (congrArg Prod.fst (ly_k (FE_ly F160 L) 77 rfl)) rfl ?_
    rw [show (((l + 15 : Nat) : Int) + (1)) = ((l + 16 : Nat) : Int) by omega]
    have a165 : hA (hwF h158 77 17 ((l + 16 : Nat) : Int)) 94 = f161 := a159
    have F166 := FE_wF (v := ((l + 16 : Nat) : Int)) F160 (show mfF 77 17 from ⟨rfl, rfl⟩)
    have eh164 : hF (hwF h158 77 17 ((l + 16 : Nat) : Int)) 77 17 = ((l + 16 : Nat) : Int) := hF_self
    generalize hwF h158 77 17 ((l + 16 : Nat) : Int) = h164 at a165 F166 eh164 ⊢
    clear a159 F160 eh158
    refine av_wp_seq 12 (pc' := 48) (lv' := [some (.inr (.inr (.inl (some (77))))), some (.inl a), some (.inl b), some (.inl c), some (.inl d), some (.inl e), some (.inl (16)), some (.inl d)]) (st' := [.inl (16)]) (h' := h164) rfl ?_
    refine av_wp_seq 8 (pc' := 74) (lv' := [some (.inr (.inr (.inl (some (77))))), some (.inl a), some (.inl b), some (.inl c), some (.inl d), some (.inl e), some (.inl (16)), some (.inl e)]) (st' := [.inr (.inr (.inl (some (77))))]) (h' := h164) rfl ?_
    refine wq_gr (p' := 77) rfl rfl (congrArg Prod.fst (ly_k (FE_ly F166 L) 77 rfl)) rfl (ly_g (FE_ly F166 L) 77 16 94 rfl) ?_
    refine av_wp_seq 1 (pc' := 78) (lv' := [some (.inr (.inr (.inl (some (77))))), some (.inl a), some (.inl b), some (.inl c), some (.inl d), some (.inl e), some (.inl (16)), some (.inl e)]) (st' := [.inr (.inr (.inl (some (77)))), .inr (.inr (.inl (some (94))))]) (h' := h164) rfl ?_
    refine wq_gi (p' := 81) rfl rfl (congrArg Prod.fst (ly_k (FE_ly F166 L) 77 rfl)) rfl (eh164) ?_
    refine av_wp_seq 5 (pc' := 90) (lv' := [some (.inr (.inr (.inl (some (77))))), some (.inl a), some (.inl b), some (.inl c), some (.inl d), some (.inl e), some (.inl (16)), some (.inl e)]) (st' := [.inl (4), .inl (16), .inl (8), .inl (24), .inl e, .inl ((l + 16 : Nat) : Int), .inr (.inr (.inl (some (94))))]) (h' := h164) rfl ?_
    refine wq_rm (p' := 91) rfl rfl ⟨by decide, by decide⟩ (by decide) (fun v167 e168 => ?_)
    have e168 : v167 = 0 := e168 ⟨by decide, by decide⟩
    subst e168
    refine av_wp_seq 4 (pc' := 95) (lv' := [some (.inr (.inr (.inl (some (77))))), some (.inl a), some (.inl b), some (.inl c), some (.inl d), some (.inl e), some (.inl (16)), some (.inl e)]) (st' := [.inl (av_b (av_shr e (24))), .inl ((l + 16 : Nat) : Int), .inr (.inr (.inl (some (94))))]) (h' := h164) rfl ?_
    refine wq_bs (p' := 96) (n := 900) rfl rfl (ly_k (FE_ly F166 L) 94 rfl) (by omega) ?_
    obtain ⟨f172, q173⟩ : ∃ f, f = av_u1 f161 (l + 16) (bt e 24) := ⟨_, rfl⟩
    have a170 : hA (hwA h164 94 (Int.toNat (((l + 16 : Nat) : Int))) (av_b (av_b (av_shr e (24))))) 94 = f172 := by rw [hA_wu, a165, show Int.toNat (((l + 16 : Nat) : Int)) = l + 16 by omega, q173]; rfl
    have F171 := FE_wA (eF := mfF) (j := Int.toNat (((l + 16 : Nat) : Int))) (v := av_b (av_b (av_shr e (24)))) F166 (show mfA 94 from rfl)
    have eh169 : hF (hwA h164 94 (Int.toNat (((l + 16 : Nat) : Int))) (av_b (av_b (av_shr e (24))))) 77 17 = ((l + 16 : Nat) : Int) := eh164
    generalize hwA h164 94 (Int.toNat (((l + 16 : Nat) : Int))) (av_b (av_b (av_shr e (24)))) = h169 at a170 F171 eh169 ⊢
    clear a165 F166 eh164
    refine av_wp_seq 2 (pc' := 98) (lv' := [some (.inr (.inr (.inl (some (77))))), some (.inl a), some (.inl b), some (.inl c), some (.inl d), some (.inl e), some (.inl (16)), some (.inl e)]) (st' := [.inr (.inr (.inl (some (77)))), .inr (.inr (.inl (some (77))))]) (h' := h169) rfl ?_
    refine wq_gi (p' := 101) rfl rfl (congrArg Prod.fst (ly_k (FE_ly F171 L) 77 rfl)) rfl (eh169) ?_
    refine av_wp_seq 2 (pc' := 103) (lv' := [some (.inr (.inr (.inl (some (77))))), some (.inl a), some (.inl b), some (.inl c), some (.inl d), some (.inl e), some (.inl (16)), some (.inl e)]) (st' := [.inl (((l + 16 : Nat) : Int) + (1)), .inr (.inr (.inl (some (77))))]) (h' := h169) rfl ?_
    refine wq_pi (p' := 106) rfl rfl (congrArg Prod.fst (ly_k (FE_ly F171 L) 77 rfl)) rfl ?_
    rw [show (((l + 16 : Nat) : Int) + (1)) = ((l + 17 : Nat) : Int) by omega]
    have a175 : hA (hwF h169 77 17 ((l + 17 : Nat) : Int)) 94 = f172 := a170
    have F176 := FE_wF (v := ((l + 17 : Nat) : Int)) F171 (show mfF 77 17 from ⟨rfl, rfl⟩)
    have eh174 : hF (hwF h169 77 17 ((l + 17 : Nat) : Int)) 77 17 = ((l + 17 : Nat) : Int) := hF_self
    generalize hwF h169 77 17 ((l + 17 : Nat) : Int) = h174 at a175 F176 eh174 ⊢
    clear a170 F171 eh169
    refine av_wp_seq 12 (pc' := 48) (lv' := [some (.inr (.inr (.inl (some (77))))), some (.inl a), some (.inl b), some (.inl c), some (.inl d), some (.inl e), some (.inl (17)), some (.inl e)]) (st' := [.inl (17)]) (h' := h174) rfl ?_
    refine av_wp_seq 8 (pc' := 74) (lv' := [some (.inr (.inr (.inl (some (77))))), some (.inl a), some (.inl b), some (.inl c), some (.inl d), some (.inl e), some (.inl (17)), some (.inl e)]) (st' := [.inr (.inr (.inl (some (77))))]) (h' := h174) rfl ?_
    refine wq_gr (p' := 77) rfl rfl (congrArg Prod.fst (ly_k (FE_ly F176 L) 77 rfl)) rfl (ly_g (FE_ly F176 L) 77 16 94 rfl) ?_
    refine av_wp_seq 1 (pc' := 78) (lv' := [some (.inr (.inr (.inl (some (77))))), some (.inl a), some (.inl b), some (.inl c), some (.inl d), some (.inl e), some (.inl (17)), some (.inl e)]) (st' := [.inr (.inr (.inl (some (77)))), .inr (.inr (.inl (some (94))))]) (h' := h174) rfl ?_
    refine wq_gi (p' := 81) rfl rfl (congrArg Prod.fst (ly_k (FE_ly F176 L) 77 rfl)) rfl (eh174) ?_
    refine av_wp_seq 5 (pc' := 90) (lv' := [some (.inr (.inr (.inl (some (77))))), some (.inl a), some (.inl b), some (.inl c), some (.inl d), some (.inl e), some (.inl (17)), some (.inl e)]) (st' := [.inl (4), .inl (17), .inl (8), .inl (24), .inl e, .inl ((l + 17 : Nat) : Int), .inr (.inr (.inl (some (94))))]) (h' := h174) rfl ?_
    refine wq_rm (p' := 91) rfl rfl ⟨by decide, by decide⟩ (by decide) (fun v177 e178 => ?_)
    have e178 : v177 = 1 := e178 ⟨by decide, by decide⟩
    subst e178
    refine av_wp_seq 4 (pc' := 95) (lv' := [some (.inr (.inr (.inl (some (77))))), some (.inl a), some (.inl b), some (.inl c), some (.inl d), some (.inl e), some (.inl (17)), some (.inl e)]) (st' := [.inl (av_b (av_shr e (16))), .inl ((l + 17 : Nat) : Int), .inr (.inr (.inl (some (94))))]) (h' := h174) rfl ?_
    refine wq_bs (p' := 96) (n := 900) rfl rfl (ly_k (FE_ly F176 L) 94 rfl) (by omega) ?_
    obtain ⟨f182, q183⟩ : ∃ f, f = av_u1 f172 (l + 17) (bt e 16) := ⟨_, rfl⟩
    have a180 : hA (hwA h174 94 (Int.toNat (((l + 17 : Nat) : Int))) (av_b (av_b (av_shr e (16))))) 94 = f182 := by rw [hA_wu, a175, show Int.toNat (((l + 17 : Nat) : Int)) = l + 17 by omega, q183]; rfl
    have F181 := FE_wA (eF := mfF) (j := Int.toNat (((l + 17 : Nat) : Int))) (v := av_b (av_b (av_shr e (16)))) F176 (show mfA 94 from rfl)
    have eh179 : hF (hwA h174 94 (Int.toNat (((l + 17 : Nat) : Int))) (av_b (av_b (av_shr e (16))))) 77 17 = ((l + 17 : Nat) : Int) := eh174
    generalize hwA h174 94 (Int.toNat (((l + 17 : Nat) : Int))) (av_b (av_b (av_shr e (16)))) = h179 at a180 F181 eh179 ⊢
    clear a175 F176 eh174
    refine av_wp_seq 2 (pc' := 98) (lv' := [some (.inr (.inr (.inl (some (77))))), some (.inl a), some (.inl b), some (.inl c), some (.inl d), some (.inl e), some (.inl (17)), some (.inl e)]) (st' := [.inr (.inr (.inl (some (77)))), .inr (.inr (.inl (some (77))))]) (h' := h179) rfl ?_
    refine wq_gi (p' := 101) rfl rfl (congrArg Prod.fst (ly_k (FE_ly F181 L) 77 rfl)) rfl (eh179) ?_
    refine av_wp_seq 2 (pc' := 103) (lv' := [some (.inr (.inr (.inl (some (77))))), some (.inl a), some (.inl b), some (.inl c), some (.inl d), some (.inl e), some (.inl (17)), some (.inl e)]) (st' := [.inl (((l + 17 : Nat) : Int) + (1)), .inr (.inr (.inl (some (77))))]) (h' := h179) rfl ?_
    refine wq_pi (p' := 106) rfl rfl (congrArg Prod.fst (ly_k (FE_ly F181 L) 77 rfl)) rfl ?_
    rw [show (((l + 17 : Nat) : Int) + (1)) = ((l + 18 : Nat) : Int) by omega]
    have a185 : hA (hwF h179 77 17 ((l + 18 : Nat) : Int)) 94 = f182 := a180
    have F186 := FE_wF (v := ((l + 18 : Nat) : Int)) F181 (show mfF 77 17 from ⟨rfl, rfl⟩)
    have eh184 : hF (hwF h179 77 17 ((l + 18 : Nat) : Int)) 77 17 = ((l + 18 : Nat) : Int) := hF_self
    generalize hwF h179 77 17 ((l + 18 : Nat) : Int) = h184 at a185 F186 eh184 ⊢
    clear a180 F181 eh179
    refine av_wp_seq 12 (pc' := 48) (lv' := [some (.inr (.inr (.inl (some (77))))), some (.inl a), some (.inl b), some (.inl c), some (.inl d), some (.inl e), some (.inl (18)), some (.inl e)]) (st' := [.inl (18)]) (h' := h184) rfl ?_
    refine av_wp_seq 8 (pc' := 74) (lv' := [some (.inr (.inr (.inl (some (77))))), some (.inl a), some (.inl b), some (.inl c), some (.inl d), some (.inl e), some (.inl (18)), some (.inl e)]) (st' := [.inr (.inr (.inl (some (77))))]) (h' := h184) rfl ?_
    refine wq_gr (p' := 77) rfl rfl (congrArg Prod.fst (ly_k (FE_ly F186 L) 77 rfl)) rfl (ly_g (FE_ly F186 L) 77 16 94 rfl) ?_
    refine av_wp_seq 1 (pc' := 78) (lv' := [some (.inr (.inr (.inl (some (77))))), some (.inl a), some (.inl b), some (.inl c), some (.inl d), some (.inl e), some (.inl (18)), some (.inl e)]) (st' := [.inr (.inr (.inl (some (77)))), .inr (.inr (.inl (some (94))))]) (h' := h184) rfl ?_
    refine wq_gi (p' := 81) rfl rfl (congrArg Prod.fst (ly_k (FE_ly F186 L) 77 rfl)) rfl (eh184) ?_
    refine av_wp_seq 5 (pc' := 90) (lv' := [some (.inr (.inr (.inl (some (77))))), some (.inl a), some (.inl b), some (.inl c), some (.inl d), some (.inl e), some (.inl (18)), some (.inl e)]) (st' := [.inl (4), .inl (18), .inl (8), .inl (24), .inl e, .inl ((l + 18 : Nat) : Int), .inr (.inr (.inl (some (94))))]) (h' := h184) rfl ?_
    refine wq_rm (p' := 91) rfl rfl ⟨by decide, by decide⟩ (by decide) (fun v187 e188 => ?_)
    have e188 : v187 = 2 := e188 ⟨by decide, by decide⟩
    subst e188
    refine av_wp_seq 4 (pc' := 95) (lv' := [some (.inr (.inr (.inl (some (77))))), some (.inl a), some (.inl b), some (.inl c), some (.inl d), some (.inl e), some (.inl (18)), some (.inl e)]) (st' := [.inl (av_b (av_shr e (8))), .inl ((l + 18 : Nat) : Int), .inr (.inr (.inl (some (94))))]) (h' := h184) rfl ?_
    refine wq_bs (p' := 96) (n := 900) rfl rfl (ly_k (FE_ly F186 L) 94 rfl) (by omega) ?_
    obtain ⟨f192, q193⟩ : ∃ f, f = av_u1 f182 (l + 18) (bt e 8) := ⟨_, rfl⟩
    have a190 : hA (hwA h184 94 (Int.toNat (((l + 18 : Nat) : Int))) (av_b (av_b (av_shr e (8))))) 94 = f192 := by rw [hA_wu, a185, show Int.toNat (((l + 18 : Nat) : Int)) = l + 18 by omega, q193]; rfl
    have F191 := FE_wA (eF := mfF) (j := Int.toNat (((l + 18 : Nat) : Int))) (v := av_b (av_b (av_shr e (8)))) F186 (show mfA 94 from rfl)
    have eh189 : hF (hwA h184 94 (Int.toNat (((l + 18 : Nat) : Int))) (av_b (av_b (av_shr e (8))))) 77 17 = ((l + 18 : Nat) : Int) := eh184
    generalize hwA h184 94 (Int.toNat (((l + 18 : Nat) : Int))) (av_b (av_b (av_shr e (8)))) = h189 at a190 F191 eh189 ⊢
    clear a185 F186 eh184
    refine av_wp_seq 2 (pc' := 98) (lv' := [some (.inr (.inr (.inl (some (77))))), some (.inl a), some (.inl b), some (.inl c), some (.inl d), some (.inl e), some (.inl (18)), some (.inl e)]) (st' := [.inr (.inr (.inl (some (77)))), .inr (.inr (.inl (some (77))))]) (h' := h189) rfl ?_
    refine wq_gi (p' := 101) rfl rfl (congrArg Prod.fst (ly_k (FE_ly F191 L) 77 rfl)) rfl (eh189) ?_
    refine av_wp_seq 2 (pc' := 103) (lv' := [some (.inr (.inr (.inl (some (77))))), some (.inl a), some (.inl b), some (.inl c), some (.inl d), some (.inl e), some (.inl (18)), some (.inl e)]) (st' := [.inl (((l + 18 : Nat) : Int) + (1)), .inr (.inr (.inl (some (77))))]) (h' := h189) rfl ?_
    refine wq_pi (p' := 106) rfl rfl (congrArg Prod.fst (ly_k (FE_ly F191 L) 77 rfl)) rfl ?_
    rw [show (((l + 18 : Nat) : Int) + (1)) = ((l + 19 : Nat) : Int) by omega]
    have a195 : hA (hwF h189 77 17 ((l + 19 : Nat) : Int)) 94 = f192 := a190
    have F196 := FE_wF (v := ((l + 19 : Nat) : Int)) F191 (show mfF 77 17 from ⟨rfl, rfl⟩)
    have eh194 : hF (hwF h189 77 17 ((l + 19 : Nat) : Int)) 77 17 = ((l + 19 : Nat) : Int) := hF_self
    generalize hwF h189 77 17 ((l + 19 : Nat) : Int) = h194 at a195 F196 eh194 ⊢
    clear a190 F191 eh189
    refine av_wp_seq 12 (pc' := 48) (lv' := [some (.inr (.inr (.inl (some (77))))), some (.inl a), some (.inl b), some (.inl c), some (.inl d), some (.inl e), some (.inl (19)), some (.inl e)]) (st' := [.inl (19)]) (h' := h194) rfl ?_
    refine av_wp_seq 8 (pc' := 74) (lv' := [some (.inr (.inr (.inl (some (77))))), some (.inl a), some (.inl b), some (.inl c), some (.inl d), some (.inl e), some (.inl (19)), some (.inl e)]) (st' := [.inr (.inr (.inl (some (77))))]) (h' := h194) rfl ?_
    refine wq_gr (p' := 77) rfl rfl (congrArg Prod.fst (ly_k (FE_ly F196 L) 77 rfl)) rfl (ly_g (FE_ly F196 L) 77 16 94 rfl) ?_
    refine av_wp_seq 1 (pc' := 78) (lv' := [some (.inr (.inr (.inl (some (77))))), some (.inl a), some (.inl b), some (.inl c), some (.inl d), some (.inl e), some (.inl (19)), some (.inl e)]) (st' := [.inr (.inr (.inl (some (77)))), .inr (.inr (.inl (some (94))))]) (h' := h194) rfl ?_
    refine wq_gi (p' := 81) rfl rfl (congrArg Prod.fst (ly_k (FE_ly F196 L) 77 rfl)) rfl (eh194) ?_
    refine av_wp_seq 5 (pc' := 90) (lv' := [some (.inr (.inr (.inl (some (77))))), some (.inl a), some (.inl b), some (.inl c), some (.inl d), some (.inl e), some (.inl (19)), some (.inl e)]) (st' := [.inl (4), .inl (19), .inl (8), .inl (24), .inl e, .inl ((l + 19 : Nat) : Int), .inr (.inr (.inl (some (94))))]) (h' := h194) rfl ?_
    refine wq_rm (p' := 91) rfl rfl ⟨by decide, by decide⟩ (by decide) (fun v197 e198 => ?_)
    have e198 : v197 = 3 := e198 ⟨by decide, by decide⟩
    subst e198
    refine av_wp_seq 4 (pc' := 95) (lv' := [some (.inr (.inr (.inl (some (77))))), some (.inl a), some (.inl b), some (.inl c), some (.inl d), some (.inl e), some (.inl (19)), some (.inl e)]) (st' := [.inl (av_b (av_shr e (0))), .inl ((l + 19 : Nat) : Int), .inr (.inr (.inl (some (94))))]) (h' := h194) rfl ?_
    refine wq_bs (p' := 96) (n := 900) rfl rfl (ly_k (FE_ly F196 L) 94 rfl) (by omega) ?_
    obtain ⟨f202, q203⟩ : ∃ f, f = av_u1 f192 (l + 19) (bt e 0) := ⟨_, rfl⟩
    have a200 : hA (hwA h194 94 (Int.toNat (((l + 19 : Nat) : Int))) (av_b (av_b (av_shr e (0))))) 94 = f202 := by rw [hA_wu, a195, show Int.toNat (((l + 19 : Nat) : Int)) = l + 19 by omega, q203]; rfl
    have F201 := FE_wA (eF := mfF) (j := Int.toNat (((l + 19 : Nat) : Int))) (v := av_b (av_b (av_shr e (0)))) F196 (show mfA 94 from rfl)
    have eh199 : hF (hwA h194 94 (Int.toNat (((l + 19 : Nat) : Int))) (av_b (av_b (av_shr e (0))))) 77 17 = ((l + 19 : Nat) : Int) := eh194
    generalize hwA h194 94 (Int.toNat (((l + 19 : Nat) : Int))) (av_b (av_b (av_shr e (0)))) = h199 at a200 F201 eh199 ⊢
    clear a195 F196 eh194
    have p204 : f202 = put4 f161 (l + 16) e := by rw [q203, q193, q183, q173]; rfl
    clear q203 q193 q183 q173
    refine av_wp_seq 2 (pc' := 98) (lv' := [some (.inr (.inr (.inl (some (77))))), some (.inl a), some (.inl b), some (.inl c), some (.inl d), some (.inl e), some (.inl (19)), some (.inl e)]) (st' := [.inr (.inr (.inl (some (77)))), .inr (.inr (.inl (some (77))))]) (h' := h199) rfl ?_
    refine wq_gi (p' := 101) rfl rfl (congrArg Prod.fst (ly_k (FE_ly F201 L) 77 rfl)) rfl (eh199) ?_
    refine av_wp_seq 2 (pc' := 103) (lv' := [some (.inr (.inr (.inl (some (77))))), some (.inl a), some (.inl b), some (.inl c), some (.inl d), some (.inl e), some (.inl (19)), some (.inl e)]) (st' := [.inl (((l + 19 : Nat) : Int) + (1)), .inr (.inr (.inl (some (77))))]) (h' := h199) rfl ?_
    refine wq_pi (p' := 106) rfl rfl (congrArg Prod.fst (ly_k (FE_ly F201 L) 77 rfl)) rfl ?_
    rw [show (((l + 19 : Nat) : Int) + (1)) = ((l + 20 : Nat) : Int) by omega]
    have a206 : hA (hwF h199 77 17 ((l + 20 : Nat) : Int)) 94 = f202 := a200
    have F207 := FE_wF (v := ((l + 20 : Nat) : Int)) F201 (show mfF 77 17 from ⟨rfl, rfl⟩)
    have eh205 : hF (hwF h199 77 17 ((l + 20 : Nat) : Int)) 77 17 = ((l + 20 : Nat) : Int) := hF_self
    generalize hwF h199 77 17 ((l + 20 : Nat) : Int) = h205 at a206 F207 eh205 ⊢
    clear a200 F201 eh199
    refine av_wp_seq 6 (pc' := 113) (lv' := [some (.inr (.inr (.inl (some (77))))), some (.inl a), some (.inl b), some (.inl c), some (.inl d), some (.inl e), some (.inl (20)), some (.inl e)]) (st' := [.inr (.inr (.inl (some (77))))]) (h' := h205) rfl ?_
    refine wq_gi (p' := 116) rfl rfl (congrArg Prod.fst (ly_k (FE_ly F207 L) 77 rfl)) rfl (eh205) ?_
    refine av_wp_ret (v := some (.inl ((l + 20 : Nat) : Int))) rfl rfl rfl ?_
    rw [show ((l + 20 : Nat) : Int) = (l : Int) + 20 by omega]
    exact hq (by omega) h205 F207 (by rw [a206, p204, p163, p122, p81, p40]; rfl) (eh205.trans (by omega))
  · have c2 : (900) < ((l : Int) + (20)) := c2
    refine av_wp_seq 1 (pc' := 14) (lv' := [some (.inr (.inr (.inl (some (77))))), some (.inl a), some (.inl b), some (.inl c), some (.inl d), some (.inl e), none, none]) (st' := [.inl (-1)]) (h' := h) rfl ?_
    refine av_wp_ret (v := some (.inl (-1))) rfl rfl rfl ?_
    exact hqA (by omega)

