/-! THE REFERENCE BRINGS A CASE, exactly -/
set_option maxRecDepth 100000 in
set_option maxHeartbeats 4000000 in
theorem cx_162 {h : av_H} (I : IM h) (c : Int) (qc : 0 ≤ c ∧ c < hA h 78 0) (SB : ∀ i : Nat, (i : Int) < hA h 81 (Int.toNat c) → 0 ≤ hA h 88 (12 * (c).toNat + i) → 0 ≤ hA h 116 (hA h 88 (12 * (c).toNat + i)).toNat ∧ hA h 116 (hA h 88 (12 * (c).toNat + i)).toNat ≤ 1) {Q : Option av_V → av_H → Prop} (hq : ∀ n h', IM h' → hF h' 77 27 = n → (hA h 81 (c).toNat = n ∧ BC (c).toNat (fun a => bmul a * (n).toNat) (hA h) h') → FM h h' → BBR (hA h) (c).toNat (n).toNat h' → ZE [96, 97, 98, 99, 100, 101, 102, 103, 104, 105, 106] [27] h h' → Q none h') : av_wp none cd_162 0 [some (.inr (.inr (.inl (some (77))))), some (.inl c), none, none, none] [] h Q := by
  have F := FM_rf h
  have gc := I.1.2.1.2.1
  refine av_wp_seq 2 (pc' := 2) (lv' := [some (.inr (.inr (.inl (some (77))))), some (.inl c), none, none, none]) (st' := [.inr (.inr (.inl (some (77)))), .inr (.inr (.inl (some (77))))]) (h' := h) rfl ?_
  refine wq_gr (p' := 5) rfl rfl (congrArg Prod.fst (ly_k I.1.1 77 rfl)) rfl (ly_g I.1.1 77 3 81 rfl) ?_
  refine av_wp_seq 1 (pc' := 6) (lv' := [some (.inr (.inr (.inl (some (77))))), some (.inl c), none, none, none]) (st' := [.inl c, .inr (.inr (.inl (some (81)))), .inr (.inr (.inl (some (77))))]) (h' := h) rfl ?_
  obtain ⟨v1, e2⟩ : ∃ v, hA h 81 (Int.toNat (c)) = v := ⟨_, rfl⟩
  have g3 := im_many I.1 (Int.toNat (c))
  rw [e2] at g3
  refine wq_al (p' := 7) (n := 80) rfl rfl (ly_k I.1.1 81 rfl) (by omega) (e2) ?_
  refine wq_pi (p' := 10) rfl rfl (congrArg Prod.fst (ly_k I.1.1 77 rfl)) rfl ?_
  have I4 := IM_wF (f := 27) (v := v1) I (by omega)
  have F5 := FM_wF (o := 77) (f := 27) (v := v1) F rfl
  have e6 : hF (hwF h 77 27 v1) 77 27 = v1 := hF_self
  have ZB0 := ZE_f (L := [96, 97, 98, 99, 100, 101, 102, 103, 104, 105, 106]) (K := [27]) (f := 27) (v := v1) (ZE_rf h) rfl rfl
  generalize hwF h 77 27 v1 = h7 at I4 F5 e6 ZB0 ⊢
  have B8 : BC (c).toNat (fun a => bmul a * ((0 : Int)).toNat) (hA h) h7 := fun a _ _ i hi => absurd hi (by show ¬ i < bmul a * 0; omega)
  refine av_wp_seq 2 (pc' := 12) (lv' := [some (.inr (.inr (.inl (some (77))))), some (.inl c), some (.inl (0)), none, none]) (st' := []) (h' := h7) rfl ?_
  have L20 : ∀ (m19 : Nat) (k9 : Int) (a10 : Option av_V) (a11 : Option av_V) (h12 : av_H), av_lg a10 = false → av_lg a11 = false → k9 ≤ v1 → (0 ≤ k9 ∧ k9 ≤ 12) → IM h12 → hF h12 77 27 = v1 → BC (c).toNat (fun a => bmul a * (Int.toNat (k9))) (hA h) h12 → FM h h12 → ZE [96, 97, 98, 99, 100, 101, 102, 103, 104, 105, 106] [27] h h12 → BBR (hA h) (c).toNat (Int.toNat (k9)) h12 → (12 - k9).toNat = m19 → av_wp none cd_162 12 [some (.inr (.inr (.inl (some (77))))), some (.inl c), some (.inl k9), a10, a11] [] h12 Q := by
    intro m19
    induction m19 using Nat.strongRecOn with
    | _ m19 I21 =>
      intro k9 a10 a11 h12 g23 g24 g25 g26 Y13 e16 B15 F14 Z17 B18 e22
      have la10 := g23
      have la11 := g24
      refine av_wp_seq 2 (pc' := 14) (lv' := [some (.inr (.inr (.inl (some (77))))), some (.inl c), some (.inl k9), a10, a11]) (st' := [.inr (.inr (.inl (some (77)))), .inl k9]) (h' := h12) rfl ?_
      refine wq_gi (p' := 17) rfl rfl (congrArg Prod.fst (ly_k Y13.1.1 77 rfl)) rfl (e16) ?_
      refine wq_k2 (p' := 20) rfl rfl ⟨by omega, by omega⟩ ⟨by omega, by omega⟩ (fun c27 => ?_) (fun c28 => ?_)
      · have c27 : v1 ≤ k9 := c27
        refine av_wp_ret (v := none) rfl rfl rfl ?_
        exact hq v1 h12 Y13 e16 ⟨e2, BC_le B15 (fun a _ _ => Nat.mul_le_mul_left _ (by omega))⟩ F14 (BBR_e B18 (by omega)) Z17
      · have c28 : k9 < v1 := c28
        have Y29 := IMY_of Y13 e16 (Int.toNat (k9))
        generalize hA h12 96 (Int.toNat (k9)) = x30 at Y29
        generalize hA h12 100 (Int.toNat (k9)) = y31 at Y29
        refine av_wp_seq 7 (pc' := 28) (lv' := [some (.inr (.inr (.inl (some (77))))), some (.inl c), some (.inl k9), some (.inl (((12) * c) + k9)), a11]) (st' := [.inr (.inr (.inl (some (77))))]) (h' := h12) rfl ?_
        refine wq_gr (p' := 31) rfl rfl (congrArg Prod.fst (ly_k Y29.1.1 77 rfl)) rfl (ly_g Y29.1.1 77 30 96 rfl) ?_
        refine av_wp_seq 2 (pc' := 33) (lv' := [some (.inr (.inr (.inl (some (77))))), some (.inl c), some (.inl k9), some (.inl (((12) * c) + k9)), a11]) (st' := [.inr (.inr (.inl (some (77)))), .inl k9, .inr (.inr (.inl (some (96))))]) (h' := h12) rfl ?_
        refine wq_gr (p' := 36) rfl rfl (congrArg Prod.fst (ly_k Y29.1.1 77 rfl)) rfl (ly_g Y29.1.1 77 4 82 rfl) ?_
        refine av_wp_seq 1 (pc' := 37) (lv' := [some (.inr (.inr (.inl (some (77))))), some (.inl c), some (.inl k9), some (.inl (((12) * c) + k9)), a11]) (st' := [.inl (((12) * c) + k9), .inr (.inr (.inl (some (82)))), .inl k9, .inr (.inr (.inl (some (96))))]) (h' := h12) rfl ?_
        obtain ⟨v34, e35⟩ : ∃ v, hA h12 82 (Int.toNat ((((12) * c) + k9))) = v := ⟨_, rfl⟩
        have g36 : 0 ≤ hA h12 82 (Int.toNat ((((12) * c) + k9))) ∧ hA h12 82 (Int.toNat ((((12) * c) + k9))) ≤ 7 := im_m Y29.1 82 (by decide) (by decide) _
        rw [e35] at g36
        refine wq_al (p' := 38) (n := 960) rfl rfl (ly_k Y29.1.1 82 rfl) (by omega) (e35) ?_
        have u37 : hA h 82 (Int.toNat ((((12) * c) + k9))) = v34 := by rw [← F14.2.2.2.2.2.2 82 rfl]; exact e35
        refine wq_as (p' := 39) (n := 12) rfl rfl (ly_k Y29.1.1 96 rfl) (by omega) ?_
        have Y39 := IMY_w (a := 96) (j := (Int.toNat (k9))) (v := v34) Y29 (by omega) (show (0 : Int) ≤ v34 ∧ v34 ≤ (7 : Int) by omega) (fun z => by rfl)
        have Y39 : IMY v1 (Int.toNat (k9)) v34 y31 (hwA h12 96 (Int.toNat (k9)) v34) := Y39
        have F40 := FM_wA (a := 96) (j := (Int.toNat (k9))) (v := v34) F14 rfl
        have B41 := BC_w (a := 96) (j := (Int.toNat (k9))) (v := v34) B15 (show (Int.toNat (k9)) = (1 * (Int.toNat (k9))) by omega) (by show hA h 82 (1 * (12 * (c).toNat) + (1 * (Int.toNat (k9)))) = _; rw [show 1 * (12 * (c).toNat) + (1 * (Int.toNat (k9))) = (Int.toNat ((((12) * c) + k9))) by omega, ← F14.2.2.2.2.2.2 82 rfl]; exact e35)
        have B41 : BC (c).toNat (av_u1 (fun a => bmul a * (Int.toNat (k9))) 96 ((1 * (Int.toNat (k9))) + 1)) (hA h) (hwA h12 96 (Int.toNat (k9)) v34) := B41
        have Z42 := ZE_a (q := 96) (i := (Int.toNat (k9))) (v := v34) Z17 rfl rfl
        have B43 := BBR_n (q := 96) (j := (Int.toNat (k9))) (v := v34) B18 (by decide)
        generalize hwA h12 96 (Int.toNat (k9)) v34 = h38 at Y39 F40 B41 Z42 B43 ⊢
        refine av_wp_seq 1 (pc' := 40) (lv' := [some (.inr (.inr (.inl (some (77))))), some (.inl c), some (.inl k9), some (.inl (((12) * c) + k9)), a11]) (st' := [.inr (.inr (.inl (some (77))))]) (h' := h38) rfl ?_
        refine wq_gr (p' := 43) rfl rfl (congrArg Prod.fst (ly_k Y39.1.1 77 rfl)) rfl (ly_g Y39.1.1 77 31 97 rfl) ?_
        refine av_wp_seq 2 (pc' := 45) (lv' := [some (.inr (.inr (.inl (some (77))))), some (.inl c), some (.inl k9), some (.inl (((12) * c) + k9)), a11]) (st' := [.inr (.inr (.inl (some (77)))), .inl k9, .inr (.inr (.inl (some (97))))]) (h' := h38) rfl ?_
        refine wq_gr (p' := 48) rfl rfl (congrArg Prod.fst (ly_k Y39.1.1 77 rfl)) rfl (ly_g Y39.1.1 77 8 86 rfl) ?_
        refine av_wp_seq 1 (pc' := 49) (lv' := [some (.inr (.inr (.inl (some (77))))), some (.inl c), some (.inl k9), some (.inl (((12) * c) + k9)), a11]) (st' := [.inl (((12) * c) + k9), .inr (.inr (.inl (some (86)))), .inl k9, .inr (.inr (.inl (some (97))))]) (h' := h38) rfl ?_
        obtain ⟨v44, e45⟩ : ∃ v, hA h38 86 (Int.toNat ((((12) * c) + k9))) = v := ⟨_, rfl⟩
        have g46 : 0 ≤ hA h38 86 (Int.toNat ((((12) * c) + k9))) ∧ hA h38 86 (Int.toNat ((((12) * c) + k9))) ≤ 3 := im_m Y39.1 86 (by decide) (by decide) _
        rw [e45] at g46
        refine wq_al (p' := 50) (n := 960) rfl rfl (ly_k Y39.1.1 86 rfl) (by omega) (e45) ?_
        refine wq_as (p' := 51) (n := 12) rfl rfl (ly_k Y39.1.1 97 rfl) (by omega) ?_
        have Y48 := IMY_w (a := 97) (j := (Int.toNat (k9))) (v := v44) Y39 (by omega) (show (0 : Int) ≤ v44 ∧ v44 ≤ (3 : Int) by omega) (fun z => by omega)
        have Y48 : IMY v1 (Int.toNat (k9)) v34 y31 (hwA h38 97 (Int.toNat (k9)) v44) := Y48
        have F49 := FM_wA (a := 97) (j := (Int.toNat (k9))) (v := v44) F40 rfl
        have B50 := BC_w (a := 97) (j := (Int.toNat (k9))) (v := v44) B41 (show (Int.toNat (k9)) = (1 * (Int.toNat (k9))) by omega) (by show hA h 86 (1 * (12 * (c).toNat) + (1 * (Int.toNat (k9)))) = _; rw [show 1 * (12 * (c).toNat) + (1 * (Int.toNat (k9))) = (Int.toNat ((((12) * c) + k9))) by omega, ← F40.2.2.2.2.2.2 86 rfl]; exact e45)
        have B50 : BC (c).toNat (av_u1 (av_u1 (fun a => bmul a * (Int.toNat (k9))) 96 ((1 * (Int.toNat (k9))) + 1)) 97 ((1 * (Int.toNat (k9))) + 1)) (hA h) (hwA h38 97 (Int.toNat (k9)) v44) := B50
        have Z51 := ZE_a (q := 97) (i := (Int.toNat (k9))) (v := v44) Z42 rfl rfl
        have B52 := BBR_n (q := 97) (j := (Int.toNat (k9))) (v := v44) B43 (by decide)
        generalize hwA h38 97 (Int.toNat (k9)) v44 = h47 at Y48 F49 B50 Z51 B52 ⊢
        refine av_wp_seq 1 (pc' := 52) (lv' := [some (.inr (.inr (.inl (some (77))))), some (.inl c), some (.inl k9), some (.inl (((12) * c) + k9)), a11]) (st' := [.inr (.inr (.inl (some (77))))]) (h' := h47) rfl ?_
        refine wq_gr (p' := 55) rfl rfl (congrArg Prod.fst (ly_k Y48.1.1 77 rfl)) rfl (ly_g Y48.1.1 77 32 98 rfl) ?_
        refine av_wp_seq 2 (pc' := 57) (lv' := [some (.inr (.inr (.inl (some (77))))), some (.inl c), some (.inl k9), some (.inl (((12) * c) + k9)), a11]) (st' := [.inr (.inr (.inl (some (77)))), .inl k9, .inr (.inr (.inl (some (98))))]) (h' := h47) rfl ?_
        refine wq_gr (p' := 60) rfl rfl (congrArg Prod.fst (ly_k Y48.1.1 77 rfl)) rfl (ly_g Y48.1.1 77 11 89 rfl) ?_
        refine av_wp_seq 1 (pc' := 61) (lv' := [some (.inr (.inr (.inl (some (77))))), some (.inl c), some (.inl k9), some (.inl (((12) * c) + k9)), a11]) (st' := [.inl (((12) * c) + k9), .inr (.inr (.inl (some (89)))), .inl k9, .inr (.inr (.inl (some (98))))]) (h' := h47) rfl ?_
        obtain ⟨v53, e54⟩ : ∃ v, hA h47 89 (Int.toNat ((((12) * c) + k9))) = v := ⟨_, rfl⟩
        have g55 : 0 ≤ hA h47 89 (Int.toNat ((((12) * c) + k9))) ∧ hA h47 89 (Int.toNat ((((12) * c) + k9))) ≤ 1 := im_m Y48.1 89 (by decide) (by decide) _
        rw [e54] at g55
        refine wq_al (p' := 62) (n := 960) rfl rfl (ly_k Y48.1.1 89 rfl) (by omega) (e54) ?_
        refine wq_as (p' := 63) (n := 12) rfl rfl (ly_k Y48.1.1 98 rfl) (by omega) ?_
        have Y57 := IMY_w (a := 98) (j := (Int.toNat (k9))) (v := v53) Y48 (by omega) (show (0 : Int) ≤ v53 ∧ v53 ≤ (2 : Int) by omega) (fun z => by omega)
        have Y57 : IMY v1 (Int.toNat (k9)) v34 y31 (hwA h47 98 (Int.toNat (k9)) v53) := Y57
        have F58 := FM_wA (a := 98) (j := (Int.toNat (k9))) (v := v53) F49 rfl
        have B59 := BC_w (a := 98) (j := (Int.toNat (k9))) (v := v53) B50 (show (Int.toNat (k9)) = (1 * (Int.toNat (k9))) by omega) (by show hA h 89 (1 * (12 * (c).toNat) + (1 * (Int.toNat (k9)))) = _; rw [show 1 * (12 * (c).toNat) + (1 * (Int.toNat (k9))) = (Int.toNat ((((12) * c) + k9))) by omega, ← F49.2.2.2.2.2.2 89 rfl]; exact e54)
        have B59 : BC (c).toNat (av_u1 (av_u1 (av_u1 (fun a => bmul a * (Int.toNat (k9))) 96 ((1 * (Int.toNat (k9))) + 1)) 97 ((1 * (Int.toNat (k9))) + 1)) 98 ((1 * (Int.toNat (k9))) + 1)) (hA h) (hwA h47 98 (Int.toNat (k9)) v53) := B59
        have Z60 := ZE_a (q := 98) (i := (Int.toNat (k9))) (v := v53) Z51 rfl rfl
        have B61 := BBR_n (q := 98) (j := (Int.toNat (k9))) (v := v53) B52 (by decide)
        generalize hwA h47 98 (Int.toNat (k9)) v53 = h56 at Y57 F58 B59 Z60 B61 ⊢
        refine av_wp_seq 1 (pc' := 64) (lv' := [some (.inr (.inr (.inl (some (77))))), some (.inl c), some (.inl k9), some (.inl (((12) * c) + k9)), a11]) (st' := [.inr (.inr (.inl (some (77))))]) (h' := h56) rfl ?_
        refine wq_gr (p' := 67) rfl rfl (congrArg Prod.fst (ly_k Y57.1.1 77 rfl)) rfl (ly_g Y57.1.1 77 33 99 rfl) ?_
        refine av_wp_seq 2 (pc' := 69) (lv' := [some (.inr (.inr (.inl (some (77))))), some (.inl c), some (.inl k9), some (.inl (((12) * c) + k9)), a11]) (st' := [.inr (.inr (.inl (some (77)))), .inl k9, .inr (.inr (.inl (some (99))))]) (h' := h56) rfl ?_
        refine wq_gr (p' := 72) rfl rfl (congrArg Prod.fst (ly_k Y57.1.1 77 rfl)) rfl (ly_g Y57.1.1 77 9 87 rfl) ?_
        refine av_wp_seq 1 (pc' := 73) (lv' := [some (.inr (.inr (.inl (some (77))))), some (.inl c), some (.inl k9), some (.inl (((12) * c) + k9)), a11]) (st' := [.inl (((12) * c) + k9), .inr (.inr (.inl (some (87)))), .inl k9, .inr (.inr (.inl (some (99))))]) (h' := h56) rfl ?_
        obtain ⟨v62, e63⟩ : ∃ v, hA h56 87 (Int.toNat ((((12) * c) + k9))) = v := ⟨_, rfl⟩
        have g64 : -1 ≤ hA h56 87 (Int.toNat ((((12) * c) + k9))) ∧ hA h56 87 (Int.toNat ((((12) * c) + k9))) ≤ 1999 := im_m Y57.1 87 (by decide) (by decide) _
        rw [e63] at g64
        refine wq_al (p' := 74) (n := 960) rfl rfl (ly_k Y57.1.1 87 rfl) (by omega) (e63) ?_
        refine wq_as (p' := 75) (n := 12) rfl rfl (ly_k Y57.1.1 99 rfl) (by omega) ?_
        have Y66 := IMY_w (a := 99) (j := (Int.toNat (k9))) (v := v62) Y57 (by omega) (show (-1 : Int) ≤ v62 ∧ v62 ≤ (1999 : Int) by omega) (fun z => by omega)
        have Y66 : IMY v1 (Int.toNat (k9)) v34 y31 (hwA h56 99 (Int.toNat (k9)) v62) := Y66
        have F67 := FM_wA (a := 99) (j := (Int.toNat (k9))) (v := v62) F58 rfl
        have B68 := BC_w (a := 99) (j := (Int.toNat (k9))) (v := v62) B59 (show (Int.toNat (k9)) = (1 * (Int.toNat (k9))) by omega) (by show hA h 87 (1 * (12 * (c).toNat) + (1 * (Int.toNat (k9)))) = _; rw [show 1 * (12 * (c).toNat) + (1 * (Int.toNat (k9))) = (Int.toNat ((((12) * c) + k9))) by omega, ← F58.2.2.2.2.2.2 87 rfl]; exact e63)
        have B68 : BC (c).toNat (av_u1 (av_u1 (av_u1 (av_u1 (fun a => bmul a * (Int.toNat (k9))) 96 ((1 * (Int.toNat (k9))) + 1)) 97 ((1 * (Int.toNat (k9))) + 1)) 98 ((1 * (Int.toNat (k9))) + 1)) 99 ((1 * (Int.toNat (k9))) + 1)) (hA h) (hwA h56 99 (Int.toNat (k9)) v62) := B68
        have Z69 := ZE_a (q := 99) (i := (Int.toNat (k9))) (v := v62) Z60 rfl rfl
        have B70 := BBR_n (q := 99) (j := (Int.toNat (k9))) (v := v62) B61 (by decide)
        generalize hwA h56 99 (Int.toNat (k9)) v62 = h65 at Y66 F67 B68 Z69 B70 ⊢
        refine av_wp_seq 1 (pc' := 76) (lv' := [some (.inr (.inr (.inl (some (77))))), some (.inl c), some (.inl k9), some (.inl (((12) * c) + k9)), a11]) (st' := [.inr (.inr (.inl (some (77))))]) (h' := h65) rfl ?_
        refine wq_gr (p' := 79) rfl rfl (congrArg Prod.fst (ly_k Y66.1.1 77 rfl)) rfl (ly_g Y66.1.1 77 34 100 rfl) ?_
        refine av_wp_seq 2 (pc' := 81) (lv' := [some (.inr (.inr (.inl (some (77))))), some (.inl c), some (.inl k9), some (.inl (((12) * c) + k9)), a11]) (st' := [.inr (.inr (.inl (some (77)))), .inl k9, .inr (.inr (.inl (some (100))))]) (h' := h65) rfl ?_
        refine wq_gr (p' := 84) rfl rfl (congrArg Prod.fst (ly_k Y66.1.1 77 rfl)) rfl (ly_g Y66.1.1 77 7 85 rfl) ?_
        refine av_wp_seq 1 (pc' := 85) (lv' := [some (.inr (.inr (.inl (some (77))))), some (.inl c), some (.inl k9), some (.inl (((12) * c) + k9)), a11]) (st' := [.inl (((12) * c) + k9), .inr (.inr (.inl (some (85)))), .inl k9, .inr (.inr (.inl (some (100))))]) (h' := h65) rfl ?_
        obtain ⟨v71, e72⟩ : ∃ v, hA h65 85 (Int.toNat ((((12) * c) + k9))) = v := ⟨_, rfl⟩
        have g73 : -1 ≤ hA h65 85 (Int.toNat ((((12) * c) + k9))) ∧ hA h65 85 (Int.toNat ((((12) * c) + k9))) ≤ 11 := im_m Y66.1 85 (by decide) (by decide) _
        rw [e72] at g73
        refine wq_al (p' := 86) (n := 960) rfl rfl (ly_k Y66.1.1 85 rfl) (by omega) (e72) ?_
        have u74 : hA h 85 (Int.toNat ((((12) * c) + k9))) = v71 := by rw [← F67.2.2.2.2.2.2 85 rfl]; exact e72
        refine wq_as (p' := 87) (n := 12) rfl rfl (ly_k Y66.1.1 100 rfl) (by omega) ?_
        have Y76 := IMY_w (a := 100) (j := (Int.toNat (k9))) (v := v71) Y66 (by omega) (show (-1 : Int) ≤ v71 ∧ v71 ≤ (11 : Int) by omega) (fun z => by rfl)
        have Y76 : IMY v1 (Int.toNat (k9)) v34 v71 (hwA h65 100 (Int.toNat (k9)) v71) := Y76
        have F77 := FM_wA (a := 100) (j := (Int.toNat (k9))) (v := v71) F67 rfl
        have B78 := BC_w (a := 100) (j := (Int.toNat (k9))) (v := v71) B68 (show (Int.toNat (k9)) = (1 * (Int.toNat (k9))) by omega) (by show hA h 85 (1 * (12 * (c).toNat) + (1 * (Int.toNat (k9)))) = _; rw [show 1 * (12 * (c).toNat) + (1 * (Int.toNat (k9))) = (Int.toNat ((((12) * c) + k9))) by omega, ← F67.2.2.2.2.2.2 85 rfl]; exact e72)
        have B78 : BC (c).toNat (av_u1 (av_u1 (av_u1 (av_u1 (av_u1 (fun a => bmul a * (Int.toNat (k9))) 96 ((1 * (Int.toNat (k9))) + 1)) 97 ((1 * (Int.toNat (k9))) + 1)) 98 ((1 * (Int.toNat (k9))) + 1)) 99 ((1 * (Int.toNat (k9))) + 1)) 100 ((1 * (Int.toNat (k9))) + 1)) (hA h) (hwA h65 100 (Int.toNat (k9)) v71) := B78
        have Z79 := ZE_a (q := 100) (i := (Int.toNat (k9))) (v := v71) Z69 rfl rfl
        have B80 := BBR_n (q := 100) (j := (Int.toNat (k9))) (v := v71) B70 (by decide)
        generalize hwA h65 100 (Int.toNat (k9)) v71 = h75 at Y76 F77 B78 Z79 B80 ⊢
        refine av_wp_seq 1 (pc' := 88) (lv' := [some (.inr (.inr (.inl (some (77))))), some (.inl c), some (.inl k9), some (.inl (((12) * c) + k9)), a11]) (st' := [.inr (.inr (.inl (some (77))))]) (h' := h75) rfl ?_
        refine wq_gr (p' := 91) rfl rfl (congrArg Prod.fst (ly_k Y76.1.1 77 rfl)) rfl (ly_g Y76.1.1 77 35 101 rfl) ?_
        refine av_wp_seq 2 (pc' := 93) (lv' := [some (.inr (.inr (.inl (some (77))))), some (.inl c), some (.inl k9), some (.inl (((12) * c) + k9)), a11]) (st' := [.inr (.inr (.inl (some (77)))), .inl k9, .inr (.inr (.inl (some (101))))]) (h' := h75) rfl ?_
        refine wq_gr (p' := 96) rfl rfl (congrArg Prod.fst (ly_k Y76.1.1 77 rfl)) rfl (ly_g Y76.1.1 77 5 83 rfl) ?_
        refine av_wp_seq 1 (pc' := 97) (lv' := [some (.inr (.inr (.inl (some (77))))), some (.inl c), some (.inl k9), some (.inl (((12) * c) + k9)), a11]) (st' := [.inl (((12) * c) + k9), .inr (.inr (.inl (some (83)))), .inl k9, .inr (.inr (.inl (some (101))))]) (h' := h75) rfl ?_
        obtain ⟨v81, e82⟩ : ∃ v, hA h75 83 (Int.toNat ((((12) * c) + k9))) = v := ⟨_, rfl⟩
        have g83 : 0 ≤ hA h75 83 (Int.toNat ((((12) * c) + k9))) ∧ hA h75 83 (Int.toNat ((((12) * c) + k9))) ≤ 2 := im_m Y76.1 83 (by decide) (by decide) _
        rw [e82] at g83
        refine wq_al (p' := 98) (n := 960) rfl rfl (ly_k Y76.1.1 83 rfl) (by omega) (e82) ?_
        refine wq_as (p' := 99) (n := 12) rfl rfl (ly_k Y76.1.1 101 rfl) (by omega) ?_
        have Y85 := IMY_w (a := 101) (j := (Int.toNat (k9))) (v := v81) Y76 (by omega) (show (0 : Int) ≤ v81 ∧ v81 ≤ (2 : Int) by omega) (fun z => by omega)
        have Y85 : IMY v1 (Int.toNat (k9)) v34 v71 (hwA h75 101 (Int.toNat (k9)) v81) := Y85
        have F86 := FM_wA (a := 101) (j := (Int.toNat (k9))) (v := v81) F77 rfl
        have B87 := BC_w (a := 101) (j := (Int.toNat (k9))) (v := v81) B78 (show (Int.toNat (k9)) = (1 * (Int.toNat (k9))) by omega) (by show hA h 83 (1 * (12 * (c).toNat) + (1 * (Int.toNat (k9)))) = _; rw [show 1 * (12 * (c).toNat) + (1 * (Int.toNat (k9))) = (Int.toNat ((((12) * c) + k9))) by omega, ← F77.2.2.2.2.2.2 83 rfl]; exact e82)
        have B87 : BC (c).toNat (av_u1 (av_u1 (av_u1 (av_u1 (av_u1 (av_u1 (fun a => bmul a * (Int.toNat (k9))) 96 ((1 * (Int.toNat (k9))) + 1)) 97 ((1 * (Int.toNat (k9))) + 1)) 98 ((1 * (Int.toNat (k9))) + 1)) 99 ((1 * (Int.toNat (k9))) + 1)) 100 ((1 * (Int.toNat (k9))) + 1)) 101 ((1 * (Int.toNat (k9))) + 1)) (hA h) (hwA h75 101 (Int.toNat (k9)) v81) := B87
        have Z88 := ZE_a (q := 101) (i := (Int.toNat (k9))) (v := v81) Z79 rfl rfl
        have B89 := BBR_n (q := 101) (j := (Int.toNat (k9))) (v := v81) B80 (by decide)
        generalize hwA h75 101 (Int.toNat (k9)) v81 = h84 at Y85 F86 B87 Z88 B89 ⊢
        refine av_wp_seq 1 (pc' := 100) (lv' := [some (.inr (.inr (.inl (some (77))))), some (.inl c), some (.inl k9), some (.inl (((12) * c) + k9)), a11]) (st' := [.inr (.inr (.inl (some (77))))]) (h' := h84) rfl ?_
        refine wq_gr (p' := 103) rfl rfl (congrArg Prod.fst (ly_k Y85.1.1 77 rfl)) rfl (ly_g Y85.1.1 77 36 102 rfl) ?_
        refine av_wp_seq 2 (pc' := 105) (lv' := [some (.inr (.inr (.inl (some (77))))), some (.inl c), some (.inl k9), some (.inl (((12) * c) + k9)), a11]) (st' := [.inr (.inr (.inl (some (77)))), .inl k9, .inr (.inr (.inl (some (102))))]) (h' := h84) rfl ?_
        refine wq_gr (p' := 108) rfl rfl (congrArg Prod.fst (ly_k Y85.1.1 77 rfl)) rfl (ly_g Y85.1.1 77 6 84 rfl) ?_
        refine av_wp_seq 1 (pc' := 109) (lv' := [some (.inr (.inr (.inl (some (77))))), some (.inl c), some (.inl k9), some (.inl (((12) * c) + k9)), a11]) (st' := [.inl (((12) * c) + k9), .inr (.inr (.inl (some (84)))), .inl k9, .inr (.inr (.inl (some (102))))]) (h' := h84) rfl ?_
        obtain ⟨v90, e91⟩ : ∃ v, hA h84 84 (Int.toNat ((((12) * c) + k9))) = v := ⟨_, rfl⟩
        have g92 : -1 ≤ hA h84 84 (Int.toNat ((((12) * c) + k9))) ∧ hA h84 84 (Int.toNat ((((12) * c) + k9))) ≤ 2 := im_m Y85.1 84 (by decide) (by decide) _
        rw [e91] at g92
        refine wq_al (p' := 110) (n := 960) rfl rfl (ly_k Y85.1.1 84 rfl) (by omega) (e91) ?_
        refine wq_as (p' := 111) (n := 12) rfl rfl (ly_k Y85.1.1 102 rfl) (by omega) ?_
        have Y94 := IMY_w (a := 102) (j := (Int.toNat (k9))) (v := v90) Y85 (by omega) (show (-1 : Int) ≤ v90 ∧ v90 ≤ (2 : Int) by omega) (fun z => by omega)
        have Y94 : IMY v1 (Int.toNat (k9)) v34 v71 (hwA h84 102 (Int.toNat (k9)) v90) := Y94
        have F95 := FM_wA (a := 102) (j := (Int.toNat (k9))) (v := v90) F86 rfl
        have B96 := BC_w (a := 102) (j := (Int.toNat (k9))) (v := v90) B87 (show (Int.toNat (k9)) = (1 * (Int.toNat (k9))) by omega) (by show hA h 84 (1 * (12 * (c).toNat) + (1 * (Int.toNat (k9)))) = _; rw [show 1 * (12 * (c).toNat) + (1 * (Int.toNat (k9))) = (Int.toNat ((((12) * c) + k9))) by omega, ← F86.2.2.2.2.2.2 84 rfl]; exact e91)
        have B96 : BC (c).toNat (av_u1 (av_u1 (av_u1 (av_u1 (av_u1 (av_u1 (av_u1 (fun a => bmul a * (Int.toNat (k9))) 96 ((1 * (Int.toNat (k9))) + 1)) 97 ((1 * (Int.toNat (k9))) + 1)) 98 ((1 * (Int.toNat (k9))) + 1)) 99 ((1 * (Int.toNat (k9))) + 1)) 100 ((1 * (Int.toNat (k9))) + 1)) 101 ((1 * (Int.toNat (k9))) + 1)) 102 ((1 * (Int.toNat (k9))) + 1)) (hA h) (hwA h84 102 (Int.toNat (k9)) v90) := B96
        have Z97 := ZE_a (q := 102) (i := (Int.toNat (k9))) (v := v90) Z88 rfl rfl
        have B98 := BBR_n (q := 102) (j := (Int.toNat (k9))) (v := v90) B89 (by decide)
        generalize hwA h84 102 (Int.toNat (k9)) v90 = h93 at Y94 F95 B96 Z97 B98 ⊢
        refine av_wp_seq 1 (pc' := 112) (lv' := [some (.inr (.inr (.inl (some (77))))), some (.inl c), some (.inl k9), some (.inl (((12) * c) + k9)), a11]) (st' := [.inr (.inr (.inl (some (77))))]) (h' := h93) rfl ?_
        refine wq_gr (p' := 115) rfl rfl (congrArg Prod.fst (ly_k Y94.1.1 77 rfl)) rfl (ly_g Y94.1.1 77 37 103 rfl) ?_
        refine av_wp_seq 2 (pc' := 117) (lv' := [some (.inr (.inr (.inl (some (77))))), some (.inl c), some (.inl k9), some (.inl (((12) * c) + k9)), a11]) (st' := [.inr (.inr (.inl (some (77)))), .inl k9, .inr (.inr (.inl (some (103))))]) (h' := h93) rfl ?_
        refine wq_gr (p' := 120) rfl rfl (congrArg Prod.fst (ly_k Y94.1.1 77 rfl)) rfl (ly_g Y94.1.1 77 10 88 rfl) ?_
        refine av_wp_seq 1 (pc' := 121) (lv' := [some (.inr (.inr (.inl (some (77))))), some (.inl c), some (.inl k9), some (.inl (((12) * c) + k9)), a11]) (st' := [.inl (((12) * c) + k9), .inr (.inr (.inl (some (88)))), .inl k9, .inr (.inr (.inl (some (103))))]) (h' := h93) rfl ?_
        obtain ⟨v99, e100⟩ : ∃ v, hA h93 88 (Int.toNat ((((12) * c) + k9))) = v := ⟨_, rfl⟩
        have g101 : -1 ≤ hA h93 88 (Int.toNat ((((12) * c) + k9))) ∧ hA h93 88 (Int.toNat ((((12) * c) + k9))) ≤ 15 := im_m Y94.1 88 (by decide) (by decide) _
        rw [e100] at g101
        have y102 : hA h 88 (12 * (c).toNat + (Int.toNat (k9))) = v99 := by rw [show 12 * (c).toNat + (Int.toNat (k9)) = (Int.toNat ((((12) * c) + k9))) by omega, ← Z97.1 88 rfl]; exact e100
        refine wq_al (p' := 122) (n := 960) rfl rfl (ly_k Y94.1.1 88 rfl) (by omega) (e100) ?_
        have J106 : ∀ (j103 : Int), (0 ≤ j103 ∧ j103 ≤ 1) → j103 = bbr (hA h) (c).toNat (Int.toNat (k9)) →  av_wp none cd_162 144 [some (.inr (.inr (.inl (some (77))))), some (.inl c), some (.inl k9), some (.inl (((12) * c) + k9)), a11] [.inl j103, .inl k9, .inr (.inr (.inl (some (103))))] h93 Q := by
          intro j103 g104 g105
          refine wq_zs (p' := 145) (n := 12) rfl rfl (ly_k Y94.1.1 103 rfl) (by omega) (by omega) ?_
          have Y108 := IMY_w (a := 103) (j := (Int.toNat (k9))) (v := j103) Y94 (by omega) (show (0 : Int) ≤ j103 ∧ j103 ≤ (1 : Int) by omega) (fun z => by omega)
          have Y108 : IMY v1 (Int.toNat (k9)) v34 v71 (hwA h93 103 (Int.toNat (k9)) j103) := Y108
          have F109 := FM_wA (a := 103) (j := (Int.toNat (k9))) (v := j103) F95 rfl
          have B110 := BC_o (j := (Int.toNat (k9))) (v := j103) B96 (by show 0 * (Int.toNat (k9)) = 0; omega)
          have Z111 := ZE_a (q := 103) (i := (Int.toNat (k9))) (v := j103) Z97 rfl rfl
          have B112 := BBR_s (j := (Int.toNat (k9))) (v := j103) B98 rfl g105
          generalize hwA h93 103 (Int.toNat (k9)) j103 = h107 at Y108 F109 B110 Z111 B112 ⊢
          refine av_wp_seq 2 (pc' := 148) (lv' := [some (.inr (.inr (.inl (some (77))))), some (.inl c), some (.inl k9), some (.inl (((12) * c) + k9)), some (.inl (0))]) (st' := []) (h' := h107) rfl ?_
          have L121 : ∀ (m120 : Nat) (k113 : Int) (h114 : av_H), (0 ≤ k113 ∧ k113 ≤ 5) → IMY v1 (Int.toNat (k9)) v34 v71 h114 → BC (c).toNat (av_u1 (av_u1 (av_u1 (av_u1 (av_u1 (av_u1 (av_u1 (av_u1 (fun a => bmul a * (Int.toNat (k9))) 96 ((1 * (Int.toNat (k9))) + 1)) 97 ((1 * (Int.toNat (k9))) + 1)) 98 ((1 * (Int.toNat (k9))) + 1)) 99 ((1 * (Int.toNat (k9))) + 1)) 100 ((1 * (Int.toNat (k9))) + 1)) 101 ((1 * (Int.toNat (k9))) + 1)) 102 ((1 * (Int.toNat (k9))) + 1)) 104 (5 * (Int.toNat (k9)) + (Int.toNat (k113)))) (hA h) h114 → FM h h114 → ZE [96, 97, 98, 99, 100, 101, 102, 103, 104, 105, 106] [27] h h114 → BBR (hA h) (c).toNat ((Int.toNat (k9)) + 1) h114 → (5 - k113).toNat = m120 → av_wp none cd_162 148 [some (.inr (.inr (.inl (some (77))))), some (.inl c), some (.inl k9), some (.inl (((12) * c) + k9)), some (.inl k113)] [] h114 Q := by
            intro m120
            induction m120 using Nat.strongRecOn with
            | _ m120 I122 =>
              intro k113 h114 g124 Y115 B117 F116 Z118 B119 e123
              refine av_wp_seq 2 (pc' := 151) (lv' := [some (.inr (.inr (.inl (some (77))))), some (.inl c), some (.inl k9), some (.inl (((12) * c) + k9)), some (.inl k113)]) (st' := [.inl (5), .inl k113]) (h' := h114) rfl ?_
              refine wq_k2 (p' := 154) rfl rfl ⟨by omega, by omega⟩ ⟨by omega, by omega⟩ (fun c125 => ?_) (fun c126 => ?_)
              · have c125 : (5) ≤ k113 := c125
                refine av_wp_seq 2 (pc' := 185) (lv' := [some (.inr (.inr (.inl (some (77))))), some (.inl c), some (.inl k9), some (.inl (((12) * c) + k9)), some (.inl (0))]) (st' := []) (h' := h114) rfl ?_
                have L135 : ∀ (m134 : Nat) (k127 : Int) (h128 : av_H), (0 ≤ k127 ∧ k127 ≤ 3) → IMY v1 (Int.toNat (k9)) v34 v71 h128 → BC (c).toNat (av_u1 (av_u1 (av_u1 (av_u1 (av_u1 (av_u1 (av_u1 (av_u1 (av_u1 (av_u1 (fun a => bmul a * (Int.toNat (k9))) 96 ((1 * (Int.toNat (k9))) + 1)) 97 ((1 * (Int.toNat (k9))) + 1)) 98 ((1 * (Int.toNat (k9))) + 1)) 99 ((1 * (Int.toNat (k9))) + 1)) 100 ((1 * (Int.toNat (k9))) + 1)) 101 ((1 * (Int.toNat (k9))) + 1)) 102 ((1 * (Int.toNat (k9))) + 1)) 104 (5 * (Int.toNat (k9)) + (Int.toNat (k113)))) 105 (3 * (Int.toNat (k9)) + (Int.toNat (k127)))) 106 (3 * (Int.toNat (k9)) + (Int.toNat (k127)))) (hA h) h128 → FM h h128 → ZE [96, 97, 98, 99, 100, 101, 102, 103, 104, 105, 106] [27] h h128 → BBR (hA h) (c).toNat ((Int.toNat (k9)) + 1) h128 → (3 - k127).toNat = m134 → av_wp none cd_162 185 [some (.inr (.inr (.inl (some (77))))), some (.inl c), some (.inl k9), some (.inl (((12) * c) + k9)), some (.inl k127)] [] h128 Q := by
                  intro m134
                  induction m134 using Nat.strongRecOn with
                  | _ m134 I136 =>
                    intro k127 h128 g138 Y129 B131 F130 Z132 B133 e137
                    refine av_wp_seq 2 (pc' := 188) (lv' := [some (.inr (.inr (.inl (some (77))))), some (.inl c), some (.inl k9), some (.inl (((12) * c) + k9)), some (.inl k127)]) (st' := [.inl (3), .inl k127]) (h' := h128) rfl ?_
                    refine wq_k2 (p' := 191) rfl rfl ⟨by omega, by omega⟩ ⟨by omega, by omega⟩ (fun c139 => ?_) (fun c140 => ?_)
                    · have c139 : (3) ≤ k127 := c139
                      have r143 := I.1.2.1.2.2.2.2.2 (c).toNat (Int.toNat (k9)) (by omega) (by omega)
                      rw [show 12 * (c).toNat + (Int.toNat (k9)) = (Int.toNat ((((12) * c) + k9))) by omega, u37, u74] at r143
                      have e142 := Y129.2.1
                      have I141 := IM_of Y129 (fun z => by have := r143 z; omega)
                      have B144 : BC (c).toNat (fun a => bmul a * (k9 + (1)).toNat) (hA h) h128 := BC_le B131 (fun a h1 h2 => by
                        rcases (show a = 96 ∨ a = 97 ∨ a = 98 ∨ a = 99 ∨ a = 100 ∨ a = 101 ∨ a = 102 ∨ a = 103 ∨ a = 104 ∨ a = 105 ∨ a = 106 by omega) with z | z | z | z | z | z | z | z | z | z | z
                        · subst z; show 1 * (k9 + (1)).toNat ≤ 1 * (Int.toNat (k9)) + 1; omega
                        · subst z; show 1 * (k9 + (1)).toNat ≤ 1 * (Int.toNat (k9)) + 1; omega
                        · subst z; show 1 * (k9 + (1)).toNat ≤ 1 * (Int.toNat (k9)) + 1; omega
                        · subst z; show 1 * (k9 + (1)).toNat ≤ 1 * (Int.toNat (k9)) + 1; omega
                        · subst z; show 1 * (k9 + (1)).toNat ≤ 1 * (Int.toNat (k9)) + 1; omega
                        · subst z; show 1 * (k9 + (1)).toNat ≤ 1 * (Int.toNat (k9)) + 1; omega
                        · subst z; show 1 * (k9 + (1)).toNat ≤ 1 * (Int.toNat (k9)) + 1; omega
                        · subst z; show 0 * (k9 + (1)).toNat ≤ 0 * (Int.toNat (k9)); omega
                        · subst z; show 5 * (k9 + (1)).toNat ≤ 5 * (Int.toNat (k9)) + (Int.toNat (k113)); omega
                        · subst z; show 3 * (k9 + (1)).toNat ≤ 3 * (Int.toNat (k9)) + (Int.toNat (k127)); omega
                        · subst z; show 3 * (k9 + (1)).toNat ≤ 3 * (Int.toNat (k9)) + (Int.toNat (k127)); omega)
                      refine av_wp_seq 2 (pc' := 12) (lv' := [some (.inr (.inr (.inl (some (77))))), some (.inl c), some (.inl (k9 + (1))), some (.inl (((12) * c) + k9)), some (.inl k127)]) (st' := []) (h' := h128) rfl ?_
                      exact I21 _ (by omega) ((k9 + (1))) (some (.inl (((12) * c) + k9))) (some (.inl k127)) h128 rfl rfl (by omega) (by omega) I141 e142 B144 F130 Z132 (BBR_e B133 (by omega)) rfl
                    · have c140 : k127 < (3) := c140
                      refine av_wp_seq 1 (pc' := 192) (lv' := [some (.inr (.inr (.inl (some (77))))), some (.inl c), some (.inl k9), some (.inl (((12) * c) + k9)), some (.inl k127)]) (st' := [.inr (.inr (.inl (some (77))))]) (h' := h128) rfl ?_
                      refine wq_gr (p' := 195) rfl rfl (congrArg Prod.fst (ly_k Y129.1.1 77 rfl)) rfl (ly_g Y129.1.1 77 39 105 rfl) ?_
                      refine av_wp_seq 6 (pc' := 202) (lv' := [some (.inr (.inr (.inl (some (77))))), some (.inl c), some (.inl k9), some (.inl (((12) * c) + k9)), some (.inl k127)]) (st' := [.inr (.inr (.inl (some (77)))), .inl (((3) * k9) + k127), .inr (.inr (.inl (some (105))))]) (h' := h128) rfl ?_
                      refine wq_gr (p' := 205) rfl rfl (congrArg Prod.fst (ly_k Y129.1.1 77 rfl)) rfl (ly_g Y129.1.1 77 13 91 rfl) ?_
                      refine av_wp_seq 5 (pc' := 211) (lv' := [some (.inr (.inr (.inl (some (77))))), some (.inl c), some (.inl k9), some (.inl (((12) * c) + k9)), some (.inl k127)]) (st' := [.inl (((3) * (((12) * c) + k9)) + k127), .inr (.inr (.inl (some (91)))), .inl (((3) * k9) + k127), .inr (.inr (.inl (some (105))))]) (h' := h128) rfl ?_
                      obtain ⟨v145, e146⟩ : ∃ v, hA h128 91 (Int.toNat ((((3) * (((12) * c) + k9)) + k127))) = v := ⟨_, rfl⟩
                      have g147 : 0 ≤ hA h128 91 (Int.toNat ((((3) * (((12) * c) + k9)) + k127))) ∧ hA h128 91 (Int.toNat ((((3) * (((12) * c) + k9)) + k127))) ≤ 1999 := im_m Y129.1 91 (by decide) (by decide) _
                      rw [e146] at g147
                      refine wq_al (p' := 212) (n := 2880) rfl rfl (ly_k Y129.1.1 91 rfl) (by omega) (e146) ?_
                      refine wq_as (p' := 213) (n := 36) rfl rfl (ly_k Y129.1.1 105 rfl) (by omega) ?_
                      have Y149 := IMY_w (a := 105) (j := (Int.toNat ((((3) * k9) + k127)))) (v := v145) Y129 (by omega) (show (0 : Int) ≤ v145 ∧ v145 ≤ (1999 : Int) by omega) (fun z => by omega)
                      have Y149 : IMY v1 (Int.toNat (k9)) v34 v71 (hwA h128 105 (Int.toNat ((((3) * k9) + k127))) v145) := Y149
                      have F150 := FM_wA (a := 105) (j := (Int.toNat ((((3) * k9) + k127)))) (v := v145) F130 rfl
                      have B151 := BC_w (a := 105) (j := (Int.toNat ((((3) * k9) + k127)))) (v := v145) B131 (show (Int.toNat ((((3) * k9) + k127))) = (3 * (Int.toNat (k9)) + (Int.toNat (k127))) by omega) (by show hA h 91 (3 * (12 * (c).toNat) + (3 * (Int.toNat (k9)) + (Int.toNat (k127)))) = _; rw [show 3 * (12 * (c).toNat) + (3 * (Int.toNat (k9)) + (Int.toNat (k127))) = (Int.toNat ((((3) * (((12) * c) + k9)) + k127))) by omega, ← F130.2.2.2.2.2.2 91 rfl]; exact e146)
                      have B151 : BC (c).toNat (av_u1 (av_u1 (av_u1 (av_u1 (av_u1 (av_u1 (av_u1 (av_u1 (av_u1 (av_u1 (av_u1 (fun a => bmul a * (Int.toNat (k9))) 96 ((1 * (Int.toNat (k9))) + 1)) 97 ((1 * (Int.toNat (k9))) + 1)) 98 ((1 * (Int.toNat (k9))) + 1)) 99 ((1 * (Int.toNat (k9))) + 1)) 100 ((1 * (Int.toNat (k9))) + 1)) 101 ((1 * (Int.toNat (k9))) + 1)) 102 ((1 * (Int.toNat (k9))) + 1)) 104 (5 * (Int.toNat (k9)) + (Int.toNat (k113)))) 105 (3 * (Int.toNat (k9)) + (Int.toNat (k127)))) 106 (3 * (Int.toNat (k9)) + (Int.toNat (k127)))) 105 ((3 * (Int.toNat (k9)) + (Int.toNat (k127))) + 1)) (hA h) (hwA h128 105 (Int.toNat ((((3) * k9) + k127))) v145) := B151
                      have Z152 := ZE_a (q := 105) (i := (Int.toNat ((((3) * k9) + k127)))) (v := v145) Z132 rfl rfl
                      have B153 := BBR_n (q := 105) (j := (Int.toNat ((((3) * k9) + k127)))) (v := v145) B133 (by decide)
                      generalize hwA h128 105 (Int.toNat ((((3) * k9) + k127))) v145 = h148 at Y149 F150 B151 Z152 B153 ⊢
                      refine av_wp_seq 1 (pc' := 214) (lv' := [some (.inr (.inr (.inl (some (77))))), some (.inl c), some (.inl k9), some (.inl (((12) * c) + k9)), some (.inl k127)]) (st' := [.inr (.inr (.inl (some (77))))]) (h' := h148) rfl ?_
                      refine wq_gr (p' := 217) rfl rfl (congrArg Prod.fst (ly_k Y149.1.1 77 rfl)) rfl (ly_g Y149.1.1 77 40 106 rfl) ?_
                      refine av_wp_seq 6 (pc' := 224) (lv' := [some (.inr (.inr (.inl (some (77))))), some (.inl c), some (.inl k9), some (.inl (((12) * c) + k9)), some (.inl k127)]) (st' := [.inr (.inr (.inl (some (77)))), .inl (((3) * k9) + k127), .inr (.inr (.inl (some (106))))]) (h' := h148) rfl ?_
                      refine wq_gr (p' := 227) rfl rfl (congrArg Prod.fst (ly_k Y149.1.1 77 rfl)) rfl (ly_g Y149.1.1 77 14 92 rfl) ?_
                      refine av_wp_seq 5 (pc' := 233) (lv' := [some (.inr (.inr (.inl (some (77))))), some (.inl c), some (.inl k9), some (.inl (((12) * c) + k9)), some (.inl k127)]) (st' := [.inl (((3) * (((12) * c) + k9)) + k127), .inr (.inr (.inl (some (92)))), .inl (((3) * k9) + k127), .inr (.inr (.inl (some (106))))]) (h' := h148) rfl ?_
                      obtain ⟨v154, e155⟩ : ∃ v, hA h148 92 (Int.toNat ((((3) * (((12) * c) + k9)) + k127))) = v := ⟨_, rfl⟩
                      have g156 : 0 ≤ hA h148 92 (Int.toNat ((((3) * (((12) * c) + k9)) + k127))) ∧ hA h148 92 (Int.toNat ((((3) * (((12) * c) + k9)) + k127))) ≤ 1999 := im_m Y149.1 92 (by decide) (by decide) _
                      rw [e155] at g156
                      refine wq_al (p' := 234) (n := 2880) rfl rfl (ly_k Y149.1.1 92 rfl) (by omega) (e155) ?_
                      refine wq_as (p' := 235) (n := 36) rfl rfl (ly_k Y149.1.1 106 rfl) (by omega) ?_
                      have Y158 := IMY_w (a := 106) (j := (Int.toNat ((((3) * k9) + k127)))) (v := v154) Y149 (by omega) (show (0 : Int) ≤ v154 ∧ v154 ≤ (1999 : Int) by omega) (fun z => by omega)
                      have Y158 : IMY v1 (Int.toNat (k9)) v34 v71 (hwA h148 106 (Int.toNat ((((3) * k9) + k127))) v154) := Y158
                      have F159 := FM_wA (a := 106) (j := (Int.toNat ((((3) * k9) + k127)))) (v := v154) F150 rfl
                      have B160 := BC_w (a := 106) (j := (Int.toNat ((((3) * k9) + k127)))) (v := v154) B151 (show (Int.toNat ((((3) * k9) + k127))) = (3 * (Int.toNat (k9)) + (Int.toNat (k127))) by omega) (by show hA h 92 (3 * (12 * (c).toNat) + (3 * (Int.toNat (k9)) + (Int.toNat (k127)))) = _; rw [show 3 * (12 * (c).toNat) + (3 * (Int.toNat (k9)) + (Int.toNat (k127))) = (Int.toNat ((((3) * (((12) * c) + k9)) + k127))) by omega, ← F150.2.2.2.2.2.2 92 rfl]; exact e155)
                      have B160 : BC (c).toNat (av_u1 (av_u1 (av_u1 (av_u1 (av_u1 (av_u1 (av_u1 (av_u1 (av_u1 (av_u1 (av_u1 (av_u1 (fun a => bmul a * (Int.toNat (k9))) 96 ((1 * (Int.toNat (k9))) + 1)) 97 ((1 * (Int.toNat (k9))) + 1)) 98 ((1 * (Int.toNat (k9))) + 1)) 99 ((1 * (Int.toNat (k9))) + 1)) 100 ((1 * (Int.toNat (k9))) + 1)) 101 ((1 * (Int.toNat (k9))) + 1)) 102 ((1 * (Int.toNat (k9))) + 1)) 104 (5 * (Int.toNat (k9)) + (Int.toNat (k113)))) 105 (3 * (Int.toNat (k9)) + (Int.toNat (k127)))) 106 (3 * (Int.toNat (k9)) + (Int.toNat (k127)))) 105 ((3 * (Int.toNat (k9)) + (Int.toNat (k127))) + 1)) 106 ((3 * (Int.toNat (k9)) + (Int.toNat (k127))) + 1)) (hA h) (hwA h148 106 (Int.toNat ((((3) * k9) + k127))) v154) := B160
                      have Z161 := ZE_a (q := 106) (i := (Int.toNat ((((3) * k9) + k127)))) (v := v154) Z152 rfl rfl
                      have B162 := BBR_n (q := 106) (j := (Int.toNat ((((3) * k9) + k127)))) (v := v154) B153 (by decide)
                      generalize hwA h148 106 (Int.toNat ((((3) * k9) + k127))) v154 = h157 at Y158 F159 B160 Z161 B162 ⊢
                      refine av_wp_seq 2 (pc' := 185) (lv' := [some (.inr (.inr (.inl (some (77))))), some (.inl c), some (.inl k9), some (.inl (((12) * c) + k9)), some (.inl (k127 + (1)))]) (st' := []) (h' := h157) rfl ?_
                      exact I136 _ (by omega) ((k127 + (1))) h157 (by omega) Y158 (BC_le B160 (fun a _ _ => if z : a = 106 then (by subst z; show 3 * (Int.toNat (k9)) + (Int.toNat ((k127 + (1)))) ≤ (3 * (Int.toNat (k9)) + (Int.toNat (k127))) + 1; omega) else if y : a = 105 then (by subst y; show 3 * (Int.toNat (k9)) + (Int.toNat ((k127 + (1)))) ≤ (3 * (Int.toNat (k9)) + (Int.toNat (k127))) + 1; omega) else (by simp only [av_u1, if_neg z, if_neg y, Nat.le_refl]))) F159 Z161 (BBR_e B162 (by omega)) rfl
                exact L135 _ ((0)) h114 (by omega) Y115 (BC_le B117 (fun a _ _ => if z : a = 106 then (by subst z; show 3 * (Int.toNat (k9)) + (Int.toNat ((0))) ≤ 3 * (Int.toNat (k9)); omega) else if y : a = 105 then (by subst y; show 3 * (Int.toNat (k9)) + (Int.toNat ((0))) ≤ 3 * (Int.toNat (k9)); omega) else (by simp only [av_u1, if_neg z, if_neg y, Nat.le_refl]))) F116 Z118 (BBR_e B119 (by omega)) rfl
              · have c126 : k113 < (5) := c126
                refine av_wp_seq 1 (pc' := 155) (lv' := [some (.inr (.inr (.inl (some (77))))), some (.inl c), some (.inl k9), some (.inl (((12) * c) + k9)), some (.inl k113)]) (st' := [.inr (.inr (.inl (some (77))))]) (h' := h114) rfl ?_
                refine wq_gr (p' := 158) rfl rfl (congrArg Prod.fst (ly_k Y115.1.1 77 rfl)) rfl (ly_g Y115.1.1 77 38 104 rfl) ?_
                refine av_wp_seq 6 (pc' := 165) (lv' := [some (.inr (.inr (.inl (some (77))))), some (.inl c), some (.inl k9), some (.inl (((12) * c) + k9)), some (.inl k113)]) (st' := [.inr (.inr (.inl (some (77)))), .inl (((5) * k9) + k113), .inr (.inr (.inl (some (104))))]) (h' := h114) rfl ?_
                refine wq_gr (p' := 168) rfl rfl (congrArg Prod.fst (ly_k Y115.1.1 77 rfl)) rfl (ly_g Y115.1.1 77 12 90 rfl) ?_
                refine av_wp_seq 5 (pc' := 174) (lv' := [some (.inr (.inr (.inl (some (77))))), some (.inl c), some (.inl k9), some (.inl (((12) * c) + k9)), some (.inl k113)]) (st' := [.inl (((5) * (((12) * c) + k9)) + k113), .inr (.inr (.inl (some (90)))), .inl (((5) * k9) + k113), .inr (.inr (.inl (some (104))))]) (h' := h114) rfl ?_
                obtain ⟨v163, e164⟩ : ∃ v, hA h114 90 (Int.toNat ((((5) * (((12) * c) + k9)) + k113))) = v := ⟨_, rfl⟩
                have g165 : -1 ≤ hA h114 90 (Int.toNat ((((5) * (((12) * c) + k9)) + k113))) ∧ hA h114 90 (Int.toNat ((((5) * (((12) * c) + k9)) + k113))) ≤ 999 := im_m Y115.1 90 (by decide) (by decide) _
                rw [e164] at g165
                refine wq_al (p' := 175) (n := 4800) rfl rfl (ly_k Y115.1.1 90 rfl) (by omega) (e164) ?_
                refine wq_as (p' := 176) (n := 60) rfl rfl (ly_k Y115.1.1 104 rfl) (by omega) ?_
                have Y167 := IMY_w (a := 104) (j := (Int.toNat ((((5) * k9) + k113)))) (v := v163) Y115 (by omega) (show (-1 : Int) ≤ v163 ∧ v163 ≤ (999 : Int) by omega) (fun z => by omega)
                have Y167 : IMY v1 (Int.toNat (k9)) v34 v71 (hwA h114 104 (Int.toNat ((((5) * k9) + k113))) v163) := Y167
                have F168 := FM_wA (a := 104) (j := (Int.toNat ((((5) * k9) + k113)))) (v := v163) F116 rfl
                have B169 := BC_w (a := 104) (j := (Int.toNat ((((5) * k9) + k113)))) (v := v163) B117 (show (Int.toNat ((((5) * k9) + k113))) = (5 * (Int.toNat (k9)) + (Int.toNat (k113))) by omega) (by show hA h 90 (5 * (12 * (c).toNat) + (5 * (Int.toNat (k9)) + (Int.toNat (k113)))) = _; rw [show 5 * (12 * (c).toNat) + (5 * (Int.toNat (k9)) + (Int.toNat (k113))) = (Int.toNat ((((5) * (((12) * c) + k9)) + k113))) by omega, ← F116.2.2.2.2.2.2 90 rfl]; exact e164)
                have B169 : BC (c).toNat (av_u1 (av_u1 (av_u1 (av_u1 (av_u1 (av_u1 (av_u1 (av_u1 (av_u1 (fun a => bmul a * (Int.toNat (k9))) 96 ((1 * (Int.toNat (k9))) + 1)) 97 ((1 * (Int.toNat (k9))) + 1)) 98 ((1 * (Int.toNat (k9))) + 1)) 99 ((1 * (Int.toNat (k9))) + 1)) 100 ((1 * (Int.toNat (k9))) + 1)) 101 ((1 * (Int.toNat (k9))) + 1)) 102 ((1 * (Int.toNat (k9))) + 1)) 104 (5 * (Int.toNat (k9)) + (Int.toNat (k113)))) 104 ((5 * (Int.toNat (k9)) + (Int.toNat (k113))) + 1)) (hA h) (hwA h114 104 (Int.toNat ((((5) * k9) + k113))) v163) := B169
                have Z170 := ZE_a (q := 104) (i := (Int.toNat ((((5) * k9) + k113)))) (v := v163) Z118 rfl rfl
                have B171 := BBR_n (q := 104) (j := (Int.toNat ((((5) * k9) + k113)))) (v := v163) B119 (by decide)
                generalize hwA h114 104 (Int.toNat ((((5) * k9) + k113))) v163 = h166 at Y167 F168 B169 Z170 B171 ⊢
                refine av_wp_seq 2 (pc' := 148) (lv' := [some (.inr (.inr (.inl (some (77))))), some (.inl c), some (.inl k9), some (.inl (((12) * c) + k9)), some (.inl (k113 + (1)))]) (st' := []) (h' := h166) rfl ?_
                exact I122 _ (by omega) ((k113 + (1))) h166 (by omega) Y167 (BC_le B169 (fun a _ _ => if z : a = 104 then (by subst z; show 5 * (Int.toNat (k9)) + (Int.toNat ((k113 + (1)))) ≤ (5 * (Int.toNat (k9)) + (Int.toNat (k113))) + 1; omega) else (by simp only [av_u1, if_neg z, Nat.le_refl]))) F168 Z170 (BBR_e B171 (by omega)) rfl
          exact L121 _ ((0)) h107 (by omega) Y108 (BC_le B110 (fun a _ _ => if z : a = 104 then (by subst z; show 5 * (Int.toNat (k9)) + (Int.toNat ((0))) ≤ 5 * (Int.toNat (k9)); omega) else (by simp only [av_u1, if_neg z, Nat.le_refl]))) F109 Z111 (BBR_e B112 (by omega)) rfl
        refine wq_k1 (p' := 125) rfl rfl ⟨by omega, by omega⟩ (fun c172 => ?_) (fun c173 => ?_)
        · have c172 : v99 < (0) := c172
          refine av_wp_seq 1 (pc' := 144) (lv' := [some (.inr (.inr (.inl (some (77))))), some (.inl c), some (.inl k9), some (.inl (((12) * c) + k9)), a11]) (st' := [.inl (0), .inl k9, .inr (.inr (.inl (some (103))))]) (h' := h93) rfl ?_
          exact J106 ((0)) (by omega) (by unfold bbr; rw [y102]; split <;> omega)
        · have c173 : (0) ≤ v99 := c173
          refine av_wp_seq 1 (pc' := 126) (lv' := [some (.inr (.inr (.inl (some (77))))), some (.inl c), some (.inl k9), some (.inl (((12) * c) + k9)), a11]) (st' := [.inr (.inr (.inl (some (77)))), .inl k9, .inr (.inr (.inl (some (103))))]) (h' := h93) rfl ?_
          refine wq_gr (p' := 129) rfl rfl (congrArg Prod.fst (ly_k Y94.1.1 77 rfl)) rfl (ly_g Y94.1.1 77 54 116 rfl) ?_
          refine av_wp_seq 1 (pc' := 130) (lv' := [some (.inr (.inr (.inl (some (77))))), some (.inl c), some (.inl k9), some (.inl (((12) * c) + k9)), a11]) (st' := [.inr (.inr (.inl (some (77)))), .inr (.inr (.inl (some (116)))), .inl k9, .inr (.inr (.inl (some (103))))]) (h' := h93) rfl ?_
          refine wq_gr (p' := 133) rfl rfl (congrArg Prod.fst (ly_k Y94.1.1 77 rfl)) rfl (ly_g Y94.1.1 77 10 88 rfl) ?_
          refine av_wp_seq 1 (pc' := 134) (lv' := [some (.inr (.inr (.inl (some (77))))), some (.inl c), some (.inl k9), some (.inl (((12) * c) + k9)), a11]) (st' := [.inl (((12) * c) + k9), .inr (.inr (.inl (some (88)))), .inr (.inr (.inl (some (116)))), .inl k9, .inr (.inr (.inl (some (103))))]) (h' := h93) rfl ?_
          obtain ⟨v174, e175⟩ : ∃ v, hA h93 88 (Int.toNat ((((12) * c) + k9))) = v := ⟨_, rfl⟩
          have g176 : -1 ≤ hA h93 88 (Int.toNat ((((12) * c) + k9))) ∧ hA h93 88 (Int.toNat ((((12) * c) + k9))) ≤ 15 := im_m Y94.1 88 (by decide) (by decide) _
          rw [e175] at g176
          have y177 : v174 = v99 := e175.symm.trans e100
          refine wq_al (p' := 135) (n := 960) rfl rfl (ly_k Y94.1.1 88 rfl) (by omega) (e175) ?_
          obtain ⟨v178, e179⟩ : ∃ v, hA h93 116 (Int.toNat (v174)) = v := ⟨_, rfl⟩
          have y181 : hA h 116 (Int.toNat (v99)) = v178 := by rw [← y177, ← Z97.1 116 rfl]; exact e179
          have g182 := SB (Int.toNat (k9)) (by rw [e2]; omega) (by rw [y102]; omega)
          rw [y102, y181] at g182
          refine wq_bl (p' := 136) (n := 16) rfl rfl ((Or.inr (ly_k Y94.1.1 116 rfl))) (by omega) (e179) ?_
          refine wq_k1 (p' := 139) rfl rfl ⟨by omega, by omega⟩ (fun c183 => ?_) (fun c184 => ?_)
          · have c183 : v178 ≠ (0) := c183
            refine av_wp_seq 1 (pc' := 144) (lv' := [some (.inr (.inr (.inl (some (77))))), some (.inl c), some (.inl k9), some (.inl (((12) * c) + k9)), a11]) (st' := [.inl (0), .inl k9, .inr (.inr (.inl (some (103))))]) (h' := h93) rfl ?_
            exact J106 ((0)) (by omega) (by unfold bbr; rw [y102, y181]; split <;> omega)
          · have c184 : v178 = (0) := c184
            refine av_wp_seq 2 (pc' := 144) (lv' := [some (.inr (.inr (.inl (some (77))))), some (.inl c), some (.inl k9), some (.inl (((12) * c) + k9)), a11]) (st' := [.inl (1), .inl k9, .inr (.inr (.inl (some (103))))]) (h' := h93) rfl ?_
            exact J106 ((1)) (by omega) (by unfold bbr; rw [y102, y181]; split <;> omega)
  exact L20 _ ((0)) (none) (none) h7 rfl rfl (by omega) (by omega) I4 e6 B8 F5 ZB0 (BBR_e BBR_0 (by omega)) rfl

