section
/-! THE CLASS'S READER OF LAWS, exactly -/
set_option maxRecDepth 100000 in
set_option maxHeartbeats 4000000 in
theorem ct_67 {g h : av_H} {b r d : Nat → Int} {lim : Nat} {t : TT} (C : CT b lim t r d h) (F : FT g h)  {Q : Option av_V → av_H → Prop} (hq : ∀ h', CT b lim (rlY b lim t d).1 r (rlY b lim t d).2 h' → FT g h' → Q none h') : av_wp none cd_67 0 [some (.inr (.inr (.inl (some (24))))), none, none, none] [] h Q := by
  have g0 := ct_wf C
  refine av_wp_sqF ck_67 1 (pc' := 1) (lv' := [some (.inr (.inr (.inl (some (24))))), none, none, none]) (st' := [.inr (.inr (.inl (some (24))))]) (h' := h) rfl ?_
  refine wq_gr (p' := 4) (ck_67 _ _ rfl) rfl (congrArg Prod.fst (ly_k C.1 24 rfl)) rfl (ly_g C.1 24 0 1 rfl) ?_
  refine av_wp_sqF ck_67 1 (pc' := 6) (lv' := [some (.inr (.inr (.inl (some (24))))), none, none, none]) (st' := [.inr (.inr (.inr 13)), .inr (.inr (.inl (some (1))))]) (h' := h) rfl ?_
  refine wq_cv (p' := 9) (av_qc (.invokevirtual 43) 87 1 0 6) 3 cd_87 [.inr (.inr (.inr 13))] (1) 6 [some (.inr (.inr (.inl (some (1))))), some (.inr (.inr (.inr 13))), none] (ck_67 _ _ rfl) rfl rfl pp_87 rfl rfl rfl (congrArg Prod.fst (ly_k C.1 1 rfl)) rfl rfl rfl rfl ?_
  refine ct_87 C F 13 (by decide) (fun v1 h3 p2 C4 F5 => ?_)
  have g6 := pkv_le (b := b) (t := t) 13 3 rfl
  have q7 := p2.1.symm
  have p2 := p2.2
  generalize q9 : cho b lim t 13 = t8 at C4
  have g10 := ct_wf C4
  show av_wp _ cd_67 9 [some (.inr (.inr (.inl (some (24))))), none, none, none] [.inl v1] h3 _
  refine av_wp_sqF ck_67 2 (pc' := 11) (lv' := [some (.inr (.inr (.inl (some (24))))), some (.inl v1), none, none]) (st' := [.inr (.inr (.inl (some (24))))]) (h' := h3) rfl ?_
  refine wq_gr (p' := 14) (ck_67 _ _ rfl) rfl (congrArg Prod.fst (ly_k C4.1 24 rfl)) rfl (ly_g C4.1 24 0 1 rfl) ?_
  refine av_wp_sqF ck_67 1 (pc' := 16) (lv' := [some (.inr (.inr (.inl (some (24))))), some (.inl v1), none, none]) (st' := [.inr (.inr (.inr 14)), .inr (.inr (.inl (some (1))))]) (h' := h3) rfl ?_
  refine wq_cv (p' := 19) (av_qc (.invokevirtual 43) 87 1 0 6) 3 cd_87 [.inr (.inr (.inr 14))] (1) 6 [some (.inr (.inr (.inl (some (1))))), some (.inr (.inr (.inr 14))), none] (ck_67 _ _ rfl) rfl rfl pp_87 rfl rfl rfl (congrArg Prod.fst (ly_k C4.1 1 rfl)) rfl rfl rfl rfl ?_
  refine ct_87 C4 F5 14 (by decide) (fun v11 h13 p12 C14 F15 => ?_)
  have g16 := pkv_le (b := b) (t := t8) 14 2 rfl
  have q17 := p12.1.symm
  have p12 := p12.2
  generalize q19 : cho b lim t8 14 = t18 at C14
  have g20 := ct_wf C14
  show av_wp _ cd_67 19 [some (.inr (.inr (.inl (some (24))))), some (.inl v1), none, none] [.inl v11] h13 _
  refine av_wp_sqF ck_67 8 (pc' := 29) (lv' := [some (.inr (.inr (.inl (some (24))))), some (.inl v1), some (.inl v11), some (.inl (0))]) (st' := [.inl (0), .inl v1]) (h' := h13) rfl ?_
  refine wq_k2 (p' := 32) (ck_67 _ _ rfl) rfl ⟨by omega, by omega⟩ ⟨by omega, by omega⟩ (fun c21 => ?_) (fun c22 => ?_)
  · have c21 : v1 = (0) := c21
    refine av_wp_sqF ck_67 1 (pc' := 38) (lv' := [some (.inr (.inr (.inl (some (24))))), some (.inl v1), some (.inl v11), some (.inl (0))]) (st' := [.inr (.inr (.inl (some (24))))]) (h' := h13) rfl ?_
    refine wq_gr (p' := 41) (ck_67 _ _ rfl) rfl (congrArg Prod.fst (ly_k C14.1 24 rfl)) rfl (ly_g C14.1 24 1 25 rfl) ?_
    refine av_wp_sqF ck_67 2 (pc' := 43) (lv' := [some (.inr (.inr (.inl (some (24))))), some (.inl v1), some (.inl v11), some (.inl (0))]) (st' := [.inl v11, .inl (0), .inr (.inr (.inl (some (25))))]) (h' := h13) rfl ?_
    refine ct_ds (p' := 44) rfl rfl C14 F15 0 (by omega) (by omega) (by omega) (fun h23 C24 F25 => ?_)
    refine av_wp_sqF ck_67 7 (pc' := 29) (lv' := [some (.inr (.inr (.inl (some (24))))), some (.inl v1), some (.inl v11), some (.inl (1))]) (st' := [.inl (1), .inl v1]) (h' := h23) rfl ?_
    refine wq_k2 (p' := 32) (ck_67 _ _ rfl) rfl ⟨by omega, by omega⟩ ⟨by omega, by omega⟩ (fun c26 => ?_) (fun c27 => ?_)
    · have c26 : v1 = (1) := c26
      exfalso; omega
    · have c27 : v1 ≠ (1) := c27
      refine av_wp_sqF ck_67 2 (pc' := 34) (lv' := [some (.inr (.inr (.inl (some (24))))), some (.inl v1), some (.inl v11), some (.inl (1))]) (st' := [.inl (3), .inl v1]) (h' := h23) rfl ?_
      refine wq_k2 (p' := 37) (ck_67 _ _ rfl) rfl ⟨by omega, by omega⟩ ⟨by omega, by omega⟩ (fun c28 => ?_) (fun c29 => ?_)
      · have c28 : v1 ≠ (3) := c28
        refine av_wp_sqF ck_67 7 (pc' := 29) (lv' := [some (.inr (.inr (.inl (some (24))))), some (.inl v1), some (.inl v11), some (.inl (2))]) (st' := [.inl (2), .inl v1]) (h' := h23) rfl ?_
        refine wq_k2 (p' := 32) (ck_67 _ _ rfl) rfl ⟨by omega, by omega⟩ ⟨by omega, by omega⟩ (fun c30 => ?_) (fun c31 => ?_)
        · have c30 : v1 = (2) := c30
          exfalso; omega
        · have c31 : v1 ≠ (2) := c31
          refine av_wp_sqF ck_67 2 (pc' := 34) (lv' := [some (.inr (.inr (.inl (some (24))))), some (.inl v1), some (.inl v11), some (.inl (2))]) (st' := [.inl (3), .inl v1]) (h' := h23) rfl ?_
          refine wq_k2 (p' := 37) (ck_67 _ _ rfl) rfl ⟨by omega, by omega⟩ ⟨by omega, by omega⟩ (fun c32 => ?_) (fun c33 => ?_)
          · have c32 : v1 ≠ (3) := c32
            refine av_wp_sqF ck_67 5 (pc' := 50) (lv' := [some (.inr (.inr (.inl (some (24))))), some (.inl v1), some (.inl v11), some (.inl (3))]) (st' := []) (h' := h23) rfl ?_
            refine av_wp_ret (v := none) (ck_67 _ _ rfl) rfl rfl ?_
            exact hq h23 (by simp only [rlY, rlY1, rlY2, rlY3, q7, q9, q17, q19, if_pos c21, if_neg c27, if_neg c28, if_neg c31, if_neg c32, if_pos (show v1 = 0 ∨ v1 = 3 by omega), if_neg (show ¬ (v1 = 1 ∨ v1 = 3) by omega), if_neg (show ¬ (v1 = 2 ∨ v1 = 3) by omega)]; exact C24) F25
          · have c33 : v1 = (3) := c33
            exfalso; omega
      · have c29 : v1 = (3) := c29
        exfalso; omega
  · have c22 : v1 ≠ (0) := c22
    refine av_wp_sqF ck_67 2 (pc' := 34) (lv' := [some (.inr (.inr (.inl (some (24))))), some (.inl v1), some (.inl v11), some (.inl (0))]) (st' := [.inl (3), .inl v1]) (h' := h13) rfl ?_
    refine wq_k2 (p' := 37) (ck_67 _ _ rfl) rfl ⟨by omega, by omega⟩ ⟨by omega, by omega⟩ (fun c34 => ?_) (fun c35 => ?_)
    · have c34 : v1 ≠ (3) := c34
      refine av_wp_sqF ck_67 7 (pc' := 29) (lv' := [some (.inr (.inr (.inl (some (24))))), some (.inl v1), some (.inl v11), some (.inl (1))]) (st' := [.inl (1), .inl v1]) (h' := h13) rfl ?_
      refine wq_k2 (p' := 32) (ck_67 _ _ rfl) rfl ⟨by omega, by omega⟩ ⟨by omega, by omega⟩ (fun c36 => ?_) (fun c37 => ?_)
      · have c36 : v1 = (1) := c36
        refine av_wp_sqF ck_67 1 (pc' := 38) (lv' := [some (.inr (.inr (.inl (some (24))))), some (.inl v1), some (.inl v11), some (.inl (1))]) (st' := [.inr (.inr (.inl (some (24))))]) (h' := h13) rfl ?_
        refine wq_gr (p' := 41) (ck_67 _ _ rfl) rfl (congrArg Prod.fst (ly_k C14.1 24 rfl)) rfl (ly_g C14.1 24 1 25 rfl) ?_
        refine av_wp_sqF ck_67 2 (pc' := 43) (lv' := [some (.inr (.inr (.inl (some (24))))), some (.inl v1), some (.inl v11), some (.inl (1))]) (st' := [.inl v11, .inl (1), .inr (.inr (.inl (some (25))))]) (h' := h13) rfl ?_
        refine ct_ds (p' := 44) rfl rfl C14 F15 1 (by omega) (by omega) (by omega) (fun h38 C39 F40 => ?_)
        refine av_wp_sqF ck_67 7 (pc' := 29) (lv' := [some (.inr (.inr (.inl (some (24))))), some (.inl v1), some (.inl v11), some (.inl (2))]) (st' := [.inl (2), .inl v1]) (h' := h38) rfl ?_
        refine wq_k2 (p' := 32) (ck_67 _ _ rfl) rfl ⟨by omega, by omega⟩ ⟨by omega, by omega⟩ (fun c41 => ?_) (fun c42 => ?_)
        · have c41 : v1 = (2) := c41
          exfalso; omega
        · have c42 : v1 ≠ (2) := c42
          refine av_wp_sqF ck_67 2 (pc' := 34) (lv' := [some (.inr (.inr (.inl (some (24))))), some (.inl v1), some (.inl v11), some (.inl (2))]) (st' := [.inl (3), .inl v1]) (h' := h38) rfl ?_
          refine wq_k2 (p' := 37) (ck_67 _ _ rfl) rfl ⟨by omega, by omega⟩ ⟨by omega, by omega⟩ (fun c43 => ?_) (fun c44 => ?_)
          · have c43 : v1 ≠ (3) := c43
            refine av_wp_sqF ck_67 5 (pc' := 50) (lv' := [some (.inr (.inr (.inl (some (24))))), some (.inl v1), some (.inl v11), some (.inl (3))]) (st' := []) (h' := h38) rfl ?_
            refine av_wp_ret (v := none) (ck_67 _ _ rfl) rfl rfl ?_
            exact hq h38 (by simp only [rlY, rlY1, rlY2, rlY3, q7, q9, q17, q19, if_neg c22, if_neg c34, if_pos c36, if_neg c42, if_neg c43, if_neg (show ¬ (v1 = 0 ∨ v1 = 3) by omega), if_pos (show v1 = 1 ∨ v1 = 3 by omega), if_neg (show ¬ (v1 = 2 ∨ v1 = 3) by omega)]; exact C39) F40
          · have c44 : v1 = (3) := c44
            exfalso; omega
      · have c37 : v1 ≠ (1) := c37
        refine av_wp_sqF ck_67 2 (pc' := 34) (lv' := [some (.inr (.inr (.inl (some (24))))), some (.inl v1), some (.inl v11), some (.inl (1))]) (st' := [.inl (3), .inl v1]) (h' := h13) rfl ?_
        refine wq_k2 (p' := 37) (ck_67 _ _ rfl) rfl ⟨by omega, by omega⟩ ⟨by omega, by omega⟩ (fun c45 => ?_) (fun c46 => ?_)
        · have c45 : v1 ≠ (3) := c45
          refine av_wp_sqF ck_67 7 (pc' := 29) (lv' := [some (.inr (.inr (.inl (some (24))))), some (.inl v1), some (.inl v11), some (.inl (2))]) (st' := [.inl (2), .inl v1]) (h' := h13) rfl ?_
          refine wq_k2 (p' := 32) (ck_67 _ _ rfl) rfl ⟨by omega, by omega⟩ ⟨by omega, by omega⟩ (fun c47 => ?_) (fun c48 => ?_)
          · have c47 : v1 = (2) := c47
            refine av_wp_sqF ck_67 1 (pc' := 38) (lv' := [some (.inr (.inr (.inl (some (24))))), some (.inl v1), some (.inl v11), some (.inl (2))]) (st' := [.inr (.inr (.inl (some (24))))]) (h' := h13) rfl ?_
            refine wq_gr (p' := 41) (ck_67 _ _ rfl) rfl (congrArg Prod.fst (ly_k C14.1 24 rfl)) rfl (ly_g C14.1 24 1 25 rfl) ?_
            refine av_wp_sqF ck_67 2 (pc' := 43) (lv' := [some (.inr (.inr (.inl (some (24))))), some (.inl v1), some (.inl v11), some (.inl (2))]) (st' := [.inl v11, .inl (2), .inr (.inr (.inl (some (25))))]) (h' := h13) rfl ?_
            refine ct_ds (p' := 44) rfl rfl C14 F15 2 (by omega) (by omega) (by omega) (fun h49 C50 F51 => ?_)
            refine av_wp_sqF ck_67 5 (pc' := 50) (lv' := [some (.inr (.inr (.inl (some (24))))), some (.inl v1), some (.inl v11), some (.inl (3))]) (st' := []) (h' := h49) rfl ?_
            refine av_wp_ret (v := none) (ck_67 _ _ rfl) rfl rfl ?_
            exact hq h49 (by simp only [rlY, rlY1, rlY2, rlY3, q7, q9, q17, q19, if_neg c22, if_neg c34, if_neg c37, if_neg c45, if_pos c47, if_neg (show ¬ (v1 = 0 ∨ v1 = 3) by omega), if_neg (show ¬ (v1 = 1 ∨ v1 = 3) by omega), if_pos (show v1 = 2 ∨ v1 = 3 by omega)]; exact C50) F51
          · have c48 : v1 ≠ (2) := c48
            refine av_wp_sqF ck_67 2 (pc' := 34) (lv' := [some (.inr (.inr (.inl (some (24))))), some (.inl v1), some (.inl v11), some (.inl (2))]) (st' := [.inl (3), .inl v1]) (h' := h13) rfl ?_
            refine wq_k2 (p' := 37) (ck_67 _ _ rfl) rfl ⟨by omega, by omega⟩ ⟨by omega, by omega⟩ (fun c52 => ?_) (fun c53 => ?_)
            · have c52 : v1 ≠ (3) := c52
              refine av_wp_sqF ck_67 5 (pc' := 50) (lv' := [some (.inr (.inr (.inl (some (24))))), some (.inl v1), some (.inl v11), some (.inl (3))]) (st' := []) (h' := h13) rfl ?_
              refine av_wp_ret (v := none) (ck_67 _ _ rfl) rfl rfl ?_
              exact hq h13 (by simp only [rlY, rlY1, rlY2, rlY3, q7, q9, q17, q19, if_neg c22, if_neg c34, if_neg c37, if_neg c45, if_neg c48, if_neg c52, if_neg (show ¬ (v1 = 0 ∨ v1 = 3) by omega), if_neg (show ¬ (v1 = 1 ∨ v1 = 3) by omega), if_neg (show ¬ (v1 = 2 ∨ v1 = 3) by omega)]; exact C14) F15
            · have c53 : v1 = (3) := c53
              exfalso; omega
        · have c46 : v1 = (3) := c46
          exfalso; omega
    · have c35 : v1 = (3) := c35
      refine av_wp_sqF ck_67 1 (pc' := 38) (lv' := [some (.inr (.inr (.inl (some (24))))), some (.inl v1), some (.inl v11), some (.inl (0))]) (st' := [.inr (.inr (.inl (some (24))))]) (h' := h13) rfl ?_
      refine wq_gr (p' := 41) (ck_67 _ _ rfl) rfl (congrArg Prod.fst (ly_k C14.1 24 rfl)) rfl (ly_g C14.1 24 1 25 rfl) ?_
      refine av_wp_sqF ck_67 2 (pc' := 43) (lv' := [some (.inr (.inr (.inl (some (24))))), some (.inl v1), some (.inl v11), some (.inl (0))]) (st' := [.inl v11, .inl (0), .inr (.inr (.inl (some (25))))]) (h' := h13) rfl ?_
      refine ct_ds (p' := 44) rfl rfl C14 F15 0 (by omega) (by omega) (by omega) (fun h54 C55 F56 => ?_)
      refine av_wp_sqF ck_67 7 (pc' := 29) (lv' := [some (.inr (.inr (.inl (some (24))))), some (.inl v1), some (.inl v11), some (.inl (1))]) (st' := [.inl (1), .inl v1]) (h' := h54) rfl ?_
      refine wq_k2 (p' := 32) (ck_67 _ _ rfl) rfl ⟨by omega, by omega⟩ ⟨by omega, by omega⟩ (fun c57 => ?_) (fun c58 => ?_)
      · have c57 : v1 = (1) := c57
        exfalso; omega
      · have c58 : v1 ≠ (1) := c58
        refine av_wp_sqF ck_67 2 (pc' := 34) (lv' := [some (.inr (.inr (.inl (some (24))))), some (.inl v1), some (.inl v11), some (.inl (1))]) (st' := [.inl (3), .inl v1]) (h' := h54) rfl ?_
        refine wq_k2 (p' := 37) (ck_67 _ _ rfl) rfl ⟨by omega, by omega⟩ ⟨by omega, by omega⟩ (fun c59 => ?_) (fun c60 => ?_)
        · have c59 : v1 ≠ (3) := c59
          exfalso; omega
        · have c60 : v1 = (3) := c60
          refine av_wp_sqF ck_67 1 (pc' := 38) (lv' := [some (.inr (.inr (.inl (some (24))))), some (.inl v1), some (.inl v11), some (.inl (1))]) (st' := [.inr (.inr (.inl (some (24))))]) (h' := h54) rfl ?_
          refine wq_gr (p' := 41) (ck_67 _ _ rfl) rfl (congrArg Prod.fst (ly_k C55.1 24 rfl)) rfl (ly_g C55.1 24 1 25 rfl) ?_
          refine av_wp_sqF ck_67 2 (pc' := 43) (lv' := [some (.inr (.inr (.inl (some (24))))), some (.inl v1), some (.inl v11), some (.inl (1))]) (st' := [.inl v11, .inl (1), .inr (.inr (.inl (some (25))))]) (h' := h54) rfl ?_
          refine ct_ds (p' := 44) rfl rfl C55 F56 1 (by omega) (by omega) (by omega) (fun h61 C62 F63 => ?_)
          refine av_wp_sqF ck_67 7 (pc' := 29) (lv' := [some (.inr (.inr (.inl (some (24))))), some (.inl v1), some (.inl v11), some (.inl (2))]) (st' := [.inl (2), .inl v1]) (h' := h61) rfl ?_
          refine wq_k2 (p' := 32) (ck_67 _ _ rfl) rfl ⟨by omega, by omega⟩ ⟨by omega, by omega⟩ (fun c64 => ?_) (fun c65 => ?_)
          · have c64 : v1 = (2) := c64
            exfalso; omega
          · have c65 : v1 ≠ (2) := c65
            refine av_wp_sqF ck_67 2 (pc' := 34) (lv' := [some (.inr (.inr (.inl (some (24))))), some (.inl v1), some (.inl v11), some (.inl (2))]) (st' := [.inl (3), .inl v1]) (h' := h61) rfl ?_
            refine wq_k2 (p' := 37) (ck_67 _ _ rfl) rfl ⟨by omega, by omega⟩ ⟨by omega, by omega⟩ (fun c66 => ?_) (fun c67 => ?_)
            · have c66 : v1 ≠ (3) := c66
              exfalso; omega
            · have c67 : v1 = (3) := c67
              refine av_wp_sqF ck_67 1 (pc' := 38) (lv' := [some (.inr (.inr (.inl (some (24))))), some (.inl v1), some (.inl v11), some (.inl (2))]) (st' := [.inr (.inr (.inl (some (24))))]) (h' := h61) rfl ?_
              refine wq_gr (p' := 41) (ck_67 _ _ rfl) rfl (congrArg Prod.fst (ly_k C62.1 24 rfl)) rfl (ly_g C62.1 24 1 25 rfl) ?_
              refine av_wp_sqF ck_67 2 (pc' := 43) (lv' := [some (.inr (.inr (.inl (some (24))))), some (.inl v1), some (.inl v11), some (.inl (2))]) (st' := [.inl v11, .inl (2), .inr (.inr (.inl (some (25))))]) (h' := h61) rfl ?_
              refine ct_ds (p' := 44) rfl rfl C62 F63 2 (by omega) (by omega) (by omega) (fun h68 C69 F70 => ?_)
              refine av_wp_sqF ck_67 5 (pc' := 50) (lv' := [some (.inr (.inr (.inl (some (24))))), some (.inl v1), some (.inl v11), some (.inl (3))]) (st' := []) (h' := h68) rfl ?_
              refine av_wp_ret (v := none) (ck_67 _ _ rfl) rfl rfl ?_
              exact hq h68 (by simp only [rlY, rlY1, rlY2, rlY3, q7, q9, q17, q19, if_neg c22, if_pos c35, if_neg c58, if_pos c60, if_neg c65, if_pos c67, if_pos (show v1 = 0 ∨ v1 = 3 by omega), if_pos (show v1 = 1 ∨ v1 = 3 by omega), if_pos (show v1 = 2 ∨ v1 = 3 by omega)]; exact C69) F70

set_option maxRecDepth 100000 in
set_option maxHeartbeats 4000000 in
theorem ct_66 {g h : av_H} {b r d : Nat → Int} {lim : Nat} {t : TT} (C : CT b lim t r d h) (F : FT g h)  {Q : Option av_V → av_H → Prop} (hq : ∀ h', CT b lim (rl1 b lim t d).1 r (rl1 b lim t d).2 h' → FT g h' → Q none h') : av_wp none cd_66 0 [some (.inr (.inr (.inl (some (24)))))] [] h Q := by
  have g0 := ct_wf C
  refine av_wp_sqF ck_66 1 (pc' := 1) (lv' := [some (.inr (.inr (.inl (some (24)))))]) (st' := [.inr (.inr (.inl (some (24))))]) (h' := h) rfl ?_
  refine wq_gr (p' := 4) (ck_66 _ _ rfl) rfl (congrArg Prod.fst (ly_k C.1 24 rfl)) rfl (ly_g C.1 24 0 1 rfl) ?_
  refine av_wp_sqF ck_66 1 (pc' := 6) (lv' := [some (.inr (.inr (.inl (some (24)))))]) (st' := [.inr (.inr (.inr 12)), .inr (.inr (.inl (some (1))))]) (h' := h) rfl ?_
  refine wq_cv (p' := 9) (av_qc (.invokevirtual 43) 87 1 0 6) 3 cd_87 [.inr (.inr (.inr 12))] (1) 6 [some (.inr (.inr (.inl (some (1))))), some (.inr (.inr (.inr 12))), none] (ck_66 _ _ rfl) rfl rfl pp_87 rfl rfl rfl (congrArg Prod.fst (ly_k C.1 1 rfl)) rfl rfl rfl rfl ?_
  refine ct_87 C F 12 (by decide) (fun v1 h3 p2 C4 F5 => ?_)
  have g6 := pkv_le (b := b) (t := t) 12 10 rfl
  have q7 := p2.1.symm
  have p2 := p2.2
  generalize q9 : cho b lim t 12 = t8 at C4
  have g10 := ct_wf C4
  show av_wp _ cd_66 9 [some (.inr (.inr (.inl (some (24)))))] [.inl v1] h3 _
  rcases (show v1 = 0 ∨ v1 = 1 ∨ v1 = 2 ∨ v1 = 3 ∨ v1 = 4 ∨ v1 = 5 ∨ v1 = 6 ∨ v1 = 7 ∨ v1 = 8 ∨ v1 = 9 ∨ v1 = 10 ∨ (v1 < 0 ∨ 10 < v1) by omega) with e11 | e11 | e11 | e11 | e11 | e11 | e11 | e11 | e11 | e11 | e11 | e11
  · refine wq_tc (t := 68) (ck_66 _ _ rfl) e11 rfl ?_
    refine av_wp_sqF ck_66 1 (pc' := 69) (lv' := [some (.inr (.inr (.inl (some (24)))))]) (st' := [.inr (.inr (.inl (some (24))))]) (h' := h3) rfl ?_
    refine wq_cv (p' := 72) (av_qc (.invokevirtual 47) 67 0 0 4) 4 cd_67 [] (24) 4 [some (.inr (.inr (.inl (some (24))))), none, none, none] (ck_66 _ _ rfl) rfl rfl pp_67 rfl rfl rfl (congrArg Prod.fst (ly_k C4.1 24 rfl)) rfl rfl rfl rfl ?_
    refine ct_67 C4 F5 (fun h12 C13 F14 => ?_)
    obtain ⟨⟨t15, d16⟩, q17⟩ : ∃ x, rlY b lim t8 d = x := ⟨_, rfl⟩
    rw [q17] at C13
    have C13 : CT b lim t15 r d16 h12 := C13
    have g18 := ct_wf C13
    show av_wp _ cd_66 72 [some (.inr (.inr (.inl (some (24)))))] [] h12 _
    refine av_wp_sqF ck_66 2 (pc' := 267) (lv' := [some (.inr (.inr (.inl (some (24)))))]) (st' := [.inr (.inr (.inl (some (24))))]) (h' := h12) rfl ?_
    refine wq_gr (p' := 270) (ck_66 _ _ rfl) rfl (congrArg Prod.fst (ly_k C13.1 24 rfl)) rfl (ly_g C13.1 24 0 1 rfl) ?_
    refine wq_cv (p' := 273) (av_qc (.invokevirtual 66) 90 0 0 6) 1 cd_90 [] (1) 6 [some (.inr (.inr (.inl (some (1)))))] (ck_66 _ _ rfl) rfl rfl pp_90 rfl rfl rfl (congrArg Prod.fst (ly_k C13.1 1 rfl)) rfl rfl rfl rfl ?_
    refine ct_90 C13 F14 (fun h19 C20 F21 => ?_)
    generalize q23 : sem b lim t15 = t22 at C20
    have g24 := ct_wf C20
    show av_wp _ cd_66 273 [some (.inr (.inr (.inl (some (24)))))] [] h19 _
    refine av_wp_ret (v := none) (ck_66 _ _ rfl) rfl rfl ?_
    exact hq h19 (by simp only [rl1, rlK, rlC, rlN, q7, q9, q17, q23, if_pos (show v1 = 0 by omega)]; exact C20) F21
  · refine wq_tc (t := 75) (ck_66 _ _ rfl) e11 rfl ?_
    refine av_wp_sqF ck_66 1 (pc' := 76) (lv' := [some (.inr (.inr (.inl (some (24)))))]) (st' := [.inr (.inr (.inl (some (24))))]) (h' := h3) rfl ?_
    refine wq_gr (p' := 79) (ck_66 _ _ rfl) rfl (congrArg Prod.fst (ly_k C4.1 24 rfl)) rfl (ly_g C4.1 24 1 25 rfl) ?_
    refine av_wp_sqF ck_66 2 (pc' := 81) (lv' := [some (.inr (.inr (.inl (some (24)))))]) (st' := [.inr (.inr (.inl (some (24)))), .inl (3), .inr (.inr (.inl (some (25))))]) (h' := h3) rfl ?_
    refine wq_gr (p' := 84) (ck_66 _ _ rfl) rfl (congrArg Prod.fst (ly_k C4.1 24 rfl)) rfl (ly_g C4.1 24 0 1 rfl) ?_
    refine av_wp_sqF ck_66 1 (pc' := 86) (lv' := [some (.inr (.inr (.inl (some (24)))))]) (st' := [.inr (.inr (.inr 14)), .inr (.inr (.inl (some (1)))), .inl (3), .inr (.inr (.inl (some (25))))]) (h' := h3) rfl ?_
    refine wq_cv (p' := 89) (av_qc (.invokevirtual 43) 87 1 0 6) 3 cd_87 [.inr (.inr (.inr 14))] (1) 6 [some (.inr (.inr (.inl (some (1))))), some (.inr (.inr (.inr 14))), none] (ck_66 _ _ rfl) rfl rfl pp_87 rfl rfl rfl (congrArg Prod.fst (ly_k C4.1 1 rfl)) rfl rfl rfl rfl ?_
    refine ct_87 C4 F5 14 (by decide) (fun v25 h27 p26 C28 F29 => ?_)
    have g30 := pkv_le (b := b) (t := t8) 14 2 rfl
    have q31 := p26.1.symm
    have p26 := p26.2
    generalize q33 : cho b lim t8 14 = t32 at C28
    have g34 := ct_wf C28
    show av_wp _ cd_66 89 [some (.inr (.inr (.inl (some (24)))))] [.inl v25, .inl (3), .inr (.inr (.inl (some (25))))] h27 _
    refine ct_ds (p' := 90) rfl rfl C28 F29 3 (by omega) (by omega) (by omega) (fun h35 C36 F37 => ?_)
    refine av_wp_sqF ck_66 2 (pc' := 267) (lv' := [some (.inr (.inr (.inl (some (24)))))]) (st' := [.inr (.inr (.inl (some (24))))]) (h' := h35) rfl ?_
    refine wq_gr (p' := 270) (ck_66 _ _ rfl) rfl (congrArg Prod.fst (ly_k C36.1 24 rfl)) rfl (ly_g C36.1 24 0 1 rfl) ?_
    refine wq_cv (p' := 273) (av_qc (.invokevirtual 66) 90 0 0 6) 1 cd_90 [] (1) 6 [some (.inr (.inr (.inl (some (1)))))] (ck_66 _ _ rfl) rfl rfl pp_90 rfl rfl rfl (congrArg Prod.fst (ly_k C36.1 1 rfl)) rfl rfl rfl rfl ?_
    refine ct_90 C36 F37 (fun h38 C39 F40 => ?_)
    generalize q42 : sem b lim t32 = t41 at C39
    have g43 := ct_wf C39
    show av_wp _ cd_66 273 [some (.inr (.inr (.inl (some (24)))))] [] h38 _
    refine av_wp_ret (v := none) (ck_66 _ _ rfl) rfl rfl ?_
    exact hq h38 (by simp only [rl1, rlK, rlC, rlN, q7, q9, q31, q33, q42, if_neg (show ¬ v1 = 0 by omega), if_pos (show v1 = 1 by omega)]; exact C39) F40
  · refine wq_tc (t := 93) (ck_66 _ _ rfl) e11 rfl ?_
    refine av_wp_sqF ck_66 1 (pc' := 94) (lv' := [some (.inr (.inr (.inl (some (24)))))]) (st' := [.inr (.inr (.inl (some (24))))]) (h' := h3) rfl ?_
    refine wq_gr (p' := 97) (ck_66 _ _ rfl) rfl (congrArg Prod.fst (ly_k C4.1 24 rfl)) rfl (ly_g C4.1 24 1 25 rfl) ?_
    refine av_wp_sqF ck_66 2 (pc' := 99) (lv' := [some (.inr (.inr (.inl (some (24)))))]) (st' := [.inr (.inr (.inl (some (24)))), .inl (4), .inr (.inr (.inl (some (25))))]) (h' := h3) rfl ?_
    refine wq_gr (p' := 102) (ck_66 _ _ rfl) rfl (congrArg Prod.fst (ly_k C4.1 24 rfl)) rfl (ly_g C4.1 24 0 1 rfl) ?_
    refine av_wp_sqF ck_66 1 (pc' := 104) (lv' := [some (.inr (.inr (.inl (some (24)))))]) (st' := [.inr (.inr (.inr 14)), .inr (.inr (.inl (some (1)))), .inl (4), .inr (.inr (.inl (some (25))))]) (h' := h3) rfl ?_
    refine wq_cv (p' := 107) (av_qc (.invokevirtual 43) 87 1 0 6) 3 cd_87 [.inr (.inr (.inr 14))] (1) 6 [some (.inr (.inr (.inl (some (1))))), some (.inr (.inr (.inr 14))), none] (ck_66 _ _ rfl) rfl rfl pp_87 rfl rfl rfl (congrArg Prod.fst (ly_k C4.1 1 rfl)) rfl rfl rfl rfl ?_
    refine ct_87 C4 F5 14 (by decide) (fun v44 h46 p45 C47 F48 => ?_)
    have g49 := pkv_le (b := b) (t := t8) 14 2 rfl
    have q50 := p45.1.symm
    have p45 := p45.2
    generalize q52 : cho b lim t8 14 = t51 at C47
    have g53 := ct_wf C47
    show av_wp _ cd_66 107 [some (.inr (.inr (.inl (some (24)))))] [.inl v44, .inl (4), .inr (.inr (.inl (some (25))))] h46 _
    refine ct_ds (p' := 108) rfl rfl C47 F48 4 (by omega) (by omega) (by omega) (fun h54 C55 F56 => ?_)
    refine av_wp_sqF ck_66 2 (pc' := 267) (lv' := [some (.inr (.inr (.inl (some (24)))))]) (st' := [.inr (.inr (.inl (some (24))))]) (h' := h54) rfl ?_
    refine wq_gr (p' := 270) (ck_66 _ _ rfl) rfl (congrArg Prod.fst (ly_k C55.1 24 rfl)) rfl (ly_g C55.1 24 0 1 rfl) ?_
    refine wq_cv (p' := 273) (av_qc (.invokevirtual 66) 90 0 0 6) 1 cd_90 [] (1) 6 [some (.inr (.inr (.inl (some (1)))))] (ck_66 _ _ rfl) rfl rfl pp_90 rfl rfl rfl (congrArg Prod.fst (ly_k C55.1 1 rfl)) rfl rfl rfl rfl ?_
    refine ct_90 C55 F56 (fun h57 C58 F59 => ?_)
    generalize q61 : sem b lim t51 = t60 at C58
    have g62 := ct_wf C58
    show av_wp _ cd_66 273 [some (.inr (.inr (.inl (some (24)))))] [] h57 _
    refine av_wp_ret (v := none) (ck_66 _ _ rfl) rfl rfl ?_
    exact hq h57 (by simp only [rl1, rlK, rlC, rlN, q7, q9, q50, q52, q61, if_neg (show ¬ v1 = 0 by omega), if_neg (show ¬ v1 = 1 by omega), if_pos (show v1 = 2 by omega)]; exact C58) F59
  · refine wq_tc (t := 111) (ck_66 _ _ rfl) e11 rfl ?_
    refine av_wp_sqF ck_66 1 (pc' := 112) (lv' := [some (.inr (.inr (.inl (some (24)))))]) (st' := [.inr (.inr (.inl (some (24))))]) (h' := h3) rfl ?_
    refine wq_gr (p' := 115) (ck_66 _ _ rfl) rfl (congrArg Prod.fst (ly_k C4.1 24 rfl)) rfl (ly_g C4.1 24 1 25 rfl) ?_
    refine av_wp_sqF ck_66 2 (pc' := 117) (lv' := [some (.inr (.inr (.inl (some (24)))))]) (st' := [.inr (.inr (.inl (some (24)))), .inl (5), .inr (.inr (.inl (some (25))))]) (h' := h3) rfl ?_
    refine wq_gr (p' := 120) (ck_66 _ _ rfl) rfl (congrArg Prod.fst (ly_k C4.1 24 rfl)) rfl (ly_g C4.1 24 0 1 rfl) ?_
    refine av_wp_sqF ck_66 1 (pc' := 122) (lv' := [some (.inr (.inr (.inl (some (24)))))]) (st' := [.inr (.inr (.inr 14)), .inr (.inr (.inl (some (1)))), .inl (5), .inr (.inr (.inl (some (25))))]) (h' := h3) rfl ?_
    refine wq_cv (p' := 125) (av_qc (.invokevirtual 43) 87 1 0 6) 3 cd_87 [.inr (.inr (.inr 14))] (1) 6 [some (.inr (.inr (.inl (some (1))))), some (.inr (.inr (.inr 14))), none] (ck_66 _ _ rfl) rfl rfl pp_87 rfl rfl rfl (congrArg Prod.fst (ly_k C4.1 1 rfl)) rfl rfl rfl rfl ?_
    refine ct_87 C4 F5 14 (by decide) (fun v63 h65 p64 C66 F67 => ?_)
    have g68 := pkv_le (b := b) (t := t8) 14 2 rfl
    have q69 := p64.1.symm
    have p64 := p64.2
    generalize q71 : cho b lim t8 14 = t70 at C66
    have g72 := ct_wf C66
    show av_wp _ cd_66 125 [some (.inr (.inr (.inl (some (24)))))] [.inl v63, .inl (5), .inr (.inr (.inl (some (25))))] h65 _
    refine ct_ds (p' := 126) rfl rfl C66 F67 5 (by omega) (by omega) (by omega) (fun h73 C74 F75 => ?_)
    refine av_wp_sqF ck_66 2 (pc' := 267) (lv' := [some (.inr (.inr (.inl (some (24)))))]) (st' := [.inr (.inr (.inl (some (24))))]) (h' := h73) rfl ?_
    refine wq_gr (p' := 270) (ck_66 _ _ rfl) rfl (congrArg Prod.fst (ly_k C74.1 24 rfl)) rfl (ly_g C74.1 24 0 1 rfl) ?_
    refine wq_cv (p' := 273) (av_qc (.invokevirtual 66) 90 0 0 6) 1 cd_90 [] (1) 6 [some (.inr (.inr (.inl (some (1)))))] (ck_66 _ _ rfl) rfl rfl pp_90 rfl rfl rfl (congrArg Prod.fst (ly_k C74.1 1 rfl)) rfl rfl rfl rfl ?_
    refine ct_90 C74 F75 (fun h76 C77 F78 => ?_)
    generalize q80 : sem b lim t70 = t79 at C77
    have g81 := ct_wf C77
    show av_wp _ cd_66 273 [some (.inr (.inr (.inl (some (24)))))] [] h76 _
    refine av_wp_ret (v := none) (ck_66 _ _ rfl) rfl rfl ?_
    exact hq h76 (by simp only [rl1, rlK, rlC, rlN, q7, q9, q69, q71, q80, if_neg (show ¬ v1 = 0 by omega), if_neg (show ¬ v1 = 1 by omega), if_neg (show ¬ v1 = 2 by omega), if_pos (show v1 = 3 by omega)]; exact C77) F78
  · refine wq_tc (t := 129) (ck_66 _ _ rfl) e11 rfl ?_
    refine av_wp_sqF ck_66 1 (pc' := 130) (lv' := [some (.inr (.inr (.inl (some (24)))))]) (st' := [.inr (.inr (.inl (some (24))))]) (h' := h3) rfl ?_
    refine wq_gr (p' := 133) (ck_66 _ _ rfl) rfl (congrArg Prod.fst (ly_k C4.1 24 rfl)) rfl (ly_g C4.1 24 1 25 rfl) ?_
    refine av_wp_sqF ck_66 2 (pc' := 136) (lv' := [some (.inr (.inr (.inl (some (24)))))]) (st' := [.inr (.inr (.inl (some (24)))), .inl (6), .inr (.inr (.inl (some (25))))]) (h' := h3) rfl ?_
    refine wq_gr (p' := 139) (ck_66 _ _ rfl) rfl (congrArg Prod.fst (ly_k C4.1 24 rfl)) rfl (ly_g C4.1 24 0 1 rfl) ?_
    refine av_wp_sqF ck_66 1 (pc' := 141) (lv' := [some (.inr (.inr (.inl (some (24)))))]) (st' := [.inr (.inr (.inr 15)), .inr (.inr (.inl (some (1)))), .inl (6), .inr (.inr (.inl (some (25))))]) (h' := h3) rfl ?_
    refine wq_cv (p' := 144) (av_qc (.invokevirtual 43) 87 1 0 6) 3 cd_87 [.inr (.inr (.inr 15))] (1) 6 [some (.inr (.inr (.inl (some (1))))), some (.inr (.inr (.inr 15))), none] (ck_66 _ _ rfl) rfl rfl pp_87 rfl rfl rfl (congrArg Prod.fst (ly_k C4.1 1 rfl)) rfl rfl rfl rfl ?_
    refine ct_87 C4 F5 15 (by decide) (fun v82 h84 p83 C85 F86 => ?_)
    have g87 := pkv_le (b := b) (t := t8) 15 1 rfl
    have q88 := p83.1.symm
    have p83 := p83.2
    generalize q90 : cho b lim t8 15 = t89 at C85
    have g91 := ct_wf C85
    show av_wp _ cd_66 144 [some (.inr (.inr (.inl (some (24)))))] [.inl v82, .inl (6), .inr (.inr (.inl (some (25))))] h84 _
    refine ct_ds (p' := 145) rfl rfl C85 F86 6 (by omega) (by omega) (by omega) (fun h92 C93 F94 => ?_)
    refine av_wp_sqF ck_66 2 (pc' := 267) (lv' := [some (.inr (.inr (.inl (some (24)))))]) (st' := [.inr (.inr (.inl (some (24))))]) (h' := h92) rfl ?_
    refine wq_gr (p' := 270) (ck_66 _ _ rfl) rfl (congrArg Prod.fst (ly_k C93.1 24 rfl)) rfl (ly_g C93.1 24 0 1 rfl) ?_
    refine wq_cv (p' := 273) (av_qc (.invokevirtual 66) 90 0 0 6) 1 cd_90 [] (1) 6 [some (.inr (.inr (.inl (some (1)))))] (ck_66 _ _ rfl) rfl rfl pp_90 rfl rfl rfl (congrArg Prod.fst (ly_k C93.1 1 rfl)) rfl rfl rfl rfl ?_
    refine ct_90 C93 F94 (fun h95 C96 F97 => ?_)
    generalize q99 : sem b lim t89 = t98 at C96
    have g100 := ct_wf C96
    show av_wp _ cd_66 273 [some (.inr (.inr (.inl (some (24)))))] [] h95 _
    refine av_wp_ret (v := none) (ck_66 _ _ rfl) rfl rfl ?_
    exact hq h95 (by simp only [rl1, rlK, rlC, rlN, q7, q9, q88, q90, q99, if_neg (show ¬ v1 = 0 by omega), if_neg (show ¬ v1 = 1 by omega), if_neg (show ¬ v1 = 2 by omega), if_neg (show ¬ v1 = 3 by omega), if_pos (show v1 = 4 by omega)]; exact C96) F97
  · refine wq_tc (t := 148) (ck_66 _ _ rfl) e11 rfl ?_
    refine av_wp_sqF ck_66 1 (pc' := 149) (lv' := [some (.inr (.inr (.inl (some (24)))))]) (st' := [.inr (.inr (.inl (some (24))))]) (h' := h3) rfl ?_
    refine wq_gr (p' := 152) (ck_66 _ _ rfl) rfl (congrArg Prod.fst (ly_k C4.1 24 rfl)) rfl (ly_g C4.1 24 1 25 rfl) ?_
    refine av_wp_sqF ck_66 2 (pc' := 155) (lv' := [some (.inr (.inr (.inl (some (24)))))]) (st' := [.inr (.inr (.inl (some (24)))), .inl (7), .inr (.inr (.inl (some (25))))]) (h' := h3) rfl ?_
    refine wq_gr (p' := 158) (ck_66 _ _ rfl) rfl (congrArg Prod.fst (ly_k C4.1 24 rfl)) rfl (ly_g C4.1 24 0 1 rfl) ?_
    refine av_wp_sqF ck_66 2 (pc' := 162) (lv' := [some (.inr (.inr (.inl (some (24)))))]) (st' := [.inl (999), .inl (0), .inr (.inr (.inl (some (1)))), .inl (7), .inr (.inr (.inl (some (25))))]) (h' := h3) rfl ?_
    refine wq_cv (p' := 165) (av_qc (.invokevirtual 54) 92 2 0 6) 4 cd_92 [.inl (999), .inl (0)] (1) 6 [some (.inr (.inr (.inl (some (1))))), some (.inl (0)), some (.inl (999)), none] (ck_66 _ _ rfl) rfl rfl pp_92 rfl rfl rfl (congrArg Prod.fst (ly_k C4.1 1 rfl)) rfl rfl rfl rfl ?_
    refine ct_92 C4 F5 ((0)) ((999)) (by omega) (by omega) (fun v101 h103 p102 C104 F105 => ?_)
    have q106 := p102.1.symm
    have p102 := p102.2
    generalize q108 : nmt b lim t8 (0) (999) = t107 at C104
    have g109 := ct_wf C104
    show av_wp _ cd_66 165 [some (.inr (.inr (.inl (some (24)))))] [.inl v101, .inl (7), .inr (.inr (.inl (some (25))))] h103 _
    refine ct_ds (p' := 166) rfl rfl C104 F105 7 (by omega) (by omega) (by omega) (fun h110 C111 F112 => ?_)
    refine av_wp_sqF ck_66 2 (pc' := 267) (lv' := [some (.inr (.inr (.inl (some (24)))))]) (st' := [.inr (.inr (.inl (some (24))))]) (h' := h110) rfl ?_
    refine wq_gr (p' := 270) (ck_66 _ _ rfl) rfl (congrArg Prod.fst (ly_k C111.1 24 rfl)) rfl (ly_g C111.1 24 0 1 rfl) ?_
    refine wq_cv (p' := 273) (av_qc (.invokevirtual 66) 90 0 0 6) 1 cd_90 [] (1) 6 [some (.inr (.inr (.inl (some (1)))))] (ck_66 _ _ rfl) rfl rfl pp_90 rfl rfl rfl (congrArg Prod.fst (ly_k C111.1 1 rfl)) rfl rfl rfl rfl ?_
    refine ct_90 C111 F112 (fun h113 C114 F115 => ?_)
    generalize q117 : sem b lim t107 = t116 at C114
    have g118 := ct_wf C114
    show av_wp _ cd_66 273 [some (.inr (.inr (.inl (some (24)))))] [] h113 _
    refine av_wp_ret (v := none) (ck_66 _ _ rfl) rfl rfl ?_
    exact hq h113 (by simp only [rl1, rlK, rlC, rlN, q7, q9, q106, q108, q117, if_neg (show ¬ v1 = 0 by omega), if_neg (show ¬ v1 = 1 by omega), if_neg (show ¬ v1 = 2 by omega), if_neg (show ¬ v1 = 3 by omega), if_neg (show ¬ v1 = 4 by omega), if_pos (show v1 = 5 by omega)]; exact C114) F115
  · refine wq_tc (t := 169) (ck_66 _ _ rfl) e11 rfl ?_
    refine av_wp_sqF ck_66 1 (pc' := 170) (lv' := [some (.inr (.inr (.inl (some (24)))))]) (st' := [.inr (.inr (.inl (some (24))))]) (h' := h3) rfl ?_
    refine wq_gr (p' := 173) (ck_66 _ _ rfl) rfl (congrArg Prod.fst (ly_k C4.1 24 rfl)) rfl (ly_g C4.1 24 1 25 rfl) ?_
    refine av_wp_sqF ck_66 2 (pc' := 176) (lv' := [some (.inr (.inr (.inl (some (24)))))]) (st' := [.inr (.inr (.inl (some (24)))), .inl (8), .inr (.inr (.inl (some (25))))]) (h' := h3) rfl ?_
    refine wq_gr (p' := 179) (ck_66 _ _ rfl) rfl (congrArg Prod.fst (ly_k C4.1 24 rfl)) rfl (ly_g C4.1 24 0 1 rfl) ?_
    refine av_wp_sqF ck_66 2 (pc' := 183) (lv' := [some (.inr (.inr (.inl (some (24)))))]) (st' := [.inl (999), .inl (0), .inr (.inr (.inl (some (1)))), .inl (8), .inr (.inr (.inl (some (25))))]) (h' := h3) rfl ?_
    refine wq_cv (p' := 186) (av_qc (.invokevirtual 54) 92 2 0 6) 4 cd_92 [.inl (999), .inl (0)] (1) 6 [some (.inr (.inr (.inl (some (1))))), some (.inl (0)), some (.inl (999)), none] (ck_66 _ _ rfl) rfl rfl pp_92 rfl rfl rfl (congrArg Prod.fst (ly_k C4.1 1 rfl)) rfl rfl rfl rfl ?_
    refine ct_92 C4 F5 ((0)) ((999)) (by omega) (by omega) (fun v119 h121 p120 C122 F123 => ?_)
    have q124 := p120.1.symm
    have p120 := p120.2
    generalize q126 : nmt b lim t8 (0) (999) = t125 at C122
    have g127 := ct_wf C122
    show av_wp _ cd_66 186 [some (.inr (.inr (.inl (some (24)))))] [.inl v119, .inl (8), .inr (.inr (.inl (some (25))))] h121 _
    refine ct_ds (p' := 187) rfl rfl C122 F123 8 (by omega) (by omega) (by omega) (fun h128 C129 F130 => ?_)
    refine av_wp_sqF ck_66 2 (pc' := 267) (lv' := [some (.inr (.inr (.inl (some (24)))))]) (st' := [.inr (.inr (.inl (some (24))))]) (h' := h128) rfl ?_
    refine wq_gr (p' := 270) (ck_66 _ _ rfl) rfl (congrArg Prod.fst (ly_k C129.1 24 rfl)) rfl (ly_g C129.1 24 0 1 rfl) ?_
    refine wq_cv (p' := 273) (av_qc (.invokevirtual 66) 90 0 0 6) 1 cd_90 [] (1) 6 [some (.inr (.inr (.inl (some (1)))))] (ck_66 _ _ rfl) rfl rfl pp_90 rfl rfl rfl (congrArg Prod.fst (ly_k C129.1 1 rfl)) rfl rfl rfl rfl ?_
    refine ct_90 C129 F130 (fun h131 C132 F133 => ?_)
    generalize q135 : sem b lim t125 = t134 at C132
    have g136 := ct_wf C132
    show av_wp _ cd_66 273 [some (.inr (.inr (.inl (some (24)))))] [] h131 _
    refine av_wp_ret (v := none) (ck_66 _ _ rfl) rfl rfl ?_
    exact hq h131 (by simp only [rl1, rlK, rlC, rlN, q7, q9, q124, q126, q135, if_neg (show ¬ v1 = 0 by omega), if_neg (show ¬ v1 = 1 by omega), if_neg (show ¬ v1 = 2 by omega), if_neg (show ¬ v1 = 3 by omega), if_neg (show ¬ v1 = 4 by omega), if_neg (show ¬ v1 = 5 by omega), if_pos (show v1 = 6 by omega)]; exact C132) F133
  · refine wq_tc (t := 190) (ck_66 _ _ rfl) e11 rfl ?_
    refine av_wp_sqF ck_66 1 (pc' := 191) (lv' := [some (.inr (.inr (.inl (some (24)))))]) (st' := [.inr (.inr (.inl (some (24))))]) (h' := h3) rfl ?_
    refine wq_gr (p' := 194) (ck_66 _ _ rfl) rfl (congrArg Prod.fst (ly_k C4.1 24 rfl)) rfl (ly_g C4.1 24 1 25 rfl) ?_
    refine av_wp_sqF ck_66 2 (pc' := 197) (lv' := [some (.inr (.inr (.inl (some (24)))))]) (st' := [.inr (.inr (.inl (some (24)))), .inl (9), .inr (.inr (.inl (some (25))))]) (h' := h3) rfl ?_
    refine wq_gr (p' := 200) (ck_66 _ _ rfl) rfl (congrArg Prod.fst (ly_k C4.1 24 rfl)) rfl (ly_g C4.1 24 0 1 rfl) ?_
    refine av_wp_sqF ck_66 1 (pc' := 202) (lv' := [some (.inr (.inr (.inl (some (24)))))]) (st' := [.inr (.inr (.inr 16)), .inr (.inr (.inl (some (1)))), .inl (9), .inr (.inr (.inl (some (25))))]) (h' := h3) rfl ?_
    refine wq_cv (p' := 205) (av_qc (.invokevirtual 43) 87 1 0 6) 3 cd_87 [.inr (.inr (.inr 16))] (1) 6 [some (.inr (.inr (.inl (some (1))))), some (.inr (.inr (.inr 16))), none] (ck_66 _ _ rfl) rfl rfl pp_87 rfl rfl rfl (congrArg Prod.fst (ly_k C4.1 1 rfl)) rfl rfl rfl rfl ?_
    refine ct_87 C4 F5 16 (by decide) (fun v137 h139 p138 C140 F141 => ?_)
    have g142 := pkv_le (b := b) (t := t8) 16 1 rfl
    have q143 := p138.1.symm
    have p138 := p138.2
    generalize q145 : cho b lim t8 16 = t144 at C140
    have g146 := ct_wf C140
    show av_wp _ cd_66 205 [some (.inr (.inr (.inl (some (24)))))] [.inl v137, .inl (9), .inr (.inr (.inl (some (25))))] h139 _
    refine ct_ds (p' := 206) rfl rfl C140 F141 9 (by omega) (by omega) (by omega) (fun h147 C148 F149 => ?_)
    refine av_wp_sqF ck_66 2 (pc' := 267) (lv' := [some (.inr (.inr (.inl (some (24)))))]) (st' := [.inr (.inr (.inl (some (24))))]) (h' := h147) rfl ?_
    refine wq_gr (p' := 270) (ck_66 _ _ rfl) rfl (congrArg Prod.fst (ly_k C148.1 24 rfl)) rfl (ly_g C148.1 24 0 1 rfl) ?_
    refine wq_cv (p' := 273) (av_qc (.invokevirtual 66) 90 0 0 6) 1 cd_90 [] (1) 6 [some (.inr (.inr (.inl (some (1)))))] (ck_66 _ _ rfl) rfl rfl pp_90 rfl rfl rfl (congrArg Prod.fst (ly_k C148.1 1 rfl)) rfl rfl rfl rfl ?_
    refine ct_90 C148 F149 (fun h150 C151 F152 => ?_)
    generalize q154 : sem b lim t144 = t153 at C151
    have g155 := ct_wf C151
    show av_wp _ cd_66 273 [some (.inr (.inr (.inl (some (24)))))] [] h150 _
    refine av_wp_ret (v := none) (ck_66 _ _ rfl) rfl rfl ?_
    exact hq h150 (by simp only [rl1, rlK, rlC, rlN, q7, q9, q143, q145, q154, if_neg (show ¬ v1 = 0 by omega), if_neg (show ¬ v1 = 1 by omega), if_neg (show ¬ v1 = 2 by omega), if_neg (show ¬ v1 = 3 by omega), if_neg (show ¬ v1 = 4 by omega), if_neg (show ¬ v1 = 5 by omega), if_neg (show ¬ v1 = 6 by omega), if_pos (show v1 = 7 by omega)]; exact C151) F152
  · refine wq_tc (t := 209) (ck_66 _ _ rfl) e11 rfl ?_
    refine av_wp_sqF ck_66 1 (pc' := 210) (lv' := [some (.inr (.inr (.inl (some (24)))))]) (st' := [.inr (.inr (.inl (some (24))))]) (h' := h3) rfl ?_
    refine wq_gr (p' := 213) (ck_66 _ _ rfl) rfl (congrArg Prod.fst (ly_k C4.1 24 rfl)) rfl (ly_g C4.1 24 1 25 rfl) ?_
    refine av_wp_sqF ck_66 2 (pc' := 216) (lv' := [some (.inr (.inr (.inl (some (24)))))]) (st' := [.inr (.inr (.inl (some (24)))), .inl (10), .inr (.inr (.inl (some (25))))]) (h' := h3) rfl ?_
    refine wq_gr (p' := 219) (ck_66 _ _ rfl) rfl (congrArg Prod.fst (ly_k C4.1 24 rfl)) rfl (ly_g C4.1 24 0 1 rfl) ?_
    refine av_wp_sqF ck_66 1 (pc' := 221) (lv' := [some (.inr (.inr (.inl (some (24)))))]) (st' := [.inr (.inr (.inr 17)), .inr (.inr (.inl (some (1)))), .inl (10), .inr (.inr (.inl (some (25))))]) (h' := h3) rfl ?_
    refine wq_cv (p' := 224) (av_qc (.invokevirtual 43) 87 1 0 6) 3 cd_87 [.inr (.inr (.inr 17))] (1) 6 [some (.inr (.inr (.inl (some (1))))), some (.inr (.inr (.inr 17))), none] (ck_66 _ _ rfl) rfl rfl pp_87 rfl rfl rfl (congrArg Prod.fst (ly_k C4.1 1 rfl)) rfl rfl rfl rfl ?_
    refine ct_87 C4 F5 17 (by decide) (fun v156 h158 p157 C159 F160 => ?_)
    have g161 := pkv_le (b := b) (t := t8) 17 2 rfl
    have q162 := p157.1.symm
    have p157 := p157.2
    generalize q164 : cho b lim t8 17 = t163 at C159
    have g165 := ct_wf C159
    show av_wp _ cd_66 224 [some (.inr (.inr (.inl (some (24)))))] [.inl v156, .inl (10), .inr (.inr (.inl (some (25))))] h158 _
    refine ct_ds (p' := 225) rfl rfl C159 F160 10 (by omega) (by omega) (by omega) (fun h166 C167 F168 => ?_)
    refine av_wp_sqF ck_66 2 (pc' := 267) (lv' := [some (.inr (.inr (.inl (some (24)))))]) (st' := [.inr (.inr (.inl (some (24))))]) (h' := h166) rfl ?_
    refine wq_gr (p' := 270) (ck_66 _ _ rfl) rfl (congrArg Prod.fst (ly_k C167.1 24 rfl)) rfl (ly_g C167.1 24 0 1 rfl) ?_
    refine wq_cv (p' := 273) (av_qc (.invokevirtual 66) 90 0 0 6) 1 cd_90 [] (1) 6 [some (.inr (.inr (.inl (some (1)))))] (ck_66 _ _ rfl) rfl rfl pp_90 rfl rfl rfl (congrArg Prod.fst (ly_k C167.1 1 rfl)) rfl rfl rfl rfl ?_
    refine ct_90 C167 F168 (fun h169 C170 F171 => ?_)
    generalize q173 : sem b lim t163 = t172 at C170
    have g174 := ct_wf C170
    show av_wp _ cd_66 273 [some (.inr (.inr (.inl (some (24)))))] [] h169 _
    refine av_wp_ret (v := none) (ck_66 _ _ rfl) rfl rfl ?_
    exact hq h169 (by simp only [rl1, rlK, rlC, rlN, q7, q9, q162, q164, q173, if_neg (show ¬ v1 = 0 by omega), if_neg (show ¬ v1 = 1 by omega), if_neg (show ¬ v1 = 2 by omega), if_neg (show ¬ v1 = 3 by omega), if_neg (show ¬ v1 = 4 by omega), if_neg (show ¬ v1 = 5 by omega), if_neg (show ¬ v1 = 6 by omega), if_neg (show ¬ v1 = 7 by omega), if_pos (show v1 = 8 by omega)]; exact C170) F171
  · refine wq_tc (t := 228) (ck_66 _ _ rfl) e11 rfl ?_
    refine av_wp_sqF ck_66 1 (pc' := 229) (lv' := [some (.inr (.inr (.inl (some (24)))))]) (st' := [.inr (.inr (.inl (some (24))))]) (h' := h3) rfl ?_
    refine wq_gr (p' := 232) (ck_66 _ _ rfl) rfl (congrArg Prod.fst (ly_k C4.1 24 rfl)) rfl (ly_g C4.1 24 1 25 rfl) ?_
    refine av_wp_sqF ck_66 2 (pc' := 235) (lv' := [some (.inr (.inr (.inl (some (24)))))]) (st' := [.inr (.inr (.inl (some (24)))), .inl (11), .inr (.inr (.inl (some (25))))]) (h' := h3) rfl ?_
    refine wq_gr (p' := 238) (ck_66 _ _ rfl) rfl (congrArg Prod.fst (ly_k C4.1 24 rfl)) rfl (ly_g C4.1 24 0 1 rfl) ?_
    refine av_wp_sqF ck_66 1 (pc' := 240) (lv' := [some (.inr (.inr (.inl (some (24)))))]) (st' := [.inr (.inr (.inr 18)), .inr (.inr (.inl (some (1)))), .inl (11), .inr (.inr (.inl (some (25))))]) (h' := h3) rfl ?_
    refine wq_cv (p' := 243) (av_qc (.invokevirtual 43) 87 1 0 6) 3 cd_87 [.inr (.inr (.inr 18))] (1) 6 [some (.inr (.inr (.inl (some (1))))), some (.inr (.inr (.inr 18))), none] (ck_66 _ _ rfl) rfl rfl pp_87 rfl rfl rfl (congrArg Prod.fst (ly_k C4.1 1 rfl)) rfl rfl rfl rfl ?_
    refine ct_87 C4 F5 18 (by decide) (fun v175 h177 p176 C178 F179 => ?_)
    have g180 := pkv_le (b := b) (t := t8) 18 1 rfl
    have q181 := p176.1.symm
    have p176 := p176.2
    generalize q183 : cho b lim t8 18 = t182 at C178
    have g184 := ct_wf C178
    show av_wp _ cd_66 243 [some (.inr (.inr (.inl (some (24)))))] [.inl v175, .inl (11), .inr (.inr (.inl (some (25))))] h177 _
    refine ct_ds (p' := 244) rfl rfl C178 F179 11 (by omega) (by omega) (by omega) (fun h185 C186 F187 => ?_)
    refine av_wp_sqF ck_66 2 (pc' := 267) (lv' := [some (.inr (.inr (.inl (some (24)))))]) (st' := [.inr (.inr (.inl (some (24))))]) (h' := h185) rfl ?_
    refine wq_gr (p' := 270) (ck_66 _ _ rfl) rfl (congrArg Prod.fst (ly_k C186.1 24 rfl)) rfl (ly_g C186.1 24 0 1 rfl) ?_
    refine wq_cv (p' := 273) (av_qc (.invokevirtual 66) 90 0 0 6) 1 cd_90 [] (1) 6 [some (.inr (.inr (.inl (some (1)))))] (ck_66 _ _ rfl) rfl rfl pp_90 rfl rfl rfl (congrArg Prod.fst (ly_k C186.1 1 rfl)) rfl rfl rfl rfl ?_
    refine ct_90 C186 F187 (fun h188 C189 F190 => ?_)
    generalize q192 : sem b lim t182 = t191 at C189
    have g193 := ct_wf C189
    show av_wp _ cd_66 273 [some (.inr (.inr (.inl (some (24)))))] [] h188 _
    refine av_wp_ret (v := none) (ck_66 _ _ rfl) rfl rfl ?_
    exact hq h188 (by simp only [rl1, rlK, rlC, rlN, q7, q9, q181, q183, q192, if_neg (show ¬ v1 = 0 by omega), if_neg (show ¬ v1 = 1 by omega), if_neg (show ¬ v1 = 2 by omega), if_neg (show ¬ v1 = 3 by omega), if_neg (show ¬ v1 = 4 by omega), if_neg (show ¬ v1 = 5 by omega), if_neg (show ¬ v1 = 6 by omega), if_neg (show ¬ v1 = 7 by omega), if_neg (show ¬ v1 = 8 by omega), if_pos (show v1 = 9 by omega)]; exact C189) F190
  · refine wq_tc (t := 247) (ck_66 _ _ rfl) e11 rfl ?_
    refine av_wp_sqF ck_66 1 (pc' := 248) (lv' := [some (.inr (.inr (.inl (some (24)))))]) (st' := [.inr (.inr (.inl (some (24))))]) (h' := h3) rfl ?_
    refine wq_gr (p' := 251) (ck_66 _ _ rfl) rfl (congrArg Prod.fst (ly_k C4.1 24 rfl)) rfl (ly_g C4.1 24 1 25 rfl) ?_
    refine av_wp_sqF ck_66 2 (pc' := 254) (lv' := [some (.inr (.inr (.inl (some (24)))))]) (st' := [.inr (.inr (.inl (some (24)))), .inl (12), .inr (.inr (.inl (some (25))))]) (h' := h3) rfl ?_
    refine wq_gr (p' := 257) (ck_66 _ _ rfl) rfl (congrArg Prod.fst (ly_k C4.1 24 rfl)) rfl (ly_g C4.1 24 0 1 rfl) ?_
    refine av_wp_sqF ck_66 1 (pc' := 259) (lv' := [some (.inr (.inr (.inl (some (24)))))]) (st' := [.inr (.inr (.inr 19)), .inr (.inr (.inl (some (1)))), .inl (12), .inr (.inr (.inl (some (25))))]) (h' := h3) rfl ?_
    refine wq_cv (p' := 262) (av_qc (.invokevirtual 43) 87 1 0 6) 3 cd_87 [.inr (.inr (.inr 19))] (1) 6 [some (.inr (.inr (.inl (some (1))))), some (.inr (.inr (.inr 19))), none] (ck_66 _ _ rfl) rfl rfl pp_87 rfl rfl rfl (congrArg Prod.fst (ly_k C4.1 1 rfl)) rfl rfl rfl rfl ?_
    refine ct_87 C4 F5 19 (by decide) (fun v194 h196 p195 C197 F198 => ?_)
    have g199 := pkv_le (b := b) (t := t8) 19 2 rfl
    have q200 := p195.1.symm
    have p195 := p195.2
    generalize q202 : cho b lim t8 19 = t201 at C197
    have g203 := ct_wf C197
    show av_wp _ cd_66 262 [some (.inr (.inr (.inl (some (24)))))] [.inl v194, .inl (12), .inr (.inr (.inl (some (25))))] h196 _
    refine ct_ds (p' := 263) rfl rfl C197 F198 12 (by omega) (by omega) (by omega) (fun h204 C205 F206 => ?_)
    refine av_wp_sqF ck_66 2 (pc' := 267) (lv' := [some (.inr (.inr (.inl (some (24)))))]) (st' := [.inr (.inr (.inl (some (24))))]) (h' := h204) rfl ?_
    refine wq_gr (p' := 270) (ck_66 _ _ rfl) rfl (congrArg Prod.fst (ly_k C205.1 24 rfl)) rfl (ly_g C205.1 24 0 1 rfl) ?_
    refine wq_cv (p' := 273) (av_qc (.invokevirtual 66) 90 0 0 6) 1 cd_90 [] (1) 6 [some (.inr (.inr (.inl (some (1)))))] (ck_66 _ _ rfl) rfl rfl pp_90 rfl rfl rfl (congrArg Prod.fst (ly_k C205.1 1 rfl)) rfl rfl rfl rfl ?_
    refine ct_90 C205 F206 (fun h207 C208 F209 => ?_)
    generalize q211 : sem b lim t201 = t210 at C208
    have g212 := ct_wf C208
    show av_wp _ cd_66 273 [some (.inr (.inr (.inl (some (24)))))] [] h207 _
    refine av_wp_ret (v := none) (ck_66 _ _ rfl) rfl rfl ?_
    exact hq h207 (by simp only [rl1, rlK, rlC, rlN, q7, q9, q200, q202, q211, if_neg (show ¬ v1 = 0 by omega), if_neg (show ¬ v1 = 1 by omega), if_neg (show ¬ v1 = 2 by omega), if_neg (show ¬ v1 = 3 by omega), if_neg (show ¬ v1 = 4 by omega), if_neg (show ¬ v1 = 5 by omega), if_neg (show ¬ v1 = 6 by omega), if_neg (show ¬ v1 = 7 by omega), if_neg (show ¬ v1 = 8 by omega), if_neg (show ¬ v1 = 9 by omega), if_pos (show v1 = 10 by omega)]; exact C208) F209
  · refine wq_td (t := 266) (ck_66 _ _ rfl) ⟨by omega, by omega⟩ e11 rfl ?_
    refine av_wp_sqF ck_66 1 (pc' := 267) (lv' := [some (.inr (.inr (.inl (some (24)))))]) (st' := [.inr (.inr (.inl (some (24))))]) (h' := h3) rfl ?_
    refine wq_gr (p' := 270) (ck_66 _ _ rfl) rfl (congrArg Prod.fst (ly_k C4.1 24 rfl)) rfl (ly_g C4.1 24 0 1 rfl) ?_
    refine wq_cv (p' := 273) (av_qc (.invokevirtual 66) 90 0 0 6) 1 cd_90 [] (1) 6 [some (.inr (.inr (.inl (some (1)))))] (ck_66 _ _ rfl) rfl rfl pp_90 rfl rfl rfl (congrArg Prod.fst (ly_k C4.1 1 rfl)) rfl rfl rfl rfl ?_
    refine ct_90 C4 F5 (fun h213 C214 F215 => ?_)
    generalize q217 : sem b lim t8 = t216 at C214
    have g218 := ct_wf C214
    show av_wp _ cd_66 273 [some (.inr (.inr (.inl (some (24)))))] [] h213 _
    refine av_wp_ret (v := none) (ck_66 _ _ rfl) rfl rfl ?_
    exact hq h213 (by simp only [rl1, rlK, rlC, rlN, q7, q9, q217, if_neg (show ¬ v1 = 0 by omega), if_neg (show ¬ v1 = 1 by omega), if_neg (show ¬ v1 = 2 by omega), if_neg (show ¬ v1 = 3 by omega), if_neg (show ¬ v1 = 4 by omega), if_neg (show ¬ v1 = 5 by omega), if_neg (show ¬ v1 = 6 by omega), if_neg (show ¬ v1 = 7 by omega), if_neg (show ¬ v1 = 8 by omega), if_neg (show ¬ v1 = 9 by omega), if_neg (show ¬ v1 = 10 by omega)]; exact C214) F215

section
variable (b : Nat → Int) (lim : Nat)
/-- all rules of a text, at least y of them -/
def rlA (y : Int) (t : TT) (d : Nat → Int) : Nat × TT × (Nat → Int) := ((rlf b lim 21 0 t (ufil d 0 14 (-2))).1, (if ((rlf b lim 21 0 t (ufil d 0 14 (-2))).1 : Int) < y then fal (rlf b lim 21 0 t (ufil d 0 14 (-2))).2.1 else (rlf b lim 21 0 t (ufil d 0 14 (-2))).2.1), av_u1 (rlf b lim 21 0 t (ufil d 0 14 (-2))).2.2 13 ((rlf b lim 21 0 t (ufil d 0 14 (-2))).1 : Int))
end

set_option maxRecDepth 100000 in
set_option maxHeartbeats 4000000 in
theorem ct_65 {g h : av_H} {b r d : Nat → Int} {lim : Nat} {t : TT} (C : CT b lim t r d h) (F : FT g h) (y : Int) (qy : 0 ≤ y ∧ y ≤ 1) {Q : Option av_V → av_H → Prop} (hq : ∀ (v : Int) h', CT b lim (rlA b lim y t d).2.1 r (rlA b lim y t d).2.2 h' → FT g h' → ((v = 1 ∧ (rlA b lim y t d).2.1.2.2.2 = -1) ∨ (v = 0 ∧ (rlA b lim y t d).2.1.2.2.2 ≠ -1)) → Q (some (.inl v)) h') : av_wp none cd_65 0 [some (.inr (.inr (.inl (some (24))))), some (.inl y), none, none] [] h Q := by
  have g0 := ct_wf C
  refine av_wp_sqF ck_65 1 (pc' := 1) (lv' := [some (.inr (.inr (.inl (some (24))))), some (.inl y), none, none]) (st' := [.inr (.inr (.inl (some (24))))]) (h' := h) rfl ?_
  refine wq_gr (p' := 4) (ck_65 _ _ rfl) rfl (congrArg Prod.fst (ly_k C.1 24 rfl)) rfl (ly_g C.1 24 1 25 rfl) ?_
  refine av_wp_sqF ck_65 1 (pc' := 6) (lv' := [some (.inr (.inr (.inl (some (24))))), some (.inl y), none, none]) (st' := [.inl (-2), .inr (.inr (.inl (some (25))))]) (h' := h) rfl ?_
  refine wq_cs (p' := 9) (av_qc (.invokestatic 19) 220 2 2 10) 4 cd_220 [.inr (.inr (.inl (some (25)))), .inl (-2)] [.inl (-2), .inr (.inr (.inl (some (25))))] [some (.inr (.inr (.inl (some (25))))), some (.inl (-2)), none, none] (ck_65 _ _ rfl) rfl rfl pp_220 (fun _ => rfl) rfl rfl ?_
  refine ct_220 (n := 14) (ly_k C.1 25 rfl) (by omega) ?_
  obtain ⟨C1, F2⟩ := ct_dfil (lo := 0) (hi := 14) (v := (-2)) C F (by omega)
  generalize hfil h 25 0 14 (-2) = h3 at C1 F2 ⊢
  show av_wp _ cd_65 9 [some (.inr (.inr (.inl (some (24))))), some (.inl y), none, none] [] h3 _
  refine av_wp_sqF ck_65 4 (pc' := 13) (lv' := [some (.inr (.inr (.inl (some (24))))), some (.inl y), some (.inl (0)), some (.inl (0))]) (st' := []) (h' := h3) rfl ?_
  have L4 : ∀ (n k : Nat) (t1 : TT) (d1 : Nat → Int) (h1 : av_H), n + k = 21 → k ≤ 20 → CT b lim t1 r d1 h1 → FT g h1 → rlf b lim n k t1 d1 = rlf b lim 21 0 t (ufil d 0 14 (-2)) → av_wp none cd_65 13 [some (.inr (.inr (.inl (some (24))))), some (.inl y), some (.inl (k : Int)), some (.inl (k : Int))] [] h1 Q := by
    intro n
    induction n with
    | zero => intro k t1 d1 h1 e1 e2; exfalso; omega
    | succ n ih =>
      intro k t1 d1 h1 e1 e2 C1 F1 he
      have g1 := ct_wf C1
      refine av_wp_sqF ck_65 2 (pc' := 16) (lv' := [some (.inr (.inr (.inl (some (24))))), some (.inl y), some (.inl (k : Int)), some (.inl (k : Int))]) (st' := [.inl (20), .inl (k : Int)]) (h' := h1) rfl ?_
      refine wq_k2 (p' := 19) (ck_65 _ _ rfl) rfl ⟨by omega, by omega⟩ ⟨by omega, by omega⟩ (fun c5 => ?_) (fun c6 => ?_)
      · have c5 : (20) < (k : Int) := c5
        exfalso; omega
      · have c6 : (k : Int) ≤ (20) := c6
        refine av_wp_sqF ck_65 1 (pc' := 20) (lv' := [some (.inr (.inr (.inl (some (24))))), some (.inl y), some (.inl (k : Int)), some (.inl (k : Int))]) (st' := [.inr (.inr (.inl (some (24))))]) (h' := h1) rfl ?_
        refine wq_gr (p' := 23) (ck_65 _ _ rfl) rfl (congrArg Prod.fst (ly_k C1.1 24 rfl)) rfl (ly_g C1.1 24 0 1 rfl) ?_
        refine wq_cv (p' := 26) (av_qc (.invokevirtual 25) 84 0 0 6) 1 cd_84 [] (1) 6 [some (.inr (.inr (.inl (some (1)))))] (ck_65 _ _ rfl) rfl rfl pp_84 rfl rfl rfl (congrArg Prod.fst (ly_k C1.1 1 rfl)) rfl rfl rfl rfl ?_
        refine ct_84 C1 F1 (fun v7 p8 => ?_)
        show av_wp _ cd_65 26 [some (.inr (.inr (.inl (some (24))))), some (.inl y), some (.inl (k : Int)), some (.inl (k : Int))] [.inl v7] h1 _
        refine wq_k1 (p' := 29) (ck_65 _ _ rfl) rfl ⟨by omega, by omega⟩ (fun c9 => ?_) (fun c10 => ?_)
        · have c9 : v7 = (0) := c9
          have hx : rlf b lim 21 0 t (ufil d 0 14 (-2)) = (k, t1, d1) := by rw [← he]; unfold rlf; rw [if_neg (by omega)]
          refine av_wp_sqF ck_65 2 (pc' := 60) (lv' := [some (.inr (.inr (.inl (some (24))))), some (.inl y), some (.inl (k : Int)), some (.inl (k : Int))]) (st' := [.inl y, .inl (k : Int)]) (h' := h1) rfl ?_
          refine wq_k2 (p' := 63) (ck_65 _ _ rfl) rfl ⟨by omega, by omega⟩ ⟨by omega, by omega⟩ (fun c11 => ?_) (fun c12 => ?_)
          · have c11 : y ≤ (k : Int) := c11
            refine av_wp_sqF ck_65 1 (pc' := 71) (lv' := [some (.inr (.inr (.inl (some (24))))), some (.inl y), some (.inl (k : Int)), some (.inl (k : Int))]) (st' := [.inr (.inr (.inl (some (24))))]) (h' := h1) rfl ?_
            refine wq_gr (p' := 74) (ck_65 _ _ rfl) rfl (congrArg Prod.fst (ly_k C1.1 24 rfl)) rfl (ly_g C1.1 24 1 25 rfl) ?_
            refine av_wp_sqF ck_65 2 (pc' := 77) (lv' := [some (.inr (.inr (.inl (some (24))))), some (.inl y), some (.inl (k : Int)), some (.inl (k : Int))]) (st' := [.inl (k : Int), .inl (13), .inr (.inr (.inl (some (25))))]) (h' := h1) rfl ?_
            refine ct_ds (p' := 78) rfl rfl C1 F1 13 (by omega) (by omega) (by omega) (fun h13 C14 F15 => ?_)
            refine av_wp_sqF ck_65 1 (pc' := 79) (lv' := [some (.inr (.inr (.inl (some (24))))), some (.inl y), some (.inl (k : Int)), some (.inl (k : Int))]) (st' := [.inr (.inr (.inl (some (24))))]) (h' := h13) rfl ?_
            refine wq_gr (p' := 82) (ck_65 _ _ rfl) rfl (congrArg Prod.fst (ly_k C14.1 24 rfl)) rfl (ly_g C14.1 24 0 1 rfl) ?_
            refine wq_gi (p' := 85) (ck_65 _ _ rfl) rfl (congrArg Prod.fst (ly_k C14.1 1 rfl)) rfl (ct_w C14) ?_
            refine av_wp_sqF ck_65 1 (pc' := 86) (lv' := [some (.inr (.inr (.inl (some (24))))), some (.inl y), some (.inl (k : Int)), some (.inl (k : Int))]) (st' := [.inl (-1), .inl t1.2.2.2]) (h' := h13) rfl ?_
            refine wq_k2 (p' := 89) (ck_65 _ _ rfl) rfl ⟨by omega, by omega⟩ ⟨by omega, by omega⟩ (fun c16 => ?_) (fun c17 => ?_)
            · have c16 : t1.2.2.2 ≠ (-1) := c16
              refine av_wp_sqF ck_65 1 (pc' := 94) (lv' := [some (.inr (.inr (.inl (some (24))))), some (.inl y), some (.inl (k : Int)), some (.inl (k : Int))]) (st' := [.inl (0)]) (h' := h13) rfl ?_
              refine av_wp_ret (v := some (.inl (0))) (ck_65 _ _ rfl) rfl rfl ?_
              have ht : (rlA b lim y t d).2.1 = t1 := by simp only [rlA, hx, if_neg (show ¬ (k : Int) < y by omega)]
              exact hq _ h13 (by simp only [rlA, hx, if_neg (show ¬ (k : Int) < y by omega)]; exact C14) F15 (by rw [ht]; omega)
            · have c17 : t1.2.2.2 = (-1) := c17
              refine av_wp_sqF ck_65 2 (pc' := 94) (lv' := [some (.inr (.inr (.inl (some (24))))), some (.inl y), some (.inl (k : Int)), some (.inl (k : Int))]) (st' := [.inl (1)]) (h' := h13) rfl ?_
              refine av_wp_ret (v := some (.inl (1))) (ck_65 _ _ rfl) rfl rfl ?_
              have ht : (rlA b lim y t d).2.1 = t1 := by simp only [rlA, hx, if_neg (show ¬ (k : Int) < y by omega)]
              exact hq _ h13 (by simp only [rlA, hx, if_neg (show ¬ (k : Int) < y by omega)]; exact C14) F15 (by rw [ht]; omega)
          · have c12 : (k : Int) < y := c12
            refine av_wp_sqF ck_65 1 (pc' := 64) (lv' := [some (.inr (.inr (.inl (some (24))))), some (.inl y), some (.inl (k : Int)), some (.inl (k : Int))]) (st' := [.inr (.inr (.inl (some (24))))]) (h' := h1) rfl ?_
            refine wq_gr (p' := 67) (ck_65 _ _ rfl) rfl (congrArg Prod.fst (ly_k C1.1 24 rfl)) rfl (ly_g C1.1 24 0 1 rfl) ?_
            refine wq_cv (p' := 70) (av_qc (.invokevirtual 31) 85 0 0 6) 1 cd_85 [] (1) 6 [some (.inr (.inr (.inl (some (1)))))] (ck_65 _ _ rfl) rfl rfl pp_85 rfl rfl rfl (congrArg Prod.fst (ly_k C1.1 1 rfl)) rfl rfl rfl rfl ?_
            refine ct_85 C1 F1 (fun h18 C19 F20 => ?_)
            generalize q22 : fal t1 = t21 at C19
            have g23 := ct_wf C19
            show av_wp _ cd_65 70 [some (.inr (.inr (.inl (some (24))))), some (.inl y), some (.inl (k : Int)), some (.inl (k : Int))] [] h18 _
            refine av_wp_sqF ck_65 1 (pc' := 71) (lv' := [some (.inr (.inr (.inl (some (24))))), some (.inl y), some (.inl (k : Int)), some (.inl (k : Int))]) (st' := [.inr (.inr (.inl (some (24))))]) (h' := h18) rfl ?_
            refine wq_gr (p' := 74) (ck_65 _ _ rfl) rfl (congrArg Prod.fst (ly_k C19.1 24 rfl)) rfl (ly_g C19.1 24 1 25 rfl) ?_
            refine av_wp_sqF ck_65 2 (pc' := 77) (lv' := [some (.inr (.inr (.inl (some (24))))), some (.inl y), some (.inl (k : Int)), some (.inl (k : Int))]) (st' := [.inl (k : Int), .inl (13), .inr (.inr (.inl (some (25))))]) (h' := h18) rfl ?_
            refine ct_ds (p' := 78) rfl rfl C19 F20 13 (by omega) (by omega) (by omega) (fun h24 C25 F26 => ?_)
            refine av_wp_sqF ck_65 1 (pc' := 79) (lv' := [some (.inr (.inr (.inl (some (24))))), some (.inl y), some (.inl (k : Int)), some (.inl (k : Int))]) (st' := [.inr (.inr (.inl (some (24))))]) (h' := h24) rfl ?_
            refine wq_gr (p' := 82) (ck_65 _ _ rfl) rfl (congrArg Prod.fst (ly_k C25.1 24 rfl)) rfl (ly_g C25.1 24 0 1 rfl) ?_
            refine wq_gi (p' := 85) (ck_65 _ _ rfl) rfl (congrArg Prod.fst (ly_k C25.1 1 rfl)) rfl (ct_w C25) ?_
            refine av_wp_sqF ck_65 1 (pc' := 86) (lv' := [some (.inr (.inr (.inl (some (24))))), some (.inl y), some (.inl (k : Int)), some (.inl (k : Int))]) (st' := [.inl (-1), .inl t21.2.2.2]) (h' := h24) rfl ?_
            refine wq_k2 (p' := 89) (ck_65 _ _ rfl) rfl ⟨by omega, by omega⟩ ⟨by omega, by omega⟩ (fun c27 => ?_) (fun c28 => ?_)
            · have c27 : t21.2.2.2 ≠ (-1) := c27
              refine av_wp_sqF ck_65 1 (pc' := 94) (lv' := [some (.inr (.inr (.inl (some (24))))), some (.inl y), some (.inl (k : Int)), some (.inl (k : Int))]) (st' := [.inl (0)]) (h' := h24) rfl ?_
              refine av_wp_ret (v := some (.inl (0))) (ck_65 _ _ rfl) rfl rfl ?_
              have ht : (rlA b lim y t d).2.1 = t21 := by simp only [rlA, hx, if_pos (show (k : Int) < y by omega), q22]
              exact hq _ h24 (by simp only [rlA, hx, if_pos (show (k : Int) < y by omega), q22]; exact C25) F26 (by rw [ht]; omega)
            · have c28 : t21.2.2.2 = (-1) := c28
              refine av_wp_sqF ck_65 2 (pc' := 94) (lv' := [some (.inr (.inr (.inl (some (24))))), some (.inl y), some (.inl (k : Int)), some (.inl (k : Int))]) (st' := [.inl (1)]) (h' := h24) rfl ?_
              refine av_wp_ret (v := some (.inl (1))) (ck_65 _ _ rfl) rfl rfl ?_
              have ht : (rlA b lim y t d).2.1 = t21 := by simp only [rlA, hx, if_pos (show (k : Int) < y by omega), q22]
              exact hq _ h24 (by simp only [rlA, hx, if_pos (show (k : Int) < y by omega), q22]; exact C25) F26 (by rw [ht]; omega)
        · have c10 : v7 ≠ (0) := c10
          refine av_wp_sqF ck_65 2 (pc' := 32) (lv' := [some (.inr (.inr (.inl (some (24))))), some (.inl y), some (.inl (k : Int)), some (.inl (k : Int))]) (st' := [.inl (20), .inl (k : Int)]) (h' := h1) rfl ?_
          refine wq_k2 (p' := 35) (ck_65 _ _ rfl) rfl ⟨by omega, by omega⟩ ⟨by omega, by omega⟩ (fun c29 => ?_) (fun c30 => ?_)
          · have c29 : (k : Int) ≠ (20) := c29
            refine av_wp_sqF ck_65 1 (pc' := 46) (lv' := [some (.inr (.inr (.inl (some (24))))), some (.inl y), some (.inl (k : Int)), some (.inl (k : Int))]) (st' := [.inr (.inr (.inl (some (24))))]) (h' := h1) rfl ?_
            refine wq_cv (p' := 49) (av_qc (.invokevirtual 34) 66 0 0 4) 1 cd_66 [] (24) 4 [some (.inr (.inr (.inl (some (24)))))] (ck_65 _ _ rfl) rfl rfl pp_66 rfl rfl rfl (congrArg Prod.fst (ly_k C1.1 24 rfl)) rfl rfl rfl rfl ?_
            refine ct_66 C1 F1 (fun h31 C32 F33 => ?_)
            have g37 := ct_wf C32
            show av_wp _ cd_65 49 [some (.inr (.inr (.inl (some (24))))), some (.inl y), some (.inl (k : Int)), some (.inl (k : Int))] [] h31 _
            refine av_wp_sqF ck_65 3 (pc' := 13) (lv' := [some (.inr (.inr (.inl (some (24))))), some (.inl y), some (.inl ((k : Int) + (1))), some (.inl ((k : Int) + (1)))]) (st' := []) (h' := h31) rfl ?_
            have he2 : rlf b lim n (k + 1) (rl1 b lim t1 d1).1 (rl1 b lim t1 d1).2 = rlf b lim 21 0 t (ufil d 0 14 (-2)) := by
              rw [← he]
              conv => rhs; unfold rlf
              rw [if_pos (by omega), if_neg (by omega)]
            exact ih (k + 1) _ _ h31 (by omega) (by omega) C32 F33 he2
          · have c30 : (k : Int) = (20) := c30
            refine av_wp_sqF ck_65 1 (pc' := 36) (lv' := [some (.inr (.inr (.inl (some (24))))), some (.inl y), some (.inl (k : Int)), some (.inl (k : Int))]) (st' := [.inr (.inr (.inl (some (24))))]) (h' := h1) rfl ?_
            refine wq_gr (p' := 39) (ck_65 _ _ rfl) rfl (congrArg Prod.fst (ly_k C1.1 24 rfl)) rfl (ly_g C1.1 24 0 1 rfl) ?_
            refine wq_cv (p' := 42) (av_qc (.invokevirtual 31) 85 0 0 6) 1 cd_85 [] (1) 6 [some (.inr (.inr (.inl (some (1)))))] (ck_65 _ _ rfl) rfl rfl pp_85 rfl rfl rfl (congrArg Prod.fst (ly_k C1.1 1 rfl)) rfl rfl rfl rfl ?_
            refine ct_85 C1 F1 (fun h38 C39 F40 => ?_)
            generalize q42 : fal t1 = t41 at C39
            have g43 := ct_wf C39
            show av_wp _ cd_65 42 [some (.inr (.inr (.inl (some (24))))), some (.inl y), some (.inl (k : Int)), some (.inl (k : Int))] [] h38 _
            refine av_wp_sqF ck_65 3 (pc' := 13) (lv' := [some (.inr (.inr (.inl (some (24))))), some (.inl y), some (.inl (k : Int)), some (.inl ((k : Int) + (1)))]) (st' := []) (h' := h38) rfl ?_
            refine av_wp_sqF ck_65 2 (pc' := 16) (lv' := [some (.inr (.inr (.inl (some (24))))), some (.inl y), some (.inl (k : Int)), some (.inl ((k : Int) + (1)))]) (st' := [.inl (20), .inl ((k : Int) + (1))]) (h' := h38) rfl ?_
            refine wq_k2 (p' := 19) (ck_65 _ _ rfl) rfl ⟨by omega, by omega⟩ ⟨by omega, by omega⟩ (fun c44 => ?_) (fun c45 => ?_)
            · have c44 : (20) < ((k : Int) + (1)) := c44
              have hx : rlf b lim 21 0 t (ufil d 0 14 (-2)) = (k, t41, d1) := by rw [← he]; unfold rlf; rw [if_pos (by omega), if_pos (by omega), q42]
              refine av_wp_sqF ck_65 2 (pc' := 60) (lv' := [some (.inr (.inr (.inl (some (24))))), some (.inl y), some (.inl (k : Int)), some (.inl ((k : Int) + (1)))]) (st' := [.inl y, .inl (k : Int)]) (h' := h38) rfl ?_
              refine wq_k2 (p' := 63) (ck_65 _ _ rfl) rfl ⟨by omega, by omega⟩ ⟨by omega, by omega⟩ (fun c46 => ?_) (fun c47 => ?_)
              · have c46 : y ≤ (k : Int) := c46
                refine av_wp_sqF ck_65 1 (pc' := 71) (lv' := [some (.inr (.inr (.inl (some (24))))), some (.inl y), some (.inl (k : Int)), some (.inl ((k : Int) + (1)))]) (st' := [.inr (.inr (.inl (some (24))))]) (h' := h38) rfl ?_
                refine wq_gr (p' := 74) (ck_65 _ _ rfl) rfl (congrArg Prod.fst (ly_k C39.1 24 rfl)) rfl (ly_g C39.1 24 1 25 rfl) ?_
                refine av_wp_sqF ck_65 2 (pc' := 77) (lv' := [some (.inr (.inr (.inl (some (24))))), some (.inl y), some (.inl (k : Int)), some (.inl ((k : Int) + (1)))]) (st' := [.inl (k : Int), .inl (13), .inr (.inr (.inl (some (25))))]) (h' := h38) rfl ?_
                refine ct_ds (p' := 78) rfl rfl C39 F40 13 (by omega) (by omega) (by omega) (fun h48 C49 F50 => ?_)
                refine av_wp_sqF ck_65 1 (pc' := 79) (lv' := [some (.inr (.inr (.inl (some (24))))), some (.inl y), some (.inl (k : Int)), some (.inl ((k : Int) + (1)))]) (st' := [.inr (.inr (.inl (some (24))))]) (h' := h48) rfl ?_
                refine wq_gr (p' := 82) (ck_65 _ _ rfl) rfl (congrArg Prod.fst (ly_k C49.1 24 rfl)) rfl (ly_g C49.1 24 0 1 rfl) ?_
                refine wq_gi (p' := 85) (ck_65 _ _ rfl) rfl (congrArg Prod.fst (ly_k C49.1 1 rfl)) rfl (ct_w C49) ?_
                refine av_wp_sqF ck_65 1 (pc' := 86) (lv' := [some (.inr (.inr (.inl (some (24))))), some (.inl y), some (.inl (k : Int)), some (.inl ((k : Int) + (1)))]) (st' := [.inl (-1), .inl t41.2.2.2]) (h' := h48) rfl ?_
                refine wq_k2 (p' := 89) (ck_65 _ _ rfl) rfl ⟨by omega, by omega⟩ ⟨by omega, by omega⟩ (fun c51 => ?_) (fun c52 => ?_)
                · have c51 : t41.2.2.2 ≠ (-1) := c51
                  refine av_wp_sqF ck_65 1 (pc' := 94) (lv' := [some (.inr (.inr (.inl (some (24))))), some (.inl y), some (.inl (k : Int)), some (.inl ((k : Int) + (1)))]) (st' := [.inl (0)]) (h' := h48) rfl ?_
                  refine av_wp_ret (v := some (.inl (0))) (ck_65 _ _ rfl) rfl rfl ?_
                  have ht : (rlA b lim y t d).2.1 = t41 := by simp only [rlA, hx, if_neg (show ¬ (k : Int) < y by omega)]
                  exact hq _ h48 (by simp only [rlA, hx, if_neg (show ¬ (k : Int) < y by omega)]; exact C49) F50 (by rw [ht]; omega)
                · have c52 : t41.2.2.2 = (-1) := c52
                  refine av_wp_sqF ck_65 2 (pc' := 94) (lv' := [some (.inr (.inr (.inl (some (24))))), some (.inl y), some (.inl (k : Int)), some (.inl ((k : Int) + (1)))]) (st' := [.inl (1)]) (h' := h48) rfl ?_
                  refine av_wp_ret (v := some (.inl (1))) (ck_65 _ _ rfl) rfl rfl ?_
                  have ht : (rlA b lim y t d).2.1 = t41 := by simp only [rlA, hx, if_neg (show ¬ (k : Int) < y by omega)]
                  exact hq _ h48 (by simp only [rlA, hx, if_neg (show ¬ (k : Int) < y by omega)]; exact C49) F50 (by rw [ht]; omega)
              · have c47 : (k : Int) < y := c47
                exfalso; omega
            · have c45 : ((k : Int) + (1)) ≤ (20) := c45
              exfalso; omega
  exact L4 21 0 t (ufil d 0 14 (-2)) h3 rfl (by omega) C1 F2 rfl
end
section
/-! THE REFERENCE'S READER OF LAWS, by the class's functions -/
set_option maxRecDepth 100000 in
set_option maxHeartbeats 4000000 in
theorem ct_152 {g h : av_H} {b : Nat → Int} {lim : Nat} {t : TT} {x17 : Int} {A : Nat → Nat → Int} (N : MT b lim t x17 A h) (F : FD g h)  {Q : Option av_V → av_H → Prop} (hq : ∀ h', MT b lim (cho b lim t 14) x17 A h' → FD g h' → Q (some (.inl (pkv b t 14))) h') : av_wp none cd_152 0 [some (.inr (.inr (.inl (some (77))))), none] [] h Q := by
  have gw1 : t.1 ≤ 900 ∧ t.2.1 ≤ lim ∧ lim ≤ 900 := ⟨N.2.1.1, N.2.1.2.1, N.2.1.2.2.1⟩
  have gw2 : -1 ≤ t.2.2.2 ∧ t.2.2.2 ≤ 900 := N.2.1.2.2.2.2
  have gt := tok_f t N.2.1.2.2.2.1
  have gtr := gt.2.2.2.2
  clear gt
  refine av_wp_sqF ck_152 2 (pc' := 4) (lv' := [some (.inr (.inr (.inl (some (77))))), none]) (st' := [.inr (.inl (378020)), .inr (.inr (.inl (some (77))))]) (h' := h) rfl ?_
  refine wq_cv (p' := 7) (av_qc (.invokevirtual 187) 132 1 0 8) 3 cd_132 [.inr (.inl (378020))] (77) 8 [some (.inr (.inr (.inl (some (77))))), some (.inr (.inl (378020))), none] (ck_152 _ _ rfl) rfl rfl pp_132 rfl rfl rfl (congrArg Prod.fst (ly_k N.1.1 77 rfl)) rfl rfl rfl rfl ?_
  refine ct_132 N F (378020) (by omega) (fun z1 => ?_) (fun z1 => ?_)
  · show av_wp _ cd_152 7 [some (.inr (.inr (.inl (some (77))))), none] [.inl (1)] h _
    refine av_wp_sqF ck_152 7 (pc' := 56) (lv' := [some (.inr (.inr (.inl (some (77))))), some (.inl (0))]) (st' := [.inr (.inr (.inl (some (77))))]) (h' := h) rfl ?_
    refine wq_cv (p' := 59) (av_qc (.invokevirtual 191) 130 0 0 8) 2 cd_130 [] (77) 8 [some (.inr (.inr (.inl (some (77))))), none] (ck_152 _ _ rfl) rfl rfl pp_130 rfl rfl rfl (congrArg Prod.fst (ly_k N.1.1 77 rfl)) rfl rfl rfl rfl ?_
    refine ct_130t N F (fun h2 N3 F4 => ?_)
    show av_wp _ cd_152 59 [some (.inr (.inr (.inl (some (77))))), some (.inl (0))] [] h2 _
    refine av_wp_sqF ck_152 1 (pc' := 60) (lv' := [some (.inr (.inr (.inl (some (77))))), some (.inl (0))]) (st' := [.inl (0)]) (h' := h2) rfl ?_
    refine av_wp_ret (v := some (.inl (0))) (ck_152 _ _ rfl) rfl rfl ?_
    have z0 : pkv b t 14 = 0 := by rw [pkP_14 N.2.2, if_pos z1]
    have z1 : cho b lim t 14 = (adv b lim t) := if_neg (by omega)
    rw [z0, z1] at hq
    exact hq h2 N3 F4
  · show av_wp _ cd_152 7 [some (.inr (.inr (.inl (some (77))))), none] [.inl (0)] h _
    refine av_wp_sqF ck_152 3 (pc' := 18) (lv' := [some (.inr (.inr (.inl (some (77))))), none]) (st' := [.inr (.inl (70340)), .inr (.inr (.inl (some (77))))]) (h' := h) rfl ?_
    refine wq_cv (p' := 21) (av_qc (.invokevirtual 187) 132 1 0 8) 3 cd_132 [.inr (.inl (70340))] (77) 8 [some (.inr (.inr (.inl (some (77))))), some (.inr (.inl (70340))), none] (ck_152 _ _ rfl) rfl rfl pp_132 rfl rfl rfl (congrArg Prod.fst (ly_k N.1.1 77 rfl)) rfl rfl rfl rfl ?_
    refine ct_132 N F (70340) (by omega) (fun z5 => ?_) (fun z5 => ?_)
    · show av_wp _ cd_152 21 [some (.inr (.inr (.inl (some (77))))), none] [.inl (1)] h _
      refine av_wp_sqF ck_152 7 (pc' := 56) (lv' := [some (.inr (.inr (.inl (some (77))))), some (.inl (1))]) (st' := [.inr (.inr (.inl (some (77))))]) (h' := h) rfl ?_
      refine wq_cv (p' := 59) (av_qc (.invokevirtual 191) 130 0 0 8) 2 cd_130 [] (77) 8 [some (.inr (.inr (.inl (some (77))))), none] (ck_152 _ _ rfl) rfl rfl pp_130 rfl rfl rfl (congrArg Prod.fst (ly_k N.1.1 77 rfl)) rfl rfl rfl rfl ?_
      refine ct_130t N F (fun h6 N7 F8 => ?_)
      show av_wp _ cd_152 59 [some (.inr (.inr (.inl (some (77))))), some (.inl (1))] [] h6 _
      refine av_wp_sqF ck_152 1 (pc' := 60) (lv' := [some (.inr (.inr (.inl (some (77))))), some (.inl (1))]) (st' := [.inl (1)]) (h' := h6) rfl ?_
      refine av_wp_ret (v := some (.inl (1))) (ck_152 _ _ rfl) rfl rfl ?_
      have z0 : pkv b t 14 = 1 := by rw [pkP_14 N.2.2, if_neg z1, if_pos z5]
      have z1 : cho b lim t 14 = (adv b lim t) := if_neg (by omega)
      rw [z0, z1] at hq
      exact hq h6 N7 F8
    · show av_wp _ cd_152 21 [some (.inr (.inr (.inl (some (77))))), none] [.inl (0)] h _
      refine av_wp_sqF ck_152 3 (pc' := 32) (lv' := [some (.inr (.inr (.inl (some (77))))), none]) (st' := [.inr (.inl (357970)), .inr (.inr (.inl (some (77))))]) (h' := h) rfl ?_
      refine wq_cv (p' := 35) (av_qc (.invokevirtual 187) 132 1 0 8) 3 cd_132 [.inr (.inl (357970))] (77) 8 [some (.inr (.inr (.inl (some (77))))), some (.inr (.inl (357970))), none] (ck_152 _ _ rfl) rfl rfl pp_132 rfl rfl rfl (congrArg Prod.fst (ly_k N.1.1 77 rfl)) rfl rfl rfl rfl ?_
      refine ct_132 N F (357970) (by omega) (fun z9 => ?_) (fun z9 => ?_)
      · show av_wp _ cd_152 35 [some (.inr (.inr (.inl (some (77))))), none] [.inl (1)] h _
        refine av_wp_sqF ck_152 7 (pc' := 56) (lv' := [some (.inr (.inr (.inl (some (77))))), some (.inl (2))]) (st' := [.inr (.inr (.inl (some (77))))]) (h' := h) rfl ?_
        refine wq_cv (p' := 59) (av_qc (.invokevirtual 191) 130 0 0 8) 2 cd_130 [] (77) 8 [some (.inr (.inr (.inl (some (77))))), none] (ck_152 _ _ rfl) rfl rfl pp_130 rfl rfl rfl (congrArg Prod.fst (ly_k N.1.1 77 rfl)) rfl rfl rfl rfl ?_
        refine ct_130t N F (fun h10 N11 F12 => ?_)
        show av_wp _ cd_152 59 [some (.inr (.inr (.inl (some (77))))), some (.inl (2))] [] h10 _
        refine av_wp_sqF ck_152 1 (pc' := 60) (lv' := [some (.inr (.inr (.inl (some (77))))), some (.inl (2))]) (st' := [.inl (2)]) (h' := h10) rfl ?_
        refine av_wp_ret (v := some (.inl (2))) (ck_152 _ _ rfl) rfl rfl ?_
        have z0 : pkv b t 14 = 2 := by rw [pkP_14 N.2.2, if_neg z1, if_neg z5, if_pos z9]
        have z1 : cho b lim t 14 = (adv b lim t) := if_neg (by omega)
        rw [z0, z1] at hq
        exact hq h10 N11 F12
      · show av_wp _ cd_152 35 [some (.inr (.inr (.inl (some (77))))), none] [.inl (0)] h _
        refine av_wp_sqF ck_152 6 (pc' := 49) (lv' := [some (.inr (.inr (.inl (some (77))))), some (.inl (-1))]) (st' := [.inr (.inr (.inl (some (77))))]) (h' := h) rfl ?_
        refine wq_cv (p' := 52) (av_qc (.invokevirtual 194) 131 0 0 8) 1 cd_131 [] (77) 8 [some (.inr (.inr (.inl (some (77)))))] (ck_152 _ _ rfl) rfl rfl pp_131 rfl rfl rfl (congrArg Prod.fst (ly_k N.1.1 77 rfl)) rfl rfl rfl rfl ?_
        refine ct_131 N F (fun h13 N14 F15 => ?_)
        show av_wp _ cd_152 52 [some (.inr (.inr (.inl (some (77))))), some (.inl (-1))] [] h13 _
        refine av_wp_sqF ck_152 2 (pc' := 60) (lv' := [some (.inr (.inr (.inl (some (77))))), some (.inl (-1))]) (st' := [.inl (-1)]) (h' := h13) rfl ?_
        refine av_wp_ret (v := some (.inl (-1))) (ck_152 _ _ rfl) rfl rfl ?_
        have z0 : pkv b t 14 = -1 := by rw [pkP_14 N.2.2, if_neg z1, if_neg z5, if_neg z9]
        have z1 : cho b lim t 14 = (fal t) := if_pos (by omega)
        rw [z0, z1] at hq
        exact hq h13 N14 F15

set_option maxRecDepth 100000 in
set_option maxHeartbeats 4000000 in
theorem ct_153 {g h : av_H} {b : Nat → Int} {lim : Nat} {t : TT} {x17 : Int} {A : Nat → Nat → Int} (N : MT b lim t x17 A h) (F : FD g h) (w0 : Int) (q0 : -9 ≤ w0 ∧ w0 ≤ 9000000000000000000) (w1 : Int) (q1 : -9 ≤ w1 ∧ w1 ≤ 9000000000000000000) (w2 : Int) (q2 : -9 ≤ w2 ∧ w2 ≤ 9000000000000000000) {Q : Option av_V → av_H → Prop} (hq : ∀ h', MT b lim (if on3 b t w0 w1 w2 = -1 then fal t else adv b lim t) x17 A h' → FD g h' → Q (some (.inl (on3 b t w0 w1 w2))) h') : av_wp none cd_153 0 [some (.inr (.inr (.inl (some (77))))), some (.inr (.inl w0)), none, some (.inr (.inl w1)), none, some (.inr (.inl w2)), none, none] [] h Q := by
  have gw1 : t.1 ≤ 900 ∧ t.2.1 ≤ lim ∧ lim ≤ 900 := ⟨N.2.1.1, N.2.1.2.1, N.2.1.2.2.1⟩
  have gw2 : -1 ≤ t.2.2.2 ∧ t.2.2.2 ≤ 900 := N.2.1.2.2.2.2
  have gt := tok_f t N.2.1.2.2.2.1
  have gtr := gt.2.2.2.2
  clear gt
  refine av_wp_sqF ck_153 2 (pc' := 2) (lv' := [some (.inr (.inr (.inl (some (77))))), some (.inr (.inl w0)), none, some (.inr (.inl w1)), none, some (.inr (.inl w2)), none, none]) (st' := [.inr (.inl w0), .inr (.inr (.inl (some (77))))]) (h' := h) rfl ?_
  refine wq_cv (p' := 5) (av_qc (.invokevirtual 187) 132 1 0 8) 3 cd_132 [.inr (.inl w0)] (77) 8 [some (.inr (.inr (.inl (some (77))))), some (.inr (.inl w0)), none] (ck_153 _ _ rfl) rfl rfl pp_132 rfl rfl rfl (congrArg Prod.fst (ly_k N.1.1 77 rfl)) rfl rfl rfl rfl ?_
  refine ct_132 N F w0 (by omega) (fun z1 => ?_) (fun z1 => ?_)
  · show av_wp _ cd_153 5 [some (.inr (.inr (.inl (some (77))))), some (.inr (.inl w0)), none, some (.inr (.inl w1)), none, some (.inr (.inl w2)), none, none] [.inl (1)] h _
    refine av_wp_sqF ck_153 7 (pc' := 53) (lv' := [some (.inr (.inr (.inl (some (77))))), some (.inr (.inl w0)), none, some (.inr (.inl w1)), none, some (.inr (.inl w2)), none, some (.inl (0))]) (st' := [.inr (.inr (.inl (some (77))))]) (h' := h) rfl ?_
    refine wq_cv (p' := 56) (av_qc (.invokevirtual 191) 130 0 0 8) 2 cd_130 [] (77) 8 [some (.inr (.inr (.inl (some (77))))), none] (ck_153 _ _ rfl) rfl rfl pp_130 rfl rfl rfl (congrArg Prod.fst (ly_k N.1.1 77 rfl)) rfl rfl rfl rfl ?_
    refine ct_130t N F (fun h2 N3 F4 => ?_)
    show av_wp _ cd_153 56 [some (.inr (.inr (.inl (some (77))))), some (.inr (.inl w0)), none, some (.inr (.inl w1)), none, some (.inr (.inl w2)), none, some (.inl (0))] [] h2 _
    refine av_wp_sqF ck_153 1 (pc' := 58) (lv' := [some (.inr (.inr (.inl (some (77))))), some (.inr (.inl w0)), none, some (.inr (.inl w1)), none, some (.inr (.inl w2)), none, some (.inl (0))]) (st' := [.inl (0)]) (h' := h2) rfl ?_
    refine av_wp_ret (v := some (.inl (0))) (ck_153 _ _ rfl) rfl rfl ?_
    have z0 : on3 b t w0 w1 w2 = 0 := by unfold on3; rw [if_pos z1]
    rw [z0] at hq
    exact hq h2 (by rw [if_neg (by omega)]; exact N3) F4
  · show av_wp _ cd_153 5 [some (.inr (.inr (.inl (some (77))))), some (.inr (.inl w0)), none, some (.inr (.inl w1)), none, some (.inr (.inl w2)), none, none] [.inl (0)] h _
    refine av_wp_sqF ck_153 3 (pc' := 14) (lv' := [some (.inr (.inr (.inl (some (77))))), some (.inr (.inl w0)), none, some (.inr (.inl w1)), none, some (.inr (.inl w2)), none, none]) (st' := [.inr (.inl w1), .inr (.inr (.inl (some (77))))]) (h' := h) rfl ?_
    refine wq_cv (p' := 17) (av_qc (.invokevirtual 187) 132 1 0 8) 3 cd_132 [.inr (.inl w1)] (77) 8 [some (.inr (.inr (.inl (some (77))))), some (.inr (.inl w1)), none] (ck_153 _ _ rfl) rfl rfl pp_132 rfl rfl rfl (congrArg Prod.fst (ly_k N.1.1 77 rfl)) rfl rfl rfl rfl ?_
    refine ct_132 N F w1 (by omega) (fun z5 => ?_) (fun z5 => ?_)
    · show av_wp _ cd_153 17 [some (.inr (.inr (.inl (some (77))))), some (.inr (.inl w0)), none, some (.inr (.inl w1)), none, some (.inr (.inl w2)), none, none] [.inl (1)] h _
      refine av_wp_sqF ck_153 7 (pc' := 53) (lv' := [some (.inr (.inr (.inl (some (77))))), some (.inr (.inl w0)), none, some (.inr (.inl w1)), none, some (.inr (.inl w2)), none, some (.inl (1))]) (st' := [.inr (.inr (.inl (some (77))))]) (h' := h) rfl ?_
      refine wq_cv (p' := 56) (av_qc (.invokevirtual 191) 130 0 0 8) 2 cd_130 [] (77) 8 [some (.inr (.inr (.inl (some (77))))), none] (ck_153 _ _ rfl) rfl rfl pp_130 rfl rfl rfl (congrArg Prod.fst (ly_k N.1.1 77 rfl)) rfl rfl rfl rfl ?_
      refine ct_130t N F (fun h6 N7 F8 => ?_)
      show av_wp _ cd_153 56 [some (.inr (.inr (.inl (some (77))))), some (.inr (.inl w0)), none, some (.inr (.inl w1)), none, some (.inr (.inl w2)), none, some (.inl (1))] [] h6 _
      refine av_wp_sqF ck_153 1 (pc' := 58) (lv' := [some (.inr (.inr (.inl (some (77))))), some (.inr (.inl w0)), none, some (.inr (.inl w1)), none, some (.inr (.inl w2)), none, some (.inl (1))]) (st' := [.inl (1)]) (h' := h6) rfl ?_
      refine av_wp_ret (v := some (.inl (1))) (ck_153 _ _ rfl) rfl rfl ?_
      have z0 : on3 b t w0 w1 w2 = 1 := by unfold on3; rw [if_neg z1, if_pos z5]
      rw [z0] at hq
      exact hq h6 (by rw [if_neg (by omega)]; exact N7) F8
    · show av_wp _ cd_153 17 [some (.inr (.inr (.inl (some (77))))), some (.inr (.inl w0)), none, some (.inr (.inl w1)), none, some (.inr (.inl w2)), none, none] [.inl (0)] h _
      refine av_wp_sqF ck_153 3 (pc' := 27) (lv' := [some (.inr (.inr (.inl (some (77))))), some (.inr (.inl w0)), none, some (.inr (.inl w1)), none, some (.inr (.inl w2)), none, none]) (st' := [.inr (.inl w2), .inr (.inr (.inl (some (77))))]) (h' := h) rfl ?_
      refine wq_cv (p' := 30) (av_qc (.invokevirtual 187) 132 1 0 8) 3 cd_132 [.inr (.inl w2)] (77) 8 [some (.inr (.inr (.inl (some (77))))), some (.inr (.inl w2)), none] (ck_153 _ _ rfl) rfl rfl pp_132 rfl rfl rfl (congrArg Prod.fst (ly_k N.1.1 77 rfl)) rfl rfl rfl rfl ?_
      refine ct_132 N F w2 (by omega) (fun z9 => ?_) (fun z9 => ?_)
      · show av_wp _ cd_153 30 [some (.inr (.inr (.inl (some (77))))), some (.inr (.inl w0)), none, some (.inr (.inl w1)), none, some (.inr (.inl w2)), none, none] [.inl (1)] h _
        refine av_wp_sqF ck_153 7 (pc' := 53) (lv' := [some (.inr (.inr (.inl (some (77))))), some (.inr (.inl w0)), none, some (.inr (.inl w1)), none, some (.inr (.inl w2)), none, some (.inl (2))]) (st' := [.inr (.inr (.inl (some (77))))]) (h' := h) rfl ?_
        refine wq_cv (p' := 56) (av_qc (.invokevirtual 191) 130 0 0 8) 2 cd_130 [] (77) 8 [some (.inr (.inr (.inl (some (77))))), none] (ck_153 _ _ rfl) rfl rfl pp_130 rfl rfl rfl (congrArg Prod.fst (ly_k N.1.1 77 rfl)) rfl rfl rfl rfl ?_
        refine ct_130t N F (fun h10 N11 F12 => ?_)
        show av_wp _ cd_153 56 [some (.inr (.inr (.inl (some (77))))), some (.inr (.inl w0)), none, some (.inr (.inl w1)), none, some (.inr (.inl w2)), none, some (.inl (2))] [] h10 _
        refine av_wp_sqF ck_153 1 (pc' := 58) (lv' := [some (.inr (.inr (.inl (some (77))))), some (.inr (.inl w0)), none, some (.inr (.inl w1)), none, some (.inr (.inl w2)), none, some (.inl (2))]) (st' := [.inl (2)]) (h' := h10) rfl ?_
        refine av_wp_ret (v := some (.inl (2))) (ck_153 _ _ rfl) rfl rfl ?_
        have z0 : on3 b t w0 w1 w2 = 2 := by unfold on3; rw [if_neg z1, if_neg z5, if_pos z9]
        rw [z0] at hq
        exact hq h10 (by rw [if_neg (by omega)]; exact N11) F12
      · show av_wp _ cd_153 30 [some (.inr (.inr (.inl (some (77))))), some (.inr (.inl w0)), none, some (.inr (.inl w1)), none, some (.inr (.inl w2)), none, none] [.inl (0)] h _
        refine av_wp_sqF ck_153 6 (pc' := 46) (lv' := [some (.inr (.inr (.inl (some (77))))), some (.inr (.inl w0)), none, some (.inr (.inl w1)), none, some (.inr (.inl w2)), none, some (.inl (-1))]) (st' := [.inr (.inr (.inl (some (77))))]) (h' := h) rfl ?_
        refine wq_cv (p' := 49) (av_qc (.invokevirtual 194) 131 0 0 8) 1 cd_131 [] (77) 8 [some (.inr (.inr (.inl (some (77)))))] (ck_153 _ _ rfl) rfl rfl pp_131 rfl rfl rfl (congrArg Prod.fst (ly_k N.1.1 77 rfl)) rfl rfl rfl rfl ?_
        refine ct_131 N F (fun h13 N14 F15 => ?_)
        show av_wp _ cd_153 49 [some (.inr (.inr (.inl (some (77))))), some (.inr (.inl w0)), none, some (.inr (.inl w1)), none, some (.inr (.inl w2)), none, some (.inl (-1))] [] h13 _
        refine av_wp_sqF ck_153 2 (pc' := 58) (lv' := [some (.inr (.inr (.inl (some (77))))), some (.inr (.inl w0)), none, some (.inr (.inl w1)), none, some (.inr (.inl w2)), none, some (.inl (-1))]) (st' := [.inl (-1)]) (h' := h13) rfl ?_
        refine av_wp_ret (v := some (.inl (-1))) (ck_153 _ _ rfl) rfl rfl ?_
        have z0 : on3 b t w0 w1 w2 = -1 := by unfold on3; rw [if_neg z1, if_neg z5, if_neg z9]
        rw [z0] at hq
        exact hq h13 (by rw [if_pos (by omega)]; exact N14) F15

theorem ct_153n {g h : av_H} {b : Nat → Int} {lim : Nat} {t : TT} {x17 : Int} {A : Nat → Nat → Int} (N : MT b lim t x17 A h) (F : FD g h) (w0 : Int) (q0 : -9 ≤ w0 ∧ w0 ≤ 9000000000000000000) (w1 : Int) (q1 : -9 ≤ w1 ∧ w1 ≤ 9000000000000000000) (w2 : Int) (q2 : -9 ≤ w2 ∧ w2 ≤ 9000000000000000000) (n : Nat) (e : on3 b t w0 w1 w2 = pkv b t n) {Q : Option av_V → av_H → Prop} (hq : ∀ h', MT b lim (cho b lim t n) x17 A h' → FD g h' → Q (some (.inl (pkv b t n))) h') : av_wp none cd_153 0 [some (.inr (.inr (.inl (some (77))))), some (.inr (.inl w0)), none, some (.inr (.inl w1)), none, some (.inr (.inl w2)), none, none] [] h Q :=
  ct_153 N F w0 q0 w1 q1 w2 q2 (fun h' N' F' => by
    have hq' := hq h' (by unfold cho; rw [← e]; exact N') F'
    rw [← e] at hq'
    exact hq')
end
