set_option maxRecDepth 100000 in
set_option maxHeartbeats 4000000 in
theorem ct_154 {g h : av_H} {b : Nat → Int} {lim : Nat} {t : TT} {x17 : Int} {A0 : Nat → Nat → Int} {at0 : Nat} {R : Nat → Int} (M : ML b lim t x17 A0 at0 R h) (F : FD g h) (hi : at0 ≤ 960) {d : Nat → Int} (X : RL t R d) (x : Int) (ex : x = (at0 : Int))  {Q : Option av_V → av_H → Prop} (hq : ∀ h' R', ML b lim (rl1 b lim t d).1 x17 A0 at0 R' h' → FD g h' → RL (rl1 b lim t d).1 R' (rl1 b lim t d).2 → Q none h') : av_wp none cd_154 0 [some (.inr (.inr (.inl (some (77))))), some (.inl x), none, none, none] [] h Q := by
  subst ex
  refine av_wp_sqF ck_154 2 (pc' := 4) (lv' := [some (.inr (.inr (.inl (some (77))))), some (.inl (at0 : Int)), none, none, none]) (st' := [.inr (.inl (18379)), .inr (.inr (.inl (some (77))))]) (h' := h) rfl ?_
  refine wq_cv (p' := 7) (av_qc (.invokevirtual 187) 132 1 0 8) 3 cd_132 [.inr (.inl (18379))] (77) 8 [some (.inr (.inr (.inl (some (77))))), some (.inr (.inl (18379))), none] (ck_154 _ _ rfl) rfl rfl pp_132 rfl rfl rfl (congrArg Prod.fst (ly_k (ml_L M) 77 rfl)) rfl rfl rfl rfl ?_
  refine ct_132 M.1 F (18379) (by omega) (fun z1 => ?_) (fun z1 => ?_)
  · show av_wp _ cd_154 7 [some (.inr (.inr (.inl (some (77))))), some (.inl (at0 : Int)), none, none, none] [.inl (1)] h _
    refine av_wp_sqF ck_154 1 (pc' := 10) (lv' := [some (.inr (.inr (.inl (some (77))))), some (.inl (at0 : Int)), none, none, none]) (st' := []) (h' := h) rfl ?_
    obtain ⟨k2, q3⟩ : ∃ v : Int, pkv b t 12 = v := ⟨_, rfl⟩
    have e4 : k2 = 0 := by rw [← q3, pkP_12 M.1.2.2, if_pos z1]
    refine av_wp_sqF ck_154 1 (pc' := 11) (lv' := [some (.inr (.inr (.inl (some (77))))), some (.inl (at0 : Int)), none, none, none]) (st' := [.inr (.inr (.inl (some (77))))]) (h' := h) rfl ?_
    refine wq_cv (p' := 14) (av_qc (.invokevirtual 191) 130 0 0 8) 2 cd_130 [] (77) 8 [some (.inr (.inr (.inl (some (77))))), none] (ck_154 _ _ rfl) rfl rfl pp_130 rfl rfl rfl (congrArg Prod.fst (ly_k (ml_L M) 77 rfl)) rfl rfl rfl rfl ?_
    refine ct_130t M.1 F (fun h5 N6 F7 => ?_)
    have M8 := ml_tok M N6
    clear N6
    generalize q10 : adv b lim t = t9 at M8
    have X11 : RL t9 R d := rlr_t X (fun z => by rw [← q10] at z; exact z)
    show av_wp _ cd_154 14 [some (.inr (.inr (.inl (some (77))))), some (.inl (at0 : Int)), none, none, none] [] h5 _
    have q12 : cho b lim t 12 = t9 := by rw [← q10]; exact if_neg (by omega)
    refine av_wp_sqF ck_154 2 (pc' := 18) (lv' := [some (.inr (.inr (.inl (some (77))))), some (.inl (at0 : Int)), none, none, none]) (st' := [.inr (.inl (1065)), .inr (.inr (.inl (some (77))))]) (h' := h5) rfl ?_
    refine wq_cv (p' := 21) (av_qc (.invokevirtual 187) 132 1 0 8) 3 cd_132 [.inr (.inl (1065))] (77) 8 [some (.inr (.inr (.inl (some (77))))), some (.inr (.inl (1065))), none] (ck_154 _ _ rfl) rfl rfl pp_132 rfl rfl rfl (congrArg Prod.fst (ly_k (ml_L M8) 77 rfl)) rfl rfl rfl rfl ?_
    refine ct_132 M8.1 F7 (1065) (by omega) (fun z13 => ?_) (fun z13 => ?_)
    · show av_wp _ cd_154 21 [some (.inr (.inr (.inl (some (77))))), some (.inl (at0 : Int)), none, none, none] [.inl (1)] h5 _
      refine av_wp_sqF ck_154 7 (pc' := 35) (lv' := [some (.inr (.inr (.inl (some (77))))), some (.inl (at0 : Int)), some (.inl (3)), none, none]) (st' := []) (h' := h5) rfl ?_
      obtain ⟨w14, q15⟩ : ∃ v : Int, pkv b t9 13 = v := ⟨_, rfl⟩
      have e16 : w14 = 3 := by rw [← q15]; exact pk13_3 M8.1.2.2 z13
      refine av_wp_sqF ck_154 1 (pc' := 36) (lv' := [some (.inr (.inr (.inl (some (77))))), some (.inl (at0 : Int)), some (.inl (3)), none, none]) (st' := [.inr (.inr (.inl (some (77))))]) (h' := h5) rfl ?_
      refine wq_cv (p' := 39) (av_qc (.invokevirtual 191) 130 0 0 8) 2 cd_130 [] (77) 8 [some (.inr (.inr (.inl (some (77))))), none] (ck_154 _ _ rfl) rfl rfl pp_130 rfl rfl rfl (congrArg Prod.fst (ly_k (ml_L M8) 77 rfl)) rfl rfl rfl rfl ?_
      refine ct_130t M8.1 F7 (fun h17 N18 F19 => ?_)
      have M20 := ml_tok M8 N18
      clear N18
      generalize q22 : adv b lim t9 = t21 at M20
      have X23 : RL t21 R d := rlr_t X11 (fun z => by rw [← q22] at z; exact z)
      show av_wp _ cd_154 39 [some (.inr (.inr (.inl (some (77))))), some (.inl (at0 : Int)), some (.inl (3)), none, none] [] h17 _
      refine av_wp_sqF ck_154 1 (pc' := 56) (lv' := [some (.inr (.inr (.inl (some (77))))), some (.inl (at0 : Int)), some (.inl (3)), none, none]) (st' := []) (h' := h17) rfl ?_
      have q24 : cho b lim t9 13 = t21 := by rw [← q22]; exact if_neg (by omega)
      refine av_wp_sqF ck_154 1 (pc' := 57) (lv' := [some (.inr (.inr (.inl (some (77))))), some (.inl (at0 : Int)), some (.inl (3)), none, none]) (st' := [.inr (.inr (.inl (some (77))))]) (h' := h17) rfl ?_
      refine wq_cv (p' := 60) (av_qc (.invokevirtual 312) 152 0 0 8) 2 cd_152 [] (77) 8 [some (.inr (.inr (.inl (some (77))))), none] (ck_154 _ _ rfl) rfl rfl pp_152 rfl rfl rfl (congrArg Prod.fst (ly_k (ml_L M20) 77 rfl)) rfl rfl rfl rfl ?_
      refine ct_152 M20.1 F19 (fun h25 N26 F27 => ?_)
      have M28 := ml_tok M20 N26
      clear N26
      generalize q30 : cho b lim t21 14 = t29 at M28
      have X31 : RL t29 R d := rlr_t X23 (fun z => (cho_o (n := 14) (by rw [q30]; exact z)).1)
      obtain ⟨v32, q33⟩ : ∃ v : Int, pkv b t21 14 = v := ⟨_, rfl⟩
      rw [q33]
      have g34 := pkv_le (b := b) (t := t21) 14 2 rfl
      rw [q33] at g34
      show av_wp _ cd_154 60 [some (.inr (.inr (.inl (some (77))))), some (.inl (at0 : Int)), some (.inl (3)), none, none] [.inl v32] h25 _
      refine av_wp_sqF ck_154 10 (pc' := 82) (lv' := [some (.inr (.inr (.inl (some (77))))), some (.inl (at0 : Int)), some (.inl (3)), some (.inl v32), some (.inl (0))]) (st' := [.inr (.inr (.inl (some (77))))]) (h' := h25) rfl ?_
      refine wq_gr (p' := 85) (ck_154 _ _ rfl) rfl (congrArg Prod.fst (ly_k (ml_L M28) 77 rfl)) rfl (ly_g (ml_L M28) 77 15 93 rfl) ?_
      refine av_wp_sqF ck_154 4 (pc' := 90) (lv' := [some (.inr (.inr (.inl (some (77))))), some (.inl (at0 : Int)), some (.inl (3)), some (.inl v32), some (.inl (0))]) (st' := [.inl v32, .inl ((at0 : Int) + (0)), .inr (.inr (.inl (some (93))))]) (h' := h25) rfl ?_
      refine ml_as (p' := 91) rfl rfl M28 F27 (by omega) 0 (by decide) (by omega) (fun h35 M36 F37 => ?_)
      have X38 : RL t29 (av_u1 R 0 v32) (av_u1 d 0 v32) := rlr_u X31 (fun _ => rfl)
      refine av_wp_sqF ck_154 9 (pc' := 82) (lv' := [some (.inr (.inr (.inl (some (77))))), some (.inl (at0 : Int)), some (.inl (3)), some (.inl v32), some (.inl (1))]) (st' := [.inr (.inr (.inl (some (77))))]) (h' := h35) rfl ?_
      refine wq_gr (p' := 85) (ck_154 _ _ rfl) rfl (congrArg Prod.fst (ly_k (ml_L M36) 77 rfl)) rfl (ly_g (ml_L M36) 77 15 93 rfl) ?_
      refine av_wp_sqF ck_154 4 (pc' := 90) (lv' := [some (.inr (.inr (.inl (some (77))))), some (.inl (at0 : Int)), some (.inl (3)), some (.inl v32), some (.inl (1))]) (st' := [.inl v32, .inl ((at0 : Int) + (1)), .inr (.inr (.inl (some (93))))]) (h' := h35) rfl ?_
      refine ml_as (p' := 91) rfl rfl M36 F37 (by omega) 1 (by decide) (by omega) (fun h39 M40 F41 => ?_)
      have X42 : RL t29 (av_u1 (av_u1 R 0 v32) 1 v32) (av_u1 (av_u1 d 0 v32) 1 v32) := rlr_u X38 (fun _ => rfl)
      refine av_wp_sqF ck_154 9 (pc' := 82) (lv' := [some (.inr (.inr (.inl (some (77))))), some (.inl (at0 : Int)), some (.inl (3)), some (.inl v32), some (.inl (2))]) (st' := [.inr (.inr (.inl (some (77))))]) (h' := h39) rfl ?_
      refine wq_gr (p' := 85) (ck_154 _ _ rfl) rfl (congrArg Prod.fst (ly_k (ml_L M40) 77 rfl)) rfl (ly_g (ml_L M40) 77 15 93 rfl) ?_
      refine av_wp_sqF ck_154 4 (pc' := 90) (lv' := [some (.inr (.inr (.inl (some (77))))), some (.inl (at0 : Int)), some (.inl (3)), some (.inl v32), some (.inl (2))]) (st' := [.inl v32, .inl ((at0 : Int) + (2)), .inr (.inr (.inl (some (93))))]) (h' := h39) rfl ?_
      refine ml_as (p' := 91) rfl rfl M40 F41 (by omega) 2 (by decide) (by omega) (fun h43 M44 F45 => ?_)
      have X46 : RL t29 (av_u1 (av_u1 (av_u1 R 0 v32) 1 v32) 2 v32) (av_u1 (av_u1 (av_u1 d 0 v32) 1 v32) 2 v32) := rlr_u X42 (fun _ => rfl)
      refine av_wp_sqF ck_154 6 (pc' := 454) (lv' := [some (.inr (.inr (.inl (some (77))))), some (.inl (at0 : Int)), some (.inl (3)), some (.inl v32), some (.inl (3))]) (st' := []) (h' := h43) rfl ?_
      refine av_wp_sqF ck_154 1 (pc' := 455) (lv' := [some (.inr (.inr (.inl (some (77))))), some (.inl (at0 : Int)), some (.inl (3)), some (.inl v32), some (.inl (3))]) (st' := [.inr (.inr (.inl (some (77))))]) (h' := h43) rfl ?_
      refine wq_cv (p' := 458) (av_qc (.invokevirtual 286) 135 0 0 8) 1 cd_135 [] (77) 8 [some (.inr (.inr (.inl (some (77)))))] (ck_154 _ _ rfl) rfl rfl pp_135 rfl rfl rfl (congrArg Prod.fst (ly_k (ml_L M44) 77 rfl)) rfl rfl rfl rfl ?_
      refine ct_135 M44.1 F45 (fun h47 N48 F49 => ?_)
      have M50 := ml_tok M44 N48
      clear N48
      generalize q52 : sem b lim t29 = t51 at M50
      have X53 : RL t51 (av_u1 (av_u1 (av_u1 R 0 v32) 1 v32) 2 v32) (av_u1 (av_u1 (av_u1 d 0 v32) 1 v32) 2 v32) := rlr_t X46 (fun z => sem_o (by rw [q52]; exact z))
      show av_wp _ cd_154 458 [some (.inr (.inr (.inl (some (77))))), some (.inl (at0 : Int)), some (.inl (3)), some (.inl v32), some (.inl (3))] [] h47 _
      refine av_wp_ret (v := none) (ck_154 _ _ rfl) rfl rfl ?_
      exact hq h47 (av_u1 (av_u1 (av_u1 R 0 v32) 1 v32) 2 v32) (by simp only [rl1, rlK, rlC, rlN, rlY, rlY1, rlY2, rlY3, q3, q10, q12, q15, q22, q24, q30, q33, q52, if_pos (show k2 = 0 by omega), if_pos (show w14 = 0 ∨ w14 = 3 by omega), if_pos (show w14 = 1 ∨ w14 = 3 by omega), if_pos (show w14 = 2 ∨ w14 = 3 by omega)]; exact M50) F49 (by simp only [rl1, rlK, rlC, rlN, rlY, rlY1, rlY2, rlY3, q3, q10, q12, q15, q22, q24, q30, q33, q52, if_pos (show k2 = 0 by omega), if_pos (show w14 = 0 ∨ w14 = 3 by omega), if_pos (show w14 = 1 ∨ w14 = 3 by omega), if_pos (show w14 = 2 ∨ w14 = 3 by omega)]; exact X53)
    · show av_wp _ cd_154 21 [some (.inr (.inr (.inl (some (77))))), some (.inl (at0 : Int)), none, none, none] [.inl (0)] h5 _
      refine av_wp_sqF ck_154 10 (pc' := 52) (lv' := [some (.inr (.inr (.inl (some (77))))), some (.inl (at0 : Int)), some (.inl (-1)), none, none]) (st' := [.inr (.inl (7219835)), .inr (.inl (459761)), .inr (.inl (326396)), .inr (.inr (.inl (some (77))))]) (h' := h5) rfl ?_
      refine wq_cv (p' := 55) (av_qc (.invokevirtual 308) 153 3 0 8) 8 cd_153 [.inr (.inl (7219835)), .inr (.inl (459761)), .inr (.inl (326396))] (77) 8 [some (.inr (.inr (.inl (some (77))))), some (.inr (.inl (326396))), none, some (.inr (.inl (459761))), none, some (.inr (.inl (7219835))), none, none] (ck_154 _ _ rfl) rfl rfl pp_153 rfl rfl rfl (congrArg Prod.fst (ly_k (ml_L M8) 77 rfl)) rfl rfl rfl rfl ?_
      refine ct_153n M8.1 F7 (326396) (by omega) (459761) (by omega) (7219835) (by omega) 13 (on3_13 M8.1.2.2 z13) (fun h54 N55 F56 => ?_)
      have M57 := ml_tok M8 N55
      clear N55
      generalize q59 : cho b lim t9 13 = t58 at M57
      have X60 : RL t58 R d := rlr_t X11 (fun z => (cho_o (n := 13) (by rw [q59]; exact z)).1)
      obtain ⟨v61, q62⟩ : ∃ v : Int, pkv b t9 13 = v := ⟨_, rfl⟩
      rw [q62]
      have g63 := pkv_le (b := b) (t := t9) 13 3 rfl
      rw [q62] at g63
      show av_wp _ cd_154 55 [some (.inr (.inr (.inl (some (77))))), some (.inl (at0 : Int)), some (.inl (-1)), none, none] [.inl v61] h54 _
      refine av_wp_sqF ck_154 1 (pc' := 56) (lv' := [some (.inr (.inr (.inl (some (77))))), some (.inl (at0 : Int)), some (.inl v61), none, none]) (st' := []) (h' := h54) rfl ?_
      refine av_wp_sqF ck_154 1 (pc' := 57) (lv' := [some (.inr (.inr (.inl (some (77))))), some (.inl (at0 : Int)), some (.inl v61), none, none]) (st' := [.inr (.inr (.inl (some (77))))]) (h' := h54) rfl ?_
      refine wq_cv (p' := 60) (av_qc (.invokevirtual 312) 152 0 0 8) 2 cd_152 [] (77) 8 [some (.inr (.inr (.inl (some (77))))), none] (ck_154 _ _ rfl) rfl rfl pp_152 rfl rfl rfl (congrArg Prod.fst (ly_k (ml_L M57) 77 rfl)) rfl rfl rfl rfl ?_
      refine ct_152 M57.1 F56 (fun h64 N65 F66 => ?_)
      have M67 := ml_tok M57 N65
      clear N65
      generalize q69 : cho b lim t58 14 = t68 at M67
      have X70 : RL t68 R d := rlr_t X60 (fun z => (cho_o (n := 14) (by rw [q69]; exact z)).1)
      obtain ⟨v71, q72⟩ : ∃ v : Int, pkv b t58 14 = v := ⟨_, rfl⟩
      rw [q72]
      have g73 := pkv_le (b := b) (t := t58) 14 2 rfl
      rw [q72] at g73
      show av_wp _ cd_154 60 [some (.inr (.inr (.inl (some (77))))), some (.inl (at0 : Int)), some (.inl v61), none, none] [.inl v71] h64 _
      refine av_wp_sqF ck_154 8 (pc' := 72) (lv' := [some (.inr (.inr (.inl (some (77))))), some (.inl (at0 : Int)), some (.inl v61), some (.inl v71), some (.inl (0))]) (st' := [.inl (3), .inl v61]) (h' := h64) rfl ?_
      refine wq_k2 (p' := 75) (ck_154 _ _ rfl) rfl ⟨by omega, by omega⟩ ⟨by omega, by omega⟩ (fun c74 => ?_) (fun c75 => ?_)
      · have c74 : v61 = (3) := c74
        refine av_wp_sqF ck_154 1 (pc' := 82) (lv' := [some (.inr (.inr (.inl (some (77))))), some (.inl (at0 : Int)), some (.inl v61), some (.inl v71), some (.inl (0))]) (st' := [.inr (.inr (.inl (some (77))))]) (h' := h64) rfl ?_
        refine wq_gr (p' := 85) (ck_154 _ _ rfl) rfl (congrArg Prod.fst (ly_k (ml_L M67) 77 rfl)) rfl (ly_g (ml_L M67) 77 15 93 rfl) ?_
        refine av_wp_sqF ck_154 4 (pc' := 90) (lv' := [some (.inr (.inr (.inl (some (77))))), some (.inl (at0 : Int)), some (.inl v61), some (.inl v71), some (.inl (0))]) (st' := [.inl v71, .inl ((at0 : Int) + (0)), .inr (.inr (.inl (some (93))))]) (h' := h64) rfl ?_
        refine ml_as (p' := 91) rfl rfl M67 F66 (by omega) 0 (by decide) (by omega) (fun h76 M77 F78 => ?_)
        have X79 : RL t68 (av_u1 R 0 v71) (av_u1 d 0 v71) := rlr_u X70 (fun _ => rfl)
        refine av_wp_sqF ck_154 7 (pc' := 72) (lv' := [some (.inr (.inr (.inl (some (77))))), some (.inl (at0 : Int)), some (.inl v61), some (.inl v71), some (.inl (1))]) (st' := [.inl (3), .inl v61]) (h' := h76) rfl ?_
        refine wq_k2 (p' := 75) (ck_154 _ _ rfl) rfl ⟨by omega, by omega⟩ ⟨by omega, by omega⟩ (fun c80 => ?_) (fun c81 => ?_)
        · have c80 : v61 = (3) := c80
          refine av_wp_sqF ck_154 1 (pc' := 82) (lv' := [some (.inr (.inr (.inl (some (77))))), some (.inl (at0 : Int)), some (.inl v61), some (.inl v71), some (.inl (1))]) (st' := [.inr (.inr (.inl (some (77))))]) (h' := h76) rfl ?_
          refine wq_gr (p' := 85) (ck_154 _ _ rfl) rfl (congrArg Prod.fst (ly_k (ml_L M77) 77 rfl)) rfl (ly_g (ml_L M77) 77 15 93 rfl) ?_
          refine av_wp_sqF ck_154 4 (pc' := 90) (lv' := [some (.inr (.inr (.inl (some (77))))), some (.inl (at0 : Int)), some (.inl v61), some (.inl v71), some (.inl (1))]) (st' := [.inl v71, .inl ((at0 : Int) + (1)), .inr (.inr (.inl (some (93))))]) (h' := h76) rfl ?_
          refine ml_as (p' := 91) rfl rfl M77 F78 (by omega) 1 (by decide) (by omega) (fun h82 M83 F84 => ?_)
          have X85 : RL t68 (av_u1 (av_u1 R 0 v71) 1 v71) (av_u1 (av_u1 d 0 v71) 1 v71) := rlr_u X79 (fun _ => rfl)
          refine av_wp_sqF ck_154 7 (pc' := 72) (lv' := [some (.inr (.inr (.inl (some (77))))), some (.inl (at0 : Int)), some (.inl v61), some (.inl v71), some (.inl (2))]) (st' := [.inl (3), .inl v61]) (h' := h82) rfl ?_
          refine wq_k2 (p' := 75) (ck_154 _ _ rfl) rfl ⟨by omega, by omega⟩ ⟨by omega, by omega⟩ (fun c86 => ?_) (fun c87 => ?_)
          · have c86 : v61 = (3) := c86
            refine av_wp_sqF ck_154 1 (pc' := 82) (lv' := [some (.inr (.inr (.inl (some (77))))), some (.inl (at0 : Int)), some (.inl v61), some (.inl v71), some (.inl (2))]) (st' := [.inr (.inr (.inl (some (77))))]) (h' := h82) rfl ?_
            refine wq_gr (p' := 85) (ck_154 _ _ rfl) rfl (congrArg Prod.fst (ly_k (ml_L M83) 77 rfl)) rfl (ly_g (ml_L M83) 77 15 93 rfl) ?_
            refine av_wp_sqF ck_154 4 (pc' := 90) (lv' := [some (.inr (.inr (.inl (some (77))))), some (.inl (at0 : Int)), some (.inl v61), some (.inl v71), some (.inl (2))]) (st' := [.inl v71, .inl ((at0 : Int) + (2)), .inr (.inr (.inl (some (93))))]) (h' := h82) rfl ?_
            refine ml_as (p' := 91) rfl rfl M83 F84 (by omega) 2 (by decide) (by omega) (fun h88 M89 F90 => ?_)
            have X91 : RL t68 (av_u1 (av_u1 (av_u1 R 0 v71) 1 v71) 2 v71) (av_u1 (av_u1 (av_u1 d 0 v71) 1 v71) 2 v71) := rlr_u X85 (fun _ => rfl)
            refine av_wp_sqF ck_154 6 (pc' := 454) (lv' := [some (.inr (.inr (.inl (some (77))))), some (.inl (at0 : Int)), some (.inl v61), some (.inl v71), some (.inl (3))]) (st' := []) (h' := h88) rfl ?_
            refine av_wp_sqF ck_154 1 (pc' := 455) (lv' := [some (.inr (.inr (.inl (some (77))))), some (.inl (at0 : Int)), some (.inl v61), some (.inl v71), some (.inl (3))]) (st' := [.inr (.inr (.inl (some (77))))]) (h' := h88) rfl ?_
            refine wq_cv (p' := 458) (av_qc (.invokevirtual 286) 135 0 0 8) 1 cd_135 [] (77) 8 [some (.inr (.inr (.inl (some (77)))))] (ck_154 _ _ rfl) rfl rfl pp_135 rfl rfl rfl (congrArg Prod.fst (ly_k (ml_L M89) 77 rfl)) rfl rfl rfl rfl ?_
            refine ct_135 M89.1 F90 (fun h92 N93 F94 => ?_)
            have M95 := ml_tok M89 N93
            clear N93
            generalize q97 : sem b lim t68 = t96 at M95
            have X98 : RL t96 (av_u1 (av_u1 (av_u1 R 0 v71) 1 v71) 2 v71) (av_u1 (av_u1 (av_u1 d 0 v71) 1 v71) 2 v71) := rlr_t X91 (fun z => sem_o (by rw [q97]; exact z))
            show av_wp _ cd_154 458 [some (.inr (.inr (.inl (some (77))))), some (.inl (at0 : Int)), some (.inl v61), some (.inl v71), some (.inl (3))] [] h92 _
            refine av_wp_ret (v := none) (ck_154 _ _ rfl) rfl rfl ?_
            exact hq h92 (av_u1 (av_u1 (av_u1 R 0 v71) 1 v71) 2 v71) (by simp only [rl1, rlK, rlC, rlN, rlY, rlY1, rlY2, rlY3, q3, q10, q12, q59, q62, q69, q72, q97, if_pos (show k2 = 0 by omega), if_pos (show v61 = 0 ∨ v61 = 3 by omega), if_pos (show v61 = 1 ∨ v61 = 3 by omega), if_pos (show v61 = 2 ∨ v61 = 3 by omega)]; exact M95) F94 (by simp only [rl1, rlK, rlC, rlN, rlY, rlY1, rlY2, rlY3, q3, q10, q12, q59, q62, q69, q72, q97, if_pos (show k2 = 0 by omega), if_pos (show v61 = 0 ∨ v61 = 3 by omega), if_pos (show v61 = 1 ∨ v61 = 3 by omega), if_pos (show v61 = 2 ∨ v61 = 3 by omega)]; exact X98)
          · have c87 : v61 ≠ (3) := c87
            exfalso; omega
        · have c81 : v61 ≠ (3) := c81
          exfalso; omega
      · have c75 : v61 ≠ (3) := c75
        refine av_wp_sqF ck_154 2 (pc' := 78) (lv' := [some (.inr (.inr (.inl (some (77))))), some (.inl (at0 : Int)), some (.inl v61), some (.inl v71), some (.inl (0))]) (st' := [.inl (0), .inl v61]) (h' := h64) rfl ?_
        refine wq_k2 (p' := 81) (ck_154 _ _ rfl) rfl ⟨by omega, by omega⟩ ⟨by omega, by omega⟩ (fun c99 => ?_) (fun c100 => ?_)
        · have c99 : v61 ≠ (0) := c99
          refine av_wp_sqF ck_154 7 (pc' := 72) (lv' := [some (.inr (.inr (.inl (some (77))))), some (.inl (at0 : Int)), some (.inl v61), some (.inl v71), some (.inl (1))]) (st' := [.inl (3), .inl v61]) (h' := h64) rfl ?_
          refine wq_k2 (p' := 75) (ck_154 _ _ rfl) rfl ⟨by omega, by omega⟩ ⟨by omega, by omega⟩ (fun c101 => ?_) (fun c102 => ?_)
          · have c101 : v61 = (3) := c101
            exfalso; omega
          · have c102 : v61 ≠ (3) := c102
            refine av_wp_sqF ck_154 2 (pc' := 78) (lv' := [some (.inr (.inr (.inl (some (77))))), some (.inl (at0 : Int)), some (.inl v61), some (.inl v71), some (.inl (1))]) (st' := [.inl (1), .inl v61]) (h' := h64) rfl ?_
            refine wq_k2 (p' := 81) (ck_154 _ _ rfl) rfl ⟨by omega, by omega⟩ ⟨by omega, by omega⟩ (fun c103 => ?_) (fun c104 => ?_)
            · have c103 : v61 ≠ (1) := c103
              refine av_wp_sqF ck_154 7 (pc' := 72) (lv' := [some (.inr (.inr (.inl (some (77))))), some (.inl (at0 : Int)), some (.inl v61), some (.inl v71), some (.inl (2))]) (st' := [.inl (3), .inl v61]) (h' := h64) rfl ?_
              refine wq_k2 (p' := 75) (ck_154 _ _ rfl) rfl ⟨by omega, by omega⟩ ⟨by omega, by omega⟩ (fun c105 => ?_) (fun c106 => ?_)
              · have c105 : v61 = (3) := c105
                exfalso; omega
              · have c106 : v61 ≠ (3) := c106
                refine av_wp_sqF ck_154 2 (pc' := 78) (lv' := [some (.inr (.inr (.inl (some (77))))), some (.inl (at0 : Int)), some (.inl v61), some (.inl v71), some (.inl (2))]) (st' := [.inl (2), .inl v61]) (h' := h64) rfl ?_
                refine wq_k2 (p' := 81) (ck_154 _ _ rfl) rfl ⟨by omega, by omega⟩ ⟨by omega, by omega⟩ (fun c107 => ?_) (fun c108 => ?_)
                · have c107 : v61 ≠ (2) := c107
                  refine av_wp_sqF ck_154 6 (pc' := 454) (lv' := [some (.inr (.inr (.inl (some (77))))), some (.inl (at0 : Int)), some (.inl v61), some (.inl v71), some (.inl (3))]) (st' := []) (h' := h64) rfl ?_
                  refine av_wp_sqF ck_154 1 (pc' := 455) (lv' := [some (.inr (.inr (.inl (some (77))))), some (.inl (at0 : Int)), some (.inl v61), some (.inl v71), some (.inl (3))]) (st' := [.inr (.inr (.inl (some (77))))]) (h' := h64) rfl ?_
                  refine wq_cv (p' := 458) (av_qc (.invokevirtual 286) 135 0 0 8) 1 cd_135 [] (77) 8 [some (.inr (.inr (.inl (some (77)))))] (ck_154 _ _ rfl) rfl rfl pp_135 rfl rfl rfl (congrArg Prod.fst (ly_k (ml_L M67) 77 rfl)) rfl rfl rfl rfl ?_
                  refine ct_135 M67.1 F66 (fun h109 N110 F111 => ?_)
                  have M112 := ml_tok M67 N110
                  clear N110
                  generalize q114 : sem b lim t68 = t113 at M112
                  have X115 : RL t113 R d := rlr_t X70 (fun z => sem_o (by rw [q114]; exact z))
                  show av_wp _ cd_154 458 [some (.inr (.inr (.inl (some (77))))), some (.inl (at0 : Int)), some (.inl v61), some (.inl v71), some (.inl (3))] [] h109 _
                  refine av_wp_ret (v := none) (ck_154 _ _ rfl) rfl rfl ?_
                  exact hq h109 R (by simp only [rl1, rlK, rlC, rlN, rlY, rlY1, rlY2, rlY3, q3, q10, q12, q59, q62, q69, q72, q114, if_pos (show k2 = 0 by omega), if_neg (show ¬ (v61 = 0 ∨ v61 = 3) by omega), if_neg (show ¬ (v61 = 1 ∨ v61 = 3) by omega), if_neg (show ¬ (v61 = 2 ∨ v61 = 3) by omega)]; exact M112) F111 (by simp only [rl1, rlK, rlC, rlN, rlY, rlY1, rlY2, rlY3, q3, q10, q12, q59, q62, q69, q72, q114, if_pos (show k2 = 0 by omega), if_neg (show ¬ (v61 = 0 ∨ v61 = 3) by omega), if_neg (show ¬ (v61 = 1 ∨ v61 = 3) by omega), if_neg (show ¬ (v61 = 2 ∨ v61 = 3) by omega)]; exact X115)
                · have c108 : v61 = (2) := c108
                  refine av_wp_sqF ck_154 1 (pc' := 82) (lv' := [some (.inr (.inr (.inl (some (77))))), some (.inl (at0 : Int)), some (.inl v61), some (.inl v71), some (.inl (2))]) (st' := [.inr (.inr (.inl (some (77))))]) (h' := h64) rfl ?_
                  refine wq_gr (p' := 85) (ck_154 _ _ rfl) rfl (congrArg Prod.fst (ly_k (ml_L M67) 77 rfl)) rfl (ly_g (ml_L M67) 77 15 93 rfl) ?_
                  refine av_wp_sqF ck_154 4 (pc' := 90) (lv' := [some (.inr (.inr (.inl (some (77))))), some (.inl (at0 : Int)), some (.inl v61), some (.inl v71), some (.inl (2))]) (st' := [.inl v71, .inl ((at0 : Int) + (2)), .inr (.inr (.inl (some (93))))]) (h' := h64) rfl ?_
                  refine ml_as (p' := 91) rfl rfl M67 F66 (by omega) 2 (by decide) (by omega) (fun h116 M117 F118 => ?_)
                  have X119 : RL t68 (av_u1 R 2 v71) (av_u1 d 2 v71) := rlr_u X70 (fun _ => rfl)
                  refine av_wp_sqF ck_154 6 (pc' := 454) (lv' := [some (.inr (.inr (.inl (some (77))))), some (.inl (at0 : Int)), some (.inl v61), some (.inl v71), some (.inl (3))]) (st' := []) (h' := h116) rfl ?_
                  refine av_wp_sqF ck_154 1 (pc' := 455) (lv' := [some (.inr (.inr (.inl (some (77))))), some (.inl (at0 : Int)), some (.inl v61), some (.inl v71), some (.inl (3))]) (st' := [.inr (.inr (.inl (some (77))))]) (h' := h116) rfl ?_
                  refine wq_cv (p' := 458) (av_qc (.invokevirtual 286) 135 0 0 8) 1 cd_135 [] (77) 8 [some (.inr (.inr (.inl (some (77)))))] (ck_154 _ _ rfl) rfl rfl pp_135 rfl rfl rfl (congrArg Prod.fst (ly_k (ml_L M117) 77 rfl)) rfl rfl rfl rfl ?_
                  refine ct_135 M117.1 F118 (fun h120 N121 F122 => ?_)
                  have M123 := ml_tok M117 N121
                  clear N121
                  generalize q125 : sem b lim t68 = t124 at M123
                  have X126 : RL t124 (av_u1 R 2 v71) (av_u1 d 2 v71) := rlr_t X119 (fun z => sem_o (by rw [q125]; exact z))
                  show av_wp _ cd_154 458 [some (.inr (.inr (.inl (some (77))))), some (.inl (at0 : Int)), some (.inl v61), some (.inl v71), some (.inl (3))] [] h120 _
                  refine av_wp_ret (v := none) (ck_154 _ _ rfl) rfl rfl ?_
                  exact hq h120 (av_u1 R 2 v71) (by simp only [rl1, rlK, rlC, rlN, rlY, rlY1, rlY2, rlY3, q3, q10, q12, q59, q62, q69, q72, q125, if_pos (show k2 = 0 by omega), if_neg (show ¬ (v61 = 0 ∨ v61 = 3) by omega), if_neg (show ¬ (v61 = 1 ∨ v61 = 3) by omega), if_pos (show v61 = 2 ∨ v61 = 3 by omega)]; exact M123) F122 (by simp only [rl1, rlK, rlC, rlN, rlY, rlY1, rlY2, rlY3, q3, q10, q12, q59, q62, q69, q72, q125, if_pos (show k2 = 0 by omega), if_neg (show ¬ (v61 = 0 ∨ v61 = 3) by omega), if_neg (show ¬ (v61 = 1 ∨ v61 = 3) by omega), if_pos (show v61 = 2 ∨ v61 = 3 by omega)]; exact X126)
            · have c104 : v61 = (1) := c104
              refine av_wp_sqF ck_154 1 (pc' := 82) (lv' := [some (.inr (.inr (.inl (some (77))))), some (.inl (at0 : Int)), some (.inl v61), some (.inl v71), some (.inl (1))]) (st' := [.inr (.inr (.inl (some (77))))]) (h' := h64) rfl ?_
              refine wq_gr (p' := 85) (ck_154 _ _ rfl) rfl (congrArg Prod.fst (ly_k (ml_L M67) 77 rfl)) rfl (ly_g (ml_L M67) 77 15 93 rfl) ?_
              refine av_wp_sqF ck_154 4 (pc' := 90) (lv' := [some (.inr (.inr (.inl (some (77))))), some (.inl (at0 : Int)), some (.inl v61), some (.inl v71), some (.inl (1))]) (st' := [.inl v71, .inl ((at0 : Int) + (1)), .inr (.inr (.inl (some (93))))]) (h' := h64) rfl ?_
              refine ml_as (p' := 91) rfl rfl M67 F66 (by omega) 1 (by decide) (by omega) (fun h127 M128 F129 => ?_)
              have X130 : RL t68 (av_u1 R 1 v71) (av_u1 d 1 v71) := rlr_u X70 (fun _ => rfl)
              refine av_wp_sqF ck_154 7 (pc' := 72) (lv' := [some (.inr (.inr (.inl (some (77))))), some (.inl (at0 : Int)), some (.inl v61), some (.inl v71), some (.inl (2))]) (st' := [.inl (3), .inl v61]) (h' := h127) rfl ?_
              refine wq_k2 (p' := 75) (ck_154 _ _ rfl) rfl ⟨by omega, by omega⟩ ⟨by omega, by omega⟩ (fun c131 => ?_) (fun c132 => ?_)
              · have c131 : v61 = (3) := c131
                exfalso; omega
              · have c132 : v61 ≠ (3) := c132
                refine av_wp_sqF ck_154 2 (pc' := 78) (lv' := [some (.inr (.inr (.inl (some (77))))), some (.inl (at0 : Int)), some (.inl v61), some (.inl v71), some (.inl (2))]) (st' := [.inl (2), .inl v61]) (h' := h127) rfl ?_
                refine wq_k2 (p' := 81) (ck_154 _ _ rfl) rfl ⟨by omega, by omega⟩ ⟨by omega, by omega⟩ (fun c133 => ?_) (fun c134 => ?_)
                · have c133 : v61 ≠ (2) := c133
                  refine av_wp_sqF ck_154 6 (pc' := 454) (lv' := [some (.inr (.inr (.inl (some (77))))), some (.inl (at0 : Int)), some (.inl v61), some (.inl v71), some (.inl (3))]) (st' := []) (h' := h127) rfl ?_
                  refine av_wp_sqF ck_154 1 (pc' := 455) (lv' := [some (.inr (.inr (.inl (some (77))))), some (.inl (at0 : Int)), some (.inl v61), some (.inl v71), some (.inl (3))]) (st' := [.inr (.inr (.inl (some (77))))]) (h' := h127) rfl ?_
                  refine wq_cv (p' := 458) (av_qc (.invokevirtual 286) 135 0 0 8) 1 cd_135 [] (77) 8 [some (.inr (.inr (.inl (some (77)))))] (ck_154 _ _ rfl) rfl rfl pp_135 rfl rfl rfl (congrArg Prod.fst (ly_k (ml_L M128) 77 rfl)) rfl rfl rfl rfl ?_
                  refine ct_135 M128.1 F129 (fun h135 N136 F137 => ?_)
                  have M138 := ml_tok M128 N136
                  clear N136
                  generalize q140 : sem b lim t68 = t139 at M138
                  have X141 : RL t139 (av_u1 R 1 v71) (av_u1 d 1 v71) := rlr_t X130 (fun z => sem_o (by rw [q140]; exact z))
                  show av_wp _ cd_154 458 [some (.inr (.inr (.inl (some (77))))), some (.inl (at0 : Int)), some (.inl v61), some (.inl v71), some (.inl (3))] [] h135 _
                  refine av_wp_ret (v := none) (ck_154 _ _ rfl) rfl rfl ?_
                  exact hq h135 (av_u1 R 1 v71) (by simp only [rl1, rlK, rlC, rlN, rlY, rlY1, rlY2, rlY3, q3, q10, q12, q59, q62, q69, q72, q140, if_pos (show k2 = 0 by omega), if_neg (show ¬ (v61 = 0 ∨ v61 = 3) by omega), if_pos (show v61 = 1 ∨ v61 = 3 by omega), if_neg (show ¬ (v61 = 2 ∨ v61 = 3) by omega)]; exact M138) F137 (by simp only [rl1, rlK, rlC, rlN, rlY, rlY1, rlY2, rlY3, q3, q10, q12, q59, q62, q69, q72, q140, if_pos (show k2 = 0 by omega), if_neg (show ¬ (v61 = 0 ∨ v61 = 3) by omega), if_pos (show v61 = 1 ∨ v61 = 3 by omega), if_neg (show ¬ (v61 = 2 ∨ v61 = 3) by omega)]; exact X141)
                · have c134 : v61 = (2) := c134
                  exfalso; omega
        · have c100 : v61 = (0) := c100
          refine av_wp_sqF ck_154 1 (pc' := 82) (lv' := [some (.inr (.inr (.inl (some (77))))), some (.inl (at0 : Int)), some (.inl v61), some (.inl v71), some (.inl (0))]) (st' := [.inr (.inr (.inl (some (77))))]) (h' := h64) rfl ?_
          refine wq_gr (p' := 85) (ck_154 _ _ rfl) rfl (congrArg Prod.fst (ly_k (ml_L M67) 77 rfl)) rfl (ly_g (ml_L M67) 77 15 93 rfl) ?_
          refine av_wp_sqF ck_154 4 (pc' := 90) (lv' := [some (.inr (.inr (.inl (some (77))))), some (.inl (at0 : Int)), some (.inl v61), some (.inl v71), some (.inl (0))]) (st' := [.inl v71, .inl ((at0 : Int) + (0)), .inr (.inr (.inl (some (93))))]) (h' := h64) rfl ?_
          refine ml_as (p' := 91) rfl rfl M67 F66 (by omega) 0 (by decide) (by omega) (fun h142 M143 F144 => ?_)
          have X145 : RL t68 (av_u1 R 0 v71) (av_u1 d 0 v71) := rlr_u X70 (fun _ => rfl)
          refine av_wp_sqF ck_154 7 (pc' := 72) (lv' := [some (.inr (.inr (.inl (some (77))))), some (.inl (at0 : Int)), some (.inl v61), some (.inl v71), some (.inl (1))]) (st' := [.inl (3), .inl v61]) (h' := h142) rfl ?_
          refine wq_k2 (p' := 75) (ck_154 _ _ rfl) rfl ⟨by omega, by omega⟩ ⟨by omega, by omega⟩ (fun c146 => ?_) (fun c147 => ?_)
          · have c146 : v61 = (3) := c146
            exfalso; omega
          · have c147 : v61 ≠ (3) := c147
            refine av_wp_sqF ck_154 2 (pc' := 78) (lv' := [some (.inr (.inr (.inl (some (77))))), some (.inl (at0 : Int)), some (.inl v61), some (.inl v71), some (.inl (1))]) (st' := [.inl (1), .inl v61]) (h' := h142) rfl ?_
            refine wq_k2 (p' := 81) (ck_154 _ _ rfl) rfl ⟨by omega, by omega⟩ ⟨by omega, by omega⟩ (fun c148 => ?_) (fun c149 => ?_)
            · have c148 : v61 ≠ (1) := c148
              refine av_wp_sqF ck_154 7 (pc' := 72) (lv' := [some (.inr (.inr (.inl (some (77))))), some (.inl (at0 : Int)), some (.inl v61), some (.inl v71), some (.inl (2))]) (st' := [.inl (3), .inl v61]) (h' := h142) rfl ?_
              refine wq_k2 (p' := 75) (ck_154 _ _ rfl) rfl ⟨by omega, by omega⟩ ⟨by omega, by omega⟩ (fun c150 => ?_) (fun c151 => ?_)
              · have c150 : v61 = (3) := c150
                exfalso; omega
              · have c151 : v61 ≠ (3) := c151
                refine av_wp_sqF ck_154 2 (pc' := 78) (lv' := [some (.inr (.inr (.inl (some (77))))), some (.inl (at0 : Int)), some (.inl v61), some (.inl v71), some (.inl (2))]) (st' := [.inl (2), .inl v61]) (h' := h142) rfl ?_
                refine wq_k2 (p' := 81) (ck_154 _ _ rfl) rfl ⟨by omega, by omega⟩ ⟨by omega, by omega⟩ (fun c152 => ?_) (fun c153 => ?_)
                · have c152 : v61 ≠ (2) := c152
                  refine av_wp_sqF ck_154 6 (pc' := 454) (lv' := [some (.inr (.inr (.inl (some (77))))), some (.inl (at0 : Int)), some (.inl v61), some (.inl v71), some (.inl (3))]) (st' := []) (h' := h142) rfl ?_
                  refine av_wp_sqF ck_154 1 (pc' := 455) (lv' := [some (.inr (.inr (.inl (some (77))))), some (.inl (at0 : Int)), some (.inl v61), some (.inl v71), some (.inl (3))]) (st' := [.inr (.inr (.inl (some (77))))]) (h' := h142) rfl ?_
                  refine wq_cv (p' := 458) (av_qc (.invokevirtual 286) 135 0 0 8) 1 cd_135 [] (77) 8 [some (.inr (.inr (.inl (some (77)))))] (ck_154 _ _ rfl) rfl rfl pp_135 rfl rfl rfl (congrArg Prod.fst (ly_k (ml_L M143) 77 rfl)) rfl rfl rfl rfl ?_
                  refine ct_135 M143.1 F144 (fun h154 N155 F156 => ?_)
                  have M157 := ml_tok M143 N155
                  clear N155
                  generalize q159 : sem b lim t68 = t158 at M157
                  have X160 : RL t158 (av_u1 R 0 v71) (av_u1 d 0 v71) := rlr_t X145 (fun z => sem_o (by rw [q159]; exact z))
                  show av_wp _ cd_154 458 [some (.inr (.inr (.inl (some (77))))), some (.inl (at0 : Int)), some (.inl v61), some (.inl v71), some (.inl (3))] [] h154 _
                  refine av_wp_ret (v := none) (ck_154 _ _ rfl) rfl rfl ?_
                  exact hq h154 (av_u1 R 0 v71) (by simp only [rl1, rlK, rlC, rlN, rlY, rlY1, rlY2, rlY3, q3, q10, q12, q59, q62, q69, q72, q159, if_pos (show k2 = 0 by omega), if_pos (show v61 = 0 ∨ v61 = 3 by omega), if_neg (show ¬ (v61 = 1 ∨ v61 = 3) by omega), if_neg (show ¬ (v61 = 2 ∨ v61 = 3) by omega)]; exact M157) F156 (by simp only [rl1, rlK, rlC, rlN, rlY, rlY1, rlY2, rlY3, q3, q10, q12, q59, q62, q69, q72, q159, if_pos (show k2 = 0 by omega), if_pos (show v61 = 0 ∨ v61 = 3 by omega), if_neg (show ¬ (v61 = 1 ∨ v61 = 3) by omega), if_neg (show ¬ (v61 = 2 ∨ v61 = 3) by omega)]; exact X160)
                · have c153 : v61 = (2) := c153
                  exfalso; omega
            · have c149 : v61 = (1) := c149
              exfalso; omega
  · show av_wp _ cd_154 7 [some (.inr (.inr (.inl (some (77))))), some (.inl (at0 : Int)), none, none, none] [.inl (0)] h _
    refine av_wp_sqF ck_154 3 (pc' := 104) (lv' := [some (.inr (.inr (.inl (some (77))))), some (.inl (at0 : Int)), none, none, none]) (st' := [.inr (.inl (8094240)), .inr (.inr (.inl (some (77))))]) (h' := h) rfl ?_
    refine wq_cv (p' := 107) (av_qc (.invokevirtual 187) 132 1 0 8) 3 cd_132 [.inr (.inl (8094240))] (77) 8 [some (.inr (.inr (.inl (some (77))))), some (.inr (.inl (8094240))), none] (ck_154 _ _ rfl) rfl rfl pp_132 rfl rfl rfl (congrArg Prod.fst (ly_k (ml_L M) 77 rfl)) rfl rfl rfl rfl ?_
    refine ct_132 M.1 F (8094240) (by omega) (fun z161 => ?_) (fun z161 => ?_)
    · show av_wp _ cd_154 107 [some (.inr (.inr (.inl (some (77))))), some (.inl (at0 : Int)), none, none, none] [.inl (1)] h _
      refine av_wp_sqF ck_154 1 (pc' := 110) (lv' := [some (.inr (.inr (.inl (some (77))))), some (.inl (at0 : Int)), none, none, none]) (st' := []) (h' := h) rfl ?_
      obtain ⟨k162, q163⟩ : ∃ v : Int, pkv b t 12 = v := ⟨_, rfl⟩
      have e164 : k162 = 1 := by rw [← q163, pkP_12 M.1.2.2, if_neg z1, if_pos z161]
      refine av_wp_sqF ck_154 1 (pc' := 111) (lv' := [some (.inr (.inr (.inl (some (77))))), some (.inl (at0 : Int)), none, none, none]) (st' := [.inr (.inr (.inl (some (77))))]) (h' := h) rfl ?_
      refine wq_cv (p' := 114) (av_qc (.invokevirtual 191) 130 0 0 8) 2 cd_130 [] (77) 8 [some (.inr (.inr (.inl (some (77))))), none] (ck_154 _ _ rfl) rfl rfl pp_130 rfl rfl rfl (congrArg Prod.fst (ly_k (ml_L M) 77 rfl)) rfl rfl rfl rfl ?_
      refine ct_130t M.1 F (fun h165 N166 F167 => ?_)
      have M168 := ml_tok M N166
      clear N166
      generalize q170 : adv b lim t = t169 at M168
      have X171 : RL t169 R d := rlr_t X (fun z => by rw [← q170] at z; exact z)
      show av_wp _ cd_154 114 [some (.inr (.inr (.inl (some (77))))), some (.inl (at0 : Int)), none, none, none] [] h165 _
      have q172 : cho b lim t 12 = t169 := by rw [← q170]; exact if_neg (by omega)
      refine av_wp_sqF ck_154 1 (pc' := 115) (lv' := [some (.inr (.inr (.inl (some (77))))), some (.inl (at0 : Int)), none, none, none]) (st' := [.inr (.inr (.inl (some (77))))]) (h' := h165) rfl ?_
      refine wq_gr (p' := 118) (ck_154 _ _ rfl) rfl (congrArg Prod.fst (ly_k (ml_L M168) 77 rfl)) rfl (ly_g (ml_L M168) 77 15 93 rfl) ?_
      refine av_wp_sqF ck_154 4 (pc' := 122) (lv' := [some (.inr (.inr (.inl (some (77))))), some (.inl (at0 : Int)), none, none, none]) (st' := [.inr (.inr (.inl (some (77)))), .inl ((at0 : Int) + (3)), .inr (.inr (.inl (some (93))))]) (h' := h165) rfl ?_
      refine wq_cv (p' := 125) (av_qc (.invokevirtual 312) 152 0 0 8) 2 cd_152 [] (77) 8 [some (.inr (.inr (.inl (some (77))))), none] (ck_154 _ _ rfl) rfl rfl pp_152 rfl rfl rfl (congrArg Prod.fst (ly_k (ml_L M168) 77 rfl)) rfl rfl rfl rfl ?_
      refine ct_152 M168.1 F167 (fun h173 N174 F175 => ?_)
      have M176 := ml_tok M168 N174
      clear N174
      generalize q178 : cho b lim t169 14 = t177 at M176
      have X179 : RL t177 R d := rlr_t X171 (fun z => (cho_o (n := 14) (by rw [q178]; exact z)).1)
      obtain ⟨v180, q181⟩ : ∃ v : Int, pkv b t169 14 = v := ⟨_, rfl⟩
      rw [q181]
      have g182 := pkv_le (b := b) (t := t169) 14 2 rfl
      rw [q181] at g182
      show av_wp _ cd_154 125 [some (.inr (.inr (.inl (some (77))))), some (.inl (at0 : Int)), none, none, none] [.inl v180, .inl ((at0 : Int) + (3)), .inr (.inr (.inl (some (93))))] h173 _
      refine ml_as (p' := 126) rfl rfl M176 F175 (by omega) 3 (by decide) (by omega) (fun h183 M184 F185 => ?_)
      have X186 : RL t177 (av_u1 R 3 v180) (av_u1 d 3 v180) := rlr_u X179 (fun _ => rfl)
      refine av_wp_sqF ck_154 1 (pc' := 454) (lv' := [some (.inr (.inr (.inl (some (77))))), some (.inl (at0 : Int)), none, none, none]) (st' := []) (h' := h183) rfl ?_
      refine av_wp_sqF ck_154 1 (pc' := 455) (lv' := [some (.inr (.inr (.inl (some (77))))), some (.inl (at0 : Int)), none, none, none]) (st' := [.inr (.inr (.inl (some (77))))]) (h' := h183) rfl ?_
      refine wq_cv (p' := 458) (av_qc (.invokevirtual 286) 135 0 0 8) 1 cd_135 [] (77) 8 [some (.inr (.inr (.inl (some (77)))))] (ck_154 _ _ rfl) rfl rfl pp_135 rfl rfl rfl (congrArg Prod.fst (ly_k (ml_L M184) 77 rfl)) rfl rfl rfl rfl ?_
      refine ct_135 M184.1 F185 (fun h187 N188 F189 => ?_)
      have M190 := ml_tok M184 N188
      clear N188
      generalize q192 : sem b lim t177 = t191 at M190
      have X193 : RL t191 (av_u1 R 3 v180) (av_u1 d 3 v180) := rlr_t X186 (fun z => sem_o (by rw [q192]; exact z))
      show av_wp _ cd_154 458 [some (.inr (.inr (.inl (some (77))))), some (.inl (at0 : Int)), none, none, none] [] h187 _
      refine av_wp_ret (v := none) (ck_154 _ _ rfl) rfl rfl ?_
      exact hq h187 (av_u1 R 3 v180) (by simp only [rl1, rlK, rlC, rlN, q163, q170, q172, q178, q181, q192, if_neg (show ¬ k162 = 0 by omega), if_pos (show k162 = 1 by omega)]; exact M190) F189 (by simp only [rl1, rlK, rlC, rlN, q163, q170, q172, q178, q181, q192, if_neg (show ¬ k162 = 0 by omega), if_pos (show k162 = 1 by omega)]; exact X193)
    · show av_wp _ cd_154 107 [some (.inr (.inr (.inl (some (77))))), some (.inl (at0 : Int)), none, none, none] [.inl (0)] h _
      refine av_wp_sqF ck_154 3 (pc' := 133) (lv' := [some (.inr (.inr (.inl (some (77))))), some (.inl (at0 : Int)), none, none, none]) (st' := [.inr (.inl (40187)), .inr (.inr (.inl (some (77))))]) (h' := h) rfl ?_
      refine wq_cv (p' := 136) (av_qc (.invokevirtual 187) 132 1 0 8) 3 cd_132 [.inr (.inl (40187))] (77) 8 [some (.inr (.inr (.inl (some (77))))), some (.inr (.inl (40187))), none] (ck_154 _ _ rfl) rfl rfl pp_132 rfl rfl rfl (congrArg Prod.fst (ly_k (ml_L M) 77 rfl)) rfl rfl rfl rfl ?_
      refine ct_132 M.1 F (40187) (by omega) (fun z194 => ?_) (fun z194 => ?_)
      · show av_wp _ cd_154 136 [some (.inr (.inr (.inl (some (77))))), some (.inl (at0 : Int)), none, none, none] [.inl (1)] h _
        refine av_wp_sqF ck_154 1 (pc' := 139) (lv' := [some (.inr (.inr (.inl (some (77))))), some (.inl (at0 : Int)), none, none, none]) (st' := []) (h' := h) rfl ?_
        obtain ⟨k195, q196⟩ : ∃ v : Int, pkv b t 12 = v := ⟨_, rfl⟩
        have e197 : k195 = 2 := by rw [← q196, pkP_12 M.1.2.2, if_neg z1, if_neg z161, if_pos z194]
        refine av_wp_sqF ck_154 1 (pc' := 140) (lv' := [some (.inr (.inr (.inl (some (77))))), some (.inl (at0 : Int)), none, none, none]) (st' := [.inr (.inr (.inl (some (77))))]) (h' := h) rfl ?_
        refine wq_cv (p' := 143) (av_qc (.invokevirtual 191) 130 0 0 8) 2 cd_130 [] (77) 8 [some (.inr (.inr (.inl (some (77))))), none] (ck_154 _ _ rfl) rfl rfl pp_130 rfl rfl rfl (congrArg Prod.fst (ly_k (ml_L M) 77 rfl)) rfl rfl rfl rfl ?_
        refine ct_130t M.1 F (fun h198 N199 F200 => ?_)
        have M201 := ml_tok M N199
        clear N199
        generalize q203 : adv b lim t = t202 at M201
        have X204 : RL t202 R d := rlr_t X (fun z => by rw [← q203] at z; exact z)
        show av_wp _ cd_154 143 [some (.inr (.inr (.inl (some (77))))), some (.inl (at0 : Int)), none, none, none] [] h198 _
        have q205 : cho b lim t 12 = t202 := by rw [← q203]; exact if_neg (by omega)
        refine av_wp_sqF ck_154 1 (pc' := 144) (lv' := [some (.inr (.inr (.inl (some (77))))), some (.inl (at0 : Int)), none, none, none]) (st' := [.inr (.inr (.inl (some (77))))]) (h' := h198) rfl ?_
        refine wq_gr (p' := 147) (ck_154 _ _ rfl) rfl (congrArg Prod.fst (ly_k (ml_L M201) 77 rfl)) rfl (ly_g (ml_L M201) 77 15 93 rfl) ?_
        refine av_wp_sqF ck_154 4 (pc' := 151) (lv' := [some (.inr (.inr (.inl (some (77))))), some (.inl (at0 : Int)), none, none, none]) (st' := [.inr (.inr (.inl (some (77)))), .inl ((at0 : Int) + (4)), .inr (.inr (.inl (some (93))))]) (h' := h198) rfl ?_
        refine wq_cv (p' := 154) (av_qc (.invokevirtual 312) 152 0 0 8) 2 cd_152 [] (77) 8 [some (.inr (.inr (.inl (some (77))))), none] (ck_154 _ _ rfl) rfl rfl pp_152 rfl rfl rfl (congrArg Prod.fst (ly_k (ml_L M201) 77 rfl)) rfl rfl rfl rfl ?_
        refine ct_152 M201.1 F200 (fun h206 N207 F208 => ?_)
        have M209 := ml_tok M201 N207
        clear N207
        generalize q211 : cho b lim t202 14 = t210 at M209
        have X212 : RL t210 R d := rlr_t X204 (fun z => (cho_o (n := 14) (by rw [q211]; exact z)).1)
        obtain ⟨v213, q214⟩ : ∃ v : Int, pkv b t202 14 = v := ⟨_, rfl⟩
        rw [q214]
        have g215 := pkv_le (b := b) (t := t202) 14 2 rfl
        rw [q214] at g215
        show av_wp _ cd_154 154 [some (.inr (.inr (.inl (some (77))))), some (.inl (at0 : Int)), none, none, none] [.inl v213, .inl ((at0 : Int) + (4)), .inr (.inr (.inl (some (93))))] h206 _
        refine ml_as (p' := 155) rfl rfl M209 F208 (by omega) 4 (by decide) (by omega) (fun h216 M217 F218 => ?_)
        have X219 : RL t210 (av_u1 R 4 v213) (av_u1 d 4 v213) := rlr_u X212 (fun _ => rfl)
        refine av_wp_sqF ck_154 1 (pc' := 454) (lv' := [some (.inr (.inr (.inl (some (77))))), some (.inl (at0 : Int)), none, none, none]) (st' := []) (h' := h216) rfl ?_
        refine av_wp_sqF ck_154 1 (pc' := 455) (lv' := [some (.inr (.inr (.inl (some (77))))), some (.inl (at0 : Int)), none, none, none]) (st' := [.inr (.inr (.inl (some (77))))]) (h' := h216) rfl ?_
        refine wq_cv (p' := 458) (av_qc (.invokevirtual 286) 135 0 0 8) 1 cd_135 [] (77) 8 [some (.inr (.inr (.inl (some (77)))))] (ck_154 _ _ rfl) rfl rfl pp_135 rfl rfl rfl (congrArg Prod.fst (ly_k (ml_L M217) 77 rfl)) rfl rfl rfl rfl ?_
        refine ct_135 M217.1 F218 (fun h220 N221 F222 => ?_)
        have M223 := ml_tok M217 N221
        clear N221
        generalize q225 : sem b lim t210 = t224 at M223
        have X226 : RL t224 (av_u1 R 4 v213) (av_u1 d 4 v213) := rlr_t X219 (fun z => sem_o (by rw [q225]; exact z))
        show av_wp _ cd_154 458 [some (.inr (.inr (.inl (some (77))))), some (.inl (at0 : Int)), none, none, none] [] h220 _
        refine av_wp_ret (v := none) (ck_154 _ _ rfl) rfl rfl ?_
        exact hq h220 (av_u1 R 4 v213) (by simp only [rl1, rlK, rlC, rlN, q196, q203, q205, q211, q214, q225, if_neg (show ¬ k195 = 0 by omega), if_neg (show ¬ k195 = 1 by omega), if_pos (show k195 = 2 by omega)]; exact M223) F222 (by simp only [rl1, rlK, rlC, rlN, q196, q203, q205, q211, q214, q225, if_neg (show ¬ k195 = 0 by omega), if_neg (show ¬ k195 = 1 by omega), if_pos (show k195 = 2 by omega)]; exact X226)
      · show av_wp _ cd_154 136 [some (.inr (.inr (.inl (some (77))))), some (.inl (at0 : Int)), none, none, none] [.inl (0)] h _
        refine av_wp_sqF ck_154 3 (pc' := 162) (lv' := [some (.inr (.inr (.inl (some (77))))), some (.inl (at0 : Int)), none, none, none]) (st' := [.inr (.inl (393)), .inr (.inr (.inl (some (77))))]) (h' := h) rfl ?_
        refine wq_cv (p' := 165) (av_qc (.invokevirtual 187) 132 1 0 8) 3 cd_132 [.inr (.inl (393))] (77) 8 [some (.inr (.inr (.inl (some (77))))), some (.inr (.inl (393))), none] (ck_154 _ _ rfl) rfl rfl pp_132 rfl rfl rfl (congrArg Prod.fst (ly_k (ml_L M) 77 rfl)) rfl rfl rfl rfl ?_
        refine ct_132 M.1 F (393) (by omega) (fun z227 => ?_) (fun z227 => ?_)
        · show av_wp _ cd_154 165 [some (.inr (.inr (.inl (some (77))))), some (.inl (at0 : Int)), none, none, none] [.inl (1)] h _
          refine av_wp_sqF ck_154 1 (pc' := 168) (lv' := [some (.inr (.inr (.inl (some (77))))), some (.inl (at0 : Int)), none, none, none]) (st' := []) (h' := h) rfl ?_
          obtain ⟨k228, q229⟩ : ∃ v : Int, pkv b t 12 = v := ⟨_, rfl⟩
          have e230 : k228 = 3 := by rw [← q229, pkP_12 M.1.2.2, if_neg z1, if_neg z161, if_neg z194, if_pos z227]
          refine av_wp_sqF ck_154 1 (pc' := 169) (lv' := [some (.inr (.inr (.inl (some (77))))), some (.inl (at0 : Int)), none, none, none]) (st' := [.inr (.inr (.inl (some (77))))]) (h' := h) rfl ?_
          refine wq_cv (p' := 172) (av_qc (.invokevirtual 191) 130 0 0 8) 2 cd_130 [] (77) 8 [some (.inr (.inr (.inl (some (77))))), none] (ck_154 _ _ rfl) rfl rfl pp_130 rfl rfl rfl (congrArg Prod.fst (ly_k (ml_L M) 77 rfl)) rfl rfl rfl rfl ?_
          refine ct_130t M.1 F (fun h231 N232 F233 => ?_)
          have M234 := ml_tok M N232
          clear N232
          generalize q236 : adv b lim t = t235 at M234
          have X237 : RL t235 R d := rlr_t X (fun z => by rw [← q236] at z; exact z)
          show av_wp _ cd_154 172 [some (.inr (.inr (.inl (some (77))))), some (.inl (at0 : Int)), none, none, none] [] h231 _
          have q238 : cho b lim t 12 = t235 := by rw [← q236]; exact if_neg (by omega)
          refine av_wp_sqF ck_154 1 (pc' := 173) (lv' := [some (.inr (.inr (.inl (some (77))))), some (.inl (at0 : Int)), none, none, none]) (st' := [.inr (.inr (.inl (some (77))))]) (h' := h231) rfl ?_
          refine wq_gr (p' := 176) (ck_154 _ _ rfl) rfl (congrArg Prod.fst (ly_k (ml_L M234) 77 rfl)) rfl (ly_g (ml_L M234) 77 15 93 rfl) ?_
          refine av_wp_sqF ck_154 4 (pc' := 180) (lv' := [some (.inr (.inr (.inl (some (77))))), some (.inl (at0 : Int)), none, none, none]) (st' := [.inr (.inr (.inl (some (77)))), .inl ((at0 : Int) + (5)), .inr (.inr (.inl (some (93))))]) (h' := h231) rfl ?_
          refine wq_cv (p' := 183) (av_qc (.invokevirtual 312) 152 0 0 8) 2 cd_152 [] (77) 8 [some (.inr (.inr (.inl (some (77))))), none] (ck_154 _ _ rfl) rfl rfl pp_152 rfl rfl rfl (congrArg Prod.fst (ly_k (ml_L M234) 77 rfl)) rfl rfl rfl rfl ?_
          refine ct_152 M234.1 F233 (fun h239 N240 F241 => ?_)
          have M242 := ml_tok M234 N240
          clear N240
          generalize q244 : cho b lim t235 14 = t243 at M242
          have X245 : RL t243 R d := rlr_t X237 (fun z => (cho_o (n := 14) (by rw [q244]; exact z)).1)
          obtain ⟨v246, q247⟩ : ∃ v : Int, pkv b t235 14 = v := ⟨_, rfl⟩
          rw [q247]
          have g248 := pkv_le (b := b) (t := t235) 14 2 rfl
          rw [q247] at g248
          show av_wp _ cd_154 183 [some (.inr (.inr (.inl (some (77))))), some (.inl (at0 : Int)), none, none, none] [.inl v246, .inl ((at0 : Int) + (5)), .inr (.inr (.inl (some (93))))] h239 _
          refine ml_as (p' := 184) rfl rfl M242 F241 (by omega) 5 (by decide) (by omega) (fun h249 M250 F251 => ?_)
          have X252 : RL t243 (av_u1 R 5 v246) (av_u1 d 5 v246) := rlr_u X245 (fun _ => rfl)
          refine av_wp_sqF ck_154 1 (pc' := 454) (lv' := [some (.inr (.inr (.inl (some (77))))), some (.inl (at0 : Int)), none, none, none]) (st' := []) (h' := h249) rfl ?_
          refine av_wp_sqF ck_154 1 (pc' := 455) (lv' := [some (.inr (.inr (.inl (some (77))))), some (.inl (at0 : Int)), none, none, none]) (st' := [.inr (.inr (.inl (some (77))))]) (h' := h249) rfl ?_
          refine wq_cv (p' := 458) (av_qc (.invokevirtual 286) 135 0 0 8) 1 cd_135 [] (77) 8 [some (.inr (.inr (.inl (some (77)))))] (ck_154 _ _ rfl) rfl rfl pp_135 rfl rfl rfl (congrArg Prod.fst (ly_k (ml_L M250) 77 rfl)) rfl rfl rfl rfl ?_
          refine ct_135 M250.1 F251 (fun h253 N254 F255 => ?_)
          have M256 := ml_tok M250 N254
          clear N254
          generalize q258 : sem b lim t243 = t257 at M256
          have X259 : RL t257 (av_u1 R 5 v246) (av_u1 d 5 v246) := rlr_t X252 (fun z => sem_o (by rw [q258]; exact z))
          show av_wp _ cd_154 458 [some (.inr (.inr (.inl (some (77))))), some (.inl (at0 : Int)), none, none, none] [] h253 _
          refine av_wp_ret (v := none) (ck_154 _ _ rfl) rfl rfl ?_
          exact hq h253 (av_u1 R 5 v246) (by simp only [rl1, rlK, rlC, rlN, q229, q236, q238, q244, q247, q258, if_neg (show ¬ k228 = 0 by omega), if_neg (show ¬ k228 = 1 by omega), if_neg (show ¬ k228 = 2 by omega), if_pos (show k228 = 3 by omega)]; exact M256) F255 (by simp only [rl1, rlK, rlC, rlN, q229, q236, q238, q244, q247, q258, if_neg (show ¬ k228 = 0 by omega), if_neg (show ¬ k228 = 1 by omega), if_neg (show ¬ k228 = 2 by omega), if_pos (show k228 = 3 by omega)]; exact X259)
        · show av_wp _ cd_154 165 [some (.inr (.inr (.inl (some (77))))), some (.inl (at0 : Int)), none, none, none] [.inl (0)] h _
          refine av_wp_sqF ck_154 3 (pc' := 191) (lv' := [some (.inr (.inr (.inl (some (77))))), some (.inl (at0 : Int)), none, none, none]) (st' := [.inr (.inl (168727)), .inr (.inr (.inl (some (77))))]) (h' := h) rfl ?_
          refine wq_cv (p' := 194) (av_qc (.invokevirtual 187) 132 1 0 8) 3 cd_132 [.inr (.inl (168727))] (77) 8 [some (.inr (.inr (.inl (some (77))))), some (.inr (.inl (168727))), none] (ck_154 _ _ rfl) rfl rfl pp_132 rfl rfl rfl (congrArg Prod.fst (ly_k (ml_L M) 77 rfl)) rfl rfl rfl rfl ?_
          refine ct_132 M.1 F (168727) (by omega) (fun z260 => ?_) (fun z260 => ?_)
          · show av_wp _ cd_154 194 [some (.inr (.inr (.inl (some (77))))), some (.inl (at0 : Int)), none, none, none] [.inl (1)] h _
            refine av_wp_sqF ck_154 1 (pc' := 197) (lv' := [some (.inr (.inr (.inl (some (77))))), some (.inl (at0 : Int)), none, none, none]) (st' := []) (h' := h) rfl ?_
            obtain ⟨k261, q262⟩ : ∃ v : Int, pkv b t 12 = v := ⟨_, rfl⟩
            have e263 : k261 = 4 := by rw [← q262, pkP_12 M.1.2.2, if_neg z1, if_neg z161, if_neg z194, if_neg z227, if_pos z260]
            refine av_wp_sqF ck_154 1 (pc' := 198) (lv' := [some (.inr (.inr (.inl (some (77))))), some (.inl (at0 : Int)), none, none, none]) (st' := [.inr (.inr (.inl (some (77))))]) (h' := h) rfl ?_
            refine wq_cv (p' := 201) (av_qc (.invokevirtual 191) 130 0 0 8) 2 cd_130 [] (77) 8 [some (.inr (.inr (.inl (some (77))))), none] (ck_154 _ _ rfl) rfl rfl pp_130 rfl rfl rfl (congrArg Prod.fst (ly_k (ml_L M) 77 rfl)) rfl rfl rfl rfl ?_
            refine ct_130t M.1 F (fun h264 N265 F266 => ?_)
            have M267 := ml_tok M N265
            clear N265
            generalize q269 : adv b lim t = t268 at M267
            have X270 : RL t268 R d := rlr_t X (fun z => by rw [← q269] at z; exact z)
            show av_wp _ cd_154 201 [some (.inr (.inr (.inl (some (77))))), some (.inl (at0 : Int)), none, none, none] [] h264 _
            have q271 : cho b lim t 12 = t268 := by rw [← q269]; exact if_neg (by omega)
            refine av_wp_sqF ck_154 1 (pc' := 202) (lv' := [some (.inr (.inr (.inl (some (77))))), some (.inl (at0 : Int)), none, none, none]) (st' := [.inr (.inr (.inl (some (77))))]) (h' := h264) rfl ?_
            refine wq_gr (p' := 205) (ck_154 _ _ rfl) rfl (congrArg Prod.fst (ly_k (ml_L M267) 77 rfl)) rfl (ly_g (ml_L M267) 77 15 93 rfl) ?_
            refine av_wp_sqF ck_154 7 (pc' := 219) (lv' := [some (.inr (.inr (.inl (some (77))))), some (.inl (at0 : Int)), none, none, none]) (st' := [.inr (.inl (-9)), .inr (.inl (1250362)), .inr (.inl (131360)), .inr (.inr (.inl (some (77)))), .inl ((at0 : Int) + (6)), .inr (.inr (.inl (some (93))))]) (h' := h264) rfl ?_
            refine wq_cv (p' := 222) (av_qc (.invokevirtual 308) 153 3 0 8) 8 cd_153 [.inr (.inl (-9)), .inr (.inl (1250362)), .inr (.inl (131360))] (77) 8 [some (.inr (.inr (.inl (some (77))))), some (.inr (.inl (131360))), none, some (.inr (.inl (1250362))), none, some (.inr (.inl (-9))), none, none] (ck_154 _ _ rfl) rfl rfl pp_153 rfl rfl rfl (congrArg Prod.fst (ly_k (ml_L M267) 77 rfl)) rfl rfl rfl rfl ?_
            refine ct_153n M267.1 F266 (131360) (by omega) (1250362) (by omega) (-9) (by omega) 15 (on3_15 M267.1.2.2) (fun h272 N273 F274 => ?_)
            have M275 := ml_tok M267 N273
            clear N273
            generalize q277 : cho b lim t268 15 = t276 at M275
            have X278 : RL t276 R d := rlr_t X270 (fun z => (cho_o (n := 15) (by rw [q277]; exact z)).1)
            obtain ⟨v279, q280⟩ : ∃ v : Int, pkv b t268 15 = v := ⟨_, rfl⟩
            rw [q280]
            have g281 := pkv_le (b := b) (t := t268) 15 1 rfl
            rw [q280] at g281
            show av_wp _ cd_154 222 [some (.inr (.inr (.inl (some (77))))), some (.inl (at0 : Int)), none, none, none] [.inl v279, .inl ((at0 : Int) + (6)), .inr (.inr (.inl (some (93))))] h272 _
            refine ml_as (p' := 223) rfl rfl M275 F274 (by omega) 6 (by decide) (by omega) (fun h282 M283 F284 => ?_)
            have X285 : RL t276 (av_u1 R 6 v279) (av_u1 d 6 v279) := rlr_u X278 (fun _ => rfl)
            refine av_wp_sqF ck_154 1 (pc' := 454) (lv' := [some (.inr (.inr (.inl (some (77))))), some (.inl (at0 : Int)), none, none, none]) (st' := []) (h' := h282) rfl ?_
            refine av_wp_sqF ck_154 1 (pc' := 455) (lv' := [some (.inr (.inr (.inl (some (77))))), some (.inl (at0 : Int)), none, none, none]) (st' := [.inr (.inr (.inl (some (77))))]) (h' := h282) rfl ?_
            refine wq_cv (p' := 458) (av_qc (.invokevirtual 286) 135 0 0 8) 1 cd_135 [] (77) 8 [some (.inr (.inr (.inl (some (77)))))] (ck_154 _ _ rfl) rfl rfl pp_135 rfl rfl rfl (congrArg Prod.fst (ly_k (ml_L M283) 77 rfl)) rfl rfl rfl rfl ?_
            refine ct_135 M283.1 F284 (fun h286 N287 F288 => ?_)
            have M289 := ml_tok M283 N287
            clear N287
            generalize q291 : sem b lim t276 = t290 at M289
            have X292 : RL t290 (av_u1 R 6 v279) (av_u1 d 6 v279) := rlr_t X285 (fun z => sem_o (by rw [q291]; exact z))
            show av_wp _ cd_154 458 [some (.inr (.inr (.inl (some (77))))), some (.inl (at0 : Int)), none, none, none] [] h286 _
            refine av_wp_ret (v := none) (ck_154 _ _ rfl) rfl rfl ?_
            exact hq h286 (av_u1 R 6 v279) (by simp only [rl1, rlK, rlC, rlN, q262, q269, q271, q277, q280, q291, if_neg (show ¬ k261 = 0 by omega), if_neg (show ¬ k261 = 1 by omega), if_neg (show ¬ k261 = 2 by omega), if_neg (show ¬ k261 = 3 by omega), if_pos (show k261 = 4 by omega)]; exact M289) F288 (by simp only [rl1, rlK, rlC, rlN, q262, q269, q271, q277, q280, q291, if_neg (show ¬ k261 = 0 by omega), if_neg (show ¬ k261 = 1 by omega), if_neg (show ¬ k261 = 2 by omega), if_neg (show ¬ k261 = 3 by omega), if_pos (show k261 = 4 by omega)]; exact X292)
          · show av_wp _ cd_154 194 [some (.inr (.inr (.inl (some (77))))), some (.inl (at0 : Int)), none, none, none] [.inl (0)] h _
            refine av_wp_sqF ck_154 3 (pc' := 230) (lv' := [some (.inr (.inr (.inl (some (77))))), some (.inl (at0 : Int)), none, none, none]) (st' := [.inr (.inl (6409157)), .inr (.inr (.inl (some (77))))]) (h' := h) rfl ?_
            refine wq_cv (p' := 233) (av_qc (.invokevirtual 187) 132 1 0 8) 3 cd_132 [.inr (.inl (6409157))] (77) 8 [some (.inr (.inr (.inl (some (77))))), some (.inr (.inl (6409157))), none] (ck_154 _ _ rfl) rfl rfl pp_132 rfl rfl rfl (congrArg Prod.fst (ly_k (ml_L M) 77 rfl)) rfl rfl rfl rfl ?_
            refine ct_132 M.1 F (6409157) (by omega) (fun z293 => ?_) (fun z293 => ?_)
            · show av_wp _ cd_154 233 [some (.inr (.inr (.inl (some (77))))), some (.inl (at0 : Int)), none, none, none] [.inl (1)] h _
              refine av_wp_sqF ck_154 1 (pc' := 236) (lv' := [some (.inr (.inr (.inl (some (77))))), some (.inl (at0 : Int)), none, none, none]) (st' := []) (h' := h) rfl ?_
              obtain ⟨k294, q295⟩ : ∃ v : Int, pkv b t 12 = v := ⟨_, rfl⟩
              have e296 : k294 = 5 := by rw [← q295, pkP_12 M.1.2.2, if_neg z1, if_neg z161, if_neg z194, if_neg z227, if_neg z260, if_pos z293]
              refine av_wp_sqF ck_154 1 (pc' := 237) (lv' := [some (.inr (.inr (.inl (some (77))))), some (.inl (at0 : Int)), none, none, none]) (st' := [.inr (.inr (.inl (some (77))))]) (h' := h) rfl ?_
              refine wq_cv (p' := 240) (av_qc (.invokevirtual 191) 130 0 0 8) 2 cd_130 [] (77) 8 [some (.inr (.inr (.inl (some (77))))), none] (ck_154 _ _ rfl) rfl rfl pp_130 rfl rfl rfl (congrArg Prod.fst (ly_k (ml_L M) 77 rfl)) rfl rfl rfl rfl ?_
              refine ct_130t M.1 F (fun h297 N298 F299 => ?_)
              have M300 := ml_tok M N298
              clear N298
              generalize q302 : adv b lim t = t301 at M300
              have X303 : RL t301 R d := rlr_t X (fun z => by rw [← q302] at z; exact z)
              show av_wp _ cd_154 240 [some (.inr (.inr (.inl (some (77))))), some (.inl (at0 : Int)), none, none, none] [] h297 _
              have q304 : cho b lim t 12 = t301 := by rw [← q302]; exact if_neg (by omega)
              refine av_wp_sqF ck_154 1 (pc' := 241) (lv' := [some (.inr (.inr (.inl (some (77))))), some (.inl (at0 : Int)), none, none, none]) (st' := [.inr (.inr (.inl (some (77))))]) (h' := h297) rfl ?_
              refine wq_gr (p' := 244) (ck_154 _ _ rfl) rfl (congrArg Prod.fst (ly_k (ml_L M300) 77 rfl)) rfl (ly_g (ml_L M300) 77 15 93 rfl) ?_
              refine av_wp_sqF ck_154 6 (pc' := 253) (lv' := [some (.inr (.inr (.inl (some (77))))), some (.inl (at0 : Int)), none, none, none]) (st' := [.inl (999), .inl (0), .inr (.inr (.inl (some (77)))), .inl ((at0 : Int) + (7)), .inr (.inr (.inl (some (93))))]) (h' := h297) rfl ?_
              refine wq_cv (p' := 256) (av_qc (.invokevirtual 232) 134 2 0 8) 4 cd_134 [.inl (999), .inl (0)] (77) 8 [some (.inr (.inr (.inl (some (77))))), some (.inl (0)), some (.inl (999)), none] (ck_154 _ _ rfl) rfl rfl pp_134 rfl rfl rfl (congrArg Prod.fst (ly_k (ml_L M300) 77 rfl)) rfl rfl rfl rfl ?_
              refine ct_134 M300.1 F299 (0) (999) (by omega) (by omega) (fun v305 h308 N309 E306 F310 P307 => ?_)
              have M311 := ml_tok M300 N309
              clear N309
              generalize q313 : nmt b lim t301 (0) (999) = t312 at M311 E306
              have X314 : RL t312 R d := rlr_t X303 (fun z => (nmt_o (by rw [q313]; exact z)).1)
              show av_wp _ cd_154 256 [some (.inr (.inr (.inl (some (77))))), some (.inl (at0 : Int)), none, none, none] [.inl v305, .inl ((at0 : Int) + (7)), .inr (.inr (.inl (some (93))))] h308 _
              refine ml_as (p' := 257) rfl rfl M311 F310 (by omega) 7 (by decide) (by omega) (fun h315 M316 F317 => ?_)
              have X318 : RL t312 (av_u1 R 7 v305) (av_u1 d 7 (nmv b t301 (0) (999))) := rlr_u X314 E306
              refine av_wp_sqF ck_154 1 (pc' := 454) (lv' := [some (.inr (.inr (.inl (some (77))))), some (.inl (at0 : Int)), none, none, none]) (st' := []) (h' := h315) rfl ?_
              refine av_wp_sqF ck_154 1 (pc' := 455) (lv' := [some (.inr (.inr (.inl (some (77))))), some (.inl (at0 : Int)), none, none, none]) (st' := [.inr (.inr (.inl (some (77))))]) (h' := h315) rfl ?_
              refine wq_cv (p' := 458) (av_qc (.invokevirtual 286) 135 0 0 8) 1 cd_135 [] (77) 8 [some (.inr (.inr (.inl (some (77)))))] (ck_154 _ _ rfl) rfl rfl pp_135 rfl rfl rfl (congrArg Prod.fst (ly_k (ml_L M316) 77 rfl)) rfl rfl rfl rfl ?_
              refine ct_135 M316.1 F317 (fun h319 N320 F321 => ?_)
              have M322 := ml_tok M316 N320
              clear N320
              generalize q324 : sem b lim t312 = t323 at M322
              have X325 : RL t323 (av_u1 R 7 v305) (av_u1 d 7 (nmv b t301 (0) (999))) := rlr_t X318 (fun z => sem_o (by rw [q324]; exact z))
              show av_wp _ cd_154 458 [some (.inr (.inr (.inl (some (77))))), some (.inl (at0 : Int)), none, none, none] [] h319 _
              refine av_wp_ret (v := none) (ck_154 _ _ rfl) rfl rfl ?_
              exact hq h319 (av_u1 R 7 v305) (by simp only [rl1, rlK, rlC, rlN, q295, q302, q304, q313, q324, if_neg (show ¬ k294 = 0 by omega), if_neg (show ¬ k294 = 1 by omega), if_neg (show ¬ k294 = 2 by omega), if_neg (show ¬ k294 = 3 by omega), if_neg (show ¬ k294 = 4 by omega), if_pos (show k294 = 5 by omega)]; exact M322) F321 (by simp only [rl1, rlK, rlC, rlN, q295, q302, q304, q313, q324, if_neg (show ¬ k294 = 0 by omega), if_neg (show ¬ k294 = 1 by omega), if_neg (show ¬ k294 = 2 by omega), if_neg (show ¬ k294 = 3 by omega), if_neg (show ¬ k294 = 4 by omega), if_pos (show k294 = 5 by omega)]; exact X325)
            · show av_wp _ cd_154 233 [some (.inr (.inr (.inl (some (77))))), some (.inl (at0 : Int)), none, none, none] [.inl (0)] h _
              refine av_wp_sqF ck_154 3 (pc' := 264) (lv' := [some (.inr (.inr (.inl (some (77))))), some (.inl (at0 : Int)), none, none, none]) (st' := [.inr (.inl (7496615453)), .inr (.inr (.inl (some (77))))]) (h' := h) rfl ?_
              refine wq_cv (p' := 267) (av_qc (.invokevirtual 187) 132 1 0 8) 3 cd_132 [.inr (.inl (7496615453))] (77) 8 [some (.inr (.inr (.inl (some (77))))), some (.inr (.inl (7496615453))), none] (ck_154 _ _ rfl) rfl rfl pp_132 rfl rfl rfl (congrArg Prod.fst (ly_k (ml_L M) 77 rfl)) rfl rfl rfl rfl ?_
              refine ct_132 M.1 F (7496615453) (by omega) (fun z326 => ?_) (fun z326 => ?_)
              · show av_wp _ cd_154 267 [some (.inr (.inr (.inl (some (77))))), some (.inl (at0 : Int)), none, none, none] [.inl (1)] h _
                refine av_wp_sqF ck_154 1 (pc' := 270) (lv' := [some (.inr (.inr (.inl (some (77))))), some (.inl (at0 : Int)), none, none, none]) (st' := []) (h' := h) rfl ?_
                obtain ⟨k327, q328⟩ : ∃ v : Int, pkv b t 12 = v := ⟨_, rfl⟩
                have e329 : k327 = 6 := by rw [← q328, pkP_12 M.1.2.2, if_neg z1, if_neg z161, if_neg z194, if_neg z227, if_neg z260, if_neg z293, if_pos z326]
                refine av_wp_sqF ck_154 1 (pc' := 271) (lv' := [some (.inr (.inr (.inl (some (77))))), some (.inl (at0 : Int)), none, none, none]) (st' := [.inr (.inr (.inl (some (77))))]) (h' := h) rfl ?_
                refine wq_cv (p' := 274) (av_qc (.invokevirtual 191) 130 0 0 8) 2 cd_130 [] (77) 8 [some (.inr (.inr (.inl (some (77))))), none] (ck_154 _ _ rfl) rfl rfl pp_130 rfl rfl rfl (congrArg Prod.fst (ly_k (ml_L M) 77 rfl)) rfl rfl rfl rfl ?_
                refine ct_130t M.1 F (fun h330 N331 F332 => ?_)
                have M333 := ml_tok M N331
                clear N331
                generalize q335 : adv b lim t = t334 at M333
                have X336 : RL t334 R d := rlr_t X (fun z => by rw [← q335] at z; exact z)
                show av_wp _ cd_154 274 [some (.inr (.inr (.inl (some (77))))), some (.inl (at0 : Int)), none, none, none] [] h330 _
                have q337 : cho b lim t 12 = t334 := by rw [← q335]; exact if_neg (by omega)
                refine av_wp_sqF ck_154 1 (pc' := 275) (lv' := [some (.inr (.inr (.inl (some (77))))), some (.inl (at0 : Int)), none, none, none]) (st' := [.inr (.inr (.inl (some (77))))]) (h' := h330) rfl ?_
                refine wq_gr (p' := 278) (ck_154 _ _ rfl) rfl (congrArg Prod.fst (ly_k (ml_L M333) 77 rfl)) rfl (ly_g (ml_L M333) 77 15 93 rfl) ?_
                refine av_wp_sqF ck_154 6 (pc' := 287) (lv' := [some (.inr (.inr (.inl (some (77))))), some (.inl (at0 : Int)), none, none, none]) (st' := [.inl (999), .inl (0), .inr (.inr (.inl (some (77)))), .inl ((at0 : Int) + (8)), .inr (.inr (.inl (some (93))))]) (h' := h330) rfl ?_
                refine wq_cv (p' := 290) (av_qc (.invokevirtual 232) 134 2 0 8) 4 cd_134 [.inl (999), .inl (0)] (77) 8 [some (.inr (.inr (.inl (some (77))))), some (.inl (0)), some (.inl (999)), none] (ck_154 _ _ rfl) rfl rfl pp_134 rfl rfl rfl (congrArg Prod.fst (ly_k (ml_L M333) 77 rfl)) rfl rfl rfl rfl ?_
                refine ct_134 M333.1 F332 (0) (999) (by omega) (by omega) (fun v338 h341 N342 E339 F343 P340 => ?_)
                have M344 := ml_tok M333 N342
                clear N342
                generalize q346 : nmt b lim t334 (0) (999) = t345 at M344 E339
                have X347 : RL t345 R d := rlr_t X336 (fun z => (nmt_o (by rw [q346]; exact z)).1)
                show av_wp _ cd_154 290 [some (.inr (.inr (.inl (some (77))))), some (.inl (at0 : Int)), none, none, none] [.inl v338, .inl ((at0 : Int) + (8)), .inr (.inr (.inl (some (93))))] h341 _
                refine ml_as (p' := 291) rfl rfl M344 F343 (by omega) 8 (by decide) (by omega) (fun h348 M349 F350 => ?_)
                have X351 : RL t345 (av_u1 R 8 v338) (av_u1 d 8 (nmv b t334 (0) (999))) := rlr_u X347 E339
                refine av_wp_sqF ck_154 1 (pc' := 454) (lv' := [some (.inr (.inr (.inl (some (77))))), some (.inl (at0 : Int)), none, none, none]) (st' := []) (h' := h348) rfl ?_
                refine av_wp_sqF ck_154 1 (pc' := 455) (lv' := [some (.inr (.inr (.inl (some (77))))), some (.inl (at0 : Int)), none, none, none]) (st' := [.inr (.inr (.inl (some (77))))]) (h' := h348) rfl ?_
                refine wq_cv (p' := 458) (av_qc (.invokevirtual 286) 135 0 0 8) 1 cd_135 [] (77) 8 [some (.inr (.inr (.inl (some (77)))))] (ck_154 _ _ rfl) rfl rfl pp_135 rfl rfl rfl (congrArg Prod.fst (ly_k (ml_L M349) 77 rfl)) rfl rfl rfl rfl ?_
                refine ct_135 M349.1 F350 (fun h352 N353 F354 => ?_)
                have M355 := ml_tok M349 N353
                clear N353
                generalize q357 : sem b lim t345 = t356 at M355
                have X358 : RL t356 (av_u1 R 8 v338) (av_u1 d 8 (nmv b t334 (0) (999))) := rlr_t X351 (fun z => sem_o (by rw [q357]; exact z))
                show av_wp _ cd_154 458 [some (.inr (.inr (.inl (some (77))))), some (.inl (at0 : Int)), none, none, none] [] h352 _
                refine av_wp_ret (v := none) (ck_154 _ _ rfl) rfl rfl ?_
                exact hq h352 (av_u1 R 8 v338) (by simp only [rl1, rlK, rlC, rlN, q328, q335, q337, q346, q357, if_neg (show ¬ k327 = 0 by omega), if_neg (show ¬ k327 = 1 by omega), if_neg (show ¬ k327 = 2 by omega), if_neg (show ¬ k327 = 3 by omega), if_neg (show ¬ k327 = 4 by omega), if_neg (show ¬ k327 = 5 by omega), if_pos (show k327 = 6 by omega)]; exact M355) F354 (by simp only [rl1, rlK, rlC, rlN, q328, q335, q337, q346, q357, if_neg (show ¬ k327 = 0 by omega), if_neg (show ¬ k327 = 1 by omega), if_neg (show ¬ k327 = 2 by omega), if_neg (show ¬ k327 = 3 by omega), if_neg (show ¬ k327 = 4 by omega), if_neg (show ¬ k327 = 5 by omega), if_pos (show k327 = 6 by omega)]; exact X358)
              · show av_wp _ cd_154 267 [some (.inr (.inr (.inl (some (77))))), some (.inl (at0 : Int)), none, none, none] [.inl (0)] h _
                refine av_wp_sqF ck_154 3 (pc' := 298) (lv' := [some (.inr (.inr (.inl (some (77))))), some (.inl (at0 : Int)), none, none, none]) (st' := [.inr (.inl (2045)), .inr (.inr (.inl (some (77))))]) (h' := h) rfl ?_
                refine wq_cv (p' := 301) (av_qc (.invokevirtual 187) 132 1 0 8) 3 cd_132 [.inr (.inl (2045))] (77) 8 [some (.inr (.inr (.inl (some (77))))), some (.inr (.inl (2045))), none] (ck_154 _ _ rfl) rfl rfl pp_132 rfl rfl rfl (congrArg Prod.fst (ly_k (ml_L M) 77 rfl)) rfl rfl rfl rfl ?_
                refine ct_132 M.1 F (2045) (by omega) (fun z359 => ?_) (fun z359 => ?_)
                · show av_wp _ cd_154 301 [some (.inr (.inr (.inl (some (77))))), some (.inl (at0 : Int)), none, none, none] [.inl (1)] h _
                  refine av_wp_sqF ck_154 1 (pc' := 304) (lv' := [some (.inr (.inr (.inl (some (77))))), some (.inl (at0 : Int)), none, none, none]) (st' := []) (h' := h) rfl ?_
                  obtain ⟨k360, q361⟩ : ∃ v : Int, pkv b t 12 = v := ⟨_, rfl⟩
                  have e362 : k360 = 7 := by rw [← q361, pkP_12 M.1.2.2, if_neg z1, if_neg z161, if_neg z194, if_neg z227, if_neg z260, if_neg z293, if_neg z326, if_pos z359]
                  refine av_wp_sqF ck_154 1 (pc' := 305) (lv' := [some (.inr (.inr (.inl (some (77))))), some (.inl (at0 : Int)), none, none, none]) (st' := [.inr (.inr (.inl (some (77))))]) (h' := h) rfl ?_
                  refine wq_cv (p' := 308) (av_qc (.invokevirtual 191) 130 0 0 8) 2 cd_130 [] (77) 8 [some (.inr (.inr (.inl (some (77))))), none] (ck_154 _ _ rfl) rfl rfl pp_130 rfl rfl rfl (congrArg Prod.fst (ly_k (ml_L M) 77 rfl)) rfl rfl rfl rfl ?_
                  refine ct_130t M.1 F (fun h363 N364 F365 => ?_)
                  have M366 := ml_tok M N364
                  clear N364
                  generalize q368 : adv b lim t = t367 at M366
                  have X369 : RL t367 R d := rlr_t X (fun z => by rw [← q368] at z; exact z)
                  show av_wp _ cd_154 308 [some (.inr (.inr (.inl (some (77))))), some (.inl (at0 : Int)), none, none, none] [] h363 _
                  have q370 : cho b lim t 12 = t367 := by rw [← q368]; exact if_neg (by omega)
                  refine av_wp_sqF ck_154 1 (pc' := 309) (lv' := [some (.inr (.inr (.inl (some (77))))), some (.inl (at0 : Int)), none, none, none]) (st' := [.inr (.inr (.inl (some (77))))]) (h' := h363) rfl ?_
                  refine wq_gr (p' := 312) (ck_154 _ _ rfl) rfl (congrArg Prod.fst (ly_k (ml_L M366) 77 rfl)) rfl (ly_g (ml_L M366) 77 15 93 rfl) ?_
                  refine av_wp_sqF ck_154 7 (pc' := 326) (lv' := [some (.inr (.inr (.inl (some (77))))), some (.inl (at0 : Int)), none, none, none]) (st' := [.inr (.inl (-9)), .inr (.inl (10354323)), .inr (.inl (393)), .inr (.inr (.inl (some (77)))), .inl ((at0 : Int) + (9)), .inr (.inr (.inl (some (93))))]) (h' := h363) rfl ?_
                  refine wq_cv (p' := 329) (av_qc (.invokevirtual 308) 153 3 0 8) 8 cd_153 [.inr (.inl (-9)), .inr (.inl (10354323)), .inr (.inl (393))] (77) 8 [some (.inr (.inr (.inl (some (77))))), some (.inr (.inl (393))), none, some (.inr (.inl (10354323))), none, some (.inr (.inl (-9))), none, none] (ck_154 _ _ rfl) rfl rfl pp_153 rfl rfl rfl (congrArg Prod.fst (ly_k (ml_L M366) 77 rfl)) rfl rfl rfl rfl ?_
                  refine ct_153n M366.1 F365 (393) (by omega) (10354323) (by omega) (-9) (by omega) 16 (on3_16 M366.1.2.2) (fun h371 N372 F373 => ?_)
                  have M374 := ml_tok M366 N372
                  clear N372
                  generalize q376 : cho b lim t367 16 = t375 at M374
                  have X377 : RL t375 R d := rlr_t X369 (fun z => (cho_o (n := 16) (by rw [q376]; exact z)).1)
                  obtain ⟨v378, q379⟩ : ∃ v : Int, pkv b t367 16 = v := ⟨_, rfl⟩
                  rw [q379]
                  have g380 := pkv_le (b := b) (t := t367) 16 1 rfl
                  rw [q379] at g380
                  show av_wp _ cd_154 329 [some (.inr (.inr (.inl (some (77))))), some (.inl (at0 : Int)), none, none, none] [.inl v378, .inl ((at0 : Int) + (9)), .inr (.inr (.inl (some (93))))] h371 _
                  refine ml_as (p' := 330) rfl rfl M374 F373 (by omega) 9 (by decide) (by omega) (fun h381 M382 F383 => ?_)
                  have X384 : RL t375 (av_u1 R 9 v378) (av_u1 d 9 v378) := rlr_u X377 (fun _ => rfl)
                  refine av_wp_sqF ck_154 1 (pc' := 454) (lv' := [some (.inr (.inr (.inl (some (77))))), some (.inl (at0 : Int)), none, none, none]) (st' := []) (h' := h381) rfl ?_
                  refine av_wp_sqF ck_154 1 (pc' := 455) (lv' := [some (.inr (.inr (.inl (some (77))))), some (.inl (at0 : Int)), none, none, none]) (st' := [.inr (.inr (.inl (some (77))))]) (h' := h381) rfl ?_
                  refine wq_cv (p' := 458) (av_qc (.invokevirtual 286) 135 0 0 8) 1 cd_135 [] (77) 8 [some (.inr (.inr (.inl (some (77)))))] (ck_154 _ _ rfl) rfl rfl pp_135 rfl rfl rfl (congrArg Prod.fst (ly_k (ml_L M382) 77 rfl)) rfl rfl rfl rfl ?_
                  refine ct_135 M382.1 F383 (fun h385 N386 F387 => ?_)
                  have M388 := ml_tok M382 N386
                  clear N386
                  generalize q390 : sem b lim t375 = t389 at M388
                  have X391 : RL t389 (av_u1 R 9 v378) (av_u1 d 9 v378) := rlr_t X384 (fun z => sem_o (by rw [q390]; exact z))
                  show av_wp _ cd_154 458 [some (.inr (.inr (.inl (some (77))))), some (.inl (at0 : Int)), none, none, none] [] h385 _
                  refine av_wp_ret (v := none) (ck_154 _ _ rfl) rfl rfl ?_
                  exact hq h385 (av_u1 R 9 v378) (by simp only [rl1, rlK, rlC, rlN, q361, q368, q370, q376, q379, q390, if_neg (show ¬ k360 = 0 by omega), if_neg (show ¬ k360 = 1 by omega), if_neg (show ¬ k360 = 2 by omega), if_neg (show ¬ k360 = 3 by omega), if_neg (show ¬ k360 = 4 by omega), if_neg (show ¬ k360 = 5 by omega), if_neg (show ¬ k360 = 6 by omega), if_pos (show k360 = 7 by omega)]; exact M388) F387 (by simp only [rl1, rlK, rlC, rlN, q361, q368, q370, q376, q379, q390, if_neg (show ¬ k360 = 0 by omega), if_neg (show ¬ k360 = 1 by omega), if_neg (show ¬ k360 = 2 by omega), if_neg (show ¬ k360 = 3 by omega), if_neg (show ¬ k360 = 4 by omega), if_neg (show ¬ k360 = 5 by omega), if_neg (show ¬ k360 = 6 by omega), if_pos (show k360 = 7 by omega)]; exact X391)
                · show av_wp _ cd_154 301 [some (.inr (.inr (.inl (some (77))))), some (.inl (at0 : Int)), none, none, none] [.inl (0)] h _
                  refine av_wp_sqF ck_154 3 (pc' := 337) (lv' := [some (.inr (.inr (.inl (some (77))))), some (.inl (at0 : Int)), none, none, none]) (st' := [.inr (.inl (129532)), .inr (.inr (.inl (some (77))))]) (h' := h) rfl ?_
                  refine wq_cv (p' := 340) (av_qc (.invokevirtual 187) 132 1 0 8) 3 cd_132 [.inr (.inl (129532))] (77) 8 [some (.inr (.inr (.inl (some (77))))), some (.inr (.inl (129532))), none] (ck_154 _ _ rfl) rfl rfl pp_132 rfl rfl rfl (congrArg Prod.fst (ly_k (ml_L M) 77 rfl)) rfl rfl rfl rfl ?_
                  refine ct_132 M.1 F (129532) (by omega) (fun z392 => ?_) (fun z392 => ?_)
                  · show av_wp _ cd_154 340 [some (.inr (.inr (.inl (some (77))))), some (.inl (at0 : Int)), none, none, none] [.inl (1)] h _
                    refine av_wp_sqF ck_154 1 (pc' := 343) (lv' := [some (.inr (.inr (.inl (some (77))))), some (.inl (at0 : Int)), none, none, none]) (st' := []) (h' := h) rfl ?_
                    obtain ⟨k393, q394⟩ : ∃ v : Int, pkv b t 12 = v := ⟨_, rfl⟩
                    have e395 : k393 = 8 := by rw [← q394, pkP_12 M.1.2.2, if_neg z1, if_neg z161, if_neg z194, if_neg z227, if_neg z260, if_neg z293, if_neg z326, if_neg z359, if_pos z392]
                    refine av_wp_sqF ck_154 1 (pc' := 344) (lv' := [some (.inr (.inr (.inl (some (77))))), some (.inl (at0 : Int)), none, none, none]) (st' := [.inr (.inr (.inl (some (77))))]) (h' := h) rfl ?_
                    refine wq_cv (p' := 347) (av_qc (.invokevirtual 191) 130 0 0 8) 2 cd_130 [] (77) 8 [some (.inr (.inr (.inl (some (77))))), none] (ck_154 _ _ rfl) rfl rfl pp_130 rfl rfl rfl (congrArg Prod.fst (ly_k (ml_L M) 77 rfl)) rfl rfl rfl rfl ?_
                    refine ct_130t M.1 F (fun h396 N397 F398 => ?_)
                    have M399 := ml_tok M N397
                    clear N397
                    generalize q401 : adv b lim t = t400 at M399
                    have X402 : RL t400 R d := rlr_t X (fun z => by rw [← q401] at z; exact z)
                    show av_wp _ cd_154 347 [some (.inr (.inr (.inl (some (77))))), some (.inl (at0 : Int)), none, none, none] [] h396 _
                    have q403 : cho b lim t 12 = t400 := by rw [← q401]; exact if_neg (by omega)
                    refine av_wp_sqF ck_154 1 (pc' := 348) (lv' := [some (.inr (.inr (.inl (some (77))))), some (.inl (at0 : Int)), none, none, none]) (st' := [.inr (.inr (.inl (some (77))))]) (h' := h396) rfl ?_
                    refine wq_gr (p' := 351) (ck_154 _ _ rfl) rfl (congrArg Prod.fst (ly_k (ml_L M399) 77 rfl)) rfl (ly_g (ml_L M399) 77 15 93 rfl) ?_
                    refine av_wp_sqF ck_154 7 (pc' := 365) (lv' := [some (.inr (.inr (.inl (some (77))))), some (.inl (at0 : Int)), none, none, none]) (st' := [.inr (.inl (286880)), .inr (.inl (237458)), .inr (.inl (3379448)), .inr (.inr (.inl (some (77)))), .inl ((at0 : Int) + (10)), .inr (.inr (.inl (some (93))))]) (h' := h396) rfl ?_
                    refine wq_cv (p' := 368) (av_qc (.invokevirtual 308) 153 3 0 8) 8 cd_153 [.inr (.inl (286880)), .inr (.inl (237458)), .inr (.inl (3379448))] (77) 8 [some (.inr (.inr (.inl (some (77))))), some (.inr (.inl (3379448))), none, some (.inr (.inl (237458))), none, some (.inr (.inl (286880))), none, none] (ck_154 _ _ rfl) rfl rfl pp_153 rfl rfl rfl (congrArg Prod.fst (ly_k (ml_L M399) 77 rfl)) rfl rfl rfl rfl ?_
                    refine ct_153n M399.1 F398 (3379448) (by omega) (237458) (by omega) (286880) (by omega) 17 (on3_17 M399.1.2.2) (fun h404 N405 F406 => ?_)
                    have M407 := ml_tok M399 N405
                    clear N405
                    generalize q409 : cho b lim t400 17 = t408 at M407
                    have X410 : RL t408 R d := rlr_t X402 (fun z => (cho_o (n := 17) (by rw [q409]; exact z)).1)
                    obtain ⟨v411, q412⟩ : ∃ v : Int, pkv b t400 17 = v := ⟨_, rfl⟩
                    rw [q412]
                    have g413 := pkv_le (b := b) (t := t400) 17 2 rfl
                    rw [q412] at g413
                    show av_wp _ cd_154 368 [some (.inr (.inr (.inl (some (77))))), some (.inl (at0 : Int)), none, none, none] [.inl v411, .inl ((at0 : Int) + (10)), .inr (.inr (.inl (some (93))))] h404 _
                    refine ml_as (p' := 369) rfl rfl M407 F406 (by omega) 10 (by decide) (by omega) (fun h414 M415 F416 => ?_)
                    have X417 : RL t408 (av_u1 R 10 v411) (av_u1 d 10 v411) := rlr_u X410 (fun _ => rfl)
                    refine av_wp_sqF ck_154 1 (pc' := 454) (lv' := [some (.inr (.inr (.inl (some (77))))), some (.inl (at0 : Int)), none, none, none]) (st' := []) (h' := h414) rfl ?_
                    refine av_wp_sqF ck_154 1 (pc' := 455) (lv' := [some (.inr (.inr (.inl (some (77))))), some (.inl (at0 : Int)), none, none, none]) (st' := [.inr (.inr (.inl (some (77))))]) (h' := h414) rfl ?_
                    refine wq_cv (p' := 458) (av_qc (.invokevirtual 286) 135 0 0 8) 1 cd_135 [] (77) 8 [some (.inr (.inr (.inl (some (77)))))] (ck_154 _ _ rfl) rfl rfl pp_135 rfl rfl rfl (congrArg Prod.fst (ly_k (ml_L M415) 77 rfl)) rfl rfl rfl rfl ?_
                    refine ct_135 M415.1 F416 (fun h418 N419 F420 => ?_)
                    have M421 := ml_tok M415 N419
                    clear N419
                    generalize q423 : sem b lim t408 = t422 at M421
                    have X424 : RL t422 (av_u1 R 10 v411) (av_u1 d 10 v411) := rlr_t X417 (fun z => sem_o (by rw [q423]; exact z))
                    show av_wp _ cd_154 458 [some (.inr (.inr (.inl (some (77))))), some (.inl (at0 : Int)), none, none, none] [] h418 _
                    refine av_wp_ret (v := none) (ck_154 _ _ rfl) rfl rfl ?_
                    exact hq h418 (av_u1 R 10 v411) (by simp only [rl1, rlK, rlC, rlN, q394, q401, q403, q409, q412, q423, if_neg (show ¬ k393 = 0 by omega), if_neg (show ¬ k393 = 1 by omega), if_neg (show ¬ k393 = 2 by omega), if_neg (show ¬ k393 = 3 by omega), if_neg (show ¬ k393 = 4 by omega), if_neg (show ¬ k393 = 5 by omega), if_neg (show ¬ k393 = 6 by omega), if_neg (show ¬ k393 = 7 by omega), if_pos (show k393 = 8 by omega)]; exact M421) F420 (by simp only [rl1, rlK, rlC, rlN, q394, q401, q403, q409, q412, q423, if_neg (show ¬ k393 = 0 by omega), if_neg (show ¬ k393 = 1 by omega), if_neg (show ¬ k393 = 2 by omega), if_neg (show ¬ k393 = 3 by omega), if_neg (show ¬ k393 = 4 by omega), if_neg (show ¬ k393 = 5 by omega), if_neg (show ¬ k393 = 6 by omega), if_neg (show ¬ k393 = 7 by omega), if_pos (show k393 = 8 by omega)]; exact X424)
                  · show av_wp _ cd_154 340 [some (.inr (.inr (.inl (some (77))))), some (.inl (at0 : Int)), none, none, none] [.inl (0)] h _
                    refine av_wp_sqF ck_154 3 (pc' := 376) (lv' := [some (.inr (.inr (.inl (some (77))))), some (.inl (at0 : Int)), none, none, none]) (st' := [.inr (.inl (82516)), .inr (.inr (.inl (some (77))))]) (h' := h) rfl ?_
                    refine wq_cv (p' := 379) (av_qc (.invokevirtual 187) 132 1 0 8) 3 cd_132 [.inr (.inl (82516))] (77) 8 [some (.inr (.inr (.inl (some (77))))), some (.inr (.inl (82516))), none] (ck_154 _ _ rfl) rfl rfl pp_132 rfl rfl rfl (congrArg Prod.fst (ly_k (ml_L M) 77 rfl)) rfl rfl rfl rfl ?_
                    refine ct_132 M.1 F (82516) (by omega) (fun z425 => ?_) (fun z425 => ?_)
                    · show av_wp _ cd_154 379 [some (.inr (.inr (.inl (some (77))))), some (.inl (at0 : Int)), none, none, none] [.inl (1)] h _
                      refine av_wp_sqF ck_154 1 (pc' := 382) (lv' := [some (.inr (.inr (.inl (some (77))))), some (.inl (at0 : Int)), none, none, none]) (st' := []) (h' := h) rfl ?_
                      obtain ⟨k426, q427⟩ : ∃ v : Int, pkv b t 12 = v := ⟨_, rfl⟩
                      have e428 : k426 = 9 := by rw [← q427, pkP_12 M.1.2.2, if_neg z1, if_neg z161, if_neg z194, if_neg z227, if_neg z260, if_neg z293, if_neg z326, if_neg z359, if_neg z392, if_pos z425]
                      refine av_wp_sqF ck_154 1 (pc' := 383) (lv' := [some (.inr (.inr (.inl (some (77))))), some (.inl (at0 : Int)), none, none, none]) (st' := [.inr (.inr (.inl (some (77))))]) (h' := h) rfl ?_
                      refine wq_cv (p' := 386) (av_qc (.invokevirtual 191) 130 0 0 8) 2 cd_130 [] (77) 8 [some (.inr (.inr (.inl (some (77))))), none] (ck_154 _ _ rfl) rfl rfl pp_130 rfl rfl rfl (congrArg Prod.fst (ly_k (ml_L M) 77 rfl)) rfl rfl rfl rfl ?_
                      refine ct_130t M.1 F (fun h429 N430 F431 => ?_)
                      have M432 := ml_tok M N430
                      clear N430
                      generalize q434 : adv b lim t = t433 at M432
                      have X435 : RL t433 R d := rlr_t X (fun z => by rw [← q434] at z; exact z)
                      show av_wp _ cd_154 386 [some (.inr (.inr (.inl (some (77))))), some (.inl (at0 : Int)), none, none, none] [] h429 _
                      have q436 : cho b lim t 12 = t433 := by rw [← q434]; exact if_neg (by omega)
                      refine av_wp_sqF ck_154 1 (pc' := 387) (lv' := [some (.inr (.inr (.inl (some (77))))), some (.inl (at0 : Int)), none, none, none]) (st' := [.inr (.inr (.inl (some (77))))]) (h' := h429) rfl ?_
                      refine wq_gr (p' := 390) (ck_154 _ _ rfl) rfl (congrArg Prod.fst (ly_k (ml_L M432) 77 rfl)) rfl (ly_g (ml_L M432) 77 15 93 rfl) ?_
                      refine av_wp_sqF ck_154 7 (pc' := 404) (lv' := [some (.inr (.inr (.inl (some (77))))), some (.inl (at0 : Int)), none, none, none]) (st' := [.inr (.inl (-9)), .inr (.inl (18379)), .inr (.inl (286880)), .inr (.inr (.inl (some (77)))), .inl ((at0 : Int) + (11)), .inr (.inr (.inl (some (93))))]) (h' := h429) rfl ?_
                      refine wq_cv (p' := 407) (av_qc (.invokevirtual 308) 153 3 0 8) 8 cd_153 [.inr (.inl (-9)), .inr (.inl (18379)), .inr (.inl (286880))] (77) 8 [some (.inr (.inr (.inl (some (77))))), some (.inr (.inl (286880))), none, some (.inr (.inl (18379))), none, some (.inr (.inl (-9))), none, none] (ck_154 _ _ rfl) rfl rfl pp_153 rfl rfl rfl (congrArg Prod.fst (ly_k (ml_L M432) 77 rfl)) rfl rfl rfl rfl ?_
                      refine ct_153n M432.1 F431 (286880) (by omega) (18379) (by omega) (-9) (by omega) 18 (on3_18 M432.1.2.2) (fun h437 N438 F439 => ?_)
                      have M440 := ml_tok M432 N438
                      clear N438
                      generalize q442 : cho b lim t433 18 = t441 at M440
                      have X443 : RL t441 R d := rlr_t X435 (fun z => (cho_o (n := 18) (by rw [q442]; exact z)).1)
                      obtain ⟨v444, q445⟩ : ∃ v : Int, pkv b t433 18 = v := ⟨_, rfl⟩
                      rw [q445]
                      have g446 := pkv_le (b := b) (t := t433) 18 1 rfl
                      rw [q445] at g446
                      show av_wp _ cd_154 407 [some (.inr (.inr (.inl (some (77))))), some (.inl (at0 : Int)), none, none, none] [.inl v444, .inl ((at0 : Int) + (11)), .inr (.inr (.inl (some (93))))] h437 _
                      refine ml_as (p' := 408) rfl rfl M440 F439 (by omega) 11 (by decide) (by omega) (fun h447 M448 F449 => ?_)
                      have X450 : RL t441 (av_u1 R 11 v444) (av_u1 d 11 v444) := rlr_u X443 (fun _ => rfl)
                      refine av_wp_sqF ck_154 1 (pc' := 454) (lv' := [some (.inr (.inr (.inl (some (77))))), some (.inl (at0 : Int)), none, none, none]) (st' := []) (h' := h447) rfl ?_
                      refine av_wp_sqF ck_154 1 (pc' := 455) (lv' := [some (.inr (.inr (.inl (some (77))))), some (.inl (at0 : Int)), none, none, none]) (st' := [.inr (.inr (.inl (some (77))))]) (h' := h447) rfl ?_
                      refine wq_cv (p' := 458) (av_qc (.invokevirtual 286) 135 0 0 8) 1 cd_135 [] (77) 8 [some (.inr (.inr (.inl (some (77)))))] (ck_154 _ _ rfl) rfl rfl pp_135 rfl rfl rfl (congrArg Prod.fst (ly_k (ml_L M448) 77 rfl)) rfl rfl rfl rfl ?_
                      refine ct_135 M448.1 F449 (fun h451 N452 F453 => ?_)
                      have M454 := ml_tok M448 N452
                      clear N452
                      generalize q456 : sem b lim t441 = t455 at M454
                      have X457 : RL t455 (av_u1 R 11 v444) (av_u1 d 11 v444) := rlr_t X450 (fun z => sem_o (by rw [q456]; exact z))
                      show av_wp _ cd_154 458 [some (.inr (.inr (.inl (some (77))))), some (.inl (at0 : Int)), none, none, none] [] h451 _
                      refine av_wp_ret (v := none) (ck_154 _ _ rfl) rfl rfl ?_
                      exact hq h451 (av_u1 R 11 v444) (by simp only [rl1, rlK, rlC, rlN, q427, q434, q436, q442, q445, q456, if_neg (show ¬ k426 = 0 by omega), if_neg (show ¬ k426 = 1 by omega), if_neg (show ¬ k426 = 2 by omega), if_neg (show ¬ k426 = 3 by omega), if_neg (show ¬ k426 = 4 by omega), if_neg (show ¬ k426 = 5 by omega), if_neg (show ¬ k426 = 6 by omega), if_neg (show ¬ k426 = 7 by omega), if_neg (show ¬ k426 = 8 by omega), if_pos (show k426 = 9 by omega)]; exact M454) F453 (by simp only [rl1, rlK, rlC, rlN, q427, q434, q436, q442, q445, q456, if_neg (show ¬ k426 = 0 by omega), if_neg (show ¬ k426 = 1 by omega), if_neg (show ¬ k426 = 2 by omega), if_neg (show ¬ k426 = 3 by omega), if_neg (show ¬ k426 = 4 by omega), if_neg (show ¬ k426 = 5 by omega), if_neg (show ¬ k426 = 6 by omega), if_neg (show ¬ k426 = 7 by omega), if_neg (show ¬ k426 = 8 by omega), if_pos (show k426 = 9 by omega)]; exact X457)
                    · show av_wp _ cd_154 379 [some (.inr (.inr (.inl (some (77))))), some (.inl (at0 : Int)), none, none, none] [.inl (0)] h _
                      refine av_wp_sqF ck_154 3 (pc' := 415) (lv' := [some (.inr (.inr (.inl (some (77))))), some (.inl (at0 : Int)), none, none, none]) (st' := [.inr (.inl (361379)), .inr (.inr (.inl (some (77))))]) (h' := h) rfl ?_
                      refine wq_cv (p' := 418) (av_qc (.invokevirtual 187) 132 1 0 8) 3 cd_132 [.inr (.inl (361379))] (77) 8 [some (.inr (.inr (.inl (some (77))))), some (.inr (.inl (361379))), none] (ck_154 _ _ rfl) rfl rfl pp_132 rfl rfl rfl (congrArg Prod.fst (ly_k (ml_L M) 77 rfl)) rfl rfl rfl rfl ?_
                      refine ct_132 M.1 F (361379) (by omega) (fun z458 => ?_) (fun z458 => ?_)
                      · show av_wp _ cd_154 418 [some (.inr (.inr (.inl (some (77))))), some (.inl (at0 : Int)), none, none, none] [.inl (1)] h _
                        refine av_wp_sqF ck_154 1 (pc' := 421) (lv' := [some (.inr (.inr (.inl (some (77))))), some (.inl (at0 : Int)), none, none, none]) (st' := []) (h' := h) rfl ?_
                        obtain ⟨k459, q460⟩ : ∃ v : Int, pkv b t 12 = v := ⟨_, rfl⟩
                        have e461 : k459 = 10 := by rw [← q460, pkP_12 M.1.2.2, if_neg z1, if_neg z161, if_neg z194, if_neg z227, if_neg z260, if_neg z293, if_neg z326, if_neg z359, if_neg z392, if_neg z425, if_pos z458]
                        refine av_wp_sqF ck_154 1 (pc' := 422) (lv' := [some (.inr (.inr (.inl (some (77))))), some (.inl (at0 : Int)), none, none, none]) (st' := [.inr (.inr (.inl (some (77))))]) (h' := h) rfl ?_
                        refine wq_cv (p' := 425) (av_qc (.invokevirtual 191) 130 0 0 8) 2 cd_130 [] (77) 8 [some (.inr (.inr (.inl (some (77))))), none] (ck_154 _ _ rfl) rfl rfl pp_130 rfl rfl rfl (congrArg Prod.fst (ly_k (ml_L M) 77 rfl)) rfl rfl rfl rfl ?_
                        refine ct_130t M.1 F (fun h462 N463 F464 => ?_)
                        have M465 := ml_tok M N463
                        clear N463
                        generalize q467 : adv b lim t = t466 at M465
                        have X468 : RL t466 R d := rlr_t X (fun z => by rw [← q467] at z; exact z)
                        show av_wp _ cd_154 425 [some (.inr (.inr (.inl (some (77))))), some (.inl (at0 : Int)), none, none, none] [] h462 _
                        have q469 : cho b lim t 12 = t466 := by rw [← q467]; exact if_neg (by omega)
                        refine av_wp_sqF ck_154 1 (pc' := 426) (lv' := [some (.inr (.inr (.inl (some (77))))), some (.inl (at0 : Int)), none, none, none]) (st' := [.inr (.inr (.inl (some (77))))]) (h' := h462) rfl ?_
                        refine wq_gr (p' := 429) (ck_154 _ _ rfl) rfl (congrArg Prod.fst (ly_k (ml_L M465) 77 rfl)) rfl (ly_g (ml_L M465) 77 15 93 rfl) ?_
                        refine av_wp_sqF ck_154 7 (pc' := 443) (lv' := [some (.inr (.inr (.inl (some (77))))), some (.inl (at0 : Int)), none, none, none]) (st' := [.inr (.inl (70340)), .inr (.inl (378020)), .inr (.inl (798894590)), .inr (.inr (.inl (some (77)))), .inl ((at0 : Int) + (12)), .inr (.inr (.inl (some (93))))]) (h' := h462) rfl ?_
                        refine wq_cv (p' := 446) (av_qc (.invokevirtual 308) 153 3 0 8) 8 cd_153 [.inr (.inl (70340)), .inr (.inl (378020)), .inr (.inl (798894590))] (77) 8 [some (.inr (.inr (.inl (some (77))))), some (.inr (.inl (798894590))), none, some (.inr (.inl (378020))), none, some (.inr (.inl (70340))), none, none] (ck_154 _ _ rfl) rfl rfl pp_153 rfl rfl rfl (congrArg Prod.fst (ly_k (ml_L M465) 77 rfl)) rfl rfl rfl rfl ?_
                        refine ct_153n M465.1 F464 (798894590) (by omega) (378020) (by omega) (70340) (by omega) 19 (on3_19 M465.1.2.2) (fun h470 N471 F472 => ?_)
                        have M473 := ml_tok M465 N471
                        clear N471
                        generalize q475 : cho b lim t466 19 = t474 at M473
                        have X476 : RL t474 R d := rlr_t X468 (fun z => (cho_o (n := 19) (by rw [q475]; exact z)).1)
                        obtain ⟨v477, q478⟩ : ∃ v : Int, pkv b t466 19 = v := ⟨_, rfl⟩
                        rw [q478]
                        have g479 := pkv_le (b := b) (t := t466) 19 2 rfl
                        rw [q478] at g479
                        show av_wp _ cd_154 446 [some (.inr (.inr (.inl (some (77))))), some (.inl (at0 : Int)), none, none, none] [.inl v477, .inl ((at0 : Int) + (12)), .inr (.inr (.inl (some (93))))] h470 _
                        refine ml_as (p' := 447) rfl rfl M473 F472 (by omega) 12 (by decide) (by omega) (fun h480 M481 F482 => ?_)
                        have X483 : RL t474 (av_u1 R 12 v477) (av_u1 d 12 v477) := rlr_u X476 (fun _ => rfl)
                        refine av_wp_sqF ck_154 1 (pc' := 454) (lv' := [some (.inr (.inr (.inl (some (77))))), some (.inl (at0 : Int)), none, none, none]) (st' := []) (h' := h480) rfl ?_
                        refine av_wp_sqF ck_154 1 (pc' := 455) (lv' := [some (.inr (.inr (.inl (some (77))))), some (.inl (at0 : Int)), none, none, none]) (st' := [.inr (.inr (.inl (some (77))))]) (h' := h480) rfl ?_
                        refine wq_cv (p' := 458) (av_qc (.invokevirtual 286) 135 0 0 8) 1 cd_135 [] (77) 8 [some (.inr (.inr (.inl (some (77)))))] (ck_154 _ _ rfl) rfl rfl pp_135 rfl rfl rfl (congrArg Prod.fst (ly_k (ml_L M481) 77 rfl)) rfl rfl rfl rfl ?_
                        refine ct_135 M481.1 F482 (fun h484 N485 F486 => ?_)
                        have M487 := ml_tok M481 N485
                        clear N485
                        generalize q489 : sem b lim t474 = t488 at M487
                        have X490 : RL t488 (av_u1 R 12 v477) (av_u1 d 12 v477) := rlr_t X483 (fun z => sem_o (by rw [q489]; exact z))
                        show av_wp _ cd_154 458 [some (.inr (.inr (.inl (some (77))))), some (.inl (at0 : Int)), none, none, none] [] h484 _
                        refine av_wp_ret (v := none) (ck_154 _ _ rfl) rfl rfl ?_
                        exact hq h484 (av_u1 R 12 v477) (by simp only [rl1, rlK, rlC, rlN, q460, q467, q469, q475, q478, q489, if_neg (show ¬ k459 = 0 by omega), if_neg (show ¬ k459 = 1 by omega), if_neg (show ¬ k459 = 2 by omega), if_neg (show ¬ k459 = 3 by omega), if_neg (show ¬ k459 = 4 by omega), if_neg (show ¬ k459 = 5 by omega), if_neg (show ¬ k459 = 6 by omega), if_neg (show ¬ k459 = 7 by omega), if_neg (show ¬ k459 = 8 by omega), if_neg (show ¬ k459 = 9 by omega), if_pos (show k459 = 10 by omega)]; exact M487) F486 (by simp only [rl1, rlK, rlC, rlN, q460, q467, q469, q475, q478, q489, if_neg (show ¬ k459 = 0 by omega), if_neg (show ¬ k459 = 1 by omega), if_neg (show ¬ k459 = 2 by omega), if_neg (show ¬ k459 = 3 by omega), if_neg (show ¬ k459 = 4 by omega), if_neg (show ¬ k459 = 5 by omega), if_neg (show ¬ k459 = 6 by omega), if_neg (show ¬ k459 = 7 by omega), if_neg (show ¬ k459 = 8 by omega), if_neg (show ¬ k459 = 9 by omega), if_pos (show k459 = 10 by omega)]; exact X490)
                      · show av_wp _ cd_154 418 [some (.inr (.inr (.inl (some (77))))), some (.inl (at0 : Int)), none, none, none] [.inl (0)] h _
                        refine av_wp_sqF ck_154 1 (pc' := 450) (lv' := [some (.inr (.inr (.inl (some (77))))), some (.inl (at0 : Int)), none, none, none]) (st' := []) (h' := h) rfl ?_
                        obtain ⟨k491, q492⟩ : ∃ v : Int, pkv b t 12 = v := ⟨_, rfl⟩
                        have e493 : k491 = -1 := by rw [← q492, pkP_12 M.1.2.2, if_neg z1, if_neg z161, if_neg z194, if_neg z227, if_neg z260, if_neg z293, if_neg z326, if_neg z359, if_neg z392, if_neg z425, if_neg z458]
                        refine av_wp_sqF ck_154 1 (pc' := 451) (lv' := [some (.inr (.inr (.inl (some (77))))), some (.inl (at0 : Int)), none, none, none]) (st' := [.inr (.inr (.inl (some (77))))]) (h' := h) rfl ?_
                        refine wq_cv (p' := 454) (av_qc (.invokevirtual 194) 131 0 0 8) 1 cd_131 [] (77) 8 [some (.inr (.inr (.inl (some (77)))))] (ck_154 _ _ rfl) rfl rfl pp_131 rfl rfl rfl (congrArg Prod.fst (ly_k (ml_L M) 77 rfl)) rfl rfl rfl rfl ?_
                        refine ct_131 M.1 F (fun h494 N495 F496 => ?_)
                        have M497 := ml_tok M N495
                        clear N495
                        generalize q499 : fal t = t498 at M497
                        have X500 : RL t498 R d := rlr_t X (fun z => by rw [← q499] at z; exact absurd z fal_ne)
                        show av_wp _ cd_154 454 [some (.inr (.inr (.inl (some (77))))), some (.inl (at0 : Int)), none, none, none] [] h494 _
                        have q501 : cho b lim t 12 = t498 := by rw [← q499]; exact if_pos (by omega)
                        refine av_wp_sqF ck_154 1 (pc' := 455) (lv' := [some (.inr (.inr (.inl (some (77))))), some (.inl (at0 : Int)), none, none, none]) (st' := [.inr (.inr (.inl (some (77))))]) (h' := h494) rfl ?_
                        refine wq_cv (p' := 458) (av_qc (.invokevirtual 286) 135 0 0 8) 1 cd_135 [] (77) 8 [some (.inr (.inr (.inl (some (77)))))] (ck_154 _ _ rfl) rfl rfl pp_135 rfl rfl rfl (congrArg Prod.fst (ly_k (ml_L M497) 77 rfl)) rfl rfl rfl rfl ?_
                        refine ct_135 M497.1 F496 (fun h502 N503 F504 => ?_)
                        have M505 := ml_tok M497 N503
                        clear N503
                        generalize q507 : sem b lim t498 = t506 at M505
                        have X508 : RL t506 R d := rlr_t X500 (fun z => sem_o (by rw [q507]; exact z))
                        show av_wp _ cd_154 458 [some (.inr (.inr (.inl (some (77))))), some (.inl (at0 : Int)), none, none, none] [] h502 _
                        refine av_wp_ret (v := none) (ck_154 _ _ rfl) rfl rfl ?_
                        exact hq h502 R (by simp only [rl1, rlK, rlC, rlN, q492, q499, q501, q507, if_neg (show ¬ k491 = 0 by omega), if_neg (show ¬ k491 = 1 by omega), if_neg (show ¬ k491 = 2 by omega), if_neg (show ¬ k491 = 3 by omega), if_neg (show ¬ k491 = 4 by omega), if_neg (show ¬ k491 = 5 by omega), if_neg (show ¬ k491 = 6 by omega), if_neg (show ¬ k491 = 7 by omega), if_neg (show ¬ k491 = 8 by omega), if_neg (show ¬ k491 = 9 by omega), if_neg (show ¬ k491 = 10 by omega)]; exact M505) F504 (by simp only [rl1, rlK, rlC, rlN, q492, q499, q501, q507, if_neg (show ¬ k491 = 0 by omega), if_neg (show ¬ k491 = 1 by omega), if_neg (show ¬ k491 = 2 by omega), if_neg (show ¬ k491 = 3 by omega), if_neg (show ¬ k491 = 4 by omega), if_neg (show ¬ k491 = 5 by omega), if_neg (show ¬ k491 = 6 by omega), if_neg (show ¬ k491 = 7 by omega), if_neg (show ¬ k491 = 8 by omega), if_neg (show ¬ k491 = 9 by omega), if_neg (show ¬ k491 = 10 by omega)]; exact X508)

