section
set_option maxRecDepth 100000 in
set_option maxHeartbeats 4000000 in
theorem ct_36 {g h : av_H} {b r d : Nat → Int} {lim : Nat} {t : TT} (C : CT b lim t r d h) (F : FT g h) {ah : Int} (ha : hF g 22 2 = ah) (qa : 0 ≤ ah ∧ ah ≤ 16) (x : Int) (k : Nat) (ex : x = (k : Int)) (hk : k ≤ 11) {Q : Option av_V → av_H → Prop} (hq : ∀ h', CT b lim (rsy b lim k ah t r).1 (rsy b lim k ah t r).2 d h' → FT g h' → Q none h') : av_wp none cd_36 0 [some (.inr (.inr (.inl (some (22))))), some (.inl x), none, none, none] [] h Q := by
  have g0 := ct_wf C
  subst ex
  refine av_wp_sqF ck_36 5 (pc' := 6) (lv' := [some (.inr (.inr (.inl (some (22))))), some (.inl (k : Int)), some (.inl ((k : Int) * (21))), none, none]) (st' := [.inr (.inr (.inl (some (22))))]) (h' := h) rfl ?_
  refine wq_gr (p' := 9) (ck_36 _ _ rfl) rfl (congrArg Prod.fst (ly_k C.1 22 rfl)) rfl (ly_g C.1 22 1 23 rfl) ?_
  refine av_wp_sqF ck_36 5 (pc' := 15) (lv' := [some (.inr (.inr (.inl (some (22))))), some (.inl (k : Int)), some (.inl ((k : Int) * (21))), none, none]) (st' := [.inl (-1), .inl (((k : Int) * (21)) + (21)), .inl ((k : Int) * (21)), .inr (.inr (.inl (some (23))))]) (h' := h) rfl ?_
  refine wq_cs (p' := 18) (av_qc (.invokestatic 60) 221 4 2 10) 5 cd_221 [.inr (.inr (.inl (some (23)))), .inl ((k : Int) * (21)), .inl (((k : Int) * (21)) + (21)), .inl (-1)] [.inl (-1), .inl (((k : Int) * (21)) + (21)), .inl ((k : Int) * (21)), .inr (.inr (.inl (some (23))))] [some (.inr (.inr (.inl (some (23))))), some (.inl ((k : Int) * (21))), some (.inl (((k : Int) * (21)) + (21))), some (.inl (-1)), none] (ck_36 _ _ rfl) rfl rfl pp_221 (fun _ => rfl) rfl rfl ?_
  refine ct_221 (n := 252) (k * 21) (k * 21 + 21) (by omega) (by omega) (ly_k C.1 23 rfl) (by omega) (by omega) (by omega) ?_
  obtain ⟨C1, F2⟩ := ct_fil (lo := (k * 21)) (hi := (k * 21 + 21)) (v := (-1)) C F (by omega)
  generalize hfil h 23 (k * 21) (k * 21 + 21) (-1) = h3 at C1 F2 ⊢
  show av_wp _ cd_36 18 [some (.inr (.inr (.inl (some (22))))), some (.inl (k : Int)), some (.inl ((k : Int) * (21))), none, none] [] h3 _
  refine av_wp_sqF ck_36 1 (pc' := 19) (lv' := [some (.inr (.inr (.inl (some (22))))), some (.inl (k : Int)), some (.inl ((k : Int) * (21))), none, none]) (st' := [.inr (.inr (.inl (some (22))))]) (h' := h3) rfl ?_
  refine wq_gr (p' := 22) (ck_36 _ _ rfl) rfl (congrArg Prod.fst (ly_k C1.1 22 rfl)) rfl (ly_g C1.1 22 1 23 rfl) ?_
  refine av_wp_sqF ck_36 9 (pc' := 33) (lv' := [some (.inr (.inr (.inl (some (22))))), some (.inl (k : Int)), some (.inl ((k : Int) * (21))), none, none]) (st' := [.inl (0), .inl ((((k : Int) * (21)) + (7)) + (3)), .inl (((k : Int) * (21)) + (7)), .inr (.inr (.inl (some (23))))]) (h' := h3) rfl ?_
  refine wq_cs (p' := 36) (av_qc (.invokestatic 60) 221 4 2 10) 5 cd_221 [.inr (.inr (.inl (some (23)))), .inl (((k : Int) * (21)) + (7)), .inl ((((k : Int) * (21)) + (7)) + (3)), .inl (0)] [.inl (0), .inl ((((k : Int) * (21)) + (7)) + (3)), .inl (((k : Int) * (21)) + (7)), .inr (.inr (.inl (some (23))))] [some (.inr (.inr (.inl (some (23))))), some (.inl (((k : Int) * (21)) + (7))), some (.inl ((((k : Int) * (21)) + (7)) + (3))), some (.inl (0)), none] (ck_36 _ _ rfl) rfl rfl pp_221 (fun _ => rfl) rfl rfl ?_
  refine ct_221 (n := 252) (k * 21 + 7) (k * 21 + 10) (by omega) (by omega) (ly_k C1.1 23 rfl) (by omega) (by omega) (by omega) ?_
  obtain ⟨C4, F5⟩ := ct_fil (lo := (k * 21 + 7)) (hi := (k * 21 + 10)) (v := (0)) C1 F2 (by omega)
  generalize hfil h3 23 (k * 21 + 7) (k * 21 + 10) (0) = h6 at C4 F5 ⊢
  show av_wp _ cd_36 36 [some (.inr (.inr (.inl (some (22))))), some (.inl (k : Int)), some (.inl ((k : Int) * (21))), none, none] [] h6 _
  refine av_wp_sqF ck_36 1 (pc' := 37) (lv' := [some (.inr (.inr (.inl (some (22))))), some (.inl (k : Int)), some (.inl ((k : Int) * (21))), none, none]) (st' := [.inr (.inr (.inl (some (22))))]) (h' := h6) rfl ?_
  refine wq_gr (p' := 40) (ck_36 _ _ rfl) rfl (congrArg Prod.fst (ly_k C4.1 22 rfl)) rfl (ly_g C4.1 22 1 23 rfl) ?_
  refine av_wp_sqF ck_36 7 (pc' := 49) (lv' := [some (.inr (.inr (.inl (some (22))))), some (.inl (k : Int)), some (.inl ((k : Int) * (21))), none, none]) (st' := [.inl (0), .inl (((k : Int) * (21)) + (21)), .inl (((k : Int) * (21)) + (15)), .inr (.inr (.inl (some (23))))]) (h' := h6) rfl ?_
  refine wq_cs (p' := 52) (av_qc (.invokestatic 60) 221 4 2 10) 5 cd_221 [.inr (.inr (.inl (some (23)))), .inl (((k : Int) * (21)) + (15)), .inl (((k : Int) * (21)) + (21)), .inl (0)] [.inl (0), .inl (((k : Int) * (21)) + (21)), .inl (((k : Int) * (21)) + (15)), .inr (.inr (.inl (some (23))))] [some (.inr (.inr (.inl (some (23))))), some (.inl (((k : Int) * (21)) + (15))), some (.inl (((k : Int) * (21)) + (21))), some (.inl (0)), none] (ck_36 _ _ rfl) rfl rfl pp_221 (fun _ => rfl) rfl rfl ?_
  refine ct_221 (n := 252) (k * 21 + 15) (k * 21 + 21) (by omega) (by omega) (ly_k C4.1 23 rfl) (by omega) (by omega) (by omega) ?_
  obtain ⟨C7, F8⟩ := ct_fil (lo := (k * 21 + 15)) (hi := (k * 21 + 21)) (v := (0)) C4 F5 (by omega)
  generalize hfil h6 23 (k * 21 + 15) (k * 21 + 21) (0) = h9 at C7 F8 ⊢
  show av_wp _ cd_36 52 [some (.inr (.inr (.inl (some (22))))), some (.inl (k : Int)), some (.inl ((k : Int) * (21))), none, none] [] h9 _
  refine av_wp_sqF ck_36 1 (pc' := 53) (lv' := [some (.inr (.inr (.inl (some (22))))), some (.inl (k : Int)), some (.inl ((k : Int) * (21))), none, none]) (st' := [.inr (.inr (.inl (some (22))))]) (h' := h9) rfl ?_
  refine wq_gr (p' := 56) (ck_36 _ _ rfl) rfl (congrArg Prod.fst (ly_k C7.1 22 rfl)) rfl (ly_g C7.1 22 0 1 rfl) ?_
  refine av_wp_sqF ck_36 1 (pc' := 58) (lv' := [some (.inr (.inr (.inl (some (22))))), some (.inl (k : Int)), some (.inl ((k : Int) * (21))), none, none]) (st' := [.inr (.inr (.inr 0)), .inr (.inr (.inl (some (1))))]) (h' := h9) rfl ?_
  refine wq_cv (p' := 61) (av_qc (.invokevirtual 68) 87 1 0 6) 3 cd_87 [.inr (.inr (.inr 0))] (1) 6 [some (.inr (.inr (.inl (some (1))))), some (.inr (.inr (.inr 0))), none] (ck_36 _ _ rfl) rfl rfl pp_87 rfl rfl rfl (congrArg Prod.fst (ly_k C7.1 1 rfl)) rfl rfl rfl rfl ?_
  refine ct_87 C7 F8 0 (by decide) (fun v10 h12 p11 C13 F14 => ?_)
  have g15 := pkv_le (b := b) (t := t) 0 6 rfl
  have q16 := p11.1.symm
  have p11 := p11.2
  generalize q18 : cho b lim t 0 = t17 at C13
  have g19 := ct_wf C13
  show av_wp _ cd_36 61 [some (.inr (.inr (.inl (some (22))))), some (.inl (k : Int)), some (.inl ((k : Int) * (21))), none, none] [.inl v10] h12 _
  refine av_wp_sqF ck_36 3 (pc' := 64) (lv' := [some (.inr (.inr (.inl (some (22))))), some (.inl (k : Int)), some (.inl ((k : Int) * (21))), some (.inl v10), none]) (st' := [.inl (2), .inl v10]) (h' := h12) rfl ?_
  refine wq_k2 (p' := 67) (ck_36 _ _ rfl) rfl ⟨by omega, by omega⟩ ⟨by omega, by omega⟩ (fun c20 => ?_) (fun c21 => ?_)
  · have c20 : (2) < v10 := c20
    refine av_wp_sqF ck_36 5 (pc' := 77) (lv' := [some (.inr (.inr (.inl (some (22))))), some (.inl (k : Int)), some (.inl ((k : Int) * (21))), some (.inl v10), some (.inl (v10 + (1)))]) (st' := [.inr (.inr (.inl (some (22))))]) (h' := h12) rfl ?_
    refine wq_gr (p' := 80) (ck_36 _ _ rfl) rfl (congrArg Prod.fst (ly_k C13.1 22 rfl)) rfl (ly_g C13.1 22 1 23 rfl) ?_
    refine av_wp_sqF ck_36 4 (pc' := 85) (lv' := [some (.inr (.inr (.inl (some (22))))), some (.inl (k : Int)), some (.inl ((k : Int) * (21))), some (.inl v10), some (.inl (v10 + (1)))]) (st' := [.inl (v10 + (1)), .inl (((k : Int) * (21)) + (0)), .inr (.inr (.inl (some (23))))]) (h' := h12) rfl ?_
    refine ct_as (p' := 86) rfl rfl C13 F14 (k * 21) (by omega) (by omega) (by omega) (fun h22 C23 F24 => ?_)
    refine av_wp_sqF ck_36 1 (pc' := 87) (lv' := [some (.inr (.inr (.inl (some (22))))), some (.inl (k : Int)), some (.inl ((k : Int) * (21))), some (.inl v10), some (.inl (v10 + (1)))]) (st' := [.inr (.inr (.inl (some (22))))]) (h' := h22) rfl ?_
    refine wq_gr (p' := 90) (ck_36 _ _ rfl) rfl (congrArg Prod.fst (ly_k C23.1 22 rfl)) rfl (ly_g C23.1 22 1 23 rfl) ?_
    refine av_wp_sqF ck_36 4 (pc' := 94) (lv' := [some (.inr (.inr (.inl (some (22))))), some (.inl (k : Int)), some (.inl ((k : Int) * (21))), some (.inl v10), some (.inl (v10 + (1)))]) (st' := [.inr (.inr (.inl (some (22)))), .inl (((k : Int) * (21)) + (1)), .inr (.inr (.inl (some (23))))]) (h' := h22) rfl ?_
    refine wq_gr (p' := 97) (ck_36 _ _ rfl) rfl (congrArg Prod.fst (ly_k C23.1 22 rfl)) rfl (ly_g C23.1 22 0 1 rfl) ?_
    refine av_wp_sqF ck_36 1 (pc' := 99) (lv' := [some (.inr (.inr (.inl (some (22))))), some (.inl (k : Int)), some (.inl ((k : Int) * (21))), some (.inl v10), some (.inl (v10 + (1)))]) (st' := [.inr (.inr (.inr 1)), .inr (.inr (.inl (some (1)))), .inl (((k : Int) * (21)) + (1)), .inr (.inr (.inl (some (23))))]) (h' := h22) rfl ?_
    refine wq_cv (p' := 102) (av_qc (.invokevirtual 68) 87 1 0 6) 3 cd_87 [.inr (.inr (.inr 1))] (1) 6 [some (.inr (.inr (.inl (some (1))))), some (.inr (.inr (.inr 1))), none] (ck_36 _ _ rfl) rfl rfl pp_87 rfl rfl rfl (congrArg Prod.fst (ly_k C23.1 1 rfl)) rfl rfl rfl rfl ?_
    refine ct_87 C23 F24 1 (by decide) (fun v25 h27 p26 C28 F29 => ?_)
    have g30 := pkv_le (b := b) (t := t17) 1 2 rfl
    have q31 := p26.1.symm
    have p26 := p26.2
    generalize q33 : cho b lim t17 1 = t32 at C28
    have g34 := ct_wf C28
    show av_wp _ cd_36 102 [some (.inr (.inr (.inl (some (22))))), some (.inl (k : Int)), some (.inl ((k : Int) * (21))), some (.inl v10), some (.inl (v10 + (1)))] [.inl v25, .inl (((k : Int) * (21)) + (1)), .inr (.inr (.inl (some (23))))] h27 _
    refine ct_as (p' := 103) rfl rfl C28 F29 (k * 21 + 1) (by omega) (by omega) (by omega) (fun h35 C36 F37 => ?_)
    refine av_wp_sqF ck_36 1 (pc' := 105) (lv' := [some (.inr (.inr (.inl (some (22))))), some (.inl (k : Int)), some (.inl ((k : Int) * (21))), some (.inl v10), some (.inl (v10 + (1)))]) (st' := [.inl (v10 + (1))]) (h' := h35) rfl ?_
    refine wq_k1 (p' := 108) (ck_36 _ _ rfl) rfl ⟨by omega, by omega⟩ (fun c38 => ?_) (fun c39 => ?_)
    · have c38 : (v10 + (1)) = (0) := c38
      exfalso; omega
    · have c39 : (v10 + (1)) ≠ (0) := c39
      refine av_wp_sqF ck_36 2 (pc' := 111) (lv' := [some (.inr (.inr (.inl (some (22))))), some (.inl (k : Int)), some (.inl ((k : Int) * (21))), some (.inl v10), some (.inl (v10 + (1)))]) (st' := [.inl (1), .inl (v10 + (1))]) (h' := h35) rfl ?_
      refine wq_k2 (p' := 114) (ck_36 _ _ rfl) rfl ⟨by omega, by omega⟩ ⟨by omega, by omega⟩ (fun c40 => ?_) (fun c41 => ?_)
      · have c40 : (v10 + (1)) ≠ (1) := c40
        refine av_wp_sqF ck_36 3 (pc' := 126) (lv' := [some (.inr (.inr (.inl (some (22))))), some (.inl (k : Int)), some (.inl ((k : Int) * (21))), some (.inl v10), some (.inl (v10 + (1)))]) (st' := [.inl (v10 + (1)), .inl (k : Int), .inr (.inr (.inl (some (22))))]) (h' := h35) rfl ?_
        refine wq_cv (p' := 129) (av_qc (.invokevirtual 77) 38 2 0 2) 4 cd_38 [.inl (v10 + (1)), .inl (k : Int)] (22) 2 [some (.inr (.inr (.inl (some (22))))), some (.inl (k : Int)), some (.inl (v10 + (1))), none] (ck_36 _ _ rfl) rfl rfl pp_38 rfl rfl rfl (congrArg Prod.fst (ly_k C36.1 22 rfl)) rfl rfl rfl rfl ?_
        refine ct_38 C36 F37 ((k : Int)) k (by omega) (by omega) ((v10 + (1))) (by omega) (fun h42 C43 F44 => ?_)
        obtain ⟨⟨t45, r46⟩, q47⟩ : ∃ x, rsS b lim k (v10 + (1)) t32 (av_u1 (av_u1 (ufil (ufil (ufil r (k * 21) (k * 21 + 21) (-1)) (k * 21 + 7) (k * 21 + 10) (0)) (k * 21 + 15) (k * 21 + 21) (0)) (k * 21) (v10 + (1))) (k * 21 + 1) v25) = x := ⟨_, rfl⟩
        rw [q47] at C43
        have C43 : CT b lim t45 r46 d h42 := C43
        have g48 := ct_wf C43
        show av_wp _ cd_36 129 [some (.inr (.inr (.inl (some (22))))), some (.inl (k : Int)), some (.inl ((k : Int) * (21))), some (.inl v10), some (.inl (v10 + (1)))] [] h42 _
        refine av_wp_sqF ck_36 1 (pc' := 131) (lv' := [some (.inr (.inr (.inl (some (22))))), some (.inl (k : Int)), some (.inl ((k : Int) * (21))), some (.inl v10), some (.inl (v10 + (1)))]) (st' := [.inl (v10 + (1))]) (h' := h42) rfl ?_
        refine wq_k1 (p' := 134) (ck_36 _ _ rfl) rfl ⟨by omega, by omega⟩ (fun c49 => ?_) (fun c50 => ?_)
        · have c49 : (v10 + (1)) ≠ (0) := c49
          refine av_wp_sqF ck_36 2 (pc' := 142) (lv' := [some (.inr (.inr (.inl (some (22))))), some (.inl (k : Int)), some (.inl ((k : Int) * (21))), some (.inl v10), some (.inl (v10 + (1)))]) (st' := [.inl (2), .inl (v10 + (1))]) (h' := h42) rfl ?_
          refine wq_k2 (p' := 145) (ck_36 _ _ rfl) rfl ⟨by omega, by omega⟩ ⟨by omega, by omega⟩ (fun c51 => ?_) (fun c52 => ?_)
          · have c51 : (v10 + (1)) ≠ (2) := c51
            refine av_wp_sqF ck_36 2 (pc' := 164) (lv' := [some (.inr (.inr (.inl (some (22))))), some (.inl (k : Int)), some (.inl ((k : Int) * (21))), some (.inl v10), some (.inl (v10 + (1)))]) (st' := [.inl ((k : Int) * (21)), .inr (.inr (.inl (some (22))))]) (h' := h42) rfl ?_
            refine wq_cv (p' := 167) (av_qc (.invokevirtual 93) 43 1 0 2) 3 cd_43 [.inl ((k : Int) * (21))] (22) 2 [some (.inr (.inr (.inl (some (22))))), some (.inl ((k : Int) * (21))), none] (ck_36 _ _ rfl) rfl rfl pp_43 rfl rfl rfl (congrArg Prod.fst (ly_k C43.1 22 rfl)) rfl rfl rfl rfl ?_
            refine ct_43 C43 F44 (((k : Int) * (21))) (k * 21) (by omega) (by omega) (fun h53 C54 F55 => ?_)
            obtain ⟨⟨t56, r57⟩, q58⟩ : ∃ x, rsM b lim (k * 21) t45 r46 = x := ⟨_, rfl⟩
            rw [q58] at C54
            have C54 : CT b lim t56 r57 d h53 := C54
            have g59 := ct_wf C54
            show av_wp _ cd_36 167 [some (.inr (.inr (.inl (some (22))))), some (.inl (k : Int)), some (.inl ((k : Int) * (21))), some (.inl v10), some (.inl (v10 + (1)))] [] h53 _
            refine av_wp_sqF ck_36 1 (pc' := 168) (lv' := [some (.inr (.inr (.inl (some (22))))), some (.inl (k : Int)), some (.inl ((k : Int) * (21))), some (.inl v10), some (.inl (v10 + (1)))]) (st' := [.inr (.inr (.inl (some (22))))]) (h' := h53) rfl ?_
            refine wq_gr (p' := 171) (ck_36 _ _ rfl) rfl (congrArg Prod.fst (ly_k C54.1 22 rfl)) rfl (ly_g C54.1 22 0 1 rfl) ?_
            refine wq_cv (p' := 174) (av_qc (.invokevirtual 96) 90 0 0 6) 1 cd_90 [] (1) 6 [some (.inr (.inr (.inl (some (1)))))] (ck_36 _ _ rfl) rfl rfl pp_90 rfl rfl rfl (congrArg Prod.fst (ly_k C54.1 1 rfl)) rfl rfl rfl rfl ?_
            refine ct_90 C54 F55 (fun h60 C61 F62 => ?_)
            generalize q64 : sem b lim t56 = t63 at C61
            have g65 := ct_wf C61
            show av_wp _ cd_36 174 [some (.inr (.inr (.inl (some (22))))), some (.inl (k : Int)), some (.inl ((k : Int) * (21))), some (.inl v10), some (.inl (v10 + (1)))] [] h60 _
            refine av_wp_ret (v := none) (ck_36 _ _ rfl) rfl rfl ?_
            exact hq h60 (by first | (simp only [rsy, rs5, rs4, rs3, rs2, rs1, rs0, rsK, q16, q18, q31, q33, q47, q58, q64, if_pos c20, if_neg (Int.not_le.mpr c20), if_neg c39, if_neg c40, if_neg c49, if_neg c51, if_neg (show ¬ ((v10 + (1)) = 0 ∨ (v10 + (1)) = 1) by omega)]; exact C61) | (exfalso; omega)) F62
          · have c52 : (v10 + (1)) = (2) := c52
            exfalso; omega
        · have c50 : (v10 + (1)) = (0) := c50
          exfalso; omega
      · have c41 : (v10 + (1)) = (1) := c41
        exfalso; omega
  · have c21 : v10 ≤ (2) := c21
    refine av_wp_sqF ck_36 4 (pc' := 77) (lv' := [some (.inr (.inr (.inl (some (22))))), some (.inl (k : Int)), some (.inl ((k : Int) * (21))), some (.inl v10), some (.inl v10)]) (st' := [.inr (.inr (.inl (some (22))))]) (h' := h12) rfl ?_
    refine wq_gr (p' := 80) (ck_36 _ _ rfl) rfl (congrArg Prod.fst (ly_k C13.1 22 rfl)) rfl (ly_g C13.1 22 1 23 rfl) ?_
    refine av_wp_sqF ck_36 4 (pc' := 85) (lv' := [some (.inr (.inr (.inl (some (22))))), some (.inl (k : Int)), some (.inl ((k : Int) * (21))), some (.inl v10), some (.inl v10)]) (st' := [.inl v10, .inl (((k : Int) * (21)) + (0)), .inr (.inr (.inl (some (23))))]) (h' := h12) rfl ?_
    refine ct_as (p' := 86) rfl rfl C13 F14 (k * 21) (by omega) (by omega) (by omega) (fun h66 C67 F68 => ?_)
    refine av_wp_sqF ck_36 1 (pc' := 87) (lv' := [some (.inr (.inr (.inl (some (22))))), some (.inl (k : Int)), some (.inl ((k : Int) * (21))), some (.inl v10), some (.inl v10)]) (st' := [.inr (.inr (.inl (some (22))))]) (h' := h66) rfl ?_
    refine wq_gr (p' := 90) (ck_36 _ _ rfl) rfl (congrArg Prod.fst (ly_k C67.1 22 rfl)) rfl (ly_g C67.1 22 1 23 rfl) ?_
    refine av_wp_sqF ck_36 4 (pc' := 94) (lv' := [some (.inr (.inr (.inl (some (22))))), some (.inl (k : Int)), some (.inl ((k : Int) * (21))), some (.inl v10), some (.inl v10)]) (st' := [.inr (.inr (.inl (some (22)))), .inl (((k : Int) * (21)) + (1)), .inr (.inr (.inl (some (23))))]) (h' := h66) rfl ?_
    refine wq_gr (p' := 97) (ck_36 _ _ rfl) rfl (congrArg Prod.fst (ly_k C67.1 22 rfl)) rfl (ly_g C67.1 22 0 1 rfl) ?_
    refine av_wp_sqF ck_36 1 (pc' := 99) (lv' := [some (.inr (.inr (.inl (some (22))))), some (.inl (k : Int)), some (.inl ((k : Int) * (21))), some (.inl v10), some (.inl v10)]) (st' := [.inr (.inr (.inr 1)), .inr (.inr (.inl (some (1)))), .inl (((k : Int) * (21)) + (1)), .inr (.inr (.inl (some (23))))]) (h' := h66) rfl ?_
    refine wq_cv (p' := 102) (av_qc (.invokevirtual 68) 87 1 0 6) 3 cd_87 [.inr (.inr (.inr 1))] (1) 6 [some (.inr (.inr (.inl (some (1))))), some (.inr (.inr (.inr 1))), none] (ck_36 _ _ rfl) rfl rfl pp_87 rfl rfl rfl (congrArg Prod.fst (ly_k C67.1 1 rfl)) rfl rfl rfl rfl ?_
    refine ct_87 C67 F68 1 (by decide) (fun v69 h71 p70 C72 F73 => ?_)
    have g74 := pkv_le (b := b) (t := t17) 1 2 rfl
    have q75 := p70.1.symm
    have p70 := p70.2
    generalize q77 : cho b lim t17 1 = t76 at C72
    have g78 := ct_wf C72
    show av_wp _ cd_36 102 [some (.inr (.inr (.inl (some (22))))), some (.inl (k : Int)), some (.inl ((k : Int) * (21))), some (.inl v10), some (.inl v10)] [.inl v69, .inl (((k : Int) * (21)) + (1)), .inr (.inr (.inl (some (23))))] h71 _
    refine ct_as (p' := 103) rfl rfl C72 F73 (k * 21 + 1) (by omega) (by omega) (by omega) (fun h79 C80 F81 => ?_)
    refine av_wp_sqF ck_36 1 (pc' := 105) (lv' := [some (.inr (.inr (.inl (some (22))))), some (.inl (k : Int)), some (.inl ((k : Int) * (21))), some (.inl v10), some (.inl v10)]) (st' := [.inl v10]) (h' := h79) rfl ?_
    refine wq_k1 (p' := 108) (ck_36 _ _ rfl) rfl ⟨by omega, by omega⟩ (fun c82 => ?_) (fun c83 => ?_)
    · have c82 : v10 = (0) := c82
      refine av_wp_sqF ck_36 2 (pc' := 116) (lv' := [some (.inr (.inr (.inl (some (22))))), some (.inl (k : Int)), some (.inl ((k : Int) * (21))), some (.inl v10), some (.inl v10)]) (st' := [.inl ((k : Int) * (21)), .inr (.inr (.inl (some (22))))]) (h' := h79) rfl ?_
      refine wq_cv (p' := 119) (av_qc (.invokevirtual 74) 37 1 0 2) 2 cd_37 [.inl ((k : Int) * (21))] (22) 2 [some (.inr (.inr (.inl (some (22))))), some (.inl ((k : Int) * (21)))] (ck_36 _ _ rfl) rfl rfl pp_37 rfl rfl rfl (congrArg Prod.fst (ly_k C80.1 22 rfl)) rfl rfl rfl rfl ?_
      refine ct_37 C80 F81 (((k : Int) * (21))) (k * 21) (by omega) (by omega) (fun h84 C85 F86 => ?_)
      obtain ⟨⟨t87, r88⟩, q89⟩ : ∃ x, rsO b lim (k * 21) t76 (av_u1 (av_u1 (ufil (ufil (ufil r (k * 21) (k * 21 + 21) (-1)) (k * 21 + 7) (k * 21 + 10) (0)) (k * 21 + 15) (k * 21 + 21) (0)) (k * 21) v10) (k * 21 + 1) v69) = x := ⟨_, rfl⟩
      rw [q89] at C85
      have C85 : CT b lim t87 r88 d h84 := C85
      have g90 := ct_wf C85
      show av_wp _ cd_36 119 [some (.inr (.inr (.inl (some (22))))), some (.inl (k : Int)), some (.inl ((k : Int) * (21))), some (.inl v10), some (.inl v10)] [] h84 _
      refine av_wp_sqF ck_36 2 (pc' := 131) (lv' := [some (.inr (.inr (.inl (some (22))))), some (.inl (k : Int)), some (.inl ((k : Int) * (21))), some (.inl v10), some (.inl v10)]) (st' := [.inl v10]) (h' := h84) rfl ?_
      refine wq_k1 (p' := 134) (ck_36 _ _ rfl) rfl ⟨by omega, by omega⟩ (fun c91 => ?_) (fun c92 => ?_)
      · have c91 : v10 ≠ (0) := c91
        exfalso; omega
      · have c92 : v10 = (0) := c92
        refine av_wp_sqF ck_36 2 (pc' := 136) (lv' := [some (.inr (.inr (.inl (some (22))))), some (.inl (k : Int)), some (.inl ((k : Int) * (21))), some (.inl v10), some (.inl v10)]) (st' := [.inl ((k : Int) * (21)), .inr (.inr (.inl (some (22))))]) (h' := h84) rfl ?_
        refine wq_cv (p' := 139) (av_qc (.invokevirtual 81) 40 1 0 2) 2 cd_40 [.inl ((k : Int) * (21))] (22) 2 [some (.inr (.inr (.inl (some (22))))), some (.inl ((k : Int) * (21)))] (ck_36 _ _ rfl) rfl rfl pp_40 rfl rfl rfl (congrArg Prod.fst (ly_k C85.1 22 rfl)) rfl rfl rfl rfl ?_
        refine ct_40 C85 F86 ha (by omega) (((k : Int) * (21))) (k * 21) (by omega) (by omega) (fun h93 C94 F95 => ?_)
        obtain ⟨⟨t96, r97⟩, q98⟩ : ∃ x, rsT b lim (k * 21) ah t87 r88 = x := ⟨_, rfl⟩
        rw [q98] at C94
        have C94 : CT b lim t96 r97 d h93 := C94
        have g99 := ct_wf C94
        show av_wp _ cd_36 139 [some (.inr (.inr (.inl (some (22))))), some (.inl (k : Int)), some (.inl ((k : Int) * (21))), some (.inl v10), some (.inl v10)] [] h93 _
        refine av_wp_sqF ck_36 2 (pc' := 142) (lv' := [some (.inr (.inr (.inl (some (22))))), some (.inl (k : Int)), some (.inl ((k : Int) * (21))), some (.inl v10), some (.inl v10)]) (st' := [.inl (2), .inl v10]) (h' := h93) rfl ?_
        refine wq_k2 (p' := 145) (ck_36 _ _ rfl) rfl ⟨by omega, by omega⟩ ⟨by omega, by omega⟩ (fun c100 => ?_) (fun c101 => ?_)
        · have c100 : v10 ≠ (2) := c100
          refine av_wp_sqF ck_36 2 (pc' := 164) (lv' := [some (.inr (.inr (.inl (some (22))))), some (.inl (k : Int)), some (.inl ((k : Int) * (21))), some (.inl v10), some (.inl v10)]) (st' := [.inl ((k : Int) * (21)), .inr (.inr (.inl (some (22))))]) (h' := h93) rfl ?_
          refine wq_cv (p' := 167) (av_qc (.invokevirtual 93) 43 1 0 2) 3 cd_43 [.inl ((k : Int) * (21))] (22) 2 [some (.inr (.inr (.inl (some (22))))), some (.inl ((k : Int) * (21))), none] (ck_36 _ _ rfl) rfl rfl pp_43 rfl rfl rfl (congrArg Prod.fst (ly_k C94.1 22 rfl)) rfl rfl rfl rfl ?_
          refine ct_43 C94 F95 (((k : Int) * (21))) (k * 21) (by omega) (by omega) (fun h102 C103 F104 => ?_)
          obtain ⟨⟨t105, r106⟩, q107⟩ : ∃ x, rsM b lim (k * 21) t96 r97 = x := ⟨_, rfl⟩
          rw [q107] at C103
          have C103 : CT b lim t105 r106 d h102 := C103
          have g108 := ct_wf C103
          show av_wp _ cd_36 167 [some (.inr (.inr (.inl (some (22))))), some (.inl (k : Int)), some (.inl ((k : Int) * (21))), some (.inl v10), some (.inl v10)] [] h102 _
          refine av_wp_sqF ck_36 1 (pc' := 168) (lv' := [some (.inr (.inr (.inl (some (22))))), some (.inl (k : Int)), some (.inl ((k : Int) * (21))), some (.inl v10), some (.inl v10)]) (st' := [.inr (.inr (.inl (some (22))))]) (h' := h102) rfl ?_
          refine wq_gr (p' := 171) (ck_36 _ _ rfl) rfl (congrArg Prod.fst (ly_k C103.1 22 rfl)) rfl (ly_g C103.1 22 0 1 rfl) ?_
          refine wq_cv (p' := 174) (av_qc (.invokevirtual 96) 90 0 0 6) 1 cd_90 [] (1) 6 [some (.inr (.inr (.inl (some (1)))))] (ck_36 _ _ rfl) rfl rfl pp_90 rfl rfl rfl (congrArg Prod.fst (ly_k C103.1 1 rfl)) rfl rfl rfl rfl ?_
          refine ct_90 C103 F104 (fun h109 C110 F111 => ?_)
          generalize q113 : sem b lim t105 = t112 at C110
          have g114 := ct_wf C110
          show av_wp _ cd_36 174 [some (.inr (.inr (.inl (some (22))))), some (.inl (k : Int)), some (.inl ((k : Int) * (21))), some (.inl v10), some (.inl v10)] [] h109 _
          refine av_wp_ret (v := none) (ck_36 _ _ rfl) rfl rfl ?_
          exact hq h109 (by first | (simp only [rsy, rs5, rs4, rs3, rs2, rs1, rs0, rsK, q16, q18, q75, q77, q89, q98, q107, q113, if_pos c21, if_neg (Int.not_lt.mpr c21), if_pos c82, if_pos c92, if_neg c100, if_pos (show v10 = 0 ∨ v10 = 1 by omega)]; exact C110) | (exfalso; omega)) F111
        · have c101 : v10 = (2) := c101
          exfalso; omega
    · have c83 : v10 ≠ (0) := c83
      refine av_wp_sqF ck_36 2 (pc' := 111) (lv' := [some (.inr (.inr (.inl (some (22))))), some (.inl (k : Int)), some (.inl ((k : Int) * (21))), some (.inl v10), some (.inl v10)]) (st' := [.inl (1), .inl v10]) (h' := h79) rfl ?_
      refine wq_k2 (p' := 114) (ck_36 _ _ rfl) rfl ⟨by omega, by omega⟩ ⟨by omega, by omega⟩ (fun c115 => ?_) (fun c116 => ?_)
      · have c115 : v10 ≠ (1) := c115
        refine av_wp_sqF ck_36 3 (pc' := 126) (lv' := [some (.inr (.inr (.inl (some (22))))), some (.inl (k : Int)), some (.inl ((k : Int) * (21))), some (.inl v10), some (.inl v10)]) (st' := [.inl v10, .inl (k : Int), .inr (.inr (.inl (some (22))))]) (h' := h79) rfl ?_
        refine wq_cv (p' := 129) (av_qc (.invokevirtual 77) 38 2 0 2) 4 cd_38 [.inl v10, .inl (k : Int)] (22) 2 [some (.inr (.inr (.inl (some (22))))), some (.inl (k : Int)), some (.inl v10), none] (ck_36 _ _ rfl) rfl rfl pp_38 rfl rfl rfl (congrArg Prod.fst (ly_k C80.1 22 rfl)) rfl rfl rfl rfl ?_
        refine ct_38 C80 F81 ((k : Int)) k (by omega) (by omega) (v10) (by omega) (fun h117 C118 F119 => ?_)
        obtain ⟨⟨t120, r121⟩, q122⟩ : ∃ x, rsS b lim k v10 t76 (av_u1 (av_u1 (ufil (ufil (ufil r (k * 21) (k * 21 + 21) (-1)) (k * 21 + 7) (k * 21 + 10) (0)) (k * 21 + 15) (k * 21 + 21) (0)) (k * 21) v10) (k * 21 + 1) v69) = x := ⟨_, rfl⟩
        rw [q122] at C118
        have C118 : CT b lim t120 r121 d h117 := C118
        have g123 := ct_wf C118
        show av_wp _ cd_36 129 [some (.inr (.inr (.inl (some (22))))), some (.inl (k : Int)), some (.inl ((k : Int) * (21))), some (.inl v10), some (.inl v10)] [] h117 _
        refine av_wp_sqF ck_36 1 (pc' := 131) (lv' := [some (.inr (.inr (.inl (some (22))))), some (.inl (k : Int)), some (.inl ((k : Int) * (21))), some (.inl v10), some (.inl v10)]) (st' := [.inl v10]) (h' := h117) rfl ?_
        refine wq_k1 (p' := 134) (ck_36 _ _ rfl) rfl ⟨by omega, by omega⟩ (fun c124 => ?_) (fun c125 => ?_)
        · have c124 : v10 ≠ (0) := c124
          refine av_wp_sqF ck_36 2 (pc' := 142) (lv' := [some (.inr (.inr (.inl (some (22))))), some (.inl (k : Int)), some (.inl ((k : Int) * (21))), some (.inl v10), some (.inl v10)]) (st' := [.inl (2), .inl v10]) (h' := h117) rfl ?_
          refine wq_k2 (p' := 145) (ck_36 _ _ rfl) rfl ⟨by omega, by omega⟩ ⟨by omega, by omega⟩ (fun c126 => ?_) (fun c127 => ?_)
          · have c126 : v10 ≠ (2) := c126
            refine av_wp_sqF ck_36 2 (pc' := 164) (lv' := [some (.inr (.inr (.inl (some (22))))), some (.inl (k : Int)), some (.inl ((k : Int) * (21))), some (.inl v10), some (.inl v10)]) (st' := [.inl ((k : Int) * (21)), .inr (.inr (.inl (some (22))))]) (h' := h117) rfl ?_
            refine wq_cv (p' := 167) (av_qc (.invokevirtual 93) 43 1 0 2) 3 cd_43 [.inl ((k : Int) * (21))] (22) 2 [some (.inr (.inr (.inl (some (22))))), some (.inl ((k : Int) * (21))), none] (ck_36 _ _ rfl) rfl rfl pp_43 rfl rfl rfl (congrArg Prod.fst (ly_k C118.1 22 rfl)) rfl rfl rfl rfl ?_
            refine ct_43 C118 F119 (((k : Int) * (21))) (k * 21) (by omega) (by omega) (fun h128 C129 F130 => ?_)
            obtain ⟨⟨t131, r132⟩, q133⟩ : ∃ x, rsM b lim (k * 21) t120 r121 = x := ⟨_, rfl⟩
            rw [q133] at C129
            have C129 : CT b lim t131 r132 d h128 := C129
            have g134 := ct_wf C129
            show av_wp _ cd_36 167 [some (.inr (.inr (.inl (some (22))))), some (.inl (k : Int)), some (.inl ((k : Int) * (21))), some (.inl v10), some (.inl v10)] [] h128 _
            refine av_wp_sqF ck_36 1 (pc' := 168) (lv' := [some (.inr (.inr (.inl (some (22))))), some (.inl (k : Int)), some (.inl ((k : Int) * (21))), some (.inl v10), some (.inl v10)]) (st' := [.inr (.inr (.inl (some (22))))]) (h' := h128) rfl ?_
            refine wq_gr (p' := 171) (ck_36 _ _ rfl) rfl (congrArg Prod.fst (ly_k C129.1 22 rfl)) rfl (ly_g C129.1 22 0 1 rfl) ?_
            refine wq_cv (p' := 174) (av_qc (.invokevirtual 96) 90 0 0 6) 1 cd_90 [] (1) 6 [some (.inr (.inr (.inl (some (1)))))] (ck_36 _ _ rfl) rfl rfl pp_90 rfl rfl rfl (congrArg Prod.fst (ly_k C129.1 1 rfl)) rfl rfl rfl rfl ?_
            refine ct_90 C129 F130 (fun h135 C136 F137 => ?_)
            generalize q139 : sem b lim t131 = t138 at C136
            have g140 := ct_wf C136
            show av_wp _ cd_36 174 [some (.inr (.inr (.inl (some (22))))), some (.inl (k : Int)), some (.inl ((k : Int) * (21))), some (.inl v10), some (.inl v10)] [] h135 _
            refine av_wp_ret (v := none) (ck_36 _ _ rfl) rfl rfl ?_
            exact hq h135 (by first | (simp only [rsy, rs5, rs4, rs3, rs2, rs1, rs0, rsK, q16, q18, q75, q77, q122, q133, q139, if_pos c21, if_neg (Int.not_lt.mpr c21), if_neg c83, if_neg c115, if_neg c124, if_neg c126, if_neg (show ¬ (v10 = 0 ∨ v10 = 1) by omega)]; exact C136) | (exfalso; omega)) F137
          · have c127 : v10 = (2) := c127
            refine av_wp_sqF ck_36 1 (pc' := 146) (lv' := [some (.inr (.inr (.inl (some (22))))), some (.inl (k : Int)), some (.inl ((k : Int) * (21))), some (.inl v10), some (.inl v10)]) (st' := [.inr (.inr (.inl (some (22))))]) (h' := h117) rfl ?_
            refine wq_gr (p' := 149) (ck_36 _ _ rfl) rfl (congrArg Prod.fst (ly_k C118.1 22 rfl)) rfl (ly_g C118.1 22 0 1 rfl) ?_
            refine av_wp_sqF ck_36 1 (pc' := 151) (lv' := [some (.inr (.inr (.inl (some (22))))), some (.inl (k : Int)), some (.inl ((k : Int) * (21))), some (.inl v10), some (.inl v10)]) (st' := [.inr (.inr (.inr 5)), .inr (.inr (.inl (some (1))))]) (h' := h117) rfl ?_
            refine wq_cv (p' := 154) (av_qc (.invokevirtual 86) 88 1 0 6) 2 cd_88 [.inr (.inr (.inr 5))] (1) 6 [some (.inr (.inr (.inl (some (1))))), some (.inr (.inr (.inr 5)))] (ck_36 _ _ rfl) rfl rfl pp_88 rfl rfl rfl (congrArg Prod.fst (ly_k C118.1 1 rfl)) rfl rfl rfl rfl ?_
            refine ct_88b C118 F119 5 (by decide) (fun z141 h142 C143 F144 => ?_) (fun z141 => ?_)
            · generalize q146 : adv b lim t120 = t145 at C143
              have g147 := ct_wf C143
              show av_wp _ cd_36 154 [some (.inr (.inr (.inl (some (22))))), some (.inl (k : Int)), some (.inl ((k : Int) * (21))), some (.inl v10), some (.inl v10)] [.inl (1)] h142 _
              refine av_wp_sqF ck_36 3 (pc' := 159) (lv' := [some (.inr (.inr (.inl (some (22))))), some (.inl (k : Int)), some (.inl ((k : Int) * (21))), some (.inl v10), some (.inl v10)]) (st' := [.inl ((k : Int) * (21)), .inr (.inr (.inl (some (22))))]) (h' := h142) rfl ?_
              refine wq_cv (p' := 162) (av_qc (.invokevirtual 90) 41 1 0 2) 3 cd_41 [.inl ((k : Int) * (21))] (22) 2 [some (.inr (.inr (.inl (some (22))))), some (.inl ((k : Int) * (21))), none] (ck_36 _ _ rfl) rfl rfl pp_41 rfl rfl rfl (congrArg Prod.fst (ly_k C143.1 22 rfl)) rfl rfl rfl rfl ?_
              refine ct_41 C143 F144 (((k : Int) * (21))) (k * 21) (by omega) (by omega) (fun h148 C149 F150 => ?_)
              obtain ⟨⟨t151, r152⟩, q153⟩ : ∃ x, rsB b lim (k * 21) t145 r121 = x := ⟨_, rfl⟩
              rw [q153] at C149
              have C149 : CT b lim t151 r152 d h148 := C149
              have g154 := ct_wf C149
              show av_wp _ cd_36 162 [some (.inr (.inr (.inl (some (22))))), some (.inl (k : Int)), some (.inl ((k : Int) * (21))), some (.inl v10), some (.inl v10)] [] h148 _
              refine av_wp_sqF ck_36 2 (pc' := 164) (lv' := [some (.inr (.inr (.inl (some (22))))), some (.inl (k : Int)), some (.inl ((k : Int) * (21))), some (.inl v10), some (.inl v10)]) (st' := [.inl ((k : Int) * (21)), .inr (.inr (.inl (some (22))))]) (h' := h148) rfl ?_
              refine wq_cv (p' := 167) (av_qc (.invokevirtual 93) 43 1 0 2) 3 cd_43 [.inl ((k : Int) * (21))] (22) 2 [some (.inr (.inr (.inl (some (22))))), some (.inl ((k : Int) * (21))), none] (ck_36 _ _ rfl) rfl rfl pp_43 rfl rfl rfl (congrArg Prod.fst (ly_k C149.1 22 rfl)) rfl rfl rfl rfl ?_
              refine ct_43 C149 F150 (((k : Int) * (21))) (k * 21) (by omega) (by omega) (fun h155 C156 F157 => ?_)
              obtain ⟨⟨t158, r159⟩, q160⟩ : ∃ x, rsM b lim (k * 21) t151 r152 = x := ⟨_, rfl⟩
              rw [q160] at C156
              have C156 : CT b lim t158 r159 d h155 := C156
              have g161 := ct_wf C156
              show av_wp _ cd_36 167 [some (.inr (.inr (.inl (some (22))))), some (.inl (k : Int)), some (.inl ((k : Int) * (21))), some (.inl v10), some (.inl v10)] [] h155 _
              refine av_wp_sqF ck_36 1 (pc' := 168) (lv' := [some (.inr (.inr (.inl (some (22))))), some (.inl (k : Int)), some (.inl ((k : Int) * (21))), some (.inl v10), some (.inl v10)]) (st' := [.inr (.inr (.inl (some (22))))]) (h' := h155) rfl ?_
              refine wq_gr (p' := 171) (ck_36 _ _ rfl) rfl (congrArg Prod.fst (ly_k C156.1 22 rfl)) rfl (ly_g C156.1 22 0 1 rfl) ?_
              refine wq_cv (p' := 174) (av_qc (.invokevirtual 96) 90 0 0 6) 1 cd_90 [] (1) 6 [some (.inr (.inr (.inl (some (1)))))] (ck_36 _ _ rfl) rfl rfl pp_90 rfl rfl rfl (congrArg Prod.fst (ly_k C156.1 1 rfl)) rfl rfl rfl rfl ?_
              refine ct_90 C156 F157 (fun h162 C163 F164 => ?_)
              generalize q166 : sem b lim t158 = t165 at C163
              have g167 := ct_wf C163
              show av_wp _ cd_36 174 [some (.inr (.inr (.inl (some (22))))), some (.inl (k : Int)), some (.inl ((k : Int) * (21))), some (.inl v10), some (.inl v10)] [] h162 _
              refine av_wp_ret (v := none) (ck_36 _ _ rfl) rfl rfl ?_
              exact hq h162 (by first | (simp only [rsy, rs5, rs4, rs3, rs2, rs1, rs0, rsK, q16, q18, q75, q77, q122, q146, q153, q160, q166, if_pos c21, if_neg (Int.not_lt.mpr c21), if_neg c83, if_neg c115, if_neg c124, if_pos c127, if_neg z141, if_neg (show ¬ (v10 = 0 ∨ v10 = 1) by omega)]; exact C163) | (exfalso; omega)) F164
            · show av_wp _ cd_36 154 [some (.inr (.inr (.inl (some (22))))), some (.inl (k : Int)), some (.inl ((k : Int) * (21))), some (.inl v10), some (.inl v10)] [.inl (0)] h117 _
              refine av_wp_sqF ck_36 3 (pc' := 164) (lv' := [some (.inr (.inr (.inl (some (22))))), some (.inl (k : Int)), some (.inl ((k : Int) * (21))), some (.inl v10), some (.inl v10)]) (st' := [.inl ((k : Int) * (21)), .inr (.inr (.inl (some (22))))]) (h' := h117) rfl ?_
              refine wq_cv (p' := 167) (av_qc (.invokevirtual 93) 43 1 0 2) 3 cd_43 [.inl ((k : Int) * (21))] (22) 2 [some (.inr (.inr (.inl (some (22))))), some (.inl ((k : Int) * (21))), none] (ck_36 _ _ rfl) rfl rfl pp_43 rfl rfl rfl (congrArg Prod.fst (ly_k C118.1 22 rfl)) rfl rfl rfl rfl ?_
              refine ct_43 C118 F119 (((k : Int) * (21))) (k * 21) (by omega) (by omega) (fun h168 C169 F170 => ?_)
              obtain ⟨⟨t171, r172⟩, q173⟩ : ∃ x, rsM b lim (k * 21) t120 r121 = x := ⟨_, rfl⟩
              rw [q173] at C169
              have C169 : CT b lim t171 r172 d h168 := C169
              have g174 := ct_wf C169
              show av_wp _ cd_36 167 [some (.inr (.inr (.inl (some (22))))), some (.inl (k : Int)), some (.inl ((k : Int) * (21))), some (.inl v10), some (.inl v10)] [] h168 _
              refine av_wp_sqF ck_36 1 (pc' := 168) (lv' := [some (.inr (.inr (.inl (some (22))))), some (.inl (k : Int)), some (.inl ((k : Int) * (21))), some (.inl v10), some (.inl v10)]) (st' := [.inr (.inr (.inl (some (22))))]) (h' := h168) rfl ?_
              refine wq_gr (p' := 171) (ck_36 _ _ rfl) rfl (congrArg Prod.fst (ly_k C169.1 22 rfl)) rfl (ly_g C169.1 22 0 1 rfl) ?_
              refine wq_cv (p' := 174) (av_qc (.invokevirtual 96) 90 0 0 6) 1 cd_90 [] (1) 6 [some (.inr (.inr (.inl (some (1)))))] (ck_36 _ _ rfl) rfl rfl pp_90 rfl rfl rfl (congrArg Prod.fst (ly_k C169.1 1 rfl)) rfl rfl rfl rfl ?_
              refine ct_90 C169 F170 (fun h175 C176 F177 => ?_)
              generalize q179 : sem b lim t171 = t178 at C176
              have g180 := ct_wf C176
              show av_wp _ cd_36 174 [some (.inr (.inr (.inl (some (22))))), some (.inl (k : Int)), some (.inl ((k : Int) * (21))), some (.inl v10), some (.inl v10)] [] h175 _
              refine av_wp_ret (v := none) (ck_36 _ _ rfl) rfl rfl ?_
              exact hq h175 (by first | (simp only [rsy, rs5, rs4, rs3, rs2, rs1, rs0, rsK, q16, q18, q75, q77, q122, q173, q179, if_pos c21, if_neg (Int.not_lt.mpr c21), if_neg c83, if_neg c115, if_neg c124, if_pos c127, if_pos z141, if_neg (show ¬ (v10 = 0 ∨ v10 = 1) by omega)]; exact C176) | (exfalso; omega)) F177
        · have c125 : v10 = (0) := c125
          refine av_wp_sqF ck_36 2 (pc' := 136) (lv' := [some (.inr (.inr (.inl (some (22))))), some (.inl (k : Int)), some (.inl ((k : Int) * (21))), some (.inl v10), some (.inl v10)]) (st' := [.inl ((k : Int) * (21)), .inr (.inr (.inl (some (22))))]) (h' := h117) rfl ?_
          refine wq_cv (p' := 139) (av_qc (.invokevirtual 81) 40 1 0 2) 2 cd_40 [.inl ((k : Int) * (21))] (22) 2 [some (.inr (.inr (.inl (some (22))))), some (.inl ((k : Int) * (21)))] (ck_36 _ _ rfl) rfl rfl pp_40 rfl rfl rfl (congrArg Prod.fst (ly_k C118.1 22 rfl)) rfl rfl rfl rfl ?_
          refine ct_40 C118 F119 ha (by omega) (((k : Int) * (21))) (k * 21) (by omega) (by omega) (fun h181 C182 F183 => ?_)
          obtain ⟨⟨t184, r185⟩, q186⟩ : ∃ x, rsT b lim (k * 21) ah t120 r121 = x := ⟨_, rfl⟩
          rw [q186] at C182
          have C182 : CT b lim t184 r185 d h181 := C182
          have g187 := ct_wf C182
          show av_wp _ cd_36 139 [some (.inr (.inr (.inl (some (22))))), some (.inl (k : Int)), some (.inl ((k : Int) * (21))), some (.inl v10), some (.inl v10)] [] h181 _
          refine av_wp_sqF ck_36 2 (pc' := 142) (lv' := [some (.inr (.inr (.inl (some (22))))), some (.inl (k : Int)), some (.inl ((k : Int) * (21))), some (.inl v10), some (.inl v10)]) (st' := [.inl (2), .inl v10]) (h' := h181) rfl ?_
          refine wq_k2 (p' := 145) (ck_36 _ _ rfl) rfl ⟨by omega, by omega⟩ ⟨by omega, by omega⟩ (fun c188 => ?_) (fun c189 => ?_)
          · have c188 : v10 ≠ (2) := c188
            refine av_wp_sqF ck_36 2 (pc' := 164) (lv' := [some (.inr (.inr (.inl (some (22))))), some (.inl (k : Int)), some (.inl ((k : Int) * (21))), some (.inl v10), some (.inl v10)]) (st' := [.inl ((k : Int) * (21)), .inr (.inr (.inl (some (22))))]) (h' := h181) rfl ?_
            refine wq_cv (p' := 167) (av_qc (.invokevirtual 93) 43 1 0 2) 3 cd_43 [.inl ((k : Int) * (21))] (22) 2 [some (.inr (.inr (.inl (some (22))))), some (.inl ((k : Int) * (21))), none] (ck_36 _ _ rfl) rfl rfl pp_43 rfl rfl rfl (congrArg Prod.fst (ly_k C182.1 22 rfl)) rfl rfl rfl rfl ?_
            refine ct_43 C182 F183 (((k : Int) * (21))) (k * 21) (by omega) (by omega) (fun h190 C191 F192 => ?_)
            obtain ⟨⟨t193, r194⟩, q195⟩ : ∃ x, rsM b lim (k * 21) t184 r185 = x := ⟨_, rfl⟩
            rw [q195] at C191
            have C191 : CT b lim t193 r194 d h190 := C191
            have g196 := ct_wf C191
            show av_wp _ cd_36 167 [some (.inr (.inr (.inl (some (22))))), some (.inl (k : Int)), some (.inl ((k : Int) * (21))), some (.inl v10), some (.inl v10)] [] h190 _
            refine av_wp_sqF ck_36 1 (pc' := 168) (lv' := [some (.inr (.inr (.inl (some (22))))), some (.inl (k : Int)), some (.inl ((k : Int) * (21))), some (.inl v10), some (.inl v10)]) (st' := [.inr (.inr (.inl (some (22))))]) (h' := h190) rfl ?_
            refine wq_gr (p' := 171) (ck_36 _ _ rfl) rfl (congrArg Prod.fst (ly_k C191.1 22 rfl)) rfl (ly_g C191.1 22 0 1 rfl) ?_
            refine wq_cv (p' := 174) (av_qc (.invokevirtual 96) 90 0 0 6) 1 cd_90 [] (1) 6 [some (.inr (.inr (.inl (some (1)))))] (ck_36 _ _ rfl) rfl rfl pp_90 rfl rfl rfl (congrArg Prod.fst (ly_k C191.1 1 rfl)) rfl rfl rfl rfl ?_
            refine ct_90 C191 F192 (fun h197 C198 F199 => ?_)
            generalize q201 : sem b lim t193 = t200 at C198
            have g202 := ct_wf C198
            show av_wp _ cd_36 174 [some (.inr (.inr (.inl (some (22))))), some (.inl (k : Int)), some (.inl ((k : Int) * (21))), some (.inl v10), some (.inl v10)] [] h197 _
            refine av_wp_ret (v := none) (ck_36 _ _ rfl) rfl rfl ?_
            exact hq h197 (by first | (simp only [rsy, rs5, rs4, rs3, rs2, rs1, rs0, rsK, q16, q18, q75, q77, q122, q186, q195, q201, if_pos c21, if_neg (Int.not_lt.mpr c21), if_neg c83, if_neg c115, if_pos c125, if_neg c188, if_neg (show ¬ (v10 = 0 ∨ v10 = 1) by omega)]; exact C198) | (exfalso; omega)) F199
          · have c189 : v10 = (2) := c189
            exfalso; omega
      · have c116 : v10 = (1) := c116
        refine av_wp_sqF ck_36 2 (pc' := 116) (lv' := [some (.inr (.inr (.inl (some (22))))), some (.inl (k : Int)), some (.inl ((k : Int) * (21))), some (.inl v10), some (.inl v10)]) (st' := [.inl ((k : Int) * (21)), .inr (.inr (.inl (some (22))))]) (h' := h79) rfl ?_
        refine wq_cv (p' := 119) (av_qc (.invokevirtual 74) 37 1 0 2) 2 cd_37 [.inl ((k : Int) * (21))] (22) 2 [some (.inr (.inr (.inl (some (22))))), some (.inl ((k : Int) * (21)))] (ck_36 _ _ rfl) rfl rfl pp_37 rfl rfl rfl (congrArg Prod.fst (ly_k C80.1 22 rfl)) rfl rfl rfl rfl ?_
        refine ct_37 C80 F81 (((k : Int) * (21))) (k * 21) (by omega) (by omega) (fun h203 C204 F205 => ?_)
        obtain ⟨⟨t206, r207⟩, q208⟩ : ∃ x, rsO b lim (k * 21) t76 (av_u1 (av_u1 (ufil (ufil (ufil r (k * 21) (k * 21 + 21) (-1)) (k * 21 + 7) (k * 21 + 10) (0)) (k * 21 + 15) (k * 21 + 21) (0)) (k * 21) v10) (k * 21 + 1) v69) = x := ⟨_, rfl⟩
        rw [q208] at C204
        have C204 : CT b lim t206 r207 d h203 := C204
        have g209 := ct_wf C204
        show av_wp _ cd_36 119 [some (.inr (.inr (.inl (some (22))))), some (.inl (k : Int)), some (.inl ((k : Int) * (21))), some (.inl v10), some (.inl v10)] [] h203 _
        refine av_wp_sqF ck_36 2 (pc' := 131) (lv' := [some (.inr (.inr (.inl (some (22))))), some (.inl (k : Int)), some (.inl ((k : Int) * (21))), some (.inl v10), some (.inl v10)]) (st' := [.inl v10]) (h' := h203) rfl ?_
        refine wq_k1 (p' := 134) (ck_36 _ _ rfl) rfl ⟨by omega, by omega⟩ (fun c210 => ?_) (fun c211 => ?_)
        · have c210 : v10 ≠ (0) := c210
          refine av_wp_sqF ck_36 2 (pc' := 142) (lv' := [some (.inr (.inr (.inl (some (22))))), some (.inl (k : Int)), some (.inl ((k : Int) * (21))), some (.inl v10), some (.inl v10)]) (st' := [.inl (2), .inl v10]) (h' := h203) rfl ?_
          refine wq_k2 (p' := 145) (ck_36 _ _ rfl) rfl ⟨by omega, by omega⟩ ⟨by omega, by omega⟩ (fun c212 => ?_) (fun c213 => ?_)
          · have c212 : v10 ≠ (2) := c212
            refine av_wp_sqF ck_36 2 (pc' := 164) (lv' := [some (.inr (.inr (.inl (some (22))))), some (.inl (k : Int)), some (.inl ((k : Int) * (21))), some (.inl v10), some (.inl v10)]) (st' := [.inl ((k : Int) * (21)), .inr (.inr (.inl (some (22))))]) (h' := h203) rfl ?_
            refine wq_cv (p' := 167) (av_qc (.invokevirtual 93) 43 1 0 2) 3 cd_43 [.inl ((k : Int) * (21))] (22) 2 [some (.inr (.inr (.inl (some (22))))), some (.inl ((k : Int) * (21))), none] (ck_36 _ _ rfl) rfl rfl pp_43 rfl rfl rfl (congrArg Prod.fst (ly_k C204.1 22 rfl)) rfl rfl rfl rfl ?_
            refine ct_43 C204 F205 (((k : Int) * (21))) (k * 21) (by omega) (by omega) (fun h214 C215 F216 => ?_)
            obtain ⟨⟨t217, r218⟩, q219⟩ : ∃ x, rsM b lim (k * 21) t206 r207 = x := ⟨_, rfl⟩
            rw [q219] at C215
            have C215 : CT b lim t217 r218 d h214 := C215
            have g220 := ct_wf C215
            show av_wp _ cd_36 167 [some (.inr (.inr (.inl (some (22))))), some (.inl (k : Int)), some (.inl ((k : Int) * (21))), some (.inl v10), some (.inl v10)] [] h214 _
            refine av_wp_sqF ck_36 1 (pc' := 168) (lv' := [some (.inr (.inr (.inl (some (22))))), some (.inl (k : Int)), some (.inl ((k : Int) * (21))), some (.inl v10), some (.inl v10)]) (st' := [.inr (.inr (.inl (some (22))))]) (h' := h214) rfl ?_
            refine wq_gr (p' := 171) (ck_36 _ _ rfl) rfl (congrArg Prod.fst (ly_k C215.1 22 rfl)) rfl (ly_g C215.1 22 0 1 rfl) ?_
            refine wq_cv (p' := 174) (av_qc (.invokevirtual 96) 90 0 0 6) 1 cd_90 [] (1) 6 [some (.inr (.inr (.inl (some (1)))))] (ck_36 _ _ rfl) rfl rfl pp_90 rfl rfl rfl (congrArg Prod.fst (ly_k C215.1 1 rfl)) rfl rfl rfl rfl ?_
            refine ct_90 C215 F216 (fun h221 C222 F223 => ?_)
            generalize q225 : sem b lim t217 = t224 at C222
            have g226 := ct_wf C222
            show av_wp _ cd_36 174 [some (.inr (.inr (.inl (some (22))))), some (.inl (k : Int)), some (.inl ((k : Int) * (21))), some (.inl v10), some (.inl v10)] [] h221 _
            refine av_wp_ret (v := none) (ck_36 _ _ rfl) rfl rfl ?_
            exact hq h221 (by first | (simp only [rsy, rs5, rs4, rs3, rs2, rs1, rs0, rsK, q16, q18, q75, q77, q208, q219, q225, if_pos c21, if_neg (Int.not_lt.mpr c21), if_neg c83, if_pos c116, if_neg c210, if_neg c212, if_pos (show v10 = 0 ∨ v10 = 1 by omega)]; exact C222) | (exfalso; omega)) F223
          · have c213 : v10 = (2) := c213
            exfalso; omega
        · have c211 : v10 = (0) := c211
          exfalso; omega
end
section
/-! THE REFERENCE'S TAPE AND TOKENS: its fields 17 to 25 by name -/
theorem and255_t : ∀ k : Nat, k < 256 → av_and ((k : Int) - 128) 255 = (if (128 : Int) ≤ (k : Int) then (k : Int) - 128 else (k : Int) + 128) := by decide +kernel
theorem and255 {x : Int} (h : -128 ≤ x ∧ x ≤ 127) : (0 ≤ x ∧ av_and x 255 = x) ∨ (x < 0 ∧ av_and x 255 = x + 256) := by
  have h1 := and255_t (x + 128).toNat (by omega)
  rw [show (((x + 128).toNat : Nat) : Int) - 128 = x by omega] at h1
  rw [h1]
  by_cases e : 0 ≤ x
  · left
    exact ⟨e, by rw [if_pos (by omega)] <;> omega⟩
  · right
    exact ⟨by omega, by rw [if_neg (by omega)] <;> omega⟩
theorem so_1 {x : Int} : so x = 1 ↔ (97 ≤ x ∧ x ≤ 122) := by
  unfold so
  (repeat' split) <;> omega
theorem so_2 {x : Int} : so x = 2 ↔ (48 ≤ x ∧ x ≤ 57) := by
  unfold so
  (repeat' split) <;> omega
theorem so_3 {x : Int} : so x = 3 ↔ x = 59 := by
  unfold so
  (repeat' split) <;> omega
theorem so_4 {x : Int} : so x = 4 ↔ (x = 32 ∨ x = 10) := by
  unfold so
  (repeat' split) <;> omega
/-- the letters' number; the digits' number, as the reference counts them -/
def txt (b : Nat → Int) (f : Nat) : Nat → Int
  | 0 => 0
  | n + 1 => if n < 8 then txt b f n * 27 + (b (f + n) - 96) else -1
def dgc (b : Nat → Int) (f : Nat) : Nat → Int
  | 0 => 0
  | n + 1 => if dgc b f n < 1000000 then 10 * dgc b f n + b (f + n) - 48 else dgc b f n
def tokv (t : TT) : Int := if t.2.2.1 = 0 then 0 else if t.2.2.1 = 1 then 1 else if t.2.2.1 = 2 then (if (t.2.1 : Int) - t.1 ≤ 4 then 2 else 3) else if t.2.2.1 = 3 then 59 else 3
def txtv (b : Nat → Int) (t : TT) : Int := if t.2.2.1 = 1 then txt b t.1 (t.2.1 - t.1) else -1
def valv (b : Nat → Int) (t : TT) : Int := if t.2.2.1 = 2 then dgc b t.1 (t.2.1 - t.1) else 0
def rdA (a : Nat) : Bool := Nat.ble 82 a && Nat.ble a 93
def rdF (o f : Nat) : Bool := Nat.beq o 77 && (Nat.ble 17 f && Nat.ble f 25)
def FD (g h : av_H) : Prop := h.1 = g.1 ∧ h.2.1 = g.2.1 ∧ hK h = hK g ∧ hR h = hR g ∧ hG h = hG g ∧ (∀ o f, rdF o f = false → hF h o f = hF g o f) ∧ (∀ a, rdA a = false → hA h a = hA g a)
theorem FD_rf (h : av_H) : FD h h := ⟨rfl, rfl, rfl, rfl, rfl, fun _ _ _ => rfl, fun _ _ => rfl⟩
theorem FD_wF {g h : av_H} {o f : Nat} {v : Int} (F : FD g h) (e : rdF o f = true) : FD g (hwF h o f v) := ⟨F.1, F.2.1, F.2.2.1, F.2.2.2.1, F.2.2.2.2.1, fun k q hk => by
  show av_u2 h.2.2.2.2.1 o f v k q = _
  have hne : ¬ (k = o ∧ q = f) := fun z => by rw [z.1, z.2, e] at hk; cases hk
  rw [av_u2, if_neg hne]
  exact F.2.2.2.2.2.1 k q hk, F.2.2.2.2.2.2⟩
def NS (b : Nat → Int) (lim : Nat) (x17 x18 x19 x20 x21 x22 x23 x24 x25 : Int) (A : Nat → Nat → Int) (h : av_H) : Prop := LY h ∧ hA h 94 = b ∧ (∀ j, -128 ≤ b j ∧ b j ≤ 127) ∧ lim ≤ 900 ∧ hA h = A ∧ hF h 77 17 = x17 ∧ hF h 77 18 = x18 ∧ hF h 77 19 = x19 ∧ hF h 77 20 = x20 ∧ hF h 77 21 = x21 ∧ hF h 77 22 = x22 ∧ hF h 77 23 = x23 ∧ hF h 77 24 = x24 ∧ hF h 77 25 = x25
section
variable {b : Nat → Int} {lim : Nat} {x17 x18 x19 x20 x21 x22 x23 x24 x25 : Int} {A : Nat → Nat → Int} {h : av_H}
theorem ns_b (N : NS b lim x17 x18 x19 x20 x21 x22 x23 x24 x25 A h) : hA h 94 = b := N.2.1
theorem ns_bv (N : NS b lim x17 x18 x19 x20 x21 x22 x23 x24 x25 A h) (j : Nat) : -128 ≤ b j ∧ b j ≤ 127 := N.2.2.1 j
theorem ns_lim (N : NS b lim x17 x18 x19 x20 x21 x22 x23 x24 x25 A h) : lim ≤ 900 := N.2.2.2.1
theorem ns_A (N : NS b lim x17 x18 x19 x20 x21 x22 x23 x24 x25 A h) : hA h = A := N.2.2.2.2.1
theorem ns_17 (N : NS b lim x17 x18 x19 x20 x21 x22 x23 x24 x25 A h) : hF h 77 17 = x17 := N.2.2.2.2.2.1
theorem ns_18 (N : NS b lim x17 x18 x19 x20 x21 x22 x23 x24 x25 A h) : hF h 77 18 = x18 := N.2.2.2.2.2.2.1
theorem ns_19 (N : NS b lim x17 x18 x19 x20 x21 x22 x23 x24 x25 A h) : hF h 77 19 = x19 := N.2.2.2.2.2.2.2.1
theorem ns_20 (N : NS b lim x17 x18 x19 x20 x21 x22 x23 x24 x25 A h) : hF h 77 20 = x20 := N.2.2.2.2.2.2.2.2.1
theorem ns_21 (N : NS b lim x17 x18 x19 x20 x21 x22 x23 x24 x25 A h) : hF h 77 21 = x21 := N.2.2.2.2.2.2.2.2.2.1
theorem ns_22 (N : NS b lim x17 x18 x19 x20 x21 x22 x23 x24 x25 A h) : hF h 77 22 = x22 := N.2.2.2.2.2.2.2.2.2.2.1
theorem ns_23 (N : NS b lim x17 x18 x19 x20 x21 x22 x23 x24 x25 A h) : hF h 77 23 = x23 := N.2.2.2.2.2.2.2.2.2.2.2.1
theorem ns_24 (N : NS b lim x17 x18 x19 x20 x21 x22 x23 x24 x25 A h) : hF h 77 24 = x24 := N.2.2.2.2.2.2.2.2.2.2.2.2.1
theorem ns_25 (N : NS b lim x17 x18 x19 x20 x21 x22 x23 x24 x25 A h) : hF h 77 25 = x25 := N.2.2.2.2.2.2.2.2.2.2.2.2.2
theorem ns_w17 {v : Int} (N : NS b lim x17 x18 x19 x20 x21 x22 x23 x24 x25 A h) : NS b lim v x18 x19 x20 x21 x22 x23 x24 x25 A (hwF h 77 17 v) := ⟨N.1, N.2.1, N.2.2.1, N.2.2.2.1, N.2.2.2.2.1, hF_self, (hF_oth (by decide)).trans (ns_18 N), (hF_oth (by decide)).trans (ns_19 N), (hF_oth (by decide)).trans (ns_20 N), (hF_oth (by decide)).trans (ns_21 N), (hF_oth (by decide)).trans (ns_22 N), (hF_oth (by decide)).trans (ns_23 N), (hF_oth (by decide)).trans (ns_24 N), (hF_oth (by decide)).trans (ns_25 N)⟩
theorem ns_w18 {v : Int} (N : NS b lim x17 x18 x19 x20 x21 x22 x23 x24 x25 A h) : NS b lim x17 v x19 x20 x21 x22 x23 x24 x25 A (hwF h 77 18 v) := ⟨N.1, N.2.1, N.2.2.1, N.2.2.2.1, N.2.2.2.2.1, (hF_oth (by decide)).trans (ns_17 N), hF_self, (hF_oth (by decide)).trans (ns_19 N), (hF_oth (by decide)).trans (ns_20 N), (hF_oth (by decide)).trans (ns_21 N), (hF_oth (by decide)).trans (ns_22 N), (hF_oth (by decide)).trans (ns_23 N), (hF_oth (by decide)).trans (ns_24 N), (hF_oth (by decide)).trans (ns_25 N)⟩
theorem ns_w19 {v : Int} (N : NS b lim x17 x18 x19 x20 x21 x22 x23 x24 x25 A h) : NS b lim x17 x18 v x20 x21 x22 x23 x24 x25 A (hwF h 77 19 v) := ⟨N.1, N.2.1, N.2.2.1, N.2.2.2.1, N.2.2.2.2.1, (hF_oth (by decide)).trans (ns_17 N), (hF_oth (by decide)).trans (ns_18 N), hF_self, (hF_oth (by decide)).trans (ns_20 N), (hF_oth (by decide)).trans (ns_21 N), (hF_oth (by decide)).trans (ns_22 N), (hF_oth (by decide)).trans (ns_23 N), (hF_oth (by decide)).trans (ns_24 N), (hF_oth (by decide)).trans (ns_25 N)⟩
theorem ns_w20 {v : Int} (N : NS b lim x17 x18 x19 x20 x21 x22 x23 x24 x25 A h) : NS b lim x17 x18 x19 v x21 x22 x23 x24 x25 A (hwF h 77 20 v) := ⟨N.1, N.2.1, N.2.2.1, N.2.2.2.1, N.2.2.2.2.1, (hF_oth (by decide)).trans (ns_17 N), (hF_oth (by decide)).trans (ns_18 N), (hF_oth (by decide)).trans (ns_19 N), hF_self, (hF_oth (by decide)).trans (ns_21 N), (hF_oth (by decide)).trans (ns_22 N), (hF_oth (by decide)).trans (ns_23 N), (hF_oth (by decide)).trans (ns_24 N), (hF_oth (by decide)).trans (ns_25 N)⟩
theorem ns_w21 {v : Int} (N : NS b lim x17 x18 x19 x20 x21 x22 x23 x24 x25 A h) : NS b lim x17 x18 x19 x20 v x22 x23 x24 x25 A (hwF h 77 21 v) := ⟨N.1, N.2.1, N.2.2.1, N.2.2.2.1, N.2.2.2.2.1, (hF_oth (by decide)).trans (ns_17 N), (hF_oth (by decide)).trans (ns_18 N), (hF_oth (by decide)).trans (ns_19 N), (hF_oth (by decide)).trans (ns_20 N), hF_self, (hF_oth (by decide)).trans (ns_22 N), (hF_oth (by decide)).trans (ns_23 N), (hF_oth (by decide)).trans (ns_24 N), (hF_oth (by decide)).trans (ns_25 N)⟩
theorem ns_w22 {v : Int} (N : NS b lim x17 x18 x19 x20 x21 x22 x23 x24 x25 A h) : NS b lim x17 x18 x19 x20 x21 v x23 x24 x25 A (hwF h 77 22 v) := ⟨N.1, N.2.1, N.2.2.1, N.2.2.2.1, N.2.2.2.2.1, (hF_oth (by decide)).trans (ns_17 N), (hF_oth (by decide)).trans (ns_18 N), (hF_oth (by decide)).trans (ns_19 N), (hF_oth (by decide)).trans (ns_20 N), (hF_oth (by decide)).trans (ns_21 N), hF_self, (hF_oth (by decide)).trans (ns_23 N), (hF_oth (by decide)).trans (ns_24 N), (hF_oth (by decide)).trans (ns_25 N)⟩
theorem ns_w23 {v : Int} (N : NS b lim x17 x18 x19 x20 x21 x22 x23 x24 x25 A h) : NS b lim x17 x18 x19 x20 x21 x22 v x24 x25 A (hwF h 77 23 v) := ⟨N.1, N.2.1, N.2.2.1, N.2.2.2.1, N.2.2.2.2.1, (hF_oth (by decide)).trans (ns_17 N), (hF_oth (by decide)).trans (ns_18 N), (hF_oth (by decide)).trans (ns_19 N), (hF_oth (by decide)).trans (ns_20 N), (hF_oth (by decide)).trans (ns_21 N), (hF_oth (by decide)).trans (ns_22 N), hF_self, (hF_oth (by decide)).trans (ns_24 N), (hF_oth (by decide)).trans (ns_25 N)⟩
theorem ns_w24 {v : Int} (N : NS b lim x17 x18 x19 x20 x21 x22 x23 x24 x25 A h) : NS b lim x17 x18 x19 x20 x21 x22 x23 v x25 A (hwF h 77 24 v) := ⟨N.1, N.2.1, N.2.2.1, N.2.2.2.1, N.2.2.2.2.1, (hF_oth (by decide)).trans (ns_17 N), (hF_oth (by decide)).trans (ns_18 N), (hF_oth (by decide)).trans (ns_19 N), (hF_oth (by decide)).trans (ns_20 N), (hF_oth (by decide)).trans (ns_21 N), (hF_oth (by decide)).trans (ns_22 N), (hF_oth (by decide)).trans (ns_23 N), hF_self, (hF_oth (by decide)).trans (ns_25 N)⟩
theorem ns_w25 {v : Int} (N : NS b lim x17 x18 x19 x20 x21 x22 x23 x24 x25 A h) : NS b lim x17 x18 x19 x20 x21 x22 x23 x24 v A (hwF h 77 25 v) := ⟨N.1, N.2.1, N.2.2.1, N.2.2.2.1, N.2.2.2.2.1, (hF_oth (by decide)).trans (ns_17 N), (hF_oth (by decide)).trans (ns_18 N), (hF_oth (by decide)).trans (ns_19 N), (hF_oth (by decide)).trans (ns_20 N), (hF_oth (by decide)).trans (ns_21 N), (hF_oth (by decide)).trans (ns_22 N), (hF_oth (by decide)).trans (ns_23 N), (hF_oth (by decide)).trans (ns_24 N), hF_self⟩
end
section
variable {sc : av_Sr} {cd : List (Nat × av_E)} {Q : Option av_V → av_H → Prop} {pc p' : Nat} {lv : av_L} {r' : List av_V} {g h : av_H} {b : Nat → Int} {lim : Nat} {x17 x18 x19 x20 x21 x22 x23 x24 x25 : Int} {A : Nat → Nat → Int}
theorem ns_p17 {idx : Nat} {v : Int} (hx : cd.lookup pc = some (av_qf (.putfield idx) 8 17 0)) (hp : pc + 3 = p') (N : NS b lim x17 x18 x19 x20 x21 x22 x23 x24 x25 A h) (F : FD g h) (hw : ∀ h', NS b lim v x18 x19 x20 x21 x22 x23 x24 x25 A h' → FD g h' → av_wp sc cd p' lv r' h' Q) : av_wp sc cd pc lv (.inl v :: .inr (.inr (.inl (some 77))) :: r') h Q :=
  wq_pi hx hp (congrArg Prod.fst (ly_k N.1 77 rfl)) rfl (hw _ (ns_w17 N) (FD_wF F rfl))
theorem ns_p18 {idx : Nat} {v : Int} (hx : cd.lookup pc = some (av_qf (.putfield idx) 8 18 0)) (hp : pc + 3 = p') (N : NS b lim x17 x18 x19 x20 x21 x22 x23 x24 x25 A h) (F : FD g h) (hw : ∀ h', NS b lim x17 v x19 x20 x21 x22 x23 x24 x25 A h' → FD g h' → av_wp sc cd p' lv r' h' Q) : av_wp sc cd pc lv (.inl v :: .inr (.inr (.inl (some 77))) :: r') h Q :=
  wq_pi hx hp (congrArg Prod.fst (ly_k N.1 77 rfl)) rfl (hw _ (ns_w18 N) (FD_wF F rfl))
theorem ns_p19 {idx : Nat} {v : Int} (hx : cd.lookup pc = some (av_qf (.putfield idx) 8 19 0)) (hp : pc + 3 = p') (N : NS b lim x17 x18 x19 x20 x21 x22 x23 x24 x25 A h) (F : FD g h) (hw : ∀ h', NS b lim x17 x18 v x20 x21 x22 x23 x24 x25 A h' → FD g h' → av_wp sc cd p' lv r' h' Q) : av_wp sc cd pc lv (.inl v :: .inr (.inr (.inl (some 77))) :: r') h Q :=
  wq_pi hx hp (congrArg Prod.fst (ly_k N.1 77 rfl)) rfl (hw _ (ns_w19 N) (FD_wF F rfl))
theorem ns_p20 {idx : Nat} {v : Int} (hx : cd.lookup pc = some (av_qf (.putfield idx) 8 20 0)) (hp : pc + 3 = p') (N : NS b lim x17 x18 x19 x20 x21 x22 x23 x24 x25 A h) (F : FD g h) (hw : ∀ h', NS b lim x17 x18 x19 v x21 x22 x23 x24 x25 A h' → FD g h' → av_wp sc cd p' lv r' h' Q) : av_wp sc cd pc lv (.inl v :: .inr (.inr (.inl (some 77))) :: r') h Q :=
  wq_pi hx hp (congrArg Prod.fst (ly_k N.1 77 rfl)) rfl (hw _ (ns_w20 N) (FD_wF F rfl))
theorem ns_p21 {idx : Nat} {v : Int} (hx : cd.lookup pc = some (av_qf (.putfield idx) 8 21 0)) (hp : pc + 3 = p') (N : NS b lim x17 x18 x19 x20 x21 x22 x23 x24 x25 A h) (F : FD g h) (hw : ∀ h', NS b lim x17 x18 x19 x20 v x22 x23 x24 x25 A h' → FD g h' → av_wp sc cd p' lv r' h' Q) : av_wp sc cd pc lv (.inl v :: .inr (.inr (.inl (some 77))) :: r') h Q :=
  wq_pi hx hp (congrArg Prod.fst (ly_k N.1 77 rfl)) rfl (hw _ (ns_w21 N) (FD_wF F rfl))
theorem ns_p22 {idx : Nat} {v : Int} (hx : cd.lookup pc = some (av_qf (.putfield idx) 8 22 0)) (hp : pc + 3 = p') (N : NS b lim x17 x18 x19 x20 x21 x22 x23 x24 x25 A h) (F : FD g h) (hw : ∀ h', NS b lim x17 x18 x19 x20 x21 v x23 x24 x25 A h' → FD g h' → av_wp sc cd p' lv r' h' Q) : av_wp sc cd pc lv (.inl v :: .inr (.inr (.inl (some 77))) :: r') h Q :=
  wq_pi hx hp (congrArg Prod.fst (ly_k N.1 77 rfl)) rfl (hw _ (ns_w22 N) (FD_wF F rfl))
theorem ns_p23 {idx : Nat} {v : Int} (hx : cd.lookup pc = some (av_qf (.putfield idx) 8 23 0)) (hp : pc + 3 = p') (N : NS b lim x17 x18 x19 x20 x21 x22 x23 x24 x25 A h) (F : FD g h) (hw : ∀ h', NS b lim x17 x18 x19 x20 x21 x22 v x24 x25 A h' → FD g h' → av_wp sc cd p' lv r' h' Q) : av_wp sc cd pc lv (.inl v :: .inr (.inr (.inl (some 77))) :: r') h Q :=
  wq_pi hx hp (congrArg Prod.fst (ly_k N.1 77 rfl)) rfl (hw _ (ns_w23 N) (FD_wF F rfl))
theorem ns_p24 {idx : Nat} {v : Int} (hx : cd.lookup pc = some (av_qf (.putfield idx) 8 24 1)) (hp : pc + 3 = p') (N : NS b lim x17 x18 x19 x20 x21 x22 x23 x24 x25 A h) (F : FD g h) (hw : ∀ h', NS b lim x17 x18 x19 x20 x21 x22 x23 v x25 A h' → FD g h' → av_wp sc cd p' lv r' h' Q) : av_wp sc cd pc lv (.inr (.inl v) :: .inr (.inr (.inl (some 77))) :: r') h Q :=
  wq_pl hx hp (congrArg Prod.fst (ly_k N.1 77 rfl)) rfl (hw _ (ns_w24 N) (FD_wF F rfl))
theorem ns_p25 {idx : Nat} {v : Int} (hx : cd.lookup pc = some (av_qf (.putfield idx) 8 25 3)) (hp : pc + 3 = p') (N : NS b lim x17 x18 x19 x20 x21 x22 x23 x24 x25 A h) (F : FD g h) (hv : v = 0 ∨ v = 1) (hw : ∀ h', NS b lim x17 x18 x19 x20 x21 x22 x23 x24 v A h' → FD g h' → av_wp sc cd p' lv r' h' Q) : av_wp sc cd pc lv (.inl v :: .inr (.inr (.inl (some 77))) :: r') h Q :=
  wq_pb hx hp (congrArg Prod.fst (ly_k N.1 77 rfl)) rfl hv (hw _ (ns_w25 N) (FD_wF F rfl))
end
end
section
/-! THE REFERENCE'S TOKENS, exactly -/
set_option maxRecDepth 100000 in
set_option maxHeartbeats 4000000 in
theorem ct_129 {g h : av_H} {b : Nat → Int} {lim : Nat} {x17 x18 x19 x20 x21 x22 x23 x24 x25 : Int} {A : Nat → Nat → Int} (N : NS b lim x17 x18 x19 x20 x21 x22 x23 x24 x25 A h) (F : FD g h) (q19 : x19 = (lim : Int)) (q20 : 0 ≤ x20 ∧ x20 ≤ (lim : Int)) {Q : Option av_V → av_H → Prop} (hq : ∀ v : Int, ((x20 < (lim : Int) ∧ ((0 ≤ b (Int.toNat x20) ∧ v = b (Int.toNat x20)) ∨ (b (Int.toNat x20) < 0 ∧ v = b (Int.toNat x20) + 256))) ∨ ((lim : Int) ≤ x20 ∧ v = -1)) → Q (some (.inl v)) h) : av_wp none cd_129 0 [some (.inr (.inr (.inl (some (77)))))] [] h Q := by
  have gl := ns_lim N
  refine av_wp_sqF ck_129 1 (pc' := 1) (lv' := [some (.inr (.inr (.inl (some (77)))))]) (st' := [.inr (.inr (.inl (some (77))))]) (h' := h) rfl ?_
  refine wq_gi (p' := 4) (ck_129 _ _ rfl) rfl (congrArg Prod.fst (ly_k N.1 77 rfl)) rfl (ns_20 N) ?_
  refine av_wp_sqF ck_129 1 (pc' := 5) (lv' := [some (.inr (.inr (.inl (some (77)))))]) (st' := [.inr (.inr (.inl (some (77)))), .inl x20]) (h' := h) rfl ?_
  refine wq_gi (p' := 8) (ck_129 _ _ rfl) rfl (congrArg Prod.fst (ly_k N.1 77 rfl)) rfl (ns_19 N) ?_
  refine wq_k2 (p' := 11) (ck_129 _ _ rfl) rfl ⟨by omega, by omega⟩ ⟨by omega, by omega⟩ (fun c1 => ?_) (fun c2 => ?_)
  · have c1 : x19 ≤ x20 := c1
    refine av_wp_sqF ck_129 1 (pc' := 28) (lv' := [some (.inr (.inr (.inl (some (77)))))]) (st' := [.inl (-1)]) (h' := h) rfl ?_
    refine av_wp_ret (v := some (.inl (-1))) (ck_129 _ _ rfl) rfl rfl ?_
    exact hq _ (by omega)
  · have c2 : x20 < x19 := c2
    refine av_wp_sqF ck_129 1 (pc' := 12) (lv' := [some (.inr (.inr (.inl (some (77)))))]) (st' := [.inr (.inr (.inl (some (77))))]) (h' := h) rfl ?_
    refine wq_gr (p' := 15) (ck_129 _ _ rfl) rfl (congrArg Prod.fst (ly_k N.1 77 rfl)) rfl (ly_g N.1 77 16 94 rfl) ?_
    refine av_wp_sqF ck_129 1 (pc' := 16) (lv' := [some (.inr (.inr (.inl (some (77)))))]) (st' := [.inr (.inr (.inl (some (77)))), .inr (.inr (.inl (some (94))))]) (h' := h) rfl ?_
    refine wq_gi (p' := 19) (ck_129 _ _ rfl) rfl (congrArg Prod.fst (ly_k N.1 77 rfl)) rfl (ns_20 N) ?_
    obtain ⟨v3, e4⟩ : ∃ v, hA h 94 (Int.toNat (x20)) = v := ⟨_, rfl⟩
    have e5 : b (Int.toNat (x20)) = v3 := (congrFun (ns_b N).symm _).trans e4
    have g6 := ns_bv N (Int.toNat (x20))
    rw [e5] at g6
    have g7 := and255 g6
    refine wq_bl (p' := 20) (n := 900) (ck_129 _ _ rfl) rfl ((Or.inl (ly_k N.1 94 rfl))) (by omega) (e4) ?_
    refine av_wp_sqF ck_129 3 (pc' := 28) (lv' := [some (.inr (.inr (.inl (some (77)))))]) (st' := [.inl (av_and v3 (255))]) (h' := h) rfl ?_
    refine av_wp_ret (v := some (.inl (av_and v3 (255)))) (ck_129 _ _ rfl) rfl rfl ?_
    exact hq _ (by omega)

set_option maxRecDepth 100000 in
set_option maxHeartbeats 4000000 in
theorem ct_130 {g h : av_H} {b : Nat → Int} {lim : Nat} {t : TT} {x17 x18 x21 x22 x23 x24 x25 : Int} {A : Nat → Nat → Int} (N : NS b lim x17 x18 (lim : Int) (t.2.1 : Int) x21 x22 x23 x24 x25 A h) (F : FD g h) (w : WF lim t) {Q : Option av_V → av_H → Prop} (hq : ∀ h', NS b lim x17 x18 (lim : Int) (((adv b lim t).2.1 : Nat) : Int) (((adv b lim t).1 : Nat) : Int) (tokv (adv b lim t)) (valv b (adv b lim t)) (txtv b (adv b lim t)) x25 A h' → FD g h' → Q none h') : av_wp none cd_130 0 [some (.inr (.inr (.inl (some (77))))), none] [] h Q := by
  have gl := ns_lim N
  have gw := w.2.1
  have L5 : ∀ (m4 : Nat) (y20_0 : Int) (h1 : av_H), edn b lim 4 (Int.toNat (y20_0)) = edn b lim 4 t.2.1 → 0 ≤ y20_0 ∧ y20_0 ≤ (lim : Int) → (0 ≤ y20_0 ∧ y20_0 ≤ 900) → NS b lim (x17) (x18) ((lim : Int)) (y20_0) (x21) (x22) (x23) (x24) (x25) A h1 → FD g h1 → (901 - y20_0).toNat = m4 → av_wp none cd_130 0 [some (.inr (.inr (.inl (some (77))))), none] [] h1 Q := by
    intro m4
    induction m4 using Nat.strongRecOn with
    | _ m4 I6 =>
      intro y20_0 h1 g8 g9 g10 N2 F3 e7
      refine av_wp_sqF ck_130 1 (pc' := 1) (lv' := [some (.inr (.inr (.inl (some (77))))), none]) (st' := [.inr (.inr (.inl (some (77))))]) (h' := h1) rfl ?_
      refine wq_cv (p' := 4) (av_qc (.invokevirtual 157) 129 0 0 8) 1 cd_129 [] (77) 8 [some (.inr (.inr (.inl (some (77)))))] (ck_130 _ _ rfl) rfl rfl pp_129 rfl rfl rfl (congrArg Prod.fst (ly_k N2.1 77 rfl)) rfl rfl rfl rfl ?_
      refine ct_129 N2 F3 (by omega) (by omega) (fun v11 p12 => ?_)
      have g13 := ns_bv N2 (Int.toNat (y20_0))
      show av_wp _ cd_130 4 [some (.inr (.inr (.inl (some (77))))), none] [.inl v11] h1 _
      refine av_wp_sqF ck_130 1 (pc' := 6) (lv' := [some (.inr (.inr (.inl (some (77))))), none]) (st' := [.inl (32), .inl v11]) (h' := h1) rfl ?_
      refine wq_k2 (p' := 9) (ck_130 _ _ rfl) rfl ⟨by omega, by omega⟩ ⟨by omega, by omega⟩ (fun c14 => ?_) (fun c15 => ?_)
      · have c14 : v11 = (32) := c14
        refine av_wp_sqF ck_130 2 (pc' := 20) (lv' := [some (.inr (.inr (.inl (some (77))))), none]) (st' := [.inr (.inr (.inl (some (77)))), .inr (.inr (.inl (some (77))))]) (h' := h1) rfl ?_
        refine wq_gi (p' := 23) (ck_130 _ _ rfl) rfl (congrArg Prod.fst (ly_k N2.1 77 rfl)) rfl (ns_20 N2) ?_
        refine av_wp_sqF ck_130 2 (pc' := 25) (lv' := [some (.inr (.inr (.inl (some (77))))), none]) (st' := [.inl (y20_0 + (1)), .inr (.inr (.inl (some (77))))]) (h' := h1) rfl ?_
        refine ns_p20 (p' := 28) rfl rfl N2 F3 (fun h16 N17 F18 => ?_)
        refine av_wp_sqF ck_130 1 (pc' := 0) (lv' := [some (.inr (.inr (.inl (some (77))))), none]) (st' := []) (h' := h16) rfl ?_
        exact I6 _ (by omega) ((y20_0 + (1))) h16 ((show edn b lim 4 (Int.toNat ((y20_0 + (1)))) = edn b lim 4 (Int.toNat (y20_0)) from ((edn_go (a := Int.toNat (y20_0)) (by omega) (so_4.mpr (by omega))).trans (congrArg _ (by omega))).symm).trans g8) (by omega) (by omega) N17 F18 rfl
      · have c15 : v11 ≠ (32) := c15
        refine av_wp_sqF ck_130 1 (pc' := 10) (lv' := [some (.inr (.inr (.inl (some (77))))), none]) (st' := [.inr (.inr (.inl (some (77))))]) (h' := h1) rfl ?_
        refine wq_cv (p' := 13) (av_qc (.invokevirtual 157) 129 0 0 8) 1 cd_129 [] (77) 8 [some (.inr (.inr (.inl (some (77)))))] (ck_130 _ _ rfl) rfl rfl pp_129 rfl rfl rfl (congrArg Prod.fst (ly_k N2.1 77 rfl)) rfl rfl rfl rfl ?_
        refine ct_129 N2 F3 (by omega) (by omega) (fun v19 p20 => ?_)
        have g21 := ns_bv N2 (Int.toNat (y20_0))
        show av_wp _ cd_130 13 [some (.inr (.inr (.inl (some (77))))), none] [.inl v19] h1 _
        refine av_wp_sqF ck_130 1 (pc' := 15) (lv' := [some (.inr (.inr (.inl (some (77))))), none]) (st' := [.inl (10), .inl v19]) (h' := h1) rfl ?_
        refine wq_k2 (p' := 18) (ck_130 _ _ rfl) rfl ⟨by omega, by omega⟩ ⟨by omega, by omega⟩ (fun c22 => ?_) (fun c23 => ?_)
        · have c22 : v19 ≠ (10) := c22
          have z24 : edn b lim 4 t.2.1 = (Int.toNat (y20_0)) := by rw [← g8]; exact edn_end (fun z => by have z1 := z.1; have z2 := so_4.mp z.2; omega)
          refine av_wp_sqF ck_130 2 (pc' := 33) (lv' := [some (.inr (.inr (.inl (some (77))))), none]) (st' := [.inr (.inr (.inl (some (77)))), .inr (.inr (.inl (some (77))))]) (h' := h1) rfl ?_
          refine wq_gi (p' := 36) (ck_130 _ _ rfl) rfl (congrArg Prod.fst (ly_k N2.1 77 rfl)) rfl (ns_20 N2) ?_
          refine ns_p21 (p' := 39) rfl rfl N2 F3 (fun h25 N26 F27 => ?_)
          refine av_wp_sqF ck_130 1 (pc' := 40) (lv' := [some (.inr (.inr (.inl (some (77))))), none]) (st' := [.inr (.inr (.inl (some (77))))]) (h' := h25) rfl ?_
          refine wq_cv (p' := 43) (av_qc (.invokevirtual 157) 129 0 0 8) 1 cd_129 [] (77) 8 [some (.inr (.inr (.inl (some (77)))))] (ck_130 _ _ rfl) rfl rfl pp_129 rfl rfl rfl (congrArg Prod.fst (ly_k N26.1 77 rfl)) rfl rfl rfl rfl ?_
          refine ct_129 N26 F27 (by omega) (by omega) (fun v28 p29 => ?_)
          have g30 := ns_bv N26 (Int.toNat (y20_0))
          show av_wp _ cd_130 43 [some (.inr (.inr (.inl (some (77))))), none] [.inl v28] h25 _
          refine av_wp_sqF ck_130 3 (pc' := 48) (lv' := [some (.inr (.inr (.inl (some (77))))), some (.inl v28)]) (st' := [.inr (.inl (-1)), .inr (.inr (.inl (some (77))))]) (h' := h25) rfl ?_
          refine ns_p24 (p' := 51) rfl rfl N26 F27 (fun h31 N32 F33 => ?_)
          refine av_wp_sqF ck_130 2 (pc' := 53) (lv' := [some (.inr (.inr (.inl (some (77))))), some (.inl v28)]) (st' := [.inl (0), .inr (.inr (.inl (some (77))))]) (h' := h31) rfl ?_
          refine ns_p23 (p' := 56) rfl rfl N32 F33 (fun h34 N35 F36 => ?_)
          refine av_wp_sqF ck_130 1 (pc' := 57) (lv' := [some (.inr (.inr (.inl (some (77))))), some (.inl v28)]) (st' := [.inl v28]) (h' := h34) rfl ?_
          refine wq_k1 (p' := 60) (ck_130 _ _ rfl) rfl ⟨by omega, by omega⟩ (fun c37 => ?_) (fun c38 => ?_)
          · have c37 : (0) ≤ v28 := c37
            refine av_wp_sqF ck_130 3 (pc' := 73) (lv' := [some (.inr (.inr (.inl (some (77))))), some (.inl v28)]) (st' := [.inl (122), .inl (97), .inl v28]) (h' := h34) rfl ?_
            refine wq_cs (p' := 76) (av_qc (.invokestatic 176) 127 3 2 8) 3 cd_127 [.inl v28, .inl (97), .inl (122)] [.inl (122), .inl (97), .inl v28] [some (.inl v28), some (.inl (97)), some (.inl (122))] (ck_130 _ _ rfl) rfl rfl pp_127 (fun _ => rfl) rfl rfl ?_
            refine ct_127 (g := h) (v28) (by omega) ((97)) (by omega) ((122)) (by omega) (fun v39 p40 => ?_)
            show av_wp _ cd_130 76 [some (.inr (.inr (.inl (some (77))))), some (.inl v28)] [.inl v39] h34 _
            refine wq_k1 (p' := 79) (ck_130 _ _ rfl) rfl ⟨by omega, by omega⟩ (fun c41 => ?_) (fun c42 => ?_)
            · have c41 : v39 = (0) := c41
              refine av_wp_sqF ck_130 3 (pc' := 162) (lv' := [some (.inr (.inr (.inl (some (77))))), some (.inl v28)]) (st' := [.inl (57), .inl (48), .inl v28]) (h' := h34) rfl ?_
              refine wq_cs (p' := 165) (av_qc (.invokestatic 176) 127 3 2 8) 3 cd_127 [.inl v28, .inl (48), .inl (57)] [.inl (57), .inl (48), .inl v28] [some (.inl v28), some (.inl (48)), some (.inl (57))] (ck_130 _ _ rfl) rfl rfl pp_127 (fun _ => rfl) rfl rfl ?_
              refine ct_127 (g := h) (v28) (by omega) ((48)) (by omega) ((57)) (by omega) (fun v43 p44 => ?_)
              show av_wp _ cd_130 165 [some (.inr (.inr (.inl (some (77))))), some (.inl v28)] [.inl v43] h34 _
              refine wq_k1 (p' := 168) (ck_130 _ _ rfl) rfl ⟨by omega, by omega⟩ (fun c45 => ?_) (fun c46 => ?_)
              · have c45 : v43 = (0) := c45
                refine av_wp_sqF ck_130 3 (pc' := 252) (lv' := [some (.inr (.inr (.inl (some (77))))), some (.inl v28)]) (st' := [.inl (59), .inl v28, .inr (.inr (.inl (some (77))))]) (h' := h34) rfl ?_
                refine wq_k2 (p' := 255) (ck_130 _ _ rfl) rfl ⟨by omega, by omega⟩ ⟨by omega, by omega⟩ (fun c47 => ?_) (fun c48 => ?_)
                · have c47 : v28 ≠ (59) := c47
                  refine av_wp_sqF ck_130 1 (pc' := 261) (lv' := [some (.inr (.inr (.inl (some (77))))), some (.inl v28)]) (st' := [.inl (3), .inr (.inr (.inl (some (77))))]) (h' := h34) rfl ?_
                  refine ns_p22 (p' := 264) rfl rfl N35 F36 (fun h49 N50 F51 => ?_)
                  refine av_wp_sqF ck_130 2 (pc' := 266) (lv' := [some (.inr (.inr (.inl (some (77))))), some (.inl v28)]) (st' := [.inr (.inr (.inl (some (77)))), .inr (.inr (.inl (some (77))))]) (h' := h49) rfl ?_
                  refine wq_gi (p' := 269) (ck_130 _ _ rfl) rfl (congrArg Prod.fst (ly_k N50.1 77 rfl)) rfl (ns_20 N50) ?_
                  refine av_wp_sqF ck_130 2 (pc' := 271) (lv' := [some (.inr (.inr (.inl (some (77))))), some (.inl v28)]) (st' := [.inl (y20_0 + (1)), .inr (.inr (.inl (some (77))))]) (h' := h49) rfl ?_
                  refine ns_p20 (p' := 274) rfl rfl N50 F51 (fun h52 N53 F54 => ?_)
                  refine av_wp_ret (v := none) (ck_130 _ _ rfl) rfl rfl ?_
                  have z56 : so (b (Int.toNat (y20_0))) ≠ 1 := fun z => by have z2 := so_1.mp z; omega
                  have z57 : so (b (Int.toNat (y20_0))) ≠ 2 := fun z => by have z2 := so_2.mp z; omega
                  have z55 : adv b lim t = (Int.toNat (y20_0), Int.toNat (y20_0) + 1, (so (b (Int.toNat (y20_0)))), t.2.2.2) := by simp only [adv, z24, if_pos (show Int.toNat (y20_0) < lim by omega), if_neg (show ¬ (so (b (Int.toNat (y20_0))) = 1 ∨ so (b (Int.toNat (y20_0))) = 2) by omega)]
                  refine hq h52 ?_ F54
                  rw [z55]
                  have k20 : ((Int.toNat (y20_0) + 1 : Nat) : Int) = (y20_0 + (1)) := by omega
                  have k21 : ((Int.toNat (y20_0) : Nat) : Int) = y20_0 := by omega
                  have z59 := so_r (b (Int.toNat (y20_0)))
                  have k22 : tokv (Int.toNat (y20_0), Int.toNat (y20_0) + 1, (so (b (Int.toNat (y20_0)))), t.2.2.2) = (3) := (show tokv (Int.toNat (y20_0), Int.toNat (y20_0) + 1, (so (b (Int.toNat (y20_0)))), t.2.2.2) = (3) by unfold tokv; dsimp only; rw [if_neg (by omega), if_neg z56, if_neg z57]; rw [if_neg (fun z => by have z2 := so_3.mp z; omega)])
                  have k23 : valv b (Int.toNat (y20_0), Int.toNat (y20_0) + 1, (so (b (Int.toNat (y20_0)))), t.2.2.2) = (0) := (if_neg z57)
                  have k24 : txtv b (Int.toNat (y20_0), Int.toNat (y20_0) + 1, (so (b (Int.toNat (y20_0)))), t.2.2.2) = (-1) := (if_neg z56)
                  show NS b lim x17 x18 (lim : Int) (((Int.toNat (y20_0) + 1 : Nat)) : Int) ((Int.toNat (y20_0) : Nat) : Int) (tokv (Int.toNat (y20_0), Int.toNat (y20_0) + 1, (so (b (Int.toNat (y20_0)))), t.2.2.2)) (valv b (Int.toNat (y20_0), Int.toNat (y20_0) + 1, (so (b (Int.toNat (y20_0)))), t.2.2.2)) (txtv b (Int.toNat (y20_0), Int.toNat (y20_0) + 1, (so (b (Int.toNat (y20_0)))), t.2.2.2)) x25 A h52
                  rw [k20, k21, k22, k23, k24]
                  exact N53
                · have c48 : v28 = (59) := c48
                  refine av_wp_sqF ck_130 2 (pc' := 261) (lv' := [some (.inr (.inr (.inl (some (77))))), some (.inl v28)]) (st' := [.inl (59), .inr (.inr (.inl (some (77))))]) (h' := h34) rfl ?_
                  refine ns_p22 (p' := 264) rfl rfl N35 F36 (fun h60 N61 F62 => ?_)
                  refine av_wp_sqF ck_130 2 (pc' := 266) (lv' := [some (.inr (.inr (.inl (some (77))))), some (.inl v28)]) (st' := [.inr (.inr (.inl (some (77)))), .inr (.inr (.inl (some (77))))]) (h' := h60) rfl ?_
                  refine wq_gi (p' := 269) (ck_130 _ _ rfl) rfl (congrArg Prod.fst (ly_k N61.1 77 rfl)) rfl (ns_20 N61) ?_
                  refine av_wp_sqF ck_130 2 (pc' := 271) (lv' := [some (.inr (.inr (.inl (some (77))))), some (.inl v28)]) (st' := [.inl (y20_0 + (1)), .inr (.inr (.inl (some (77))))]) (h' := h60) rfl ?_
                  refine ns_p20 (p' := 274) rfl rfl N61 F62 (fun h63 N64 F65 => ?_)
                  refine av_wp_ret (v := none) (ck_130 _ _ rfl) rfl rfl ?_
                  have z67 : so (b (Int.toNat (y20_0))) ≠ 1 := fun z => by have z2 := so_1.mp z; omega
                  have z68 : so (b (Int.toNat (y20_0))) ≠ 2 := fun z => by have z2 := so_2.mp z; omega
                  have z66 : adv b lim t = (Int.toNat (y20_0), Int.toNat (y20_0) + 1, (so (b (Int.toNat (y20_0)))), t.2.2.2) := by simp only [adv, z24, if_pos (show Int.toNat (y20_0) < lim by omega), if_neg (show ¬ (so (b (Int.toNat (y20_0))) = 1 ∨ so (b (Int.toNat (y20_0))) = 2) by omega)]
                  refine hq h63 ?_ F65
                  rw [z66]
                  have k20 : ((Int.toNat (y20_0) + 1 : Nat) : Int) = (y20_0 + (1)) := by omega
                  have k21 : ((Int.toNat (y20_0) : Nat) : Int) = y20_0 := by omega
                  have z70 := so_r (b (Int.toNat (y20_0)))
                  have k22 : tokv (Int.toNat (y20_0), Int.toNat (y20_0) + 1, (so (b (Int.toNat (y20_0)))), t.2.2.2) = (59) := (show tokv (Int.toNat (y20_0), Int.toNat (y20_0) + 1, (so (b (Int.toNat (y20_0)))), t.2.2.2) = (59) by unfold tokv; dsimp only; rw [if_neg (by omega), if_neg z67, if_neg z68]; rw [if_pos (so_3.mpr (by omega))])
                  have k23 : valv b (Int.toNat (y20_0), Int.toNat (y20_0) + 1, (so (b (Int.toNat (y20_0)))), t.2.2.2) = (0) := (if_neg z68)
                  have k24 : txtv b (Int.toNat (y20_0), Int.toNat (y20_0) + 1, (so (b (Int.toNat (y20_0)))), t.2.2.2) = (-1) := (if_neg z67)
                  show NS b lim x17 x18 (lim : Int) (((Int.toNat (y20_0) + 1 : Nat)) : Int) ((Int.toNat (y20_0) : Nat) : Int) (tokv (Int.toNat (y20_0), Int.toNat (y20_0) + 1, (so (b (Int.toNat (y20_0)))), t.2.2.2)) (valv b (Int.toNat (y20_0), Int.toNat (y20_0) + 1, (so (b (Int.toNat (y20_0)))), t.2.2.2)) (txtv b (Int.toNat (y20_0), Int.toNat (y20_0) + 1, (so (b (Int.toNat (y20_0)))), t.2.2.2)) x25 A h63
                  rw [k20, k21, k22, k23, k24]
                  exact N64
              · have c46 : v43 ≠ (0) := c46
                have L75 : ∀ (m74 : Nat) (y20_168 : Int) (y23_168 : Int) (h71 : av_H), edn b lim 2 (Int.toNat (y20_168)) = edn b lim 2 (Int.toNat (y20_0)) → y23_168 = dgc b (Int.toNat (y20_0)) (Int.toNat (y20_168 - y20_0)) → y20_0 ≤ y20_168 ∧ y20_168 ≤ (lim : Int) → 0 ≤ y23_168 ∧ y23_168 ≤ 10000000 → (0 ≤ y20_168 ∧ y20_168 ≤ 900) → NS b lim (x17) (x18) ((lim : Int)) (y20_168) (y20_0) (x22) (y23_168) ((-1)) (x25) A h71 → FD g h71 → (901 - y20_168).toNat = m74 → av_wp none cd_130 168 [some (.inr (.inr (.inl (some (77))))), some (.inl v28)] [] h71 Q := by
                  intro m74
                  induction m74 using Nat.strongRecOn with
                  | _ m74 I76 =>
                    intro y20_168 y23_168 h71 g78 g79 g80 g81 g82 N72 F73 e77
                    refine av_wp_sqF ck_130 1 (pc' := 169) (lv' := [some (.inr (.inr (.inl (some (77))))), some (.inl v28)]) (st' := [.inr (.inr (.inl (some (77))))]) (h' := h71) rfl ?_
                    refine wq_cv (p' := 172) (av_qc (.invokevirtual 157) 129 0 0 8) 1 cd_129 [] (77) 8 [some (.inr (.inr (.inl (some (77)))))] (ck_130 _ _ rfl) rfl rfl pp_129 rfl rfl rfl (congrArg Prod.fst (ly_k N72.1 77 rfl)) rfl rfl rfl rfl ?_
                    refine ct_129 N72 F73 (by omega) (by omega) (fun v83 p84 => ?_)
                    have g85 := ns_bv N72 (Int.toNat (y20_168))
                    show av_wp _ cd_130 172 [some (.inr (.inr (.inl (some (77))))), some (.inl v28)] [.inl v83] h71 _
                    refine av_wp_sqF ck_130 2 (pc' := 176) (lv' := [some (.inr (.inr (.inl (some (77))))), some (.inl v28)]) (st' := [.inl (57), .inl (48), .inl v83]) (h' := h71) rfl ?_
                    refine wq_cs (p' := 179) (av_qc (.invokestatic 176) 127 3 2 8) 3 cd_127 [.inl v83, .inl (48), .inl (57)] [.inl (57), .inl (48), .inl v83] [some (.inl v83), some (.inl (48)), some (.inl (57))] (ck_130 _ _ rfl) rfl rfl pp_127 (fun _ => rfl) rfl rfl ?_
                    refine ct_127 (g := h) (v83) (by omega) ((48)) (by omega) ((57)) (by omega) (fun v86 p87 => ?_)
                    show av_wp _ cd_130 179 [some (.inr (.inr (.inl (some (77))))), some (.inl v28)] [.inl v86] h71 _
                    refine wq_k1 (p' := 182) (ck_130 _ _ rfl) rfl ⟨by omega, by omega⟩ (fun c88 => ?_) (fun c89 => ?_)
                    · have c88 : v86 = (0) := c88
                      refine av_wp_sqF ck_130 2 (pc' := 225) (lv' := [some (.inr (.inr (.inl (some (77))))), some (.inl v28)]) (st' := [.inr (.inr (.inl (some (77)))), .inr (.inr (.inl (some (77))))]) (h' := h71) rfl ?_
                      refine wq_gi (p' := 228) (ck_130 _ _ rfl) rfl (congrArg Prod.fst (ly_k N72.1 77 rfl)) rfl (ns_20 N72) ?_
                      refine av_wp_sqF ck_130 1 (pc' := 229) (lv' := [some (.inr (.inr (.inl (some (77))))), some (.inl v28)]) (st' := [.inr (.inr (.inl (some (77)))), .inl y20_168, .inr (.inr (.inl (some (77))))]) (h' := h71) rfl ?_
                      refine wq_gi (p' := 232) (ck_130 _ _ rfl) rfl (congrArg Prod.fst (ly_k N72.1 77 rfl)) rfl (ns_21 N72) ?_
                      refine av_wp_sqF ck_130 2 (pc' := 234) (lv' := [some (.inr (.inr (.inl (some (77))))), some (.inl v28)]) (st' := [.inl (4), .inl (y20_168 - y20_0), .inr (.inr (.inl (some (77))))]) (h' := h71) rfl ?_
                      refine wq_k2 (p' := 237) (ck_130 _ _ rfl) rfl ⟨by omega, by omega⟩ ⟨by omega, by omega⟩ (fun c90 => ?_) (fun c91 => ?_)
                      · have c90 : (4) < (y20_168 - y20_0) := c90
                        refine av_wp_sqF ck_130 1 (pc' := 242) (lv' := [some (.inr (.inr (.inl (some (77))))), some (.inl v28)]) (st' := [.inl (3), .inr (.inr (.inl (some (77))))]) (h' := h71) rfl ?_
                        refine ns_p22 (p' := 245) rfl rfl N72 F73 (fun h92 N93 F94 => ?_)
                        refine av_wp_sqF ck_130 1 (pc' := 274) (lv' := [some (.inr (.inr (.inl (some (77))))), some (.inl v28)]) (st' := []) (h' := h92) rfl ?_
                        refine av_wp_ret (v := none) (ck_130 _ _ rfl) rfl rfl ?_
                        have z96 : so (b (Int.toNat (y20_0))) = 2 := so_2.mpr (by omega)
                        have z97 : edn b lim 2 (Int.toNat (y20_0) + 1) = Int.toNat (y20_168) := by rw [← edn_go (by omega) z96, ← g78]; exact edn_end (fun z => by have z1 := z.1; have z2 := so_2.mp z.2; omega)
                        have z95 : adv b lim t = (Int.toNat (y20_0), Int.toNat (y20_168), (2 : Int), t.2.2.2) := by simp only [adv, z24, if_pos (show Int.toNat (y20_0) < lim by omega), z96, or_true, true_or, if_true, z97]
                        refine hq h92 ?_ F94
                        rw [z95]
                        have k20 : ((Int.toNat (y20_168) : Nat) : Int) = y20_168 := by omega
                        have k21 : ((Int.toNat (y20_0) : Nat) : Int) = y20_0 := by omega
                        have k22 : tokv (Int.toNat (y20_0), Int.toNat (y20_168), (2 : Int), t.2.2.2) = (3) := (show (if ((Int.toNat (y20_168) : Nat) : Int) - ((Int.toNat (y20_0) : Nat) : Int) ≤ 4 then (2 : Int) else 3) = (3) by split <;> omega)
                        have k23 : valv b (Int.toNat (y20_0), Int.toNat (y20_168), (2 : Int), t.2.2.2) = y23_168 := (show dgc b (Int.toNat (y20_0)) (Int.toNat (y20_168) - Int.toNat (y20_0)) = y23_168 by rw [g79]; congr 1; omega)
                        have k24 : txtv b (Int.toNat (y20_0), Int.toNat (y20_168), (2 : Int), t.2.2.2) = (-1) := rfl
                        show NS b lim x17 x18 (lim : Int) (((Int.toNat (y20_168) : Nat)) : Int) ((Int.toNat (y20_0) : Nat) : Int) (tokv (Int.toNat (y20_0), Int.toNat (y20_168), (2 : Int), t.2.2.2)) (valv b (Int.toNat (y20_0), Int.toNat (y20_168), (2 : Int), t.2.2.2)) (txtv b (Int.toNat (y20_0), Int.toNat (y20_168), (2 : Int), t.2.2.2)) x25 A h92
                        rw [k20, k21, k22, k23, k24]
                        exact N93
                      · have c91 : (y20_168 - y20_0) ≤ (4) := c91
                        refine av_wp_sqF ck_130 2 (pc' := 242) (lv' := [some (.inr (.inr (.inl (some (77))))), some (.inl v28)]) (st' := [.inl (2), .inr (.inr (.inl (some (77))))]) (h' := h71) rfl ?_
                        refine ns_p22 (p' := 245) rfl rfl N72 F73 (fun h98 N99 F100 => ?_)
                        refine av_wp_sqF ck_130 1 (pc' := 274) (lv' := [some (.inr (.inr (.inl (some (77))))), some (.inl v28)]) (st' := []) (h' := h98) rfl ?_
                        refine av_wp_ret (v := none) (ck_130 _ _ rfl) rfl rfl ?_
                        have z102 : so (b (Int.toNat (y20_0))) = 2 := so_2.mpr (by omega)
                        have z103 : edn b lim 2 (Int.toNat (y20_0) + 1) = Int.toNat (y20_168) := by rw [← edn_go (by omega) z102, ← g78]; exact edn_end (fun z => by have z1 := z.1; have z2 := so_2.mp z.2; omega)
                        have z101 : adv b lim t = (Int.toNat (y20_0), Int.toNat (y20_168), (2 : Int), t.2.2.2) := by simp only [adv, z24, if_pos (show Int.toNat (y20_0) < lim by omega), z102, or_true, true_or, if_true, z103]
                        refine hq h98 ?_ F100
                        rw [z101]
                        have k20 : ((Int.toNat (y20_168) : Nat) : Int) = y20_168 := by omega
                        have k21 : ((Int.toNat (y20_0) : Nat) : Int) = y20_0 := by omega
                        have k22 : tokv (Int.toNat (y20_0), Int.toNat (y20_168), (2 : Int), t.2.2.2) = (2) := (show (if ((Int.toNat (y20_168) : Nat) : Int) - ((Int.toNat (y20_0) : Nat) : Int) ≤ 4 then (2 : Int) else 3) = (2) by split <;> omega)
                        have k23 : valv b (Int.toNat (y20_0), Int.toNat (y20_168), (2 : Int), t.2.2.2) = y23_168 := (show dgc b (Int.toNat (y20_0)) (Int.toNat (y20_168) - Int.toNat (y20_0)) = y23_168 by rw [g79]; congr 1; omega)
                        have k24 : txtv b (Int.toNat (y20_0), Int.toNat (y20_168), (2 : Int), t.2.2.2) = (-1) := rfl
                        show NS b lim x17 x18 (lim : Int) (((Int.toNat (y20_168) : Nat)) : Int) ((Int.toNat (y20_0) : Nat) : Int) (tokv (Int.toNat (y20_0), Int.toNat (y20_168), (2 : Int), t.2.2.2)) (valv b (Int.toNat (y20_0), Int.toNat (y20_168), (2 : Int), t.2.2.2)) (txtv b (Int.toNat (y20_0), Int.toNat (y20_168), (2 : Int), t.2.2.2)) x25 A h98
                        rw [k20, k21, k22, k23, k24]
                        exact N99
                    · have c89 : v86 ≠ (0) := c89
                      refine av_wp_sqF ck_130 1 (pc' := 183) (lv' := [some (.inr (.inr (.inl (some (77))))), some (.inl v28)]) (st' := [.inr (.inr (.inl (some (77))))]) (h' := h71) rfl ?_
                      refine wq_gi (p' := 186) (ck_130 _ _ rfl) rfl (congrArg Prod.fst (ly_k N72.1 77 rfl)) rfl (ns_23 N72) ?_
                      refine av_wp_sqF ck_130 1 (pc' := 188) (lv' := [some (.inr (.inr (.inl (some (77))))), some (.inl v28)]) (st' := [.inl (1000000), .inl y23_168]) (h' := h71) rfl ?_
                      refine wq_k2 (p' := 191) (ck_130 _ _ rfl) rfl ⟨by omega, by omega⟩ ⟨by omega, by omega⟩ (fun c104 => ?_) (fun c105 => ?_)
                      · have c104 : (1000000) ≤ y23_168 := c104
                        refine av_wp_sqF ck_130 2 (pc' := 212) (lv' := [some (.inr (.inr (.inl (some (77))))), some (.inl v28)]) (st' := [.inr (.inr (.inl (some (77)))), .inr (.inr (.inl (some (77))))]) (h' := h71) rfl ?_
                        refine wq_gi (p' := 215) (ck_130 _ _ rfl) rfl (congrArg Prod.fst (ly_k N72.1 77 rfl)) rfl (ns_20 N72) ?_
                        refine av_wp_sqF ck_130 2 (pc' := 217) (lv' := [some (.inr (.inr (.inl (some (77))))), some (.inl v28)]) (st' := [.inl (y20_168 + (1)), .inr (.inr (.inl (some (77))))]) (h' := h71) rfl ?_
                        refine ns_p20 (p' := 220) rfl rfl N72 F73 (fun h106 N107 F108 => ?_)
                        refine av_wp_sqF ck_130 1 (pc' := 168) (lv' := [some (.inr (.inr (.inl (some (77))))), some (.inl v28)]) (st' := []) (h' := h106) rfl ?_
                        exact I76 _ (by omega) ((y20_168 + (1))) (y23_168) h106 ((show edn b lim 2 (Int.toNat ((y20_168 + (1)))) = edn b lim 2 (Int.toNat (y20_168)) from ((edn_go (a := Int.toNat (y20_168)) (by omega) (so_2.mpr (by omega))).trans (congrArg _ (by omega))).symm).trans g78) (by rw [show (Int.toNat ((y20_168 + (1)) - y20_0)) = (Int.toNat (y20_168 - y20_0)) + 1 by omega]; show _ = (if dgc b (Int.toNat (y20_0)) (Int.toNat (y20_168 - y20_0)) < 1000000 then 10 * dgc b (Int.toNat (y20_0)) (Int.toNat (y20_168 - y20_0)) + b (Int.toNat (y20_0) + (Int.toNat (y20_168 - y20_0))) - 48 else dgc b (Int.toNat (y20_0)) (Int.toNat (y20_168 - y20_0))); rw [← g79, if_neg (by omega)]) (by omega) (by omega) (by omega) N107 F108 rfl
                      · have c105 : y23_168 < (1000000) := c105
                        refine av_wp_sqF ck_130 3 (pc' := 195) (lv' := [some (.inr (.inr (.inl (some (77))))), some (.inl v28)]) (st' := [.inr (.inr (.inl (some (77)))), .inl (10), .inr (.inr (.inl (some (77))))]) (h' := h71) rfl ?_
                        refine wq_gi (p' := 198) (ck_130 _ _ rfl) rfl (congrArg Prod.fst (ly_k N72.1 77 rfl)) rfl (ns_23 N72) ?_
                        refine av_wp_sqF ck_130 2 (pc' := 200) (lv' := [some (.inr (.inr (.inl (some (77))))), some (.inl v28)]) (st' := [.inr (.inr (.inl (some (77)))), .inl ((10) * y23_168), .inr (.inr (.inl (some (77))))]) (h' := h71) rfl ?_
                        refine wq_cv (p' := 203) (av_qc (.invokevirtual 157) 129 0 0 8) 1 cd_129 [] (77) 8 [some (.inr (.inr (.inl (some (77)))))] (ck_130 _ _ rfl) rfl rfl pp_129 rfl rfl rfl (congrArg Prod.fst (ly_k N72.1 77 rfl)) rfl rfl rfl rfl ?_
                        refine ct_129 N72 F73 (by omega) (by omega) (fun v109 p110 => ?_)
                        have g111 := ns_bv N72 (Int.toNat (y20_168))
                        show av_wp _ cd_130 203 [some (.inr (.inr (.inl (some (77))))), some (.inl v28)] [.inl v109, .inl ((10) * y23_168), .inr (.inr (.inl (some (77))))] h71 _
                        refine av_wp_sqF ck_130 3 (pc' := 207) (lv' := [some (.inr (.inr (.inl (some (77))))), some (.inl v28)]) (st' := [.inl ((((10) * y23_168) + v109) - (48)), .inr (.inr (.inl (some (77))))]) (h' := h71) rfl ?_
                        refine ns_p23 (p' := 210) rfl rfl N72 F73 (fun h112 N113 F114 => ?_)
                        refine av_wp_sqF ck_130 2 (pc' := 212) (lv' := [some (.inr (.inr (.inl (some (77))))), some (.inl v28)]) (st' := [.inr (.inr (.inl (some (77)))), .inr (.inr (.inl (some (77))))]) (h' := h112) rfl ?_
                        refine wq_gi (p' := 215) (ck_130 _ _ rfl) rfl (congrArg Prod.fst (ly_k N113.1 77 rfl)) rfl (ns_20 N113) ?_
                        refine av_wp_sqF ck_130 2 (pc' := 217) (lv' := [some (.inr (.inr (.inl (some (77))))), some (.inl v28)]) (st' := [.inl (y20_168 + (1)), .inr (.inr (.inl (some (77))))]) (h' := h112) rfl ?_
                        refine ns_p20 (p' := 220) rfl rfl N113 F114 (fun h115 N116 F117 => ?_)
                        refine av_wp_sqF ck_130 1 (pc' := 168) (lv' := [some (.inr (.inr (.inl (some (77))))), some (.inl v28)]) (st' := []) (h' := h115) rfl ?_
                        exact I76 _ (by omega) ((y20_168 + (1))) (((((10) * y23_168) + v109) - (48))) h115 ((show edn b lim 2 (Int.toNat ((y20_168 + (1)))) = edn b lim 2 (Int.toNat (y20_168)) from ((edn_go (a := Int.toNat (y20_168)) (by omega) (so_2.mpr (by omega))).trans (congrArg _ (by omega))).symm).trans g78) (by rw [show (Int.toNat ((y20_168 + (1)) - y20_0)) = (Int.toNat (y20_168 - y20_0)) + 1 by omega]; show _ = (if dgc b (Int.toNat (y20_0)) (Int.toNat (y20_168 - y20_0)) < 1000000 then 10 * dgc b (Int.toNat (y20_0)) (Int.toNat (y20_168 - y20_0)) + b (Int.toNat (y20_0) + (Int.toNat (y20_168 - y20_0))) - 48 else dgc b (Int.toNat (y20_0)) (Int.toNat (y20_168 - y20_0))); rw [← g79, if_pos (by omega), show (Int.toNat (y20_0) + (Int.toNat (y20_168 - y20_0))) = (Int.toNat (y20_168)) by omega]; omega) (by omega) (by omega) (by omega) N116 F117 rfl
                exact L75 _ (y20_0) ((0)) h34 rfl (by rw [show (Int.toNat (y20_0 - y20_0)) = 0 by omega]; rfl) (by omega) (by omega) (by omega) N35 F36 rfl
            · have c42 : v39 ≠ (0) := c42
              refine av_wp_sqF ck_130 2 (pc' := 81) (lv' := [some (.inr (.inr (.inl (some (77))))), some (.inl v28)]) (st' := [.inl (1), .inr (.inr (.inl (some (77))))]) (h' := h34) rfl ?_
              refine ns_p22 (p' := 84) rfl rfl N35 F36 (fun h118 N119 F120 => ?_)
              refine av_wp_sqF ck_130 2 (pc' := 86) (lv' := [some (.inr (.inr (.inl (some (77))))), some (.inl v28)]) (st' := [.inr (.inl (0)), .inr (.inr (.inl (some (77))))]) (h' := h118) rfl ?_
              refine ns_p24 (p' := 89) rfl rfl N119 F120 (fun h121 N122 F123 => ?_)
              have L128 : ∀ (m127 : Nat) (y20_89 : Int) (y24_89 : Int) (h124 : av_H), edn b lim 1 (Int.toNat (y20_89)) = edn b lim 1 (Int.toNat (y20_0)) → y24_89 = txt b (Int.toNat (y20_0)) (Int.toNat (y20_89 - y20_0)) → y20_0 ≤ y20_89 ∧ y20_89 ≤ (lim : Int) → (0 ≤ y20_89 ∧ y20_89 ≤ 900) → NS b lim (x17) (x18) ((lim : Int)) (y20_89) (y20_0) ((1)) ((0)) (y24_89) (x25) A h124 → FD g h124 → (901 - y20_89).toNat = m127 → av_wp none cd_130 89 [some (.inr (.inr (.inl (some (77))))), some (.inl v28)] [] h124 Q := by
                intro m127
                induction m127 using Nat.strongRecOn with
                | _ m127 I129 =>
                  intro y20_89 y24_89 h124 g131 g132 g133 g134 N125 F126 e130
                  refine av_wp_sqF ck_130 1 (pc' := 90) (lv' := [some (.inr (.inr (.inl (some (77))))), some (.inl v28)]) (st' := [.inr (.inr (.inl (some (77))))]) (h' := h124) rfl ?_
                  refine wq_cv (p' := 93) (av_qc (.invokevirtual 157) 129 0 0 8) 1 cd_129 [] (77) 8 [some (.inr (.inr (.inl (some (77)))))] (ck_130 _ _ rfl) rfl rfl pp_129 rfl rfl rfl (congrArg Prod.fst (ly_k N125.1 77 rfl)) rfl rfl rfl rfl ?_
                  refine ct_129 N125 F126 (by omega) (by omega) (fun v135 p136 => ?_)
                  have g137 := ns_bv N125 (Int.toNat (y20_89))
                  show av_wp _ cd_130 93 [some (.inr (.inr (.inl (some (77))))), some (.inl v28)] [.inl v135] h124 _
                  refine av_wp_sqF ck_130 2 (pc' := 97) (lv' := [some (.inr (.inr (.inl (some (77))))), some (.inl v28)]) (st' := [.inl (122), .inl (97), .inl v135]) (h' := h124) rfl ?_
                  refine wq_cs (p' := 100) (av_qc (.invokestatic 176) 127 3 2 8) 3 cd_127 [.inl v135, .inl (97), .inl (122)] [.inl (122), .inl (97), .inl v135] [some (.inl v135), some (.inl (97)), some (.inl (122))] (ck_130 _ _ rfl) rfl rfl pp_127 (fun _ => rfl) rfl rfl ?_
                  refine ct_127 (g := h) (v135) (by omega) ((97)) (by omega) ((122)) (by omega) (fun v138 p139 => ?_)
                  show av_wp _ cd_130 100 [some (.inr (.inr (.inl (some (77))))), some (.inl v28)] [.inl v138] h124 _
                  refine wq_k1 (p' := 103) (ck_130 _ _ rfl) rfl ⟨by omega, by omega⟩ (fun c140 => ?_) (fun c141 => ?_)
                  · have c140 : v138 = (0) := c140
                    refine av_wp_ret (v := none) (ck_130 _ _ rfl) rfl rfl ?_
                    have z143 : so (b (Int.toNat (y20_0))) = 1 := so_1.mpr (by omega)
                    have z144 : edn b lim 1 (Int.toNat (y20_0) + 1) = Int.toNat (y20_89) := by rw [← edn_go (by omega) z143, ← g131]; exact edn_end (fun z => by have z1 := z.1; have z2 := so_1.mp z.2; omega)
                    have z142 : adv b lim t = (Int.toNat (y20_0), Int.toNat (y20_89), (1 : Int), t.2.2.2) := by simp only [adv, z24, if_pos (show Int.toNat (y20_0) < lim by omega), z143, or_true, true_or, if_true, z144]
                    refine hq h124 ?_ F126
                    rw [z142]
                    have k20 : ((Int.toNat (y20_89) : Nat) : Int) = y20_89 := by omega
                    have k21 : ((Int.toNat (y20_0) : Nat) : Int) = y20_0 := by omega
                    have k22 : tokv (Int.toNat (y20_0), Int.toNat (y20_89), (1 : Int), t.2.2.2) = (1) := rfl
                    have k23 : valv b (Int.toNat (y20_0), Int.toNat (y20_89), (1 : Int), t.2.2.2) = (0) := rfl
                    have k24 : txtv b (Int.toNat (y20_0), Int.toNat (y20_89), (1 : Int), t.2.2.2) = y24_89 := (show txt b (Int.toNat (y20_0)) (Int.toNat (y20_89) - Int.toNat (y20_0)) = y24_89 by rw [g132]; congr 1; omega)
                    show NS b lim x17 x18 (lim : Int) (((Int.toNat (y20_89) : Nat)) : Int) ((Int.toNat (y20_0) : Nat) : Int) (tokv (Int.toNat (y20_0), Int.toNat (y20_89), (1 : Int), t.2.2.2)) (valv b (Int.toNat (y20_0), Int.toNat (y20_89), (1 : Int), t.2.2.2)) (txtv b (Int.toNat (y20_0), Int.toNat (y20_89), (1 : Int), t.2.2.2)) x25 A h124
                    rw [k20, k21, k22, k23, k24]
                    exact N125
                  · have c141 : v138 ≠ (0) := c141
                    refine av_wp_sqF ck_130 2 (pc' := 105) (lv' := [some (.inr (.inr (.inl (some (77))))), some (.inl v28)]) (st' := [.inr (.inr (.inl (some (77)))), .inr (.inr (.inl (some (77))))]) (h' := h124) rfl ?_
                    refine wq_gi (p' := 108) (ck_130 _ _ rfl) rfl (congrArg Prod.fst (ly_k N125.1 77 rfl)) rfl (ns_20 N125) ?_
                    refine av_wp_sqF ck_130 1 (pc' := 109) (lv' := [some (.inr (.inr (.inl (some (77))))), some (.inl v28)]) (st' := [.inr (.inr (.inl (some (77)))), .inl y20_89, .inr (.inr (.inl (some (77))))]) (h' := h124) rfl ?_
                    refine wq_gi (p' := 112) (ck_130 _ _ rfl) rfl (congrArg Prod.fst (ly_k N125.1 77 rfl)) rfl (ns_21 N125) ?_
                    refine av_wp_sqF ck_130 2 (pc' := 115) (lv' := [some (.inr (.inr (.inl (some (77))))), some (.inl v28)]) (st' := [.inl (8), .inl (y20_89 - y20_0), .inr (.inr (.inl (some (77))))]) (h' := h124) rfl ?_
                    refine wq_k2 (p' := 118) (ck_130 _ _ rfl) rfl ⟨by omega, by omega⟩ ⟨by omega, by omega⟩ (fun c145 => ?_) (fun c146 => ?_)
                    · have c145 : (8) ≤ (y20_89 - y20_0) := c145
                      refine av_wp_sqF ck_130 1 (pc' := 141) (lv' := [some (.inr (.inr (.inl (some (77))))), some (.inl v28)]) (st' := [.inr (.inl (-1)), .inr (.inr (.inl (some (77))))]) (h' := h124) rfl ?_
                      refine ns_p24 (p' := 144) rfl rfl N125 F126 (fun h147 N148 F149 => ?_)
                      refine av_wp_sqF ck_130 2 (pc' := 146) (lv' := [some (.inr (.inr (.inl (some (77))))), some (.inl v28)]) (st' := [.inr (.inr (.inl (some (77)))), .inr (.inr (.inl (some (77))))]) (h' := h147) rfl ?_
                      refine wq_gi (p' := 149) (ck_130 _ _ rfl) rfl (congrArg Prod.fst (ly_k N148.1 77 rfl)) rfl (ns_20 N148) ?_
                      refine av_wp_sqF ck_130 2 (pc' := 151) (lv' := [some (.inr (.inr (.inl (some (77))))), some (.inl v28)]) (st' := [.inl (y20_89 + (1)), .inr (.inr (.inl (some (77))))]) (h' := h147) rfl ?_
                      refine ns_p20 (p' := 154) rfl rfl N148 F149 (fun h150 N151 F152 => ?_)
                      refine av_wp_sqF ck_130 1 (pc' := 89) (lv' := [some (.inr (.inr (.inl (some (77))))), some (.inl v28)]) (st' := []) (h' := h150) rfl ?_
                      exact I129 _ (by omega) ((y20_89 + (1))) ((-1)) h150 ((show edn b lim 1 (Int.toNat ((y20_89 + (1)))) = edn b lim 1 (Int.toNat (y20_89)) from ((edn_go (a := Int.toNat (y20_89)) (by omega) (so_1.mpr (by omega))).trans (congrArg _ (by omega))).symm).trans g131) (by rw [show (Int.toNat ((y20_89 + (1)) - y20_0)) = (Int.toNat (y20_89 - y20_0)) + 1 by omega]; show _ = (if (Int.toNat (y20_89 - y20_0)) < 8 then txt b (Int.toNat (y20_0)) (Int.toNat (y20_89 - y20_0)) * 27 + (b (Int.toNat (y20_0) + (Int.toNat (y20_89 - y20_0))) - 96) else -1); rw [if_neg (by omega)]) (by omega) (by omega) N151 F152 rfl
                    · have c146 : (y20_89 - y20_0) < (8) := c146
                      refine av_wp_sqF ck_130 1 (pc' := 119) (lv' := [some (.inr (.inr (.inl (some (77))))), some (.inl v28)]) (st' := [.inr (.inr (.inl (some (77)))), .inr (.inr (.inl (some (77))))]) (h' := h124) rfl ?_
                      refine wq_gl (p' := 122) (ck_130 _ _ rfl) rfl (congrArg Prod.fst (ly_k N125.1 77 rfl)) rfl (ns_24 N125) ?_
                      refine av_wp_sqF ck_130 3 (pc' := 127) (lv' := [some (.inr (.inr (.inl (some (77))))), some (.inl v28)]) (st' := [.inr (.inr (.inl (some (77)))), .inr (.inl (y24_89 * (27))), .inr (.inr (.inl (some (77))))]) (h' := h124) rfl ?_
                      refine wq_cv (p' := 130) (av_qc (.invokevirtual 157) 129 0 0 8) 1 cd_129 [] (77) 8 [some (.inr (.inr (.inl (some (77)))))] (ck_130 _ _ rfl) rfl rfl pp_129 rfl rfl rfl (congrArg Prod.fst (ly_k N125.1 77 rfl)) rfl rfl rfl rfl ?_
                      refine ct_129 N125 F126 (by omega) (by omega) (fun v153 p154 => ?_)
                      have g155 := ns_bv N125 (Int.toNat (y20_89))
                      show av_wp _ cd_130 130 [some (.inr (.inr (.inl (some (77))))), some (.inl v28)] [.inl v153, .inr (.inl (y24_89 * (27))), .inr (.inr (.inl (some (77))))] h124 _
                      refine av_wp_sqF ck_130 5 (pc' := 141) (lv' := [some (.inr (.inr (.inl (some (77))))), some (.inl v28)]) (st' := [.inr (.inl ((y24_89 * (27)) + (av_w (v153 - (96))))), .inr (.inr (.inl (some (77))))]) (h' := h124) rfl ?_
                      refine ns_p24 (p' := 144) rfl rfl N125 F126 (fun h156 N157 F158 => ?_)
                      refine av_wp_sqF ck_130 2 (pc' := 146) (lv' := [some (.inr (.inr (.inl (some (77))))), some (.inl v28)]) (st' := [.inr (.inr (.inl (some (77)))), .inr (.inr (.inl (some (77))))]) (h' := h156) rfl ?_
                      refine wq_gi (p' := 149) (ck_130 _ _ rfl) rfl (congrArg Prod.fst (ly_k N157.1 77 rfl)) rfl (ns_20 N157) ?_
                      refine av_wp_sqF ck_130 2 (pc' := 151) (lv' := [some (.inr (.inr (.inl (some (77))))), some (.inl v28)]) (st' := [.inl (y20_89 + (1)), .inr (.inr (.inl (some (77))))]) (h' := h156) rfl ?_
                      refine ns_p20 (p' := 154) rfl rfl N157 F158 (fun h159 N160 F161 => ?_)
                      refine av_wp_sqF ck_130 1 (pc' := 89) (lv' := [some (.inr (.inr (.inl (some (77))))), some (.inl v28)]) (st' := []) (h' := h159) rfl ?_
                      exact I129 _ (by omega) ((y20_89 + (1))) (((y24_89 * (27)) + (av_w (v153 - (96))))) h159 ((show edn b lim 1 (Int.toNat ((y20_89 + (1)))) = edn b lim 1 (Int.toNat (y20_89)) from ((edn_go (a := Int.toNat (y20_89)) (by omega) (so_1.mpr (by omega))).trans (congrArg _ (by omega))).symm).trans g131) (by rw [show (Int.toNat ((y20_89 + (1)) - y20_0)) = (Int.toNat (y20_89 - y20_0)) + 1 by omega]; show _ = (if (Int.toNat (y20_89 - y20_0)) < 8 then txt b (Int.toNat (y20_0)) (Int.toNat (y20_89 - y20_0)) * 27 + (b (Int.toNat (y20_0) + (Int.toNat (y20_89 - y20_0))) - 96) else -1); rw [if_pos (by omega), ← g132, show (Int.toNat (y20_0) + (Int.toNat (y20_89 - y20_0))) = (Int.toNat (y20_89)) by omega, av_rgw ⟨by omega, by omega⟩]; omega) (by omega) (by omega) N160 F161 rfl
              exact L128 _ (y20_0) ((0)) h121 rfl (by rw [show (Int.toNat (y20_0 - y20_0)) = 0 by omega]; rfl) (by omega) (by omega) N122 F123 rfl
          · have c38 : v28 < (0) := c38
            refine av_wp_sqF ck_130 2 (pc' := 62) (lv' := [some (.inr (.inr (.inl (some (77))))), some (.inl v28)]) (st' := [.inl (0), .inr (.inr (.inl (some (77))))]) (h' := h34) rfl ?_
            refine ns_p22 (p' := 65) rfl rfl N35 F36 (fun h162 N163 F164 => ?_)
            refine av_wp_sqF ck_130 1 (pc' := 274) (lv' := [some (.inr (.inr (.inl (some (77))))), some (.inl v28)]) (st' := []) (h' := h162) rfl ?_
            refine av_wp_ret (v := none) (ck_130 _ _ rfl) rfl rfl ?_
            have z165 : adv b lim t = (Int.toNat (y20_0), Int.toNat (y20_0), (0 : Int), t.2.2.2) := by simp only [adv, z24, if_neg (show ¬ Int.toNat (y20_0) < lim by omega)]
            refine hq h162 ?_ F164
            rw [z165]
            have k20 : ((Int.toNat (y20_0) : Nat) : Int) = y20_0 := by omega
            have k21 : ((Int.toNat (y20_0) : Nat) : Int) = y20_0 := by omega
            have k22 : tokv (Int.toNat (y20_0), Int.toNat (y20_0), (0 : Int), t.2.2.2) = (0) := rfl
            have k23 : valv b (Int.toNat (y20_0), Int.toNat (y20_0), (0 : Int), t.2.2.2) = (0) := rfl
            have k24 : txtv b (Int.toNat (y20_0), Int.toNat (y20_0), (0 : Int), t.2.2.2) = (-1) := rfl
            show NS b lim x17 x18 (lim : Int) (((Int.toNat (y20_0) : Nat)) : Int) ((Int.toNat (y20_0) : Nat) : Int) (tokv (Int.toNat (y20_0), Int.toNat (y20_0), (0 : Int), t.2.2.2)) (valv b (Int.toNat (y20_0), Int.toNat (y20_0), (0 : Int), t.2.2.2)) (txtv b (Int.toNat (y20_0), Int.toNat (y20_0), (0 : Int), t.2.2.2)) x25 A h162
            rw [k20, k22, k23, k24]
            exact N163
        · have c23 : v19 = (10) := c23
          refine av_wp_sqF ck_130 2 (pc' := 20) (lv' := [some (.inr (.inr (.inl (some (77))))), none]) (st' := [.inr (.inr (.inl (some (77)))), .inr (.inr (.inl (some (77))))]) (h' := h1) rfl ?_
          refine wq_gi (p' := 23) (ck_130 _ _ rfl) rfl (congrArg Prod.fst (ly_k N2.1 77 rfl)) rfl (ns_20 N2) ?_
          refine av_wp_sqF ck_130 2 (pc' := 25) (lv' := [some (.inr (.inr (.inl (some (77))))), none]) (st' := [.inl (y20_0 + (1)), .inr (.inr (.inl (some (77))))]) (h' := h1) rfl ?_
          refine ns_p20 (p' := 28) rfl rfl N2 F3 (fun h166 N167 F168 => ?_)
          refine av_wp_sqF ck_130 1 (pc' := 0) (lv' := [some (.inr (.inr (.inl (some (77))))), none]) (st' := []) (h' := h166) rfl ?_
          exact I6 _ (by omega) ((y20_0 + (1))) h166 ((show edn b lim 4 (Int.toNat ((y20_0 + (1)))) = edn b lim 4 (Int.toNat (y20_0)) from ((edn_go (a := Int.toNat (y20_0)) (by omega) (so_4.mpr (by omega))).trans (congrArg _ (by omega))).symm).trans g8) (by omega) (by omega) N167 F168 rfl
  exact L5 _ ((t.2.1 : Int)) h rfl (by omega) (by omega) N F rfl
end
