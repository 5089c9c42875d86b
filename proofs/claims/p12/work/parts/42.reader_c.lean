set_option maxRecDepth 100000 in
set_option maxHeartbeats 4000000 in
theorem ct_36 {g h : av_H} {b r d : Nat → Int} {lim : Nat} {t : TT} (C : CT b lim t r d h) (F : FT g h) {ah : Int} (ha : hF g 22 2 = ah) (qa : 0 ≤ ah ∧ ah ≤ 16) (x : Int) (k : Nat) (ex : x = (k : Int)) (hk : k ≤ 11) {Q : Option av_V → av_H → Prop} (hq : ∀ h', CT b lim (rsy b lim k ah t r).1 (rsy b lim k ah t r).2 d h' → FT g h' → Q none h') : av_wp none cd_36 0 [some (.inr (.inr (.inl (some (22))))), some (.inl x), none, none, none] [] h Q := by
  have g0 := ct_wf C
  subst ex
  refine av_wp_seq 5 (pc' := 6) (lv' := [some (.inr (.inr (.inl (some (22))))), some (.inl (k : Int)), some (.inl ((k : Int) * (21))), none, none]) (st' := [.inr (.inr (.inl (some (22))))]) (h' := h) rfl ?_
  refine wq_gr (p' := 9) rfl rfl (congrArg Prod.fst (ly_k C.1 22 rfl)) rfl (ly_g C.1 22 1 23 rfl) ?_
  refine av_wp_seq 5 (pc' := 15) (lv' := [some (.inr (.inr (.inl (some (22))))), some (.inl (k : Int)), some (.inl ((k : Int) * (21))), none, none]) (st' := [.inl (-1), .inl (((k : Int) * (21)) + (21)), .inl ((k : Int) * (21)), .inr (.inr (.inl (some (23))))]) (h' := h) rfl ?_
  refine wq_cs (p' := 18) (av_qc (.invokestatic 60) 221 4 2 10) 5 cd_221 [.inr (.inr (.inl (some (23)))), .inl ((k : Int) * (21)), .inl (((k : Int) * (21)) + (21)), .inl (-1)] [.inl (-1), .inl (((k : Int) * (21)) + (21)), .inl ((k : Int) * (21)), .inr (.inr (.inl (some (23))))] [some (.inr (.inr (.inl (some (23))))), some (.inl ((k : Int) * (21))), some (.inl (((k : Int) * (21)) + (21))), some (.inl (-1)), none] rfl rfl rfl pp_221 (fun _ => rfl) rfl rfl ?_
  refine ct_221 (n := 252) (k * 21) (k * 21 + 21) (by omega) (by omega) (ly_k C.1 23 rfl) (by omega) (by omega) (by omega) ?_
  obtain ⟨C1, F2⟩ := ct_fil (lo := (k * 21)) (hi := (k * 21 + 21)) (v := (-1)) C F (by omega)
  generalize hfil h 23 (k * 21) (k * 21 + 21) (-1) = h3 at C1 F2 ⊢
  show av_wp _ cd_36 18 [some (.inr (.inr (.inl (some (22))))), some (.inl (k : Int)), some (.inl ((k : Int) * (21))), none, none] [] h3 _
  refine av_wp_seq 1 (pc' := 19) (lv' := [some (.inr (.inr (.inl (some (22))))), some (.inl (k : Int)), some (.inl ((k : Int) * (21))), none, none]) (st' := [.inr (.inr (.inl (some (22))))]) (h' := h3) rfl ?_
  refine wq_gr (p' := 22) rfl rfl (congrArg Prod.fst (ly_k C1.1 22 rfl)) rfl (ly_g C1.1 22 1 23 rfl) ?_
  refine av_wp_seq 9 (pc' := 33) (lv' := [some (.inr (.inr (.inl (some (22))))), some (.inl (k : Int)), some (.inl ((k : Int) * (21))), none, none]) (st' := [.inl (0), .inl ((((k : Int) * (21)) + (7)) + (3)), .inl (((k : Int) * (21)) + (7)), .inr (.inr (.inl (some (23))))]) (h' := h3) rfl ?_
  refine wq_cs (p' := 36) (av_qc (.invokestatic 60) 221 4 2 10) 5 cd_221 [.inr (.inr (.inl (some (23)))), .inl (((k : Int) * (21)) + (7)), .inl ((((k : Int) * (21)) + (7)) + (3)), .inl (0)] [.inl (0), .inl ((((k : Int) * (21)) + (7)) + (3)), .inl (((k : Int) * (21)) + (7)), .inr (.inr (.inl (some (23))))] [some (.inr (.inr (.inl (some (23))))), some (.inl (((k : Int) * (21)) + (7))), some (.inl ((((k : Int) * (21)) + (7)) + (3))), some (.inl (0)), none] rfl rfl rfl pp_221 (fun _ => rfl) rfl rfl ?_
  refine ct_221 (n := 252) (k * 21 + 7) (k * 21 + 10) (by omega) (by omega) (ly_k C1.1 23 rfl) (by omega) (by omega) (by omega) ?_
  obtain ⟨C4, F5⟩ := ct_fil (lo := (k * 21 + 7)) (hi := (k * 21 + 10)) (v := (0)) C1 F2 (by omega)
  generalize hfil h3 23 (k * 21 + 7) (k * 21 + 10) (0) = h6 at C4 F5 ⊢
  show av_wp _ cd_36 36 [some (.inr (.inr (.inl (some (22))))), some (.inl (k : Int)), some (.inl ((k : Int) * (21))), none, none] [] h6 _
  refine av_wp_seq 1 (pc' := 37) (lv' := [some (.inr (.inr (.inl (some (22))))), some (.inl (k : Int)), some (.inl ((k : Int) * (21))), none, none]) (st' := [.inr (.inr (.inl (some (22))))]) (h' := h6) rfl ?_
  refine wq_gr (p' := 40) rfl rfl (congrArg Prod.fst (ly_k C4.1 22 rfl)) rfl (ly_g C4.1 22 1 23 rfl) ?_
  refine av_wp_seq 7 (pc' := 49) (lv' := [some (.inr (.inr (.inl (some (22))))), some (.inl (k : Int)), some (.inl ((k : Int) * (21))), none, none]) (st' := [.inl (0), .inl (((k : Int) * (21)) + (21)), .inl (((k : Int) * (21)) + (15)), .inr (.inr (.inl (some (23))))]) (h' := h6) rfl ?_
  refine wq_cs (p' := 52) (av_qc (.invokestatic 60) 221 4 2 10) 5 cd_221 [.inr (.inr (.inl (some (23)))), .inl (((k : Int) * (21)) + (15)), .inl (((k : Int) * (21)) + (21)), .inl (0)] [.inl (0), .inl (((k : Int) * (21)) + (21)), .inl (((k : Int) * (21)) + (15)), .inr (.inr (.inl (some (23))))] [some (.inr (.inr (.inl (some (23))))), some (.inl (((k : Int) * (21)) + (15))), some (.inl (((k : Int) * (21)) + (21))), some (.inl (0)), none] rfl rfl rfl pp_221 (fun _ => rfl) rfl rfl ?_
  refine ct_221 (n := 252) (k * 21 + 15) (k * 21 + 21) (by omega) (by omega) (ly_k C4.1 23 rfl) (by omega) (by omega) (by omega) ?_
  obtain ⟨C7, F8⟩ := ct_fil (lo := (k * 21 + 15)) (hi := (k * 21 + 21)) (v := (0)) C4 F5 (by omega)
  generalize hfil h6 23 (k * 21 + 15) (k * 21 + 21) (0) = h9 at C7 F8 ⊢
  show av_wp _ cd_36 52 [some (.inr (.inr (.inl (some (22))))), some (.inl (k : Int)), some (.inl ((k : Int) * (21))), none, none] [] h9 _
  refine av_wp_seq 1 (pc' := 53) (lv' := [some (.inr (.inr (.inl (some (22))))), some (.inl (k : Int)), some (.inl ((k : Int) * (21))), none, none]) (st' := [.inr (.inr (.inl (some (22))))]) (h' := h9) rfl ?_
  refine wq_gr (p' := 56) rfl rfl (congrArg Prod.fst (ly_k C7.1 22 rfl)) rfl (ly_g C7.1 22 0 1 rfl) ?_
  refine av_wp_seq 1 (pc' := 58) (lv' := [some (.inr (.inr (.inl (some (22))))), some (.inl (k : Int)), some (.inl ((k : Int) * (21))), none, none]) (st' := [.inr (.inr (.inr 0)), .inr (.inr (.inl (some (1))))]) (h' := h9) rfl ?_
  refine wq_cv (p' := 61) (av_qc (.invokevirtual 68) 87 1 0 6) 3 cd_87 [.inr (.inr (.inr 0))] (1) 6 [some (.inr (.inr (.inl (some (1))))), some (.inr (.inr (.inr 0))), none] rfl rfl rfl pp_87 rfl rfl rfl (congrArg Prod.fst (ly_k C7.1 1 rfl)) rfl rfl rfl rfl ?_
  refine ct_87 C7 F8 0 (by decide) (fun v10 h12 p11 C13 F14 => ?_)
  have g15 := pkv_le (b := b) (t := t) 0 6 rfl
  have q16 := p11.1.symm
  have p11 := p11.2
  generalize q18 : cho b lim t 0 = t17 at C13
  have g19 := ct_wf C13
  show av_wp _ cd_36 61 [some (.inr (.inr (.inl (some (22))))), some (.inl (k : Int)), some (.inl ((k : Int) * (21))), none, none] [.inl v10] h12 _
  refine av_wp_seq 3 (pc' := 64) (lv' := [some (.inr (.inr (.inl (some (22))))), some (.inl (k : Int)), some (.inl ((k : Int) * (21))), some (.inl v10), none]) (st' := [.inl (2), .inl v10]) (h' := h12) rfl ?_
  refine wq_k2 (p' := 67) rfl rfl ⟨by omega, by omega⟩ ⟨by omega, by omega⟩ (fun c20 => ?_) (fun c21 => ?_)
  · have c20 : (2) < v10 := c20
    refine av_wp_seq 5 (pc' := 77) (lv' := [some (.inr (.inr (.inl (some (22))))), some (.inl (k : Int)), some (.inl ((k : Int) * (21))), some (.inl v10), some (.inl (v10 + (1)))]) (st' := [.inr (.inr (.inl (some (22))))]) (h' := h12) rfl ?_
    refine wq_gr (p' := 80) rfl rfl (congrArg Prod.fst (ly_k C13.1 22 rfl)) rfl (ly_g C13.1 22 1 23 rfl) ?_
    refine av_wp_seq 4 (pc' := 85) (lv' := [some (.inr (.inr (.inl (some (22))))), some (.inl (k : Int)), some (.inl ((k : Int) * (21))), some (.inl v10), some (.inl (v10 + (1)))]) (st' := [.inl (v10 + (1)), .inl (((k : Int) * (21)) + (0)), .inr (.inr (.inl (some (23))))]) (h' := h12) rfl ?_
    refine ct_as (p' := 86) rfl rfl C13 F14 (k * 21) (by omega) (by omega) (by omega) (fun h22 C23 F24 => ?_)
    refine av_wp_seq 1 (pc' := 87) (lv' := [some (.inr (.inr (.inl (some (22))))), some (.inl (k : Int)), some (.inl ((k : Int) * (21))), some (.inl v10), some (.inl (v10 + (1)))]) (st' := [.inr (.inr (.inl (some (22))))]) (h' := h22) rfl ?_
    refine wq_gr (p' := 90) rfl rfl (congrArg Prod.fst (ly_k C23.1 22 rfl)) rfl (ly_g C23.1 22 1 23 rfl) ?_
    refine av_wp_seq 4 (pc' := 94) (lv' := [some (.inr (.inr (.inl (some (22))))), some (.inl (k : Int)), some (.inl ((k : Int) * (21))), some (.inl v10), some (.inl (v10 + (1)))]) (st' := [.inr (.inr (.inl (some (22)))), .inl (((k : Int) * (21)) + (1)), .inr (.inr (.inl (some (23))))]) (h' := h22) rfl ?_
    refine wq_gr (p' := 97) rfl rfl (congrArg Prod.fst (ly_k C23.1 22 rfl)) rfl (ly_g C23.1 22 0 1 rfl) ?_
    refine av_wp_seq 1 (pc' := 99) (lv' := [some (.inr (.inr (.inl (some (22))))), some (.inl (k : Int)), some (.inl ((k : Int) * (21))), some (.inl v10), some (.inl (v10 + (1)))]) (st' := [.inr (.inr (.inr 1)), .inr (.inr (.inl (some (1)))), .inl (((k : Int) * (21)) + (1)), .inr (.inr (.inl (some (23))))]) (h' := h22) rfl ?_
    refine wq_cv (p' := 102) (av_qc (.invokevirtual 68) 87 1 0 6) 3 cd_87 [.inr (.inr (.inr 1))] (1) 6 [some (.inr (.inr (.inl (some (1))))), some (.inr (.inr (.inr 1))), none] rfl rfl rfl pp_87 rfl rfl rfl (congrArg Prod.fst (ly_k C23.1 1 rfl)) rfl rfl rfl rfl ?_
    refine ct_87 C23 F24 1 (by decide) (fun v25 h27 p26 C28 F29 => ?_)
    have g30 := pkv_le (b := b) (t := t17) 1 2 rfl
    have q31 := p26.1.symm
    have p26 := p26.2
    generalize q33 : cho b lim t17 1 = t32 at C28
    have g34 := ct_wf C28
    show av_wp _ cd_36 102 [some (.inr (.inr (.inl (some (22))))), some (.inl (k : Int)), some (.inl ((k : Int) * (21))), some (.inl v10), some (.inl (v10 + (1)))] [.inl v25, .inl (((k : Int) * (21)) + (1)), .inr (.inr (.inl (some (23))))] h27 _
    refine ct_as (p' := 103) rfl rfl C28 F29 (k * 21 + 1) (by omega) (by omega) (by omega) (fun h35 C36 F37 => ?_)
    refine av_wp_seq 1 (pc' := 105) (lv' := [some (.inr (.inr (.inl (some (22))))), some (.inl (k : Int)), some (.inl ((k : Int) * (21))), some (.inl v10), some (.inl (v10 + (1)))]) (st' := [.inl (v10 + (1))]) (h' := h35) rfl ?_
    refine wq_k1 (p' := 108) rfl rfl ⟨by omega, by omega⟩ (fun c38 => ?_) (fun c39 => ?_)
    · have c38 : (v10 + (1)) = (0) := c38
      exfalso; omega
    · have c39 : (v10 + (1)) ≠ (0) := c39
      refine av_wp_seq 2 (pc' := 111) (lv' := [some (.inr (.inr (.inl (some (22))))), some (.inl (k : Int)), some (.inl ((k : Int) * (21))), some (.inl v10), some (.inl (v10 + (1)))]) (st' := [.inl (1), .inl (v10 + (1))]) (h' := h35) rfl ?_
      refine wq_k2 (p' := 114) rfl rfl ⟨by omega, by omega⟩ ⟨by omega, by omega⟩ (fun c40 => ?_) (fun c41 => ?_)
      · have c40 : (v10 + (1)) ≠ (1) := c40
        refine av_wp_seq 3 (pc' := 126) (lv' := [some (.inr (.inr (.inl (some (22))))), some (.inl (k : Int)), some (.inl ((k : Int) * (21))), some (.inl v10), some (.inl (v10 + (1)))]) (st' := [.inl (v10 + (1)), .inl (k : Int), .inr (.inr (.inl (some (22))))]) (h' := h35) rfl ?_
        refine wq_cv (p' := 129) (av_qc (.invokevirtual 77) 38 2 0 2) 4 cd_38 [.inl (v10 + (1)), .inl (k : Int)] (22) 2 [some (.inr (.inr (.inl (some (22))))), some (.inl (k : Int)), some (.inl (v10 + (1))), none] rfl rfl rfl pp_38 rfl rfl rfl (congrArg Prod.fst (ly_k C36.1 22 rfl)) rfl rfl rfl rfl ?_
        refine ct_38 C36 F37 ((k : Int)) k (by omega) (by omega) ((v10 + (1))) (by omega) (fun h42 C43 F44 => ?_)
        obtain ⟨⟨t45, r46⟩, q47⟩ : ∃ x, rsS b lim k (v10 + (1)) t32 (av_u1 (av_u1 (ufil (ufil (ufil r (k * 21) (k * 21 + 21) (-1)) (k * 21 + 7) (k * 21 + 10) (0)) (k * 21 + 15) (k * 21 + 21) (0)) (k * 21) (v10 + (1))) (k * 21 + 1) v25) = x := ⟨_, rfl⟩
        rw [q47] at C43
        have C43 : CT b lim t45 r46 d h42 := C43
        have g48 := ct_wf C43
        show av_wp _ cd_36 129 [some (.inr (.inr (.inl (some (22))))), some (.inl (k : Int)), some (.inl ((k : Int) * (21))), some (.inl v10), some (.inl (v10 + (1)))] [] h42 _
        refine av_wp_seq 1 (pc' := 131) (lv' := [some (.inr (.inr (.inl (some (22))))), some (.inl (k : Int)), some (.inl ((k : Int) * (21))), some (.inl v10), some (.inl (v10 + (1)))]) (st' := [.inl (v10 + (1))]) (h' := h42) rfl ?_
        refine wq_k1 (p' := 134) rfl rfl ⟨by omega, by omega⟩ (fun c49 => ?_) (fun c50 => ?_)
        · have c49 : (v10 + (1)) ≠ (0) := c49
          refine av_wp_seq 2 (pc' := 142) (lv' := [some (.inr (.inr (.inl (some (22))))), some (.inl (k : Int)), some (.inl ((k : Int) * (21))), some (.inl v10), some (.inl (v10 + (1)))]) (st' := [.inl (2), .inl (v10 + (1))]) (h' := h42) rfl ?_
          refine wq_k2 (p' := 145) rfl rfl ⟨by omega, by omega⟩ ⟨by omega, by omega⟩ (fun c51 => ?_) (fun c52 => ?_)
          · have c51 : (v10 + (1)) ≠ (2) := c51
            refine av_wp_seq 2 (pc' := 164) (lv' := [some (.inr (.inr (.inl (some (22))))), some (.inl (k : Int)), some (.inl ((k : Int) * (21))), some (.inl v10), some (.inl (v10 + (1)))]) (st' := [.inl ((k : Int) * (21)), .inr (.inr (.inl (some (22))))]) (h' := h42) rfl ?_
            refine wq_cv (p' := 167) (av_qc (.invokevirtual 93) 43 1 0 2) 3 cd_43 [.inl ((k : Int) * (21))] (22) 2 [some (.inr (.inr (.inl (some (22))))), some (.inl ((k : Int) * (21))), none] rfl rfl rfl pp_43 rfl rfl rfl (congrArg Prod.fst (ly_k C43.1 22 rfl)) rfl rfl rfl rfl ?_
            refine ct_43 C43 F44 (((k : Int) * (21))) (k * 21) (by omega) (by omega) (fun h53 C54 F55 => ?_)
            obtain ⟨⟨t56, r57⟩, q58⟩ : ∃ x, rsM b lim (k * 21) t45 r46 = x := ⟨_, rfl⟩
            rw [q58] at C54
            have C54 : CT b lim t56 r57 d h53 := C54
            have g59 := ct_wf C54
            show av_wp _ cd_36 167 [some (.inr (.inr (.inl (some (22))))), some (.inl (k : Int)), some (.inl ((k : Int) * (21))), some (.inl v10), some (.inl (v10 + (1)))] [] h53 _
            refine av_wp_seq 1 (pc' := 168) (lv' := [some (.inr (.inr (.inl (some (22))))), some (.inl (k : Int)), some (.inl ((k : Int) * (21))), some (.inl v10), some (.inl (v10 + (1)))]) (st' := [.inr (.inr (.inl (some (22))))]) (h' := h53) rfl ?_
            refine wq_gr (p' := 171) rfl rfl (congrArg Prod.fst (ly_k C54.1 22 rfl)) rfl (ly_g C54.1 22 0 1 rfl) ?_
            refine wq_cv (p' := 174) (av_qc (.invokevirtual 96) 90 0 0 6) 1 cd_90 [] (1) 6 [some (.inr (.inr (.inl (some (1)))))] rfl rfl rfl pp_90 rfl rfl rfl (congrArg Prod.fst (ly_k C54.1 1 rfl)) rfl rfl rfl rfl ?_
            refine ct_90 C54 F55 (fun h60 C61 F62 => ?_)
            generalize q64 : sem b lim t56 = t63 at C61
            have g65 := ct_wf C61
            show av_wp _ cd_36 174 [some (.inr (.inr (.inl (some (22))))), some (.inl (k : Int)), some (.inl ((k : Int) * (21))), some (.inl v10), some (.inl (v10 + (1)))] [] h60 _
            refine av_wp_ret (v := none) rfl rfl rfl ?_
            exact hq h60 (by first | (simp only [rsy, rs5, rs4, rs3, rs2, rs1, rs0, rsK, q16, q18, q31, q33, q47, q58, q64, if_pos c20, if_neg (Int.not_le.mpr c20), if_neg c39, if_neg c40, if_neg c49, if_neg c51, if_neg (show ¬ ((v10 + (1)) = 0 ∨ (v10 + (1)) = 1) by omega)]; exact C61) | (exfalso; omega)) F62
          · have c52 : (v10 + (1)) = (2) := c52
            exfalso; omega
        · have c50 : (v10 + (1)) = (0) := c50
          exfalso; omega
      · have c41 : (v10 + (1)) = (1) := c41
        exfalso; omega
  · have c21 : v10 ≤ (2) := c21
    refine av_wp_seq 4 (pc' := 77) (lv' := [some (.inr (.inr (.inl (some (22))))), some (.inl (k : Int)), some (.inl ((k : Int) * (21))), some (.inl v10), some (.inl v10)]) (st' := [.inr (.inr (.inl (some (22))))]) (h' := h12) rfl ?_
    refine wq_gr (p' := 80) rfl rfl (congrArg Prod.fst (ly_k C13.1 22 rfl)) rfl (ly_g C13.1 22 1 23 rfl) ?_
    refine av_wp_seq 4 (pc' := 85) (lv' := [some (.inr (.inr (.inl (some (22))))), some (.inl (k : Int)), some (.inl ((k : Int) * (21))), some (.inl v10), some (.inl v10)]) (st' := [.inl v10, .inl (((k : Int) * (21)) + (0)), .inr (.inr (.inl (some (23))))]) (h' := h12) rfl ?_
    refine ct_as (p' := 86) rfl rfl C13 F14 (k * 21) (by omega) (by omega) (by omega) (fun h66 C67 F68 => ?_)
    refine av_wp_seq 1 (pc' := 87) (lv' := [some (.inr (.inr (.inl (some (22))))), some (.inl (k : Int)), some (.inl ((k : Int) * (21))), some (.inl v10), some (.inl v10)]) (st' := [.inr (.inr (.inl (some (22))))]) (h' := h66) rfl ?_
    refine wq_gr (p' := 90) rfl rfl (congrArg Prod.fst (ly_k C67.1 22 rfl)) rfl (ly_g C67.1 22 1 23 rfl) ?_
    refine av_wp_seq 4 (pc' := 94) (lv' := [some (.inr (.inr (.inl (some (22))))), some (.inl (k : Int)), some (.inl ((k : Int) * (21))), some (.inl v10), some (.inl v10)]) (st' := [.inr (.inr (.inl (some (22)))), .inl (((k : Int) * (21)) + (1)), .inr (.inr (.inl (some (23))))]) (h' := h66) rfl ?_
    refine wq_gr (p' := 97) rfl rfl (congrArg Prod.fst (ly_k C67.1 22 rfl)) rfl (ly_g C67.1 22 0 1 rfl) ?_
    refine av_wp_seq 1 (pc' := 99) (lv' := [some (.inr (.inr (.inl (some (22))))), some (.inl (k : Int)), some (.inl ((k : Int) * (21))), some (.inl v10), some (.inl v10)]) (st' := [.inr (.inr (.inr 1)), .inr (.inr (.inl (some (1)))), .inl (((k : Int) * (21)) + (1)), .inr (.inr (.inl (some (23))))]) (h' := h66) rfl ?_
    refine wq_cv (p' := 102) (av_qc (.invokevirtual 68) 87 1 0 6) 3 cd_87 [.inr (.inr (.inr 1))] (1) 6 [some (.inr (.inr (.inl (some (1))))), some (.inr (.inr (.inr 1))), none] rfl rfl rfl pp_87 rfl rfl rfl (congrArg Prod.fst (ly_k C67.1 1 rfl)) rfl rfl rfl rfl ?_
    refine ct_87 C67 F68 1 (by decide) (fun v69 h71 p70 C72 F73 => ?_)
    have g74 := pkv_le (b := b) (t := t17) 1 2 rfl
    have q75 := p70.1.symm
    have p70 := p70.2
    generalize q77 : cho b lim t17 1 = t76 at C72
    have g78 := ct_wf C72
    show av_wp _ cd_36 102 [some (.inr (.inr (.inl (some (22))))), some (.inl (k : Int)), some (.inl ((k : Int) * (21))), some (.inl v10), some (.inl v10)] [.inl v69, .inl (((k : Int) * (21)) + (1)), .inr (.inr (.inl (some (23))))] h71 _
    refine ct_as (p' := 103) rfl rfl C72 F73 (k * 21 + 1) (by omega) (by omega) (by omega) (fun h79 C80 F81 => ?_)
    refine av_wp_seq 1 (pc' := 105) (lv' := [some (.inr (.inr (.inl (some (22))))), some (.inl (k : Int)), some (.inl ((k : Int) * (21))), some (.inl v10), some (.inl v10)]) (st' := [.inl v10]) (h' := h79) rfl ?_
    refine wq_k1 (p' := 108) rfl rfl ⟨by omega, by omega⟩ (fun c82 => ?_) (fun c83 => ?_)
    · have c82 : v10 = (0) := c82
      refine av_wp_seq 2 (pc' := 116) (lv' := [some (.inr (.inr (.inl (some (22))))), some (.inl (k : Int)), some (.inl ((k : Int) * (21))), some (.inl v10), some (.inl v10)]) (st' := [.inl ((k : Int) * (21)), .inr (.inr (.inl (some (22))))]) (h' := h79) rfl ?_
      refine wq_cv (p' := 119) (av_qc (.invokevirtual 74) 37 1 0 2) 2 cd_37 [.inl ((k : Int) * (21))] (22) 2 [some (.inr (.inr (.inl (some (22))))), some (.inl ((k : Int) * (21)))] rfl rfl rfl pp_37 rfl rfl rfl (congrArg Prod.fst (ly_k C80.1 22 rfl)) rfl rfl rfl rfl ?_
      refine ct_37 C80 F81 (((k : Int) * (21))) (k * 21) (by omega) (by omega) (fun h84 C85 F86 => ?_)
      obtain ⟨⟨t87, r88⟩, q89⟩ : ∃ x, rsO b lim (k * 21) t76 (av_u1 (av_u1 (ufil (ufil (ufil r (k * 21) (k * 21 + 21) (-1)) (k * 21 + 7) (k * 21 + 10) (0)) (k * 21 + 15) (k * 21 + 21) (0)) (k * 21) v10) (k * 21 + 1) v69) = x := ⟨_, rfl⟩
      rw [q89] at C85
      have C85 : CT b lim t87 r88 d h84 := C85
      have g90 := ct_wf C85
      show av_wp _ cd_36 119 [some (.inr (.inr (.inl (some (22))))), some (.inl (k : Int)), some (.inl ((k : Int) * (21))), some (.inl v10), some (.inl v10)] [] h84 _
      refine av_wp_seq 2 (pc' := 131) (lv' := [some (.inr (.inr (.inl (some (22))))), some (.inl (k : Int)), some (.inl ((k : Int) * (21))), some (.inl v10), some (.inl v10)]) (st' := [.inl v10]) (h' := h84) rfl ?_
      refine wq_k1 (p' := 134) rfl rfl ⟨by omega, by omega⟩ (fun c91 => ?_) (fun c92 => ?_)
      · have c91 : v10 ≠ (0) := c91
        exfalso; omega
      · have c92 : v10 = (0) := c92
        refine av_wp_seq 2 (pc' := 136) (lv' := [some (.inr (.inr (.inl (some (22))))), some (.inl (k : Int)), some (.inl ((k : Int) * (21))), some (.inl v10), some (.inl v10)]) (st' := [.inl ((k : Int) * (21)), .inr (.inr (.inl (some (22))))]) (h' := h84) rfl ?_
        refine wq_cv (p' := 139) (av_qc (.invokevirtual 81) 40 1 0 2) 2 cd_40 [.inl ((k : Int) * (21))] (22) 2 [some (.inr (.inr (.inl (some (22))))), some (.inl ((k : Int) * (21)))] rfl rfl rfl pp_40 rfl rfl rfl (congrArg Prod.fst (ly_k C85.1 22 rfl)) rfl rfl rfl rfl ?_
        refine ct_40 C85 F86 ha (by omega) (((k : Int) * (21))) (k * 21) (by omega) (by omega) (fun h93 C94 F95 => ?_)
        obtain ⟨⟨t96, r97⟩, q98⟩ : ∃ x, rsT b lim (k * 21) ah t87 r88 = x := ⟨_, rfl⟩
        rw [q98] at C94
        have C94 : CT b lim t96 r97 d h93 := C94
        have g99 := ct_wf C94
        show av_wp _ cd_36 139 [some (.inr (.inr (.inl (some (22))))), some (.inl (k : Int)), some (.inl ((k : Int) * (21))), some (.inl v10), some (.inl v10)] [] h93 _
        refine av_wp_seq 2 (pc' := 142) (lv' := [some (.inr (.inr (.inl (some (22))))), some (.inl (k : Int)), some (.inl ((k : Int) * (21))), some (.inl v10), some (.inl v10)]) (st' := [.inl (2), .inl v10]) (h' := h93) rfl ?_
        refine wq_k2 (p' := 145) rfl rfl ⟨by omega, by omega⟩ ⟨by omega, by omega⟩ (fun c100 => ?_) (fun c101 => ?_)
        · have c100 : v10 ≠ (2) := c100
          refine av_wp_seq 2 (pc' := 164) (lv' := [some (.inr (.inr (.inl (some (22))))), some (.inl (k : Int)), some (.inl ((k : Int) * (21))), some (.inl v10), some (.inl v10)]) (st' := [.inl ((k : Int) * (21)), .inr (.inr (.inl (some (22))))]) (h' := h93) rfl ?_
          refine wq_cv (p' := 167) (av_qc (.invokevirtual 93) 43 1 0 2) 3 cd_43 [.inl ((k : Int) * (21))] (22) 2 [some (.inr (.inr (.inl (some (22))))), some (.inl ((k : Int) * (21))), none] rfl rfl rfl pp_43 rfl rfl rfl (congrArg Prod.fst (ly_k C94.1 22 rfl)) rfl rfl rfl rfl ?_
          refine ct_43 C94 F95 (((k : Int) * (21))) (k * 21) (by omega) (by omega) (fun h102 C103 F104 => ?_)
          obtain ⟨⟨t105, r106⟩, q107⟩ : ∃ x, rsM b lim (k * 21) t96 r97 = x := ⟨_, rfl⟩
          rw [q107] at C103
          have C103 : CT b lim t105 r106 d h102 := C103
          have g108 := ct_wf C103
          show av_wp _ cd_36 167 [some (.inr (.inr (.inl (some (22))))), some (.inl (k : Int)), some (.inl ((k : Int) * (21))), some (.inl v10), some (.inl v10)] [] h102 _
          refine av_wp_seq 1 (pc' := 168) (lv' := [some (.inr (.inr (.inl (some (22))))), some (.inl (k : Int)), some (.inl ((k : Int) * (21))), some (.inl v10), some (.inl v10)]) (st' := [.inr (.inr (.inl (some (22))))]) (h' := h102) rfl ?_
          refine wq_gr (p' := 171) rfl rfl (congrArg Prod.fst (ly_k C103.1 22 rfl)) rfl (ly_g C103.1 22 0 1 rfl) ?_
          refine wq_cv (p' := 174) (av_qc (.invokevirtual 96) 90 0 0 6) 1 cd_90 [] (1) 6 [some (.inr (.inr (.inl (some (1)))))] rfl rfl rfl pp_90 rfl rfl rfl (congrArg Prod.fst (ly_k C103.1 1 rfl)) rfl rfl rfl rfl ?_
          refine ct_90 C103 F104 (fun h109 C110 F111 => ?_)
          generalize q113 : sem b lim t105 = t112 at C110
          have g114 := ct_wf C110
          show av_wp _ cd_36 174 [some (.inr (.inr (.inl (some (22))))), some (.inl (k : Int)), some (.inl ((k : Int) * (21))), some (.inl v10), some (.inl v10)] [] h109 _
          refine av_wp_ret (v := none) rfl rfl rfl ?_
          exact hq h109 (by first | (simp only [rsy, rs5, rs4, rs3, rs2, rs1, rs0, rsK, q16, q18, q75, q77, q89, q98, q107, q113, if_pos c21, if_neg (Int.not_lt.mpr c21), if_pos c82, if_pos c92, if_neg c100, if_pos (show v10 = 0 ∨ v10 = 1 by omega)]; exact C110) | (exfalso; omega)) F111
        · have c101 : v10 = (2) := c101
          exfalso; omega
    · have c83 : v10 ≠ (0) := c83
      refine av_wp_seq 2 (pc' := 111) (lv' := [some (.inr (.inr (.inl (some (22))))), some (.inl (k : Int)), some (.inl ((k : Int) * (21))), some (.inl v10), some (.inl v10)]) (st' := [.inl (1), .inl v10]) (h' := h79) rfl ?_
      refine wq_k2 (p' := 114) rfl rfl ⟨by omega, by omega⟩ ⟨by omega, by omega⟩ (fun c115 => ?_) (fun c116 => ?_)
      · have c115 : v10 ≠ (1) := c115
        refine av_wp_seq 3 (pc' := 126) (lv' := [some (.inr (.inr (.inl (some (22))))), some (.inl (k : Int)), some (.inl ((k : Int) * (21))), some (.inl v10), some (.inl v10)]) (st' := [.inl v10, .inl (k : Int), .inr (.inr (.inl (some (22))))]) (h' := h79) rfl ?_
        refine wq_cv (p' := 129) (av_qc (.invokevirtual 77) 38 2 0 2) 4 cd_38 [.inl v10, .inl (k : Int)] (22) 2 [some (.inr (.inr (.inl (some (22))))), some (.inl (k : Int)), some (.inl v10), none] rfl rfl rfl pp_38 rfl rfl rfl (congrArg Prod.fst (ly_k C80.1 22 rfl)) rfl rfl rfl rfl ?_
        refine ct_38 C80 F81 ((k : Int)) k (by omega) (by omega) (v10) (by omega) (fun h117 C118 F119 => ?_)
        obtain ⟨⟨t120, r121⟩, q122⟩ : ∃ x, rsS b lim k v10 t76 (av_u1 (av_u1 (ufil (ufil (ufil r (k * 21) (k * 21 + 21) (-1)) (k * 21 + 7) (k * 21 + 10) (0)) (k * 21 + 15) (k * 21 + 21) (0)) (k * 21) v10) (k * 21 + 1) v69) = x := ⟨_, rfl⟩
        rw [q122] at C118
        have C118 : CT b lim t120 r121 d h117 := C118
        have g123 := ct_wf C118
        show av_wp _ cd_36 129 [some (.inr (.inr (.inl (some (22))))), some (.inl (k : Int)), some (.inl ((k : Int) * (21))), some (.inl v10), some (.inl v10)] [] h117 _
        refine av_wp_seq 1 (pc' := 131) (lv' := [some (.inr (.inr (.inl (some (22))))), some (.inl (k : Int)), some (.inl ((k : Int) * (21))), some (.inl v10), some (.inl v10)]) (st' := [.inl v10]) (h' := h117) rfl ?_
        refine wq_k1 (p' := 134) rfl rfl ⟨by omega, by omega⟩ (fun c124 => ?_) (fun c125 => ?_)
        · have c124 : v10 ≠ (0) := c124
          refine av_wp_seq 2 (pc' := 142) (lv' := [some (.inr (.inr (.inl (some (22))))), some (.inl (k : Int)), some (.inl ((k : Int) * (21))), some (.inl v10), some (.inl v10)]) (st' := [.inl (2), .inl v10]) (h' := h117) rfl ?_
          refine wq_k2 (p' := 145) rfl rfl ⟨by omega, by omega⟩ ⟨by omega, by omega⟩ (fun c126 => ?_) (fun c127 => ?_)
          · have c126 : v10 ≠ (2) := c126
            refine av_wp_seq 2 (pc' := 164) (lv' := [some (.inr (.inr (.inl (some (22))))), some (.inl (k : Int)), some (.inl ((k : Int) * (21))), some (.inl v10), some (.inl v10)]) (st' := [.inl ((k : Int) * (21)), .inr (.inr (.inl (some (22))))]) (h' := h117) rfl ?_
            refine wq_cv (p' := 167) (av_qc (.invokevirtual 93) 43 1 0 2) 3 cd_43 [.inl ((k : Int) * (21))] (22) 2 [some (.inr (.inr (.inl (some (22))))), some (.inl ((k : Int) * (21))), none] rfl rfl rfl pp_43 rfl rfl rfl (congrArg Prod.fst (ly_k C118.1 22 rfl)) rfl rfl rfl rfl ?_
            refine ct_43 C118 F119 (((k : Int) * (21))) (k * 21) (by omega) (by omega) (fun h128 C129 F130 => ?_)
            obtain ⟨⟨t131, r132⟩, q133⟩ : ∃ x, rsM b lim (k * 21) t120 r121 = x := ⟨_, rfl⟩
            rw [q133] at C129
            have C129 : CT b lim t131 r132 d h128 := C129
            have g134 := ct_wf C129
            show av_wp _ cd_36 167 [some (.inr (.inr (.inl (some (22))))), some (.inl (k : Int)), some (.inl ((k : Int) * (21))), some (.inl v10), some (.inl v10)] [] h128 _
            refine av_wp_seq 1 (pc' := 168) (lv' := [some (.inr (.inr (.inl (some (22))))), some (.inl (k : Int)), some (.inl ((k : Int) * (21))), some (.inl v10), some (.inl v10)]) (st' := [.inr (.inr (.inl (some (22))))]) (h' := h128) rfl ?_
            refine wq_gr (p' := 171) rfl rfl (congrArg Prod.fst (ly_k C129.1 22 rfl)) rfl (ly_g C129.1 22 0 1 rfl) ?_
            refine wq_cv (p' := 174) (av_qc (.invokevirtual 96) 90 0 0 6) 1 cd_90 [] (1) 6 [some (.inr (.inr (.inl (some (1)))))] rfl rfl rfl pp_90 rfl rfl rfl (congrArg Prod.fst (ly_k C129.1 1 rfl)) rfl rfl rfl rfl ?_
            refine ct_90 C129 F130 (fun h135 C136 F137 => ?_)
            generalize q139 : sem b lim t131 = t138 at C136
            have g140 := ct_wf C136
            show av_wp _ cd_36 174 [some (.inr (.inr (.inl (some (22))))), some (.inl (k : Int)), some (.inl ((k : Int) * (21))), some (.inl v10), some (.inl v10)] [] h135 _
            refine av_wp_ret (v := none) rfl rfl rfl ?_
            exact hq h135 (by first | (simp only [rsy, rs5, rs4, rs3, rs2, rs1, rs0, rsK, q16, q18, q75, q77, q122, q133, q139, if_pos c21, if_neg (Int.not_lt.mpr c21), if_neg c83, if_neg c115, if_neg c124, if_neg c126, if_neg (show ¬ (v10 = 0 ∨ v10 = 1) by omega)]; exact C136) | (exfalso; omega)) F137
          · have c127 : v10 = (2) := c127
            refine av_wp_seq 1 (pc' := 146) (lv' := [some (.inr (.inr (.inl (some (22))))), some (.inl (k : Int)), some (.inl ((k : Int) * (21))), some (.inl v10), some (.inl v10)]) (st' := [.inr (.inr (.inl (some (22))))]) (h' := h117) rfl ?_
            refine wq_gr (p' := 149) rfl rfl (congrArg Prod.fst (ly_k C118.1 22 rfl)) rfl (ly_g C118.1 22 0 1 rfl) ?_
            refine av_wp_seq 1 (pc' := 151) (lv' := [some (.inr (.inr (.inl (some (22))))), some (.inl (k : Int)), some (.inl ((k : Int) * (21))), some (.inl v10), some (.inl v10)]) (st' := [.inr (.inr (.inr 5)), .inr (.inr (.inl (some (1))))]) (h' := h117) rfl ?_
            refine wq_cv (p' := 154) (av_qc (.invokevirtual 86) 88 1 0 6) 2 cd_88 [.inr (.inr (.inr 5))] (1) 6 [some (.inr (.inr (.inl (some (1))))), some (.inr (.inr (.inr 5)))] rfl rfl rfl pp_88 rfl rfl rfl (congrArg Prod.fst (ly_k C118.1 1 rfl)) rfl rfl rfl rfl ?_
            refine ct_88b C118 F119 5 (by decide) (fun z141 h142 C143 F144 => ?_) (fun z141 => ?_)
            · generalize q146 : adv b lim t120 = t145 at C143
              have g147 := ct_wf C143
              show av_wp _ cd_36 154 [some (.inr (.inr (.inl (some (22))))), some (.inl (k : Int)), some (.inl ((k : Int) * (21))), some (.inl v10), some (.inl v10)] [.inl (1)] h142 _
              refine av_wp_seq 3 (pc' := 159) (lv' := [some (.inr (.inr (.inl (some (22))))), some (.inl (k : Int)), some (.inl ((k : Int) * (21))), some (.inl v10), some (.inl v10)]) (st' := [.inl ((k : Int) * (21)), .inr (.inr (.inl (some (22))))]) (h' := h142) rfl ?_
              refine wq_cv (p' := 162) (av_qc (.invokevirtual 90) 41 1 0 2) 3 cd_41 [.inl ((k : Int) * (21))] (22) 2 [some (.inr (.inr (.inl (some (22))))), some (.inl ((k : Int) * (21))), none] rfl rfl rfl pp_41 rfl rfl rfl (congrArg Prod.fst (ly_k C143.1 22 rfl)) rfl rfl rfl rfl ?_
              refine ct_41 C143 F144 (((k : Int) * (21))) (k * 21) (by omega) (by omega) (fun h148 C149 F150 => ?_)
              obtain ⟨⟨t151, r152⟩, q153⟩ : ∃ x, rsB b lim (k * 21) t145 r121 = x := ⟨_, rfl⟩
              rw [q153] at C149
              have C149 : CT b lim t151 r152 d h148 := C149
              have g154 := ct_wf C149
              show av_wp _ cd_36 162 [some (.inr (.inr (.inl (some (22))))), some (.inl (k : Int)), some (.inl ((k : Int) * (21))), some (.inl v10), some (.inl v10)] [] h148 _
              refine av_wp_seq 2 (pc' := 164) (lv' := [some (.inr (.inr (.inl (some (22))))), some (.inl (k : Int)), some (.inl ((k : Int) * (21))), some (.inl v10), some (.inl v10)]) (st' := [.inl ((k : Int) * (21)), .inr (.inr (.inl (some (22))))]) (h' := h148) rfl ?_
              refine wq_cv (p' := 167) (av_qc (.invokevirtual 93) 43 1 0 2) 3 cd_43 [.inl ((k : Int) * (21))] (22) 2 [some (.inr (.inr (.inl (some (22))))), some (.inl ((k : Int) * (21))), none] rfl rfl rfl pp_43 rfl rfl rfl (congrArg Prod.fst (ly_k C149.1 22 rfl)) rfl rfl rfl rfl ?_
              refine ct_43 C149 F150 (((k : Int) * (21))) (k * 21) (by omega) (by omega) (fun h155 C156 F157 => ?_)
              obtain ⟨⟨t158, r159⟩, q160⟩ : ∃ x, rsM b lim (k * 21) t151 r152 = x := ⟨_, rfl⟩
              rw [q160] at C156
              have C156 : CT b lim t158 r159 d h155 := C156
              have g161 := ct_wf C156
              show av_wp _ cd_36 167 [some (.inr (.inr (.inl (some (22))))), some (.inl (k : Int)), some (.inl ((k : Int) * (21))), some (.inl v10), some (.inl v10)] [] h155 _
              refine av_wp_seq 1 (pc' := 168) (lv' := [some (.inr (.inr (.inl (some (22))))), some (.inl (k : Int)), some (.inl ((k : Int) * (21))), some (.inl v10), some (.inl v10)]) (st' := [.inr (.inr (.inl (some (22))))]) (h' := h155) rfl ?_
              refine wq_gr (p' := 171) rfl rfl (congrArg Prod.fst (ly_k C156.1 22 rfl)) rfl (ly_g C156.1 22 0 1 rfl) ?_
              refine wq_cv (p' := 174) (av_qc (.invokevirtual 96) 90 0 0 6) 1 cd_90 [] (1) 6 [some (.inr (.inr (.inl (some (1)))))] rfl rfl rfl pp_90 rfl rfl rfl (congrArg Prod.fst (ly_k C156.1 1 rfl)) rfl rfl rfl rfl ?_
              refine ct_90 C156 F157 (fun h162 C163 F164 => ?_)
              generalize q166 : sem b lim t158 = t165 at C163
              have g167 := ct_wf C163
              show av_wp _ cd_36 174 [some (.inr (.inr (.inl (some (22))))), some (.inl (k : Int)), some (.inl ((k : Int) * (21))), some (.inl v10), some (.inl v10)] [] h162 _
              refine av_wp_ret (v := none) rfl rfl rfl ?_
              exact hq h162 (by first | (simp only [rsy, rs5, rs4, rs3, rs2, rs1, rs0, rsK, q16, q18, q75, q77, q122, q146, q153, q160, q166, if_pos c21, if_neg (Int.not_lt.mpr c21), if_neg c83, if_neg c115, if_neg c124, if_pos c127, if_neg z141, if_neg (show ¬ (v10 = 0 ∨ v10 = 1) by omega)]; exact C163) | (exfalso; omega)) F164
            · show av_wp _ cd_36 154 [some (.inr (.inr (.inl (some (22))))), some (.inl (k : Int)), some (.inl ((k : Int) * (21))), some (.inl v10), some (.inl v10)] [.inl (0)] h117 _
              refine av_wp_seq 3 (pc' := 164) (lv' := [some (.inr (.inr (.inl (some (22))))), some (.inl (k : Int)), some (.inl ((k : Int) * (21))), some (.inl v10), some (.inl v10)]) (st' := [.inl ((k : Int) * (21)), .inr (.inr (.inl (some (22))))]) (h' := h117) rfl ?_
              refine wq_cv (p' := 167) (av_qc (.invokevirtual 93) 43 1 0 2) 3 cd_43 [.inl ((k : Int) * (21))] (22) 2 [some (.inr (.inr (.inl (some (22))))), some (.inl ((k : Int) * (21))), none] rfl rfl rfl pp_43 rfl rfl rfl (congrArg Prod.fst (ly_k C118.1 22 rfl)) rfl rfl rfl rfl ?_
              refine ct_43 C118 F119 (((k : Int) * (21))) (k * 21) (by omega) (by omega) (fun h168 C169 F170 => ?_)
              obtain ⟨⟨t171, r172⟩, q173⟩ : ∃ x, rsM b lim (k * 21) t120 r121 = x := ⟨_, rfl⟩
              rw [q173] at C169
              have C169 : CT b lim t171 r172 d h168 := C169
              have g174 := ct_wf C169
              show av_wp _ cd_36 167 [some (.inr (.inr (.inl (some (22))))), some (.inl (k : Int)), some (.inl ((k : Int) * (21))), some (.inl v10), some (.inl v10)] [] h168 _
              refine av_wp_seq 1 (pc' := 168) (lv' := [some (.inr (.inr (.inl (some (22))))), some (.inl (k : Int)), some (.inl ((k : Int) * (21))), some (.inl v10), some (.inl v10)]) (st' := [.inr (.inr (.inl (some (22))))]) (h' := h168) rfl ?_
              refine wq_gr (p' := 171) rfl rfl (congrArg Prod.fst (ly_k C169.1 22 rfl)) rfl (ly_g C169.1 22 0 1 rfl) ?_
              refine wq_cv (p' := 174) (av_qc (.invokevirtual 96) 90 0 0 6) 1 cd_90 [] (1) 6 [some (.inr (.inr (.inl (some (1)))))] rfl rfl rfl pp_90 rfl rfl rfl (congrArg Prod.fst (ly_k C169.1 1 rfl)) rfl rfl rfl rfl ?_
              refine ct_90 C169 F170 (fun h175 C176 F177 => ?_)
              generalize q179 : sem b lim t171 = t178 at C176
              have g180 := ct_wf C176
              show av_wp _ cd_36 174 [some (.inr (.inr (.inl (some (22))))), some (.inl (k : Int)), some (.inl ((k : Int) * (21))), some (.inl v10), some (.inl v10)] [] h175 _
              refine av_wp_ret (v := none) rfl rfl rfl ?_
              exact hq h175 (by first | (simp only [rsy, rs5, rs4, rs3, rs2, rs1, rs0, rsK, q16, q18, q75, q77, q122, q173, q179, if_pos c21, if_neg (Int.not_lt.mpr c21), if_neg c83, if_neg c115, if_neg c124, if_pos c127, if_pos z141, if_neg (show ¬ (v10 = 0 ∨ v10 = 1) by omega)]; exact C176) | (exfalso; omega)) F177
        · have c125 : v10 = (0) := c125
          refine av_wp_seq 2 (pc' := 136) (lv' := [some (.inr (.inr (.inl (some (22))))), some (.inl (k : Int)), some (.inl ((k : Int) * (21))), some (.inl v10), some (.inl v10)]) (st' := [.inl ((k : Int) * (21)), .inr (.inr (.inl (some (22))))]) (h' := h117) rfl ?_
          refine wq_cv (p' := 139) (av_qc (.invokevirtual 81) 40 1 0 2) 2 cd_40 [.inl ((k : Int) * (21))] (22) 2 [some (.inr (.inr (.inl (some (22))))), some (.inl ((k : Int) * (21)))] rfl rfl rfl pp_40 rfl rfl rfl (congrArg Prod.fst (ly_k C118.1 22 rfl)) rfl rfl rfl rfl ?_
          refine ct_40 C118 F119 ha (by omega) (((k : Int) * (21))) (k * 21) (by omega) (by omega) (fun h181 C182 F183 => ?_)
          obtain ⟨⟨t184, r185⟩, q186⟩ : ∃ x, rsT b lim (k * 21) ah t120 r121 = x := ⟨_, rfl⟩
          rw [q186] at C182
          have C182 : CT b lim t184 r185 d h181 := C182
          have g187 := ct_wf C182
          show av_wp _ cd_36 139 [some (.inr (.inr (.inl (some (22))))), some (.inl (k : Int)), some (.inl ((k : Int) * (21))), some (.inl v10), some (.inl v10)] [] h181 _
          refine av_wp_seq 2 (pc' := 142) (lv' := [some (.inr (.inr (.inl (some (22))))), some (.inl (k : Int)), some (.inl ((k : Int) * (21))), some (.inl v10), some (.inl v10)]) (st' := [.inl (2), .inl v10]) (h' := h181) rfl ?_
          refine wq_k2 (p' := 145) rfl rfl ⟨by omega, by omega⟩ ⟨by omega, by omega⟩ (fun c188 => ?_) (fun c189 => ?_)
          · have c188 : v10 ≠ (2) := c188
            refine av_wp_seq 2 (pc' := 164) (lv' := [some (.inr (.inr (.inl (some (22))))), some (.inl (k : Int)), some (.inl ((k : Int) * (21))), some (.inl v10), some (.inl v10)]) (st' := [.inl ((k : Int) * (21)), .inr (.inr (.inl (some (22))))]) (h' := h181) rfl ?_
            refine wq_cv (p' := 167) (av_qc (.invokevirtual 93) 43 1 0 2) 3 cd_43 [.inl ((k : Int) * (21))] (22) 2 [some (.inr (.inr (.inl (some (22))))), some (.inl ((k : Int) * (21))), none] rfl rfl rfl pp_43 rfl rfl rfl (congrArg Prod.fst (ly_k C182.1 22 rfl)) rfl rfl rfl rfl ?_
            refine ct_43 C182 F183 (((k : Int) * (21))) (k * 21) (by omega) (by omega) (fun h190 C191 F192 => ?_)
            obtain ⟨⟨t193, r194⟩, q195⟩ : ∃ x, rsM b lim (k * 21) t184 r185 = x := ⟨_, rfl⟩
            rw [q195] at C191
            have C191 : CT b lim t193 r194 d h190 := C191
            have g196 := ct_wf C191
            show av_wp _ cd_36 167 [some (.inr (.inr (.inl (some (22))))), some (.inl (k : Int)), some (.inl ((k : Int) * (21))), some (.inl v10), some (.inl v10)] [] h190 _
            refine av_wp_seq 1 (pc' := 168) (lv' := [some (.inr (.inr (.inl (some (22))))), some (.inl (k : Int)), some (.inl ((k : Int) * (21))), some (.inl v10), some (.inl v10)]) (st' := [.inr (.inr (.inl (some (22))))]) (h' := h190) rfl ?_
            refine wq_gr (p' := 171) rfl rfl (congrArg Prod.fst (ly_k C191.1 22 rfl)) rfl (ly_g C191.1 22 0 1 rfl) ?_
            refine wq_cv (p' := 174) (av_qc (.invokevirtual 96) 90 0 0 6) 1 cd_90 [] (1) 6 [some (.inr (.inr (.inl (some (1)))))] rfl rfl rfl pp_90 rfl rfl rfl (congrArg Prod.fst (ly_k C191.1 1 rfl)) rfl rfl rfl rfl ?_
            refine ct_90 C191 F192 (fun h197 C198 F199 => ?_)
            generalize q201 : sem b lim t193 = t200 at C198
            have g202 := ct_wf C198
            show av_wp _ cd_36 174 [some (.inr (.inr (.inl (some (22))))), some (.inl (k : Int)), some (.inl ((k : Int) * (21))), some (.inl v10), some (.inl v10)] [] h197 _
            refine av_wp_ret (v := none) rfl rfl rfl ?_
            exact hq h197 (by first | (simp only [rsy, rs5, rs4, rs3, rs2, rs1, rs0, rsK, q16, q18, q75, q77, q122, q186, q195, q201, if_pos c21, if_neg (Int.not_lt.mpr c21), if_neg c83, if_neg c115, if_pos c125, if_neg c188, if_neg (show ¬ (v10 = 0 ∨ v10 = 1) by omega)]; exact C198) | (exfalso; omega)) F199
          · have c189 : v10 = (2) := c189
            exfalso; omega
      · have c116 : v10 = (1) := c116
        refine av_wp_seq 2 (pc' := 116) (lv' := [some (.inr (.inr (.inl (some (22))))), some (.inl (k : Int)), some (.inl ((k : Int) * (21))), some (.inl v10), some (.inl v10)]) (st' := [.inl ((k : Int) * (21)), .inr (.inr (.inl (some (22))))]) (h' := h79) rfl ?_
        refine wq_cv (p' := 119) (av_qc (.invokevirtual 74) 37 1 0 2) 2 cd_37 [.inl ((k : Int) * (21))] (22) 2 [some (.inr (.inr (.inl (some (22))))), some (.inl ((k : Int) * (21)))] rfl rfl rfl pp_37 rfl rfl rfl (congrArg Prod.fst (ly_k C80.1 22 rfl)) rfl rfl rfl rfl ?_
        refine ct_37 C80 F81 (((k : Int) * (21))) (k * 21) (by omega) (by omega) (fun h203 C204 F205 => ?_)
        obtain ⟨⟨t206, r207⟩, q208⟩ : ∃ x, rsO b lim (k * 21) t76 (av_u1 (av_u1 (ufil (ufil (ufil r (k * 21) (k * 21 + 21) (-1)) (k * 21 + 7) (k * 21 + 10) (0)) (k * 21 + 15) (k * 21 + 21) (0)) (k * 21) v10) (k * 21 + 1) v69) = x := ⟨_, rfl⟩
        rw [q208] at C204
        have C204 : CT b lim t206 r207 d h203 := C204
        have g209 := ct_wf C204
        show av_wp _ cd_36 119 [some (.inr (.inr (.inl (some (22))))), some (.inl (k : Int)), some (.inl ((k : Int) * (21))), some (.inl v10), some (.inl v10)] [] h203 _
        refine av_wp_seq 2 (pc' := 131) (lv' := [some (.inr (.inr (.inl (some (22))))), some (.inl (k : Int)), some (.inl ((k : Int) * (21))), some (.inl v10), some (.inl v10)]) (st' := [.inl v10]) (h' := h203) rfl ?_
        refine wq_k1 (p' := 134) rfl rfl ⟨by omega, by omega⟩ (fun c210 => ?_) (fun c211 => ?_)
        · have c210 : v10 ≠ (0) := c210
          refine av_wp_seq 2 (pc' := 142) (lv' := [some (.inr (.inr (.inl (some (22))))), some (.inl (k : Int)), some (.inl ((k : Int) * (21))), some (.inl v10), some (.inl v10)]) (st' := [.inl (2), .inl v10]) (h' := h203) rfl ?_
          refine wq_k2 (p' := 145) rfl rfl ⟨by omega, by omega⟩ ⟨by omega, by omega⟩ (fun c212 => ?_) (fun c213 => ?_)
          · have c212 : v10 ≠ (2) := c212
            refine av_wp_seq 2 (pc' := 164) (lv' := [some (.inr (.inr (.inl (some (22))))), some (.inl (k : Int)), some (.inl ((k : Int) * (21))), some (.inl v10), some (.inl v10)]) (st' := [.inl ((k : Int) * (21)), .inr (.inr (.inl (some (22))))]) (h' := h203) rfl ?_
            refine wq_cv (p' := 167) (av_qc (.invokevirtual 93) 43 1 0 2) 3 cd_43 [.inl ((k : Int) * (21))] (22) 2 [some (.inr (.inr (.inl (some (22))))), some (.inl ((k : Int) * (21))), none] rfl rfl rfl pp_43 rfl rfl rfl (congrArg Prod.fst (ly_k C204.1 22 rfl)) rfl rfl rfl rfl ?_
            refine ct_43 C204 F205 (((k : Int) * (21))) (k * 21) (by omega) (by omega) (fun h214 C215 F216 => ?_)
            obtain ⟨⟨t217, r218⟩, q219⟩ : ∃ x, rsM b lim (k * 21) t206 r207 = x := ⟨_, rfl⟩
            rw [q219] at C215
            have C215 : CT b lim t217 r218 d h214 := C215
            have g220 := ct_wf C215
            show av_wp _ cd_36 167 [some (.inr (.inr (.inl (some (22))))), some (.inl (k : Int)), some (.inl ((k : Int) * (21))), some (.inl v10), some (.inl v10)] [] h214 _
            refine av_wp_seq 1 (pc' := 168) (lv' := [some (.inr (.inr (.inl (some (22))))), some (.inl (k : Int)), some (.inl ((k : Int) * (21))), some (.inl v10), some (.inl v10)]) (st' := [.inr (.inr (.inl (some (22))))]) (h' := h214) rfl ?_
            refine wq_gr (p' := 171) rfl rfl (congrArg Prod.fst (ly_k C215.1 22 rfl)) rfl (ly_g C215.1 22 0 1 rfl) ?_
            refine wq_cv (p' := 174) (av_qc (.invokevirtual 96) 90 0 0 6) 1 cd_90 [] (1) 6 [some (.inr (.inr (.inl (some (1)))))] rfl rfl rfl pp_90 rfl rfl rfl (congrArg Prod.fst (ly_k C215.1 1 rfl)) rfl rfl rfl rfl ?_
            refine ct_90 C215 F216 (fun h221 C222 F223 => ?_)
            generalize q225 : sem b lim t217 = t224 at C222
            have g226 := ct_wf C222
            show av_wp _ cd_36 174 [some (.inr (.inr (.inl (some (22))))), some (.inl (k : Int)), some (.inl ((k : Int) * (21))), some (.inl v10), some (.inl v10)] [] h221 _
            refine av_wp_ret (v := none) rfl rfl rfl ?_
            exact hq h221 (by first | (simp only [rsy, rs5, rs4, rs3, rs2, rs1, rs0, rsK, q16, q18, q75, q77, q208, q219, q225, if_pos c21, if_neg (Int.not_lt.mpr c21), if_neg c83, if_pos c116, if_neg c210, if_neg c212, if_pos (show v10 = 0 ∨ v10 = 1 by omega)]; exact C222) | (exfalso; omega)) F223
          · have c213 : v10 = (2) := c213
            exfalso; omega
        · have c211 : v10 = (0) := c211
          exfalso; omega

