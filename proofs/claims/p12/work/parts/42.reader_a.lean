/-! THE CLASS'S READER OF CASES, exactly -/
set_option maxRecDepth 100000 in
set_option maxHeartbeats 4000000 in
theorem ct_88b {g h : av_H} {b r d : Nat → Int} {lim : Nat} {t : TT} (C : CT b lim t r d h) (F : FT g h) (n : Nat) (hn : n < 20) {Q : Option av_V → av_H → Prop} (hq1 : pkv b t n ≠ -1 → ∀ h', CT b lim (adv b lim t) r d h' → FT g h' → Q (some (.inl 1)) h') (hq0 : pkv b t n = -1 → Q (some (.inl 0)) h) : av_wp none cd_88 0 [some (.inr (.inr (.inl (some (1))))), some (.inr (.inr (.inr n)))] [] h Q := by
  have g0 := ct_wf C
  refine av_wp_seq 2 (pc' := 2) (lv' := [some (.inr (.inr (.inl (some (1))))), some (.inr (.inr (.inr n)))]) (st' := [.inr (.inr (.inr n)), .inr (.inr (.inl (some (1))))]) (h' := h) rfl ?_
  refine wq_cv (p' := 5) (av_qc (.invokevirtual 54) 86 1 0 6) 7 cd_86 [.inr (.inr (.inr n))] (1) 6 [some (.inr (.inr (.inl (some (1))))), some (.inr (.inr (.inr n))), none, none, none, none, none] rfl rfl rfl pp_86 rfl rfl rfl (congrArg Prod.fst (ly_k C.1 1 rfl)) rfl rfl rfl rfl ?_
  refine ct_86 C F n hn (fun v1 p2 => ?_)
  show av_wp _ cd_88 5 [some (.inr (.inr (.inl (some (1))))), some (.inr (.inr (.inr n)))] [.inl v1] h _
  refine av_wp_seq 1 (pc' := 6) (lv' := [some (.inr (.inr (.inl (some (1))))), some (.inr (.inr (.inr n)))]) (st' := [.inl (-1), .inl v1]) (h' := h) rfl ?_
  refine wq_k2 (p' := 9) rfl rfl ⟨by omega, by omega⟩ ⟨by omega, by omega⟩ (fun c3 => ?_) (fun c4 => ?_)
  · have c3 : v1 ≠ (-1) := c3
    refine av_wp_seq 1 (pc' := 12) (lv' := [some (.inr (.inr (.inl (some (1))))), some (.inr (.inr (.inr n)))]) (st' := [.inr (.inr (.inl (some (1))))]) (h' := h) rfl ?_
    refine wq_cv (p' := 15) (av_qc (.invokevirtual 38) 82 0 0 6) 2 cd_82 [] (1) 6 [some (.inr (.inr (.inl (some (1))))), none] rfl rfl rfl pp_82 rfl rfl rfl (congrArg Prod.fst (ly_k C.1 1 rfl)) rfl rfl rfl rfl ?_
    refine ct_82 C F (fun h5 C6 F7 => ?_)
    have g8 := ct_wf C6
    show av_wp _ cd_88 15 [some (.inr (.inr (.inl (some (1))))), some (.inr (.inr (.inr n)))] [] h5 _
    refine av_wp_seq 1 (pc' := 16) (lv' := [some (.inr (.inr (.inl (some (1))))), some (.inr (.inr (.inr n)))]) (st' := [.inl (1)]) (h' := h5) rfl ?_
    refine av_wp_ret (v := some (.inl (1))) rfl rfl rfl ?_
    exact hq1 (by omega) h5 C6 F7
  · have c4 : v1 = (-1) := c4
    refine av_wp_seq 1 (pc' := 10) (lv' := [some (.inr (.inr (.inl (some (1))))), some (.inr (.inr (.inr n)))]) (st' := [.inl (0)]) (h' := h) rfl ?_
    refine av_wp_ret (v := some (.inl (0))) rfl rfl rfl ?_
    exact hq0 (by omega)

set_option maxRecDepth 100000 in
set_option maxHeartbeats 4000000 in
theorem ct_37 {g h : av_H} {b r d : Nat → Int} {lim : Nat} {t : TT} (C : CT b lim t r d h) (F : FT g h) (x : Int) (row : Nat) (ex : x = (row : Int)) (hrow : row ≤ 231) {Q : Option av_V → av_H → Prop} (hq : ∀ h', CT b lim (rsO b lim row t r).1 (rsO b lim row t r).2 d h' → FT g h' → Q none h') : av_wp none cd_37 0 [some (.inr (.inr (.inl (some (22))))), some (.inl x)] [] h Q := by
  have g0 := ct_wf C
  subst ex
  refine av_wp_seq 1 (pc' := 1) (lv' := [some (.inr (.inr (.inl (some (22))))), some (.inl (row : Int))]) (st' := [.inr (.inr (.inl (some (22))))]) (h' := h) rfl ?_
  refine wq_gr (p' := 4) rfl rfl (congrArg Prod.fst (ly_k C.1 22 rfl)) rfl (ly_g C.1 22 0 1 rfl) ?_
  refine av_wp_seq 1 (pc' := 6) (lv' := [some (.inr (.inr (.inl (some (22))))), some (.inl (row : Int))]) (st' := [.inr (.inr (.inr 1)), .inr (.inr (.inl (some (1))))]) (h' := h) rfl ?_
  refine wq_cv (p' := 9) (av_qc (.invokevirtual 99) 86 1 0 6) 7 cd_86 [.inr (.inr (.inr 1))] (1) 6 [some (.inr (.inr (.inl (some (1))))), some (.inr (.inr (.inr 1))), none, none, none, none, none] rfl rfl rfl pp_86 rfl rfl rfl (congrArg Prod.fst (ly_k C.1 1 rfl)) rfl rfl rfl rfl ?_
  refine ct_86 C F 1 (by decide) (fun v1 p2 => ?_)
  have g3 := pkv_le (b := b) (t := t) 1 2 rfl
  have q4 := p2.1.symm
  have p2 := p2.2
  show av_wp _ cd_37 9 [some (.inr (.inr (.inl (some (22))))), some (.inl (row : Int))] [.inl v1] h _
  refine av_wp_seq 1 (pc' := 10) (lv' := [some (.inr (.inr (.inl (some (22))))), some (.inl (row : Int))]) (st' := [.inr (.inr (.inl (some (22)))), .inl v1]) (h' := h) rfl ?_
  refine wq_gr (p' := 13) rfl rfl (congrArg Prod.fst (ly_k C.1 22 rfl)) rfl (ly_g C.1 22 1 23 rfl) ?_
  refine av_wp_seq 3 (pc' := 16) (lv' := [some (.inr (.inr (.inl (some (22))))), some (.inl (row : Int))]) (st' := [.inl ((row : Int) + (1)), .inr (.inr (.inl (some (23)))), .inl v1]) (h' := h) rfl ?_
  obtain ⟨v6, q7⟩ : ∃ v, r (row + 1) = v := ⟨_, rfl⟩
  have g5 := ct_rv C (row + 1)
  rw [q7] at g5
  refine wq_al (p' := 17) (n := 252) rfl rfl (ly_k C.1 23 rfl) (by omega) (show hA h 23 (Int.toNat (((row : Int) + (1)))) = v6 from (congrFun (ct_r C) _).trans ((congrArg r (show (Int.toNat (((row : Int) + (1)))) = (row + 1) by omega)).trans q7)) ?_
  refine wq_k2 (p' := 20) rfl rfl ⟨by omega, by omega⟩ ⟨by omega, by omega⟩ (fun c8 => ?_) (fun c9 => ?_)
  · have c8 : v1 ≠ v6 := c8
    refine av_wp_seq 1 (pc' := 28) (lv' := [some (.inr (.inr (.inl (some (22))))), some (.inl (row : Int))]) (st' := [.inr (.inr (.inl (some (22))))]) (h' := h) rfl ?_
    refine wq_gr (p' := 31) rfl rfl (congrArg Prod.fst (ly_k C.1 22 rfl)) rfl (ly_g C.1 22 1 23 rfl) ?_
    refine av_wp_seq 4 (pc' := 35) (lv' := [some (.inr (.inr (.inl (some (22))))), some (.inl (row : Int))]) (st' := [.inr (.inr (.inl (some (22)))), .inl ((row : Int) + (2)), .inr (.inr (.inl (some (23))))]) (h' := h) rfl ?_
    refine wq_gr (p' := 38) rfl rfl (congrArg Prod.fst (ly_k C.1 22 rfl)) rfl (ly_g C.1 22 0 1 rfl) ?_
    refine av_wp_seq 1 (pc' := 40) (lv' := [some (.inr (.inr (.inl (some (22))))), some (.inl (row : Int))]) (st' := [.inr (.inr (.inr 1)), .inr (.inr (.inl (some (1)))), .inl ((row : Int) + (2)), .inr (.inr (.inl (some (23))))]) (h' := h) rfl ?_
    refine wq_cv (p' := 43) (av_qc (.invokevirtual 68) 87 1 0 6) 3 cd_87 [.inr (.inr (.inr 1))] (1) 6 [some (.inr (.inr (.inl (some (1))))), some (.inr (.inr (.inr 1))), none] rfl rfl rfl pp_87 rfl rfl rfl (congrArg Prod.fst (ly_k C.1 1 rfl)) rfl rfl rfl rfl ?_
    refine ct_87 C F 1 (by decide) (fun v10 h12 p11 C13 F14 => ?_)
    have g15 := pkv_le (b := b) (t := t) 1 2 rfl
    have p11b := p11.2
    have q16 : v1 = v10 := (p11.1.trans q4).symm
    subst q16
    generalize q18 : cho b lim t 1 = t17 at C13
    have g19 := ct_wf C13
    show av_wp _ cd_37 43 [some (.inr (.inr (.inl (some (22))))), some (.inl (row : Int))] [.inl v1, .inl ((row : Int) + (2)), .inr (.inr (.inl (some (23))))] h12 _
    refine ct_as (p' := 44) rfl rfl C13 F14 (row + 2) (by omega) (by omega) (by omega) (fun h20 C21 F22 => ?_)
    refine av_wp_ret (v := none) rfl rfl rfl ?_
    exact hq h20 (by first | (simp only [rsO, q4, q7, q18, if_neg c8]; exact C21) | (exfalso; omega)) F22
  · have c9 : v1 = v6 := c9
    refine av_wp_seq 1 (pc' := 21) (lv' := [some (.inr (.inr (.inl (some (22))))), some (.inl (row : Int))]) (st' := [.inr (.inr (.inl (some (22))))]) (h' := h) rfl ?_
    refine wq_gr (p' := 24) rfl rfl (congrArg Prod.fst (ly_k C.1 22 rfl)) rfl (ly_g C.1 22 0 1 rfl) ?_
    refine wq_cv (p' := 27) (av_qc (.invokevirtual 47) 85 0 0 6) 1 cd_85 [] (1) 6 [some (.inr (.inr (.inl (some (1)))))] rfl rfl rfl pp_85 rfl rfl rfl (congrArg Prod.fst (ly_k C.1 1 rfl)) rfl rfl rfl rfl ?_
    refine ct_85 C F (fun h23 C24 F25 => ?_)
    generalize q27 : fal t = t26 at C24
    have g28 := ct_wf C24
    show av_wp _ cd_37 27 [some (.inr (.inr (.inl (some (22))))), some (.inl (row : Int))] [] h23 _
    refine av_wp_seq 1 (pc' := 28) (lv' := [some (.inr (.inr (.inl (some (22))))), some (.inl (row : Int))]) (st' := [.inr (.inr (.inl (some (22))))]) (h' := h23) rfl ?_
    refine wq_gr (p' := 31) rfl rfl (congrArg Prod.fst (ly_k C24.1 22 rfl)) rfl (ly_g C24.1 22 1 23 rfl) ?_
    refine av_wp_seq 4 (pc' := 35) (lv' := [some (.inr (.inr (.inl (some (22))))), some (.inl (row : Int))]) (st' := [.inr (.inr (.inl (some (22)))), .inl ((row : Int) + (2)), .inr (.inr (.inl (some (23))))]) (h' := h23) rfl ?_
    refine wq_gr (p' := 38) rfl rfl (congrArg Prod.fst (ly_k C24.1 22 rfl)) rfl (ly_g C24.1 22 0 1 rfl) ?_
    refine av_wp_seq 1 (pc' := 40) (lv' := [some (.inr (.inr (.inl (some (22))))), some (.inl (row : Int))]) (st' := [.inr (.inr (.inr 1)), .inr (.inr (.inl (some (1)))), .inl ((row : Int) + (2)), .inr (.inr (.inl (some (23))))]) (h' := h23) rfl ?_
    refine wq_cv (p' := 43) (av_qc (.invokevirtual 68) 87 1 0 6) 3 cd_87 [.inr (.inr (.inr 1))] (1) 6 [some (.inr (.inr (.inl (some (1))))), some (.inr (.inr (.inr 1))), none] rfl rfl rfl pp_87 rfl rfl rfl (congrArg Prod.fst (ly_k C24.1 1 rfl)) rfl rfl rfl rfl ?_
    refine ct_87 C24 F25 1 (by decide) (fun v29 h31 p30 C32 F33 => ?_)
    have g34 := pkv_le (b := b) (t := t26) 1 2 rfl
    have q35 := p30.1.symm
    have p30 := p30.2
    generalize q37 : cho b lim t26 1 = t36 at C32
    have g38 := ct_wf C32
    show av_wp _ cd_37 43 [some (.inr (.inr (.inl (some (22))))), some (.inl (row : Int))] [.inl v29, .inl ((row : Int) + (2)), .inr (.inr (.inl (some (23))))] h31 _
    refine ct_as (p' := 44) rfl rfl C32 F33 (row + 2) (by omega) (by omega) (by omega) (fun h39 C40 F41 => ?_)
    refine av_wp_ret (v := none) rfl rfl rfl ?_
    exact hq h39 (by first | (simp only [rsO, q4, q7, q27, q35, q37, if_pos c9]; exact C40) | (exfalso; omega)) F41

set_option maxRecDepth 100000 in
set_option maxHeartbeats 4000000 in
theorem ct_39 {g h : av_H} {b r d : Nat → Int} {lim : Nat} {t : TT} (C : CT b lim t r d h) (F : FT g h) (y z x : Int) (qy : -2147483648 ≤ y ∧ y ≤ 2147483647) (qz : -2147483648 ≤ z ∧ z ≤ 2147483647) (row : Nat) (ex : x = (row : Int)) (hrow : row ≤ 231) {Q : Option av_V → av_H → Prop} (hq1 : fts r y z row → Q (some (.inl 1)) h) (hq0 : ¬ fts r y z row → Q (some (.inl 0)) h) : av_wp none cd_39 0 [some (.inr (.inr (.inl (some (22))))), some (.inl y), some (.inl z), some (.inl x), none, none] [] h Q := by
  have g0 := ct_wf C
  subst ex
  refine av_wp_seq 1 (pc' := 1) (lv' := [some (.inr (.inr (.inl (some (22))))), some (.inl y), some (.inl z), some (.inl (row : Int)), none, none]) (st' := [.inr (.inr (.inl (some (22))))]) (h' := h) rfl ?_
  refine wq_gr (p' := 4) rfl rfl (congrArg Prod.fst (ly_k C.1 22 rfl)) rfl (ly_g C.1 22 1 23 rfl) ?_
  refine av_wp_seq 3 (pc' := 7) (lv' := [some (.inr (.inr (.inl (some (22))))), some (.inl y), some (.inl z), some (.inl (row : Int)), none, none]) (st' := [.inl ((row : Int) + (0)), .inr (.inr (.inl (some (23))))]) (h' := h) rfl ?_
  obtain ⟨v2, q3⟩ : ∃ v, r (row) = v := ⟨_, rfl⟩
  have g1 := ct_rv C (row)
  rw [q3] at g1
  refine wq_al (p' := 8) (n := 252) rfl rfl (ly_k C.1 23 rfl) (by omega) (show hA h 23 (Int.toNat (((row : Int) + (0)))) = v2 from (congrFun (ct_r C) _).trans ((congrArg r (show (Int.toNat (((row : Int) + (0)))) = (row) by omega)).trans q3)) ?_
  refine av_wp_seq 2 (pc' := 12) (lv' := [some (.inr (.inr (.inl (some (22))))), some (.inl y), some (.inl z), some (.inl (row : Int)), some (.inl v2), none]) (st' := [.inl v2]) (h' := h) rfl ?_
  refine wq_k1 (p' := 15) rfl rfl ⟨by omega, by omega⟩ (fun c4 => ?_) (fun c5 => ?_)
  · have c4 : v2 = (0) := c4
    refine av_wp_seq 5 (pc' := 30) (lv' := [some (.inr (.inr (.inl (some (22))))), some (.inl y), some (.inl z), some (.inl (row : Int)), some (.inl v2), some (.inl (1))]) (st' := [.inl (5), .inl y]) (h' := h) rfl ?_
    refine wq_k2 (p' := 33) rfl rfl ⟨by omega, by omega⟩ ⟨by omega, by omega⟩ (fun c6 => ?_) (fun c7 => ?_)
    · have c6 : y ≠ (5) := c6
      refine av_wp_seq 3 (pc' := 68) (lv' := [some (.inr (.inr (.inl (some (22))))), some (.inl y), some (.inl z), some (.inl (row : Int)), some (.inl v2), some (.inl (1))]) (st' := [.inr (.inr (.inl (some (22))))]) (h' := h) rfl ?_
      refine wq_gr (p' := 71) rfl rfl (congrArg Prod.fst (ly_k C.1 22 rfl)) rfl (ly_g C.1 22 1 23 rfl) ?_
      refine av_wp_seq 3 (pc' := 75) (lv' := [some (.inr (.inr (.inl (some (22))))), some (.inl y), some (.inl z), some (.inl (row : Int)), some (.inl v2), some (.inl (1))]) (st' := [.inl (7), .inl y, .inl (row : Int), .inr (.inr (.inl (some (23))))]) (h' := h) rfl ?_
      refine wq_k2 (p' := 78) rfl rfl ⟨by omega, by omega⟩ ⟨by omega, by omega⟩ (fun c8 => ?_) (fun c9 => ?_)
      · have c8 : y ≠ (7) := c8
        refine av_wp_seq 2 (pc' := 84) (lv' := [some (.inr (.inr (.inl (some (22))))), some (.inl y), some (.inl z), some (.inl (row : Int)), some (.inl v2), some (.inl (1))]) (st' := [.inl ((row : Int) + (2)), .inr (.inr (.inl (some (23))))]) (h' := h) rfl ?_
        obtain ⟨v11, q12⟩ : ∃ v, r (row + 2) = v := ⟨_, rfl⟩
        have g10 := ct_rv C (row + 2)
        rw [q12] at g10
        refine wq_al (p' := 85) (n := 252) rfl rfl (ly_k C.1 23 rfl) (by omega) (show hA h 23 (Int.toNat (((row : Int) + (2)))) = v11 from (congrFun (ct_r C) _).trans ((congrArg r (show (Int.toNat (((row : Int) + (2)))) = (row + 2) by omega)).trans q12)) ?_
        refine av_wp_seq 1 (pc' := 86) (lv' := [some (.inr (.inr (.inl (some (22))))), some (.inl y), some (.inl z), some (.inl (row : Int)), some (.inl v2), some (.inl (1))]) (st' := [.inl z, .inl v11]) (h' := h) rfl ?_
        refine wq_k2 (p' := 89) rfl rfl ⟨by omega, by omega⟩ ⟨by omega, by omega⟩ (fun c13 => ?_) (fun c14 => ?_)
        · have c13 : v11 ≠ z := c13
          refine av_wp_seq 1 (pc' := 94) (lv' := [some (.inr (.inr (.inl (some (22))))), some (.inl y), some (.inl z), some (.inl (row : Int)), some (.inl v2), some (.inl (1))]) (st' := [.inl (0)]) (h' := h) rfl ?_
          refine av_wp_ret (v := some (.inl (0))) rfl rfl rfl ?_
          exact hq0 (fun z => by unfold fts at z; omega)
        · have c14 : v11 = z := c14
          refine av_wp_seq 2 (pc' := 94) (lv' := [some (.inr (.inr (.inl (some (22))))), some (.inl y), some (.inl z), some (.inl (row : Int)), some (.inl v2), some (.inl (1))]) (st' := [.inl (1)]) (h' := h) rfl ?_
          refine av_wp_ret (v := some (.inl (1))) rfl rfl rfl ?_
          exact hq1 (by unfold fts; omega)
      · have c9 : y = (7) := c9
        refine av_wp_seq 3 (pc' := 84) (lv' := [some (.inr (.inr (.inl (some (22))))), some (.inl y), some (.inl z), some (.inl (row : Int)), some (.inl v2), some (.inl (1))]) (st' := [.inl ((row : Int) + (1)), .inr (.inr (.inl (some (23))))]) (h' := h) rfl ?_
        obtain ⟨v16, q17⟩ : ∃ v, r (row + 1) = v := ⟨_, rfl⟩
        have g15 := ct_rv C (row + 1)
        rw [q17] at g15
        refine wq_al (p' := 85) (n := 252) rfl rfl (ly_k C.1 23 rfl) (by omega) (show hA h 23 (Int.toNat (((row : Int) + (1)))) = v16 from (congrFun (ct_r C) _).trans ((congrArg r (show (Int.toNat (((row : Int) + (1)))) = (row + 1) by omega)).trans q17)) ?_
        refine av_wp_seq 1 (pc' := 86) (lv' := [some (.inr (.inr (.inl (some (22))))), some (.inl y), some (.inl z), some (.inl (row : Int)), some (.inl v2), some (.inl (1))]) (st' := [.inl z, .inl v16]) (h' := h) rfl ?_
        refine wq_k2 (p' := 89) rfl rfl ⟨by omega, by omega⟩ ⟨by omega, by omega⟩ (fun c18 => ?_) (fun c19 => ?_)
        · have c18 : v16 ≠ z := c18
          refine av_wp_seq 1 (pc' := 94) (lv' := [some (.inr (.inr (.inl (some (22))))), some (.inl y), some (.inl z), some (.inl (row : Int)), some (.inl v2), some (.inl (1))]) (st' := [.inl (0)]) (h' := h) rfl ?_
          refine av_wp_ret (v := some (.inl (0))) rfl rfl rfl ?_
          exact hq0 (fun z => by unfold fts at z; omega)
        · have c19 : v16 = z := c19
          refine av_wp_seq 2 (pc' := 94) (lv' := [some (.inr (.inr (.inl (some (22))))), some (.inl y), some (.inl z), some (.inl (row : Int)), some (.inl v2), some (.inl (1))]) (st' := [.inl (1)]) (h' := h) rfl ?_
          refine av_wp_ret (v := some (.inl (1))) rfl rfl rfl ?_
          exact hq1 (by unfold fts; omega)
    · have c7 : y = (5) := c7
      refine av_wp_seq 3 (pc' := 45) (lv' := [some (.inr (.inr (.inl (some (22))))), some (.inl y), some (.inl z), some (.inl (row : Int)), some (.inl v2), some (.inl (1))]) (st' := [.inr (.inr (.inl (some (22))))]) (h' := h) rfl ?_
      refine wq_gr (p' := 48) rfl rfl (congrArg Prod.fst (ly_k C.1 22 rfl)) rfl (ly_g C.1 22 1 23 rfl) ?_
      refine av_wp_seq 3 (pc' := 51) (lv' := [some (.inr (.inr (.inl (some (22))))), some (.inl y), some (.inl z), some (.inl (row : Int)), some (.inl v2), some (.inl (1))]) (st' := [.inl ((row : Int) + (1)), .inr (.inr (.inl (some (23))))]) (h' := h) rfl ?_
      obtain ⟨v21, q22⟩ : ∃ v, r (row + 1) = v := ⟨_, rfl⟩
      have g20 := ct_rv C (row + 1)
      rw [q22] at g20
      refine wq_al (p' := 52) (n := 252) rfl rfl (ly_k C.1 23 rfl) (by omega) (show hA h 23 (Int.toNat (((row : Int) + (1)))) = v21 from (congrFun (ct_r C) _).trans ((congrArg r (show (Int.toNat (((row : Int) + (1)))) = (row + 1) by omega)).trans q22)) ?_
      refine av_wp_seq 1 (pc' := 53) (lv' := [some (.inr (.inr (.inl (some (22))))), some (.inl y), some (.inl z), some (.inl (row : Int)), some (.inl v2), some (.inl (1))]) (st' := [.inl z, .inl v21]) (h' := h) rfl ?_
      refine wq_k2 (p' := 56) rfl rfl ⟨by omega, by omega⟩ ⟨by omega, by omega⟩ (fun c23 => ?_) (fun c24 => ?_)
      · have c23 : v21 ≠ z := c23
        refine av_wp_seq 1 (pc' := 61) (lv' := [some (.inr (.inr (.inl (some (22))))), some (.inl y), some (.inl z), some (.inl (row : Int)), some (.inl v2), some (.inl (1))]) (st' := [.inl (0)]) (h' := h) rfl ?_
        refine av_wp_ret (v := some (.inl (0))) rfl rfl rfl ?_
        exact hq0 (fun z => by unfold fts at z; omega)
      · have c24 : v21 = z := c24
        refine av_wp_seq 2 (pc' := 61) (lv' := [some (.inr (.inr (.inl (some (22))))), some (.inl y), some (.inl z), some (.inl (row : Int)), some (.inl v2), some (.inl (1))]) (st' := [.inl (1)]) (h' := h) rfl ?_
        refine av_wp_ret (v := some (.inl (1))) rfl rfl rfl ?_
        exact hq1 (by unfold fts; omega)
  · have c5 : v2 ≠ (0) := c5
    refine av_wp_seq 2 (pc' := 18) (lv' := [some (.inr (.inr (.inl (some (22))))), some (.inl y), some (.inl z), some (.inl (row : Int)), some (.inl v2), none]) (st' := [.inl (3), .inl v2]) (h' := h) rfl ?_
    refine wq_k2 (p' := 21) rfl rfl ⟨by omega, by omega⟩ ⟨by omega, by omega⟩ (fun c25 => ?_) (fun c26 => ?_)
    · have c25 : v2 ≠ (3) := c25
      refine av_wp_seq 4 (pc' := 30) (lv' := [some (.inr (.inr (.inl (some (22))))), some (.inl y), some (.inl z), some (.inl (row : Int)), some (.inl v2), some (.inl (0))]) (st' := [.inl (5), .inl y]) (h' := h) rfl ?_
      refine wq_k2 (p' := 33) rfl rfl ⟨by omega, by omega⟩ ⟨by omega, by omega⟩ (fun c27 => ?_) (fun c28 => ?_)
      · have c27 : y ≠ (5) := c27
        refine av_wp_seq 3 (pc' := 94) (lv' := [some (.inr (.inr (.inl (some (22))))), some (.inl y), some (.inl z), some (.inl (row : Int)), some (.inl v2), some (.inl (0))]) (st' := [.inl (0)]) (h' := h) rfl ?_
        refine av_wp_ret (v := some (.inl (0))) rfl rfl rfl ?_
        exact hq0 (fun z => by unfold fts at z; omega)
      · have c28 : y = (5) := c28
        refine av_wp_seq 4 (pc' := 41) (lv' := [some (.inr (.inr (.inl (some (22))))), some (.inl y), some (.inl z), some (.inl (row : Int)), some (.inl v2), some (.inl (0))]) (st' := [.inl (2), .inl v2]) (h' := h) rfl ?_
        refine wq_k2 (p' := 44) rfl rfl ⟨by omega, by omega⟩ ⟨by omega, by omega⟩ (fun c29 => ?_) (fun c30 => ?_)
        · have c29 : v2 ≠ (2) := c29
          refine av_wp_seq 1 (pc' := 61) (lv' := [some (.inr (.inr (.inl (some (22))))), some (.inl y), some (.inl z), some (.inl (row : Int)), some (.inl v2), some (.inl (0))]) (st' := [.inl (0)]) (h' := h) rfl ?_
          refine av_wp_ret (v := some (.inl (0))) rfl rfl rfl ?_
          exact hq0 (fun z => by unfold fts at z; omega)
        · have c30 : v2 = (2) := c30
          refine av_wp_seq 1 (pc' := 45) (lv' := [some (.inr (.inr (.inl (some (22))))), some (.inl y), some (.inl z), some (.inl (row : Int)), some (.inl v2), some (.inl (0))]) (st' := [.inr (.inr (.inl (some (22))))]) (h' := h) rfl ?_
          refine wq_gr (p' := 48) rfl rfl (congrArg Prod.fst (ly_k C.1 22 rfl)) rfl (ly_g C.1 22 1 23 rfl) ?_
          refine av_wp_seq 3 (pc' := 51) (lv' := [some (.inr (.inr (.inl (some (22))))), some (.inl y), some (.inl z), some (.inl (row : Int)), some (.inl v2), some (.inl (0))]) (st' := [.inl ((row : Int) + (1)), .inr (.inr (.inl (some (23))))]) (h' := h) rfl ?_
          obtain ⟨v32, q33⟩ : ∃ v, r (row + 1) = v := ⟨_, rfl⟩
          have g31 := ct_rv C (row + 1)
          rw [q33] at g31
          refine wq_al (p' := 52) (n := 252) rfl rfl (ly_k C.1 23 rfl) (by omega) (show hA h 23 (Int.toNat (((row : Int) + (1)))) = v32 from (congrFun (ct_r C) _).trans ((congrArg r (show (Int.toNat (((row : Int) + (1)))) = (row + 1) by omega)).trans q33)) ?_
          refine av_wp_seq 1 (pc' := 53) (lv' := [some (.inr (.inr (.inl (some (22))))), some (.inl y), some (.inl z), some (.inl (row : Int)), some (.inl v2), some (.inl (0))]) (st' := [.inl z, .inl v32]) (h' := h) rfl ?_
          refine wq_k2 (p' := 56) rfl rfl ⟨by omega, by omega⟩ ⟨by omega, by omega⟩ (fun c34 => ?_) (fun c35 => ?_)
          · have c34 : v32 ≠ z := c34
            refine av_wp_seq 1 (pc' := 61) (lv' := [some (.inr (.inr (.inl (some (22))))), some (.inl y), some (.inl z), some (.inl (row : Int)), some (.inl v2), some (.inl (0))]) (st' := [.inl (0)]) (h' := h) rfl ?_
            refine av_wp_ret (v := some (.inl (0))) rfl rfl rfl ?_
            exact hq0 (fun z => by unfold fts at z; omega)
          · have c35 : v32 = z := c35
            refine av_wp_seq 2 (pc' := 61) (lv' := [some (.inr (.inr (.inl (some (22))))), some (.inl y), some (.inl z), some (.inl (row : Int)), some (.inl v2), some (.inl (0))]) (st' := [.inl (1)]) (h' := h) rfl ?_
            refine av_wp_ret (v := some (.inl (1))) rfl rfl rfl ?_
            exact hq1 (by unfold fts; omega)
    · have c26 : v2 = (3) := c26
      refine av_wp_seq 5 (pc' := 30) (lv' := [some (.inr (.inr (.inl (some (22))))), some (.inl y), some (.inl z), some (.inl (row : Int)), some (.inl v2), some (.inl (1))]) (st' := [.inl (5), .inl y]) (h' := h) rfl ?_
      refine wq_k2 (p' := 33) rfl rfl ⟨by omega, by omega⟩ ⟨by omega, by omega⟩ (fun c36 => ?_) (fun c37 => ?_)
      · have c36 : y ≠ (5) := c36
        refine av_wp_seq 3 (pc' := 68) (lv' := [some (.inr (.inr (.inl (some (22))))), some (.inl y), some (.inl z), some (.inl (row : Int)), some (.inl v2), some (.inl (1))]) (st' := [.inr (.inr (.inl (some (22))))]) (h' := h) rfl ?_
        refine wq_gr (p' := 71) rfl rfl (congrArg Prod.fst (ly_k C.1 22 rfl)) rfl (ly_g C.1 22 1 23 rfl) ?_
        refine av_wp_seq 3 (pc' := 75) (lv' := [some (.inr (.inr (.inl (some (22))))), some (.inl y), some (.inl z), some (.inl (row : Int)), some (.inl v2), some (.inl (1))]) (st' := [.inl (7), .inl y, .inl (row : Int), .inr (.inr (.inl (some (23))))]) (h' := h) rfl ?_
        refine wq_k2 (p' := 78) rfl rfl ⟨by omega, by omega⟩ ⟨by omega, by omega⟩ (fun c38 => ?_) (fun c39 => ?_)
        · have c38 : y ≠ (7) := c38
          refine av_wp_seq 2 (pc' := 84) (lv' := [some (.inr (.inr (.inl (some (22))))), some (.inl y), some (.inl z), some (.inl (row : Int)), some (.inl v2), some (.inl (1))]) (st' := [.inl ((row : Int) + (2)), .inr (.inr (.inl (some (23))))]) (h' := h) rfl ?_
          obtain ⟨v41, q42⟩ : ∃ v, r (row + 2) = v := ⟨_, rfl⟩
          have g40 := ct_rv C (row + 2)
          rw [q42] at g40
          refine wq_al (p' := 85) (n := 252) rfl rfl (ly_k C.1 23 rfl) (by omega) (show hA h 23 (Int.toNat (((row : Int) + (2)))) = v41 from (congrFun (ct_r C) _).trans ((congrArg r (show (Int.toNat (((row : Int) + (2)))) = (row + 2) by omega)).trans q42)) ?_
          refine av_wp_seq 1 (pc' := 86) (lv' := [some (.inr (.inr (.inl (some (22))))), some (.inl y), some (.inl z), some (.inl (row : Int)), some (.inl v2), some (.inl (1))]) (st' := [.inl z, .inl v41]) (h' := h) rfl ?_
          refine wq_k2 (p' := 89) rfl rfl ⟨by omega, by omega⟩ ⟨by omega, by omega⟩ (fun c43 => ?_) (fun c44 => ?_)
          · have c43 : v41 ≠ z := c43
            refine av_wp_seq 1 (pc' := 94) (lv' := [some (.inr (.inr (.inl (some (22))))), some (.inl y), some (.inl z), some (.inl (row : Int)), some (.inl v2), some (.inl (1))]) (st' := [.inl (0)]) (h' := h) rfl ?_
            refine av_wp_ret (v := some (.inl (0))) rfl rfl rfl ?_
            exact hq0 (fun z => by unfold fts at z; omega)
          · have c44 : v41 = z := c44
            refine av_wp_seq 2 (pc' := 94) (lv' := [some (.inr (.inr (.inl (some (22))))), some (.inl y), some (.inl z), some (.inl (row : Int)), some (.inl v2), some (.inl (1))]) (st' := [.inl (1)]) (h' := h) rfl ?_
            refine av_wp_ret (v := some (.inl (1))) rfl rfl rfl ?_
            exact hq1 (by unfold fts; omega)
        · have c39 : y = (7) := c39
          refine av_wp_seq 3 (pc' := 84) (lv' := [some (.inr (.inr (.inl (some (22))))), some (.inl y), some (.inl z), some (.inl (row : Int)), some (.inl v2), some (.inl (1))]) (st' := [.inl ((row : Int) + (1)), .inr (.inr (.inl (some (23))))]) (h' := h) rfl ?_
          obtain ⟨v46, q47⟩ : ∃ v, r (row + 1) = v := ⟨_, rfl⟩
          have g45 := ct_rv C (row + 1)
          rw [q47] at g45
          refine wq_al (p' := 85) (n := 252) rfl rfl (ly_k C.1 23 rfl) (by omega) (show hA h 23 (Int.toNat (((row : Int) + (1)))) = v46 from (congrFun (ct_r C) _).trans ((congrArg r (show (Int.toNat (((row : Int) + (1)))) = (row + 1) by omega)).trans q47)) ?_
          refine av_wp_seq 1 (pc' := 86) (lv' := [some (.inr (.inr (.inl (some (22))))), some (.inl y), some (.inl z), some (.inl (row : Int)), some (.inl v2), some (.inl (1))]) (st' := [.inl z, .inl v46]) (h' := h) rfl ?_
          refine wq_k2 (p' := 89) rfl rfl ⟨by omega, by omega⟩ ⟨by omega, by omega⟩ (fun c48 => ?_) (fun c49 => ?_)
          · have c48 : v46 ≠ z := c48
            refine av_wp_seq 1 (pc' := 94) (lv' := [some (.inr (.inr (.inl (some (22))))), some (.inl y), some (.inl z), some (.inl (row : Int)), some (.inl v2), some (.inl (1))]) (st' := [.inl (0)]) (h' := h) rfl ?_
            refine av_wp_ret (v := some (.inl (0))) rfl rfl rfl ?_
            exact hq0 (fun z => by unfold fts at z; omega)
          · have c49 : v46 = z := c49
            refine av_wp_seq 2 (pc' := 94) (lv' := [some (.inr (.inr (.inl (some (22))))), some (.inl y), some (.inl z), some (.inl (row : Int)), some (.inl v2), some (.inl (1))]) (st' := [.inl (1)]) (h' := h) rfl ?_
            refine av_wp_ret (v := some (.inl (1))) rfl rfl rfl ?_
            exact hq1 (by unfold fts; omega)
      · have c37 : y = (5) := c37
        refine av_wp_seq 3 (pc' := 45) (lv' := [some (.inr (.inr (.inl (some (22))))), some (.inl y), some (.inl z), some (.inl (row : Int)), some (.inl v2), some (.inl (1))]) (st' := [.inr (.inr (.inl (some (22))))]) (h' := h) rfl ?_
        refine wq_gr (p' := 48) rfl rfl (congrArg Prod.fst (ly_k C.1 22 rfl)) rfl (ly_g C.1 22 1 23 rfl) ?_
        refine av_wp_seq 3 (pc' := 51) (lv' := [some (.inr (.inr (.inl (some (22))))), some (.inl y), some (.inl z), some (.inl (row : Int)), some (.inl v2), some (.inl (1))]) (st' := [.inl ((row : Int) + (1)), .inr (.inr (.inl (some (23))))]) (h' := h) rfl ?_
        obtain ⟨v51, q52⟩ : ∃ v, r (row + 1) = v := ⟨_, rfl⟩
        have g50 := ct_rv C (row + 1)
        rw [q52] at g50
        refine wq_al (p' := 52) (n := 252) rfl rfl (ly_k C.1 23 rfl) (by omega) (show hA h 23 (Int.toNat (((row : Int) + (1)))) = v51 from (congrFun (ct_r C) _).trans ((congrArg r (show (Int.toNat (((row : Int) + (1)))) = (row + 1) by omega)).trans q52)) ?_
        refine av_wp_seq 1 (pc' := 53) (lv' := [some (.inr (.inr (.inl (some (22))))), some (.inl y), some (.inl z), some (.inl (row : Int)), some (.inl v2), some (.inl (1))]) (st' := [.inl z, .inl v51]) (h' := h) rfl ?_
        refine wq_k2 (p' := 56) rfl rfl ⟨by omega, by omega⟩ ⟨by omega, by omega⟩ (fun c53 => ?_) (fun c54 => ?_)
        · have c53 : v51 ≠ z := c53
          refine av_wp_seq 1 (pc' := 61) (lv' := [some (.inr (.inr (.inl (some (22))))), some (.inl y), some (.inl z), some (.inl (row : Int)), some (.inl v2), some (.inl (1))]) (st' := [.inl (0)]) (h' := h) rfl ?_
          refine av_wp_ret (v := some (.inl (0))) rfl rfl rfl ?_
          exact hq0 (fun z => by unfold fts at z; omega)
        · have c54 : v51 = z := c54
          refine av_wp_seq 2 (pc' := 61) (lv' := [some (.inr (.inr (.inl (some (22))))), some (.inl y), some (.inl z), some (.inl (row : Int)), some (.inl v2), some (.inl (1))]) (st' := [.inl (1)]) (h' := h) rfl ?_
          refine av_wp_ret (v := some (.inl (1))) rfl rfl rfl ?_
          exact hq1 (by unfold fts; omega)

set_option maxRecDepth 100000 in
set_option maxHeartbeats 4000000 in
theorem ct_38 {g h : av_H} {b r d : Nat → Int} {lim : Nat} {t : TT} (C : CT b lim t r d h) (F : FT g h) (x : Int) (k : Nat) (ex : x = (k : Int)) (hk : k ≤ 11) (y : Int) (qy : -2147483648 ≤ y ∧ y ≤ 2147483647) {Q : Option av_V → av_H → Prop} (hq : ∀ h', CT b lim (rsS b lim k y t r).1 (rsS b lim k y t r).2 d h' → FT g h' → Q none h') : av_wp none cd_38 0 [some (.inr (.inr (.inl (some (22))))), some (.inl x), some (.inl y), none] [] h Q := by
  have g0 := ct_wf C
  subst ex
  refine av_wp_seq 1 (pc' := 1) (lv' := [some (.inr (.inr (.inl (some (22))))), some (.inl (k : Int)), some (.inl y), none]) (st' := [.inr (.inr (.inl (some (22))))]) (h' := h) rfl ?_
  refine wq_gr (p' := 4) rfl rfl (congrArg Prod.fst (ly_k C.1 22 rfl)) rfl (ly_g C.1 22 0 1 rfl) ?_
  refine wq_cv (p' := 7) (av_qc (.invokevirtual 102) 91 0 0 6) 3 cd_91 [] (1) 6 [some (.inr (.inr (.inl (some (1))))), none, none] rfl rfl rfl pp_91 rfl rfl rfl (congrArg Prod.fst (ly_k C.1 1 rfl)) rfl rfl rfl rfl ?_
  refine ct_91 C F (fun v1 p2 => ?_)
  have q3 := p2.1.symm
  have p2 := p2.2
  show av_wp _ cd_38 7 [some (.inr (.inr (.inl (some (22))))), some (.inl (k : Int)), some (.inl y), none] [.inl v1] h _
  refine av_wp_seq 2 (pc' := 9) (lv' := [some (.inr (.inr (.inl (some (22))))), some (.inl (k : Int)), some (.inl y), some (.inl v1)]) (st' := [.inl v1]) (h' := h) rfl ?_
  refine wq_k1 (p' := 12) rfl rfl ⟨by omega, by omega⟩ (fun c4 => ?_) (fun c5 => ?_)
  · have c4 : v1 < (0) := c4
    refine av_wp_seq 1 (pc' := 41) (lv' := [some (.inr (.inr (.inl (some (22))))), some (.inl (k : Int)), some (.inl y), some (.inl v1)]) (st' := [.inr (.inr (.inl (some (22))))]) (h' := h) rfl ?_
    refine wq_gr (p' := 44) rfl rfl (congrArg Prod.fst (ly_k C.1 22 rfl)) rfl (ly_g C.1 22 0 1 rfl) ?_
    refine wq_cv (p' := 47) (av_qc (.invokevirtual 47) 85 0 0 6) 1 cd_85 [] (1) 6 [some (.inr (.inr (.inl (some (1)))))] rfl rfl rfl pp_85 rfl rfl rfl (congrArg Prod.fst (ly_k C.1 1 rfl)) rfl rfl rfl rfl ?_
    refine ct_85 C F (fun h6 C7 F8 => ?_)
    generalize q10 : fal t = t9 at C7
    have g11 := ct_wf C7
    show av_wp _ cd_38 47 [some (.inr (.inr (.inl (some (22))))), some (.inl (k : Int)), some (.inl y), some (.inl v1)] [] h6 _
    refine av_wp_ret (v := none) rfl rfl rfl ?_
    exact hq h6 (by simp only [rsS, q3, q10]; rw [if_neg (fun z => by have z1 := z.1; omega)]; exact C7) F8
  · have c5 : (0) ≤ v1 := c5
    refine av_wp_seq 2 (pc' := 14) (lv' := [some (.inr (.inr (.inl (some (22))))), some (.inl (k : Int)), some (.inl y), some (.inl v1)]) (st' := [.inl (k : Int), .inl v1]) (h' := h) rfl ?_
    refine wq_k2 (p' := 17) rfl rfl ⟨by omega, by omega⟩ ⟨by omega, by omega⟩ (fun c12 => ?_) (fun c13 => ?_)
    · have c12 : (k : Int) ≤ v1 := c12
      refine av_wp_seq 1 (pc' := 41) (lv' := [some (.inr (.inr (.inl (some (22))))), some (.inl (k : Int)), some (.inl y), some (.inl v1)]) (st' := [.inr (.inr (.inl (some (22))))]) (h' := h) rfl ?_
      refine wq_gr (p' := 44) rfl rfl (congrArg Prod.fst (ly_k C.1 22 rfl)) rfl (ly_g C.1 22 0 1 rfl) ?_
      refine wq_cv (p' := 47) (av_qc (.invokevirtual 47) 85 0 0 6) 1 cd_85 [] (1) 6 [some (.inr (.inr (.inl (some (1)))))] rfl rfl rfl pp_85 rfl rfl rfl (congrArg Prod.fst (ly_k C.1 1 rfl)) rfl rfl rfl rfl ?_
      refine ct_85 C F (fun h14 C15 F16 => ?_)
      generalize q18 : fal t = t17 at C15
      have g19 := ct_wf C15
      show av_wp _ cd_38 47 [some (.inr (.inr (.inl (some (22))))), some (.inl (k : Int)), some (.inl y), some (.inl v1)] [] h14 _
      refine av_wp_ret (v := none) rfl rfl rfl ?_
      exact hq h14 (by simp only [rsS, q3, q18]; rw [if_neg (fun z => by have z1 := z.1; omega)]; exact C15) F16
    · have c13 : v1 < (k : Int) := c13
      refine av_wp_seq 3 (pc' := 20) (lv' := [some (.inr (.inr (.inl (some (22))))), some (.inl (k : Int)), some (.inl y), some (.inl v1)]) (st' := [.inr (.inr (.inl (some (22)))), .inl y, .inr (.inr (.inl (some (22))))]) (h' := h) rfl ?_
      refine wq_gr (p' := 23) rfl rfl (congrArg Prod.fst (ly_k C.1 22 rfl)) rfl (ly_g C.1 22 1 23 rfl) ?_
      refine av_wp_seq 5 (pc' := 29) (lv' := [some (.inr (.inr (.inl (some (22))))), some (.inl (k : Int)), some (.inl y), some (.inl v1)]) (st' := [.inl (((k : Int) * (21)) + (1)), .inr (.inr (.inl (some (23)))), .inl y, .inr (.inr (.inl (some (22))))]) (h' := h) rfl ?_
      obtain ⟨v21, q22⟩ : ∃ v, r (k * 21 + 1) = v := ⟨_, rfl⟩
      have g20 := ct_rv C (k * 21 + 1)
      rw [q22] at g20
      refine wq_al (p' := 30) (n := 252) rfl rfl (ly_k C.1 23 rfl) (by omega) (show hA h 23 (Int.toNat ((((k : Int) * (21)) + (1)))) = v21 from (congrFun (ct_r C) _).trans ((congrArg r (show (Int.toNat ((((k : Int) * (21)) + (1)))) = (k * 21 + 1) by omega)).trans q22)) ?_
      refine av_wp_seq 3 (pc' := 34) (lv' := [some (.inr (.inr (.inl (some (22))))), some (.inl (k : Int)), some (.inl y), some (.inl v1)]) (st' := [.inl (v1 * (21)), .inl v21, .inl y, .inr (.inr (.inl (some (22))))]) (h' := h) rfl ?_
      refine wq_cv (p' := 37) (av_qc (.invokevirtual 106) 39 3 0 2) 6 cd_39 [.inl (v1 * (21)), .inl v21, .inl y] (22) 2 [some (.inr (.inr (.inl (some (22))))), some (.inl y), some (.inl v21), some (.inl (v1 * (21))), none, none] rfl rfl rfl pp_39 rfl rfl rfl (congrArg Prod.fst (ly_k C.1 22 rfl)) rfl rfl rfl rfl ?_
      refine ct_39 C F (y) (v21) ((v1 * (21))) (by omega) (by omega) ((v1).toNat * 21) (by omega) (by omega) (fun z23 => ?_) (fun z23 => ?_)
      · show av_wp _ cd_38 37 [some (.inr (.inr (.inl (some (22))))), some (.inl (k : Int)), some (.inl y), some (.inl v1)] [.inl (1)] h _
        refine av_wp_seq 2 (pc' := 49) (lv' := [some (.inr (.inr (.inl (some (22))))), some (.inl (k : Int)), some (.inl y), some (.inl v1)]) (st' := [.inr (.inr (.inl (some (22))))]) (h' := h) rfl ?_
        refine wq_gr (p' := 52) rfl rfl (congrArg Prod.fst (ly_k C.1 22 rfl)) rfl (ly_g C.1 22 1 23 rfl) ?_
        refine av_wp_seq 6 (pc' := 59) (lv' := [some (.inr (.inr (.inl (some (22))))), some (.inl (k : Int)), some (.inl y), some (.inl v1)]) (st' := [.inl v1, .inl (((k : Int) * (21)) + (3)), .inr (.inr (.inl (some (23))))]) (h' := h) rfl ?_
        refine ct_as (p' := 60) rfl rfl C F (k * 21 + 3) (by omega) (by omega) (by omega) (fun h24 C25 F26 => ?_)
        refine av_wp_seq 1 (pc' := 61) (lv' := [some (.inr (.inr (.inl (some (22))))), some (.inl (k : Int)), some (.inl y), some (.inl v1)]) (st' := [.inr (.inr (.inl (some (22))))]) (h' := h24) rfl ?_
        refine wq_gr (p' := 64) rfl rfl (congrArg Prod.fst (ly_k C25.1 22 rfl)) rfl (ly_g C25.1 22 0 1 rfl) ?_
        refine wq_cv (p' := 67) (av_qc (.invokevirtual 110) 82 0 0 6) 2 cd_82 [] (1) 6 [some (.inr (.inr (.inl (some (1))))), none] rfl rfl rfl pp_82 rfl rfl rfl (congrArg Prod.fst (ly_k C25.1 1 rfl)) rfl rfl rfl rfl ?_
        refine ct_82 C25 F26 (fun h27 C28 F29 => ?_)
        generalize q31 : adv b lim t = t30 at C28
        have g32 := ct_wf C28
        show av_wp _ cd_38 67 [some (.inr (.inr (.inl (some (22))))), some (.inl (k : Int)), some (.inl y), some (.inl v1)] [] h27 _
        refine av_wp_ret (v := none) rfl rfl rfl ?_
        exact hq h27 (by simp only [rsS, q3, q22, q31]; rw [if_pos ⟨⟨by omega, by omega⟩, z23⟩]; exact C28) F29
      · show av_wp _ cd_38 37 [some (.inr (.inr (.inl (some (22))))), some (.inl (k : Int)), some (.inl y), some (.inl v1)] [.inl (0)] h _
        refine av_wp_seq 2 (pc' := 41) (lv' := [some (.inr (.inr (.inl (some (22))))), some (.inl (k : Int)), some (.inl y), some (.inl v1)]) (st' := [.inr (.inr (.inl (some (22))))]) (h' := h) rfl ?_
        refine wq_gr (p' := 44) rfl rfl (congrArg Prod.fst (ly_k C.1 22 rfl)) rfl (ly_g C.1 22 0 1 rfl) ?_
        refine wq_cv (p' := 47) (av_qc (.invokevirtual 47) 85 0 0 6) 1 cd_85 [] (1) 6 [some (.inr (.inr (.inl (some (1)))))] rfl rfl rfl pp_85 rfl rfl rfl (congrArg Prod.fst (ly_k C.1 1 rfl)) rfl rfl rfl rfl ?_
        refine ct_85 C F (fun h33 C34 F35 => ?_)
        generalize q37 : fal t = t36 at C34
        have g38 := ct_wf C34
        show av_wp _ cd_38 47 [some (.inr (.inr (.inl (some (22))))), some (.inl (k : Int)), some (.inl y), some (.inl v1)] [] h33 _
        refine av_wp_ret (v := none) rfl rfl rfl ?_
        exact hq h33 (by simp only [rsS, q3, q22, q37]; rw [if_neg (fun z => z23 z.2)]; exact C34) F35

set_option maxRecDepth 100000 in
set_option maxHeartbeats 4000000 in
theorem ct_42 {g h : av_H} {b r d : Nat → Int} {lim : Nat} {t : TT} (C : CT b lim t r d h) (F : FT g h) (x : Int) (row : Nat) (ex : x = (row : Int)) (hrow : row ≤ 231) {Q : Option av_V → av_H → Prop} (hq : ∀ h', CT b lim (rsW b lim row 900 t r).1 (rsW b lim row 900 t r).2 d h' → FT g h' → Q none h') : av_wp none cd_42 0 [some (.inr (.inr (.inl (some (22))))), some (.inl x), none, none] [] h Q := by
  have g0 := ct_wf C
  subst ex
  refine av_wp_seq 2 (pc' := 2) (lv' := [some (.inr (.inr (.inl (some (22))))), some (.inl (row : Int)), some (.inl (0)), none]) (st' := []) (h' := h) rfl ?_
  have L9 : ∀ (m8 : Nat) (k1 : Int) (a2 : Option av_V) (t3 : TT) (r4 : Nat → Int) (h5 : av_H), av_lg a2 = false → rsW b lim row (Int.toNat (900 - k1)) t3 r4 = rsW b lim row 900 t r → (0 ≤ k1 ∧ k1 ≤ 900) → CT b lim t3 r4 d h5 → FT g h5 → (900 - k1).toNat = m8 → av_wp none cd_42 2 [some (.inr (.inr (.inl (some (22))))), some (.inl (row : Int)), some (.inl k1), a2] [] h5 Q := by
    intro m8
    induction m8 using Nat.strongRecOn with
    | _ m8 I10 =>
      intro k1 a2 t3 r4 h5 g12 g13 g14 C6 F7 e11
      have la2 := g12
      refine av_wp_seq 2 (pc' := 6) (lv' := [some (.inr (.inr (.inl (some (22))))), some (.inl (row : Int)), some (.inl k1), a2]) (st' := [.inl (900), .inl k1]) (h' := h5) rfl ?_
      refine wq_k2 (p' := 9) rfl rfl ⟨by omega, by omega⟩ ⟨by omega, by omega⟩ (fun c15 => ?_) (fun c16 => ?_)
      · have c15 : (900) ≤ k1 := c15
        refine av_wp_ret (v := none) rfl rfl rfl ?_
        have z17 : rsW b lim row 900 t r = (t3, r4) := by rw [← g13, show (Int.toNat (900 - k1)) = 0 by omega]; rfl
        exact hq h5 (by rw [z17]; exact C6) F7
      · have c16 : k1 < (900) := c16
        have g18 := ct_wf C6
        refine av_wp_seq 1 (pc' := 10) (lv' := [some (.inr (.inr (.inl (some (22))))), some (.inl (row : Int)), some (.inl k1), a2]) (st' := [.inr (.inr (.inl (some (22))))]) (h' := h5) rfl ?_
        refine wq_gr (p' := 13) rfl rfl (congrArg Prod.fst (ly_k C6.1 22 rfl)) rfl (ly_g C6.1 22 0 1 rfl) ?_
        refine av_wp_seq 1 (pc' := 15) (lv' := [some (.inr (.inr (.inl (some (22))))), some (.inl (row : Int)), some (.inl k1), a2]) (st' := [.inr (.inr (.inr 2)), .inr (.inr (.inl (some (1))))]) (h' := h5) rfl ?_
        refine wq_cv (p' := 18) (av_qc (.invokevirtual 99) 86 1 0 6) 7 cd_86 [.inr (.inr (.inr 2))] (1) 6 [some (.inr (.inr (.inl (some (1))))), some (.inr (.inr (.inr 2))), none, none, none, none, none] rfl rfl rfl pp_86 rfl rfl rfl (congrArg Prod.fst (ly_k C6.1 1 rfl)) rfl rfl rfl rfl ?_
        refine ct_86 C6 F7 2 (by decide) (fun v19 p20 => ?_)
        have g21 := pkv_le (b := b) (t := t3) 2 4 rfl
        have q22 := p20.1.symm
        have p20 := p20.2
        show av_wp _ cd_42 18 [some (.inr (.inr (.inl (some (22))))), some (.inl (row : Int)), some (.inl k1), a2] [.inl v19] h5 _
        refine av_wp_seq 3 (pc' := 21) (lv' := [some (.inr (.inr (.inl (some (22))))), some (.inl (row : Int)), some (.inl k1), some (.inl v19)]) (st' := [.inl (-1), .inl v19]) (h' := h5) rfl ?_
        refine wq_k2 (p' := 24) rfl rfl ⟨by omega, by omega⟩ ⟨by omega, by omega⟩ (fun c23 => ?_) (fun c24 => ?_)
        · have c23 : v19 ≠ (-1) := c23
          refine av_wp_seq 1 (pc' := 26) (lv' := [some (.inr (.inr (.inl (some (22))))), some (.inl (row : Int)), some (.inl k1), some (.inl v19)]) (st' := [.inr (.inr (.inl (some (22))))]) (h' := h5) rfl ?_
          refine wq_gr (p' := 29) rfl rfl (congrArg Prod.fst (ly_k C6.1 22 rfl)) rfl (ly_g C6.1 22 0 1 rfl) ?_
          refine wq_cv (p' := 32) (av_qc (.invokevirtual 110) 82 0 0 6) 2 cd_82 [] (1) 6 [some (.inr (.inr (.inl (some (1))))), none] rfl rfl rfl pp_82 rfl rfl rfl (congrArg Prod.fst (ly_k C6.1 1 rfl)) rfl rfl rfl rfl ?_
          refine ct_82 C6 F7 (fun h25 C26 F27 => ?_)
          generalize q29 : adv b lim t3 = t28 at C26
          have g30 := ct_wf C26
          show av_wp _ cd_42 32 [some (.inr (.inr (.inl (some (22))))), some (.inl (row : Int)), some (.inl k1), some (.inl v19)] [] h25 _
          refine av_wp_seq 1 (pc' := 33) (lv' := [some (.inr (.inr (.inl (some (22))))), some (.inl (row : Int)), some (.inl k1), some (.inl v19)]) (st' := [.inr (.inr (.inl (some (22))))]) (h' := h25) rfl ?_
          refine wq_gr (p' := 36) rfl rfl (congrArg Prod.fst (ly_k C26.1 22 rfl)) rfl (ly_g C26.1 22 1 23 rfl) ?_
          refine av_wp_seq 6 (pc' := 43) (lv' := [some (.inr (.inr (.inl (some (22))))), some (.inl (row : Int)), some (.inl k1), some (.inl v19)]) (st' := [.inr (.inr (.inl (some (22)))), .inl (((row : Int) + (10)) + v19), .inr (.inr (.inl (some (23))))]) (h' := h25) rfl ?_
          refine wq_gr (p' := 46) rfl rfl (congrArg Prod.fst (ly_k C26.1 22 rfl)) rfl (ly_g C26.1 22 0 1 rfl) ?_
          refine av_wp_seq 2 (pc' := 50) (lv' := [some (.inr (.inr (.inl (some (22))))), some (.inl (row : Int)), some (.inl k1), some (.inl v19)]) (st' := [.inl (999), .inl (0), .inr (.inr (.inl (some (1)))), .inl (((row : Int) + (10)) + v19), .inr (.inr (.inl (some (23))))]) (h' := h25) rfl ?_
          refine wq_cv (p' := 53) (av_qc (.invokevirtual 118) 92 2 0 6) 4 cd_92 [.inl (999), .inl (0)] (1) 6 [some (.inr (.inr (.inl (some (1))))), some (.inl (0)), some (.inl (999)), none] rfl rfl rfl pp_92 rfl rfl rfl (congrArg Prod.fst (ly_k C26.1 1 rfl)) rfl rfl rfl rfl ?_
          refine ct_92 C26 F27 ((0)) ((999)) (by omega) (by omega) (fun v31 h33 p32 C34 F35 => ?_)
          have q36 := p32.1.symm
          have p32 := p32.2
          generalize q38 : nmt b lim t28 (0) (999) = t37 at C34
          have g39 := ct_wf C34
          show av_wp _ cd_42 53 [some (.inr (.inr (.inl (some (22))))), some (.inl (row : Int)), some (.inl k1), some (.inl v19)] [.inl v31, .inl (((row : Int) + (10)) + v19), .inr (.inr (.inl (some (23))))] h33 _
          refine ct_as (p' := 54) rfl rfl C34 F35 (row + 10 + (Int.toNat v19)) (by omega) (by omega) (by omega) (fun h40 C41 F42 => ?_)
          refine av_wp_seq 2 (pc' := 2) (lv' := [some (.inr (.inr (.inl (some (22))))), some (.inl (row : Int)), some (.inl (k1 + (1))), some (.inl v19)]) (st' := []) (h' := h40) rfl ?_
          exact I10 _ (by omega) ((k1 + (1))) (some (.inl v19)) t37 (av_u1 r4 (row + 10 + (Int.toNat v19)) v31) h40 rfl (by rw [← g13, show (Int.toNat (900 - k1)) = (Int.toNat (900 - (k1 + (1)))) + 1 by omega]; simp only [rsW, q22, q29, q36, q38, if_pos c16, if_neg (Int.not_le.mpr c16), if_neg c23]) (by omega) C41 F42 rfl
        · have c24 : v19 = (-1) := c24
          refine av_wp_ret (v := none) rfl rfl rfl ?_
          have z43 : rsW b lim row 900 t r = (t3, r4) := by rw [← g13, show (Int.toNat (900 - k1)) = (Int.toNat (899 - k1)) + 1 by omega]; simp only [rsW, q22, if_pos c16, if_neg (Int.not_le.mpr c16), if_pos c24]
          exact hq h5 (by rw [z43]; exact C6) F7
  exact L9 _ ((0)) (none) t r h rfl rfl (by omega) C F rfl

set_option maxRecDepth 100000 in
set_option maxHeartbeats 4000000 in
theorem ct_40 {g h : av_H} {b r d : Nat → Int} {lim : Nat} {t : TT} (C : CT b lim t r d h) (F : FT g h) {ah : Int} (ha : hF g 22 2 = ah) (qa : 0 ≤ ah ∧ ah ≤ 16) (x : Int) (row : Nat) (ex : x = (row : Int)) (hrow : row ≤ 231) {Q : Option av_V → av_H → Prop} (hq : ∀ h', CT b lim (rsT b lim row ah t r).1 (rsT b lim row ah t r).2 d h' → FT g h' → Q none h') : av_wp none cd_40 0 [some (.inr (.inr (.inl (some (22))))), some (.inl x)] [] h Q := by
  have g0 := ct_wf C
  subst ex
  refine av_wp_seq 2 (pc' := 2) (lv' := [some (.inr (.inr (.inl (some (22))))), some (.inl (row : Int))]) (st' := [.inl (row : Int), .inr (.inr (.inl (some (22))))]) (h' := h) rfl ?_
  refine wq_cv (p' := 5) (av_qc (.invokevirtual 113) 42 1 0 2) 4 cd_42 [.inl (row : Int)] (22) 2 [some (.inr (.inr (.inl (some (22))))), some (.inl (row : Int)), none, none] rfl rfl rfl pp_42 rfl rfl rfl (congrArg Prod.fst (ly_k C.1 22 rfl)) rfl rfl rfl rfl ?_
  refine ct_42 C F ((row : Int)) (row) (by omega) (by omega) (fun h1 C2 F3 => ?_)
  obtain ⟨⟨t4, r5⟩, q6⟩ : ∃ x, rsW b lim (row) 900 t r = x := ⟨_, rfl⟩
  rw [q6] at C2
  have C2 : CT b lim t4 r5 d h1 := C2
  have g7 := ct_wf C2
  show av_wp _ cd_40 5 [some (.inr (.inr (.inl (some (22))))), some (.inl (row : Int))] [] h1 _
  refine av_wp_seq 1 (pc' := 6) (lv' := [some (.inr (.inr (.inl (some (22))))), some (.inl (row : Int))]) (st' := [.inr (.inr (.inl (some (22))))]) (h' := h1) rfl ?_
  refine wq_gr (p' := 9) rfl rfl (congrArg Prod.fst (ly_k C2.1 22 rfl)) rfl (ly_g C2.1 22 0 1 rfl) ?_
  refine av_wp_seq 1 (pc' := 11) (lv' := [some (.inr (.inr (.inl (some (22))))), some (.inl (row : Int))]) (st' := [.inr (.inr (.inr 3)), .inr (.inr (.inl (some (1))))]) (h' := h1) rfl ?_
  refine wq_cv (p' := 14) (av_qc (.invokevirtual 86) 88 1 0 6) 2 cd_88 [.inr (.inr (.inr 3))] (1) 6 [some (.inr (.inr (.inl (some (1))))), some (.inr (.inr (.inr 3)))] rfl rfl rfl pp_88 rfl rfl rfl (congrArg Prod.fst (ly_k C2.1 1 rfl)) rfl rfl rfl rfl ?_
  refine ct_88b C2 F3 3 (by decide) (fun z8 h9 C10 F11 => ?_) (fun z8 => ?_)
  · generalize q13 : adv b lim t4 = t12 at C10
    have g14 := ct_wf C10
    show av_wp _ cd_40 14 [some (.inr (.inr (.inl (some (22))))), some (.inl (row : Int))] [.inl (1)] h9 _
    refine av_wp_seq 2 (pc' := 18) (lv' := [some (.inr (.inr (.inl (some (22))))), some (.inl (row : Int))]) (st' := [.inr (.inr (.inl (some (22))))]) (h' := h9) rfl ?_
    refine wq_gr (p' := 21) rfl rfl (congrArg Prod.fst (ly_k C10.1 22 rfl)) rfl (ly_g C10.1 22 1 23 rfl) ?_
    refine av_wp_seq 4 (pc' := 25) (lv' := [some (.inr (.inr (.inl (some (22))))), some (.inl (row : Int))]) (st' := [.inr (.inr (.inl (some (22)))), .inl ((row : Int) + (5)), .inr (.inr (.inl (some (23))))]) (h' := h9) rfl ?_
    refine wq_gr (p' := 28) rfl rfl (congrArg Prod.fst (ly_k C10.1 22 rfl)) rfl (ly_g C10.1 22 0 1 rfl) ?_
    refine av_wp_seq 2 (pc' := 32) (lv' := [some (.inr (.inr (.inl (some (22))))), some (.inl (row : Int))]) (st' := [.inl (1999), .inl (0), .inr (.inr (.inl (some (1)))), .inl ((row : Int) + (5)), .inr (.inr (.inl (some (23))))]) (h' := h9) rfl ?_
    refine wq_cv (p' := 35) (av_qc (.invokevirtual 118) 92 2 0 6) 4 cd_92 [.inl (1999), .inl (0)] (1) 6 [some (.inr (.inr (.inl (some (1))))), some (.inl (0)), some (.inl (1999)), none] rfl rfl rfl pp_92 rfl rfl rfl (congrArg Prod.fst (ly_k C10.1 1 rfl)) rfl rfl rfl rfl ?_
    refine ct_92 C10 F11 ((0)) ((1999)) (by omega) (by omega) (fun v15 h17 p16 C18 F19 => ?_)
    have q20 := p16.1.symm
    have p16 := p16.2
    generalize q22 : nmt b lim t12 (0) (1999) = t21 at C18
    have g23 := ct_wf C18
    show av_wp _ cd_40 35 [some (.inr (.inr (.inl (some (22))))), some (.inl (row : Int))] [.inl v15, .inl ((row : Int) + (5)), .inr (.inr (.inl (some (23))))] h17 _
    refine ct_as (p' := 36) rfl rfl C18 F19 (row + 5) (by omega) (by omega) (by omega) (fun h24 C25 F26 => ?_)
    refine av_wp_seq 1 (pc' := 37) (lv' := [some (.inr (.inr (.inl (some (22))))), some (.inl (row : Int))]) (st' := [.inr (.inr (.inl (some (22))))]) (h' := h24) rfl ?_
    refine wq_gr (p' := 40) rfl rfl (congrArg Prod.fst (ly_k C25.1 22 rfl)) rfl (ly_g C25.1 22 0 1 rfl) ?_
    refine av_wp_seq 1 (pc' := 42) (lv' := [some (.inr (.inr (.inl (some (22))))), some (.inl (row : Int))]) (st' := [.inr (.inr (.inr 4)), .inr (.inr (.inl (some (1))))]) (h' := h24) rfl ?_
    refine wq_cv (p' := 45) (av_qc (.invokevirtual 86) 88 1 0 6) 2 cd_88 [.inr (.inr (.inr 4))] (1) 6 [some (.inr (.inr (.inl (some (1))))), some (.inr (.inr (.inr 4)))] rfl rfl rfl pp_88 rfl rfl rfl (congrArg Prod.fst (ly_k C25.1 1 rfl)) rfl rfl rfl rfl ?_
    refine ct_88b C25 F26 4 (by decide) (fun z27 h28 C29 F30 => ?_) (fun z27 => ?_)
    · generalize q32 : adv b lim t21 = t31 at C29
      have g33 := ct_wf C29
      show av_wp _ cd_40 45 [some (.inr (.inr (.inl (some (22))))), some (.inl (row : Int))] [.inl (1)] h28 _
      refine av_wp_seq 2 (pc' := 49) (lv' := [some (.inr (.inr (.inl (some (22))))), some (.inl (row : Int))]) (st' := [.inr (.inr (.inl (some (22))))]) (h' := h28) rfl ?_
      refine wq_gr (p' := 52) rfl rfl (congrArg Prod.fst (ly_k C29.1 22 rfl)) rfl (ly_g C29.1 22 1 23 rfl) ?_
      refine av_wp_seq 4 (pc' := 57) (lv' := [some (.inr (.inr (.inl (some (22))))), some (.inl (row : Int))]) (st' := [.inr (.inr (.inl (some (22)))), .inl ((row : Int) + (6)), .inr (.inr (.inl (some (23))))]) (h' := h28) rfl ?_
      refine wq_gr (p' := 60) rfl rfl (congrArg Prod.fst (ly_k C29.1 22 rfl)) rfl (ly_g C29.1 22 0 1 rfl) ?_
      refine av_wp_seq 2 (pc' := 62) (lv' := [some (.inr (.inr (.inl (some (22))))), some (.inl (row : Int))]) (st' := [.inr (.inr (.inl (some (22)))), .inl (0), .inr (.inr (.inl (some (1)))), .inl ((row : Int) + (6)), .inr (.inr (.inl (some (23))))]) (h' := h28) rfl ?_
      refine wq_gi (p' := 65) rfl rfl (congrArg Prod.fst (ly_k C29.1 22 rfl)) rfl ((F30.2.2.2.2.2.1 22 2 rfl).trans ha) ?_
      refine av_wp_seq 2 (pc' := 67) (lv' := [some (.inr (.inr (.inl (some (22))))), some (.inl (row : Int))]) (st' := [.inl (ah - (1)), .inl (0), .inr (.inr (.inl (some (1)))), .inl ((row : Int) + (6)), .inr (.inr (.inl (some (23))))]) (h' := h28) rfl ?_
      refine wq_cv (p' := 70) (av_qc (.invokevirtual 118) 92 2 0 6) 4 cd_92 [.inl (ah - (1)), .inl (0)] (1) 6 [some (.inr (.inr (.inl (some (1))))), some (.inl (0)), some (.inl (ah - (1))), none] rfl rfl rfl pp_92 rfl rfl rfl (congrArg Prod.fst (ly_k C29.1 1 rfl)) rfl rfl rfl rfl ?_
      refine ct_92 C29 F30 ((0)) ((ah - (1))) (by omega) (by omega) (fun v34 h36 p35 C37 F38 => ?_)
      have q39 := p35.1.symm
      have p35 := p35.2
      generalize q41 : nmt b lim t31 (0) (ah - (1)) = t40 at C37
      have g42 := ct_wf C37
      show av_wp _ cd_40 70 [some (.inr (.inr (.inl (some (22))))), some (.inl (row : Int))] [.inl v34, .inl ((row : Int) + (6)), .inr (.inr (.inl (some (23))))] h36 _
      refine ct_as (p' := 71) rfl rfl C37 F38 (row + 6) (by omega) (by omega) (by omega) (fun h43 C44 F45 => ?_)
      refine av_wp_ret (v := none) rfl rfl rfl ?_
      exact hq h43 (by first | (simp only [rsT, rsT2, rsT1, q6, q13, q20, q22, q32, q39, q41, if_neg z8, if_neg z27]; exact C44) | (exfalso; omega)) F45
    · show av_wp _ cd_40 45 [some (.inr (.inr (.inl (some (22))))), some (.inl (row : Int))] [.inl (0)] h24 _
      refine av_wp_seq 1 (pc' := 71) (lv' := [some (.inr (.inr (.inl (some (22))))), some (.inl (row : Int))]) (st' := []) (h' := h24) rfl ?_
      refine av_wp_ret (v := none) rfl rfl rfl ?_
      exact hq h24 (by first | (simp only [rsT, rsT2, rsT1, q6, q13, q20, q22, if_neg z8, if_pos z27]; exact C25) | (exfalso; omega)) F26
  · show av_wp _ cd_40 14 [some (.inr (.inr (.inl (some (22))))), some (.inl (row : Int))] [.inl (0)] h1 _
    refine av_wp_seq 2 (pc' := 37) (lv' := [some (.inr (.inr (.inl (some (22))))), some (.inl (row : Int))]) (st' := [.inr (.inr (.inl (some (22))))]) (h' := h1) rfl ?_
    refine wq_gr (p' := 40) rfl rfl (congrArg Prod.fst (ly_k C2.1 22 rfl)) rfl (ly_g C2.1 22 0 1 rfl) ?_
    refine av_wp_seq 1 (pc' := 42) (lv' := [some (.inr (.inr (.inl (some (22))))), some (.inl (row : Int))]) (st' := [.inr (.inr (.inr 4)), .inr (.inr (.inl (some (1))))]) (h' := h1) rfl ?_
    refine wq_cv (p' := 45) (av_qc (.invokevirtual 86) 88 1 0 6) 2 cd_88 [.inr (.inr (.inr 4))] (1) 6 [some (.inr (.inr (.inl (some (1))))), some (.inr (.inr (.inr 4)))] rfl rfl rfl pp_88 rfl rfl rfl (congrArg Prod.fst (ly_k C2.1 1 rfl)) rfl rfl rfl rfl ?_
    refine ct_88b C2 F3 4 (by decide) (fun z46 h47 C48 F49 => ?_) (fun z46 => ?_)
    · generalize q51 : adv b lim t4 = t50 at C48
      have g52 := ct_wf C48
      show av_wp _ cd_40 45 [some (.inr (.inr (.inl (some (22))))), some (.inl (row : Int))] [.inl (1)] h47 _
      refine av_wp_seq 2 (pc' := 49) (lv' := [some (.inr (.inr (.inl (some (22))))), some (.inl (row : Int))]) (st' := [.inr (.inr (.inl (some (22))))]) (h' := h47) rfl ?_
      refine wq_gr (p' := 52) rfl rfl (congrArg Prod.fst (ly_k C48.1 22 rfl)) rfl (ly_g C48.1 22 1 23 rfl) ?_
      refine av_wp_seq 4 (pc' := 57) (lv' := [some (.inr (.inr (.inl (some (22))))), some (.inl (row : Int))]) (st' := [.inr (.inr (.inl (some (22)))), .inl ((row : Int) + (6)), .inr (.inr (.inl (some (23))))]) (h' := h47) rfl ?_
      refine wq_gr (p' := 60) rfl rfl (congrArg Prod.fst (ly_k C48.1 22 rfl)) rfl (ly_g C48.1 22 0 1 rfl) ?_
      refine av_wp_seq 2 (pc' := 62) (lv' := [some (.inr (.inr (.inl (some (22))))), some (.inl (row : Int))]) (st' := [.inr (.inr (.inl (some (22)))), .inl (0), .inr (.inr (.inl (some (1)))), .inl ((row : Int) + (6)), .inr (.inr (.inl (some (23))))]) (h' := h47) rfl ?_
      refine wq_gi (p' := 65) rfl rfl (congrArg Prod.fst (ly_k C48.1 22 rfl)) rfl ((F49.2.2.2.2.2.1 22 2 rfl).trans ha) ?_
      refine av_wp_seq 2 (pc' := 67) (lv' := [some (.inr (.inr (.inl (some (22))))), some (.inl (row : Int))]) (st' := [.inl (ah - (1)), .inl (0), .inr (.inr (.inl (some (1)))), .inl ((row : Int) + (6)), .inr (.inr (.inl (some (23))))]) (h' := h47) rfl ?_
      refine wq_cv (p' := 70) (av_qc (.invokevirtual 118) 92 2 0 6) 4 cd_92 [.inl (ah - (1)), .inl (0)] (1) 6 [some (.inr (.inr (.inl (some (1))))), some (.inl (0)), some (.inl (ah - (1))), none] rfl rfl rfl pp_92 rfl rfl rfl (congrArg Prod.fst (ly_k C48.1 1 rfl)) rfl rfl rfl rfl ?_
      refine ct_92 C48 F49 ((0)) ((ah - (1))) (by omega) (by omega) (fun v53 h55 p54 C56 F57 => ?_)
      have q58 := p54.1.symm
      have p54 := p54.2
      generalize q60 : nmt b lim t50 (0) (ah - (1)) = t59 at C56
      have g61 := ct_wf C56
      show av_wp _ cd_40 70 [some (.inr (.inr (.inl (some (22))))), some (.inl (row : Int))] [.inl v53, .inl ((row : Int) + (6)), .inr (.inr (.inl (some (23))))] h55 _
      refine ct_as (p' := 71) rfl rfl C56 F57 (row + 6) (by omega) (by omega) (by omega) (fun h62 C63 F64 => ?_)
      refine av_wp_ret (v := none) rfl rfl rfl ?_
      exact hq h62 (by first | (simp only [rsT, rsT2, rsT1, q6, q51, q58, q60, if_pos z8, if_neg z46]; exact C63) | (exfalso; omega)) F64
    · show av_wp _ cd_40 45 [some (.inr (.inr (.inl (some (22))))), some (.inl (row : Int))] [.inl (0)] h1 _
      refine av_wp_seq 1 (pc' := 71) (lv' := [some (.inr (.inr (.inl (some (22))))), some (.inl (row : Int))]) (st' := []) (h' := h1) rfl ?_
      refine av_wp_ret (v := none) rfl rfl rfl ?_
      exact hq h1 (by first | (simp only [rsT, rsT2, rsT1, q6, if_pos z8, if_pos z46]; exact C2) | (exfalso; omega)) F3

