section
/-! THE CLASS'S READER OF CASES, exactly -/
set_option maxRecDepth 100000 in
set_option maxHeartbeats 4000000 in
theorem ct_88b {g h : av_H} {b r d : Nat → Int} {lim : Nat} {t : TT} (C : CT b lim t r d h) (F : FT g h) (n : Nat) (hn : n < 20) {Q : Option av_V → av_H → Prop} (hq1 : pkv b t n ≠ -1 → ∀ h', CT b lim (adv b lim t) r d h' → FT g h' → Q (some (.inl 1)) h') (hq0 : pkv b t n = -1 → Q (some (.inl 0)) h) : av_wp none cd_88 0 [some (.inr (.inr (.inl (some (1))))), some (.inr (.inr (.inr n)))] [] h Q := by
  have g0 := ct_wf C
  refine av_wp_sqF ck_88 2 (pc' := 2) (lv' := [some (.inr (.inr (.inl (some (1))))), some (.inr (.inr (.inr n)))]) (st' := [.inr (.inr (.inr n)), .inr (.inr (.inl (some (1))))]) (h' := h) rfl ?_
  refine wq_cv (p' := 5) (av_qc (.invokevirtual 54) 86 1 0 6) 7 cd_86 [.inr (.inr (.inr n))] (1) 6 [some (.inr (.inr (.inl (some (1))))), some (.inr (.inr (.inr n))), none, none, none, none, none] (ck_88 _ _ rfl) rfl rfl pp_86 rfl rfl rfl (congrArg Prod.fst (ly_k C.1 1 rfl)) rfl rfl rfl rfl ?_
  refine ct_86 C F n hn (fun v1 p2 => ?_)
  show av_wp _ cd_88 5 [some (.inr (.inr (.inl (some (1))))), some (.inr (.inr (.inr n)))] [.inl v1] h _
  refine av_wp_sqF ck_88 1 (pc' := 6) (lv' := [some (.inr (.inr (.inl (some (1))))), some (.inr (.inr (.inr n)))]) (st' := [.inl (-1), .inl v1]) (h' := h) rfl ?_
  refine wq_k2 (p' := 9) (ck_88 _ _ rfl) rfl ⟨by omega, by omega⟩ ⟨by omega, by omega⟩ (fun c3 => ?_) (fun c4 => ?_)
  · have c3 : v1 ≠ (-1) := c3
    refine av_wp_sqF ck_88 1 (pc' := 12) (lv' := [some (.inr (.inr (.inl (some (1))))), some (.inr (.inr (.inr n)))]) (st' := [.inr (.inr (.inl (some (1))))]) (h' := h) rfl ?_
    refine wq_cv (p' := 15) (av_qc (.invokevirtual 38) 82 0 0 6) 2 cd_82 [] (1) 6 [some (.inr (.inr (.inl (some (1))))), none] (ck_88 _ _ rfl) rfl rfl pp_82 rfl rfl rfl (congrArg Prod.fst (ly_k C.1 1 rfl)) rfl rfl rfl rfl ?_
    refine ct_82 C F (fun h5 C6 F7 => ?_)
    have g8 := ct_wf C6
    show av_wp _ cd_88 15 [some (.inr (.inr (.inl (some (1))))), some (.inr (.inr (.inr n)))] [] h5 _
    refine av_wp_sqF ck_88 1 (pc' := 16) (lv' := [some (.inr (.inr (.inl (some (1))))), some (.inr (.inr (.inr n)))]) (st' := [.inl (1)]) (h' := h5) rfl ?_
    refine av_wp_ret (v := some (.inl (1))) (ck_88 _ _ rfl) rfl rfl ?_
    exact hq1 (by omega) h5 C6 F7
  · have c4 : v1 = (-1) := c4
    refine av_wp_sqF ck_88 1 (pc' := 10) (lv' := [some (.inr (.inr (.inl (some (1))))), some (.inr (.inr (.inr n)))]) (st' := [.inl (0)]) (h' := h) rfl ?_
    refine av_wp_ret (v := some (.inl (0))) (ck_88 _ _ rfl) rfl rfl ?_
    exact hq0 (by omega)

set_option maxRecDepth 100000 in
set_option maxHeartbeats 4000000 in
theorem ct_37 {g h : av_H} {b r d : Nat → Int} {lim : Nat} {t : TT} (C : CT b lim t r d h) (F : FT g h) (x : Int) (row : Nat) (ex : x = (row : Int)) (hrow : row ≤ 231) {Q : Option av_V → av_H → Prop} (hq : ∀ h', CT b lim (rsO b lim row t r).1 (rsO b lim row t r).2 d h' → FT g h' → Q none h') : av_wp none cd_37 0 [some (.inr (.inr (.inl (some (22))))), some (.inl x)] [] h Q := by
  have g0 := ct_wf C
  subst ex
  refine av_wp_sqF ck_37 1 (pc' := 1) (lv' := [some (.inr (.inr (.inl (some (22))))), some (.inl (row : Int))]) (st' := [.inr (.inr (.inl (some (22))))]) (h' := h) rfl ?_
  refine wq_gr (p' := 4) (ck_37 _ _ rfl) rfl (congrArg Prod.fst (ly_k C.1 22 rfl)) rfl (ly_g C.1 22 0 1 rfl) ?_
  refine av_wp_sqF ck_37 1 (pc' := 6) (lv' := [some (.inr (.inr (.inl (some (22))))), some (.inl (row : Int))]) (st' := [.inr (.inr (.inr 1)), .inr (.inr (.inl (some (1))))]) (h' := h) rfl ?_
  refine wq_cv (p' := 9) (av_qc (.invokevirtual 99) 86 1 0 6) 7 cd_86 [.inr (.inr (.inr 1))] (1) 6 [some (.inr (.inr (.inl (some (1))))), some (.inr (.inr (.inr 1))), none, none, none, none, none] (ck_37 _ _ rfl) rfl rfl pp_86 rfl rfl rfl (congrArg Prod.fst (ly_k C.1 1 rfl)) rfl rfl rfl rfl ?_
  refine ct_86 C F 1 (by decide) (fun v1 p2 => ?_)
  have g3 := pkv_le (b := b) (t := t) 1 2 rfl
  have q4 := p2.1.symm
  have p2 := p2.2
  show av_wp _ cd_37 9 [some (.inr (.inr (.inl (some (22))))), some (.inl (row : Int))] [.inl v1] h _
  refine av_wp_sqF ck_37 1 (pc' := 10) (lv' := [some (.inr (.inr (.inl (some (22))))), some (.inl (row : Int))]) (st' := [.inr (.inr (.inl (some (22)))), .inl v1]) (h' := h) rfl ?_
  refine wq_gr (p' := 13) (ck_37 _ _ rfl) rfl (congrArg Prod.fst (ly_k C.1 22 rfl)) rfl (ly_g C.1 22 1 23 rfl) ?_
  refine av_wp_sqF ck_37 3 (pc' := 16) (lv' := [some (.inr (.inr (.inl (some (22))))), some (.inl (row : Int))]) (st' := [.inl ((row : Int) + (1)), .inr (.inr (.inl (some (23)))), .inl v1]) (h' := h) rfl ?_
  obtain ⟨v6, q7⟩ : ∃ v, r (row + 1) = v := ⟨_, rfl⟩
  have g5 := ct_rv C (row + 1)
  rw [q7] at g5
  refine wq_al (p' := 17) (n := 252) (ck_37 _ _ rfl) rfl (ly_k C.1 23 rfl) (by omega) (show hA h 23 (Int.toNat (((row : Int) + (1)))) = v6 from (congrFun (ct_r C) _).trans ((congrArg r (show (Int.toNat (((row : Int) + (1)))) = (row + 1) by omega)).trans q7)) ?_
  refine wq_k2 (p' := 20) (ck_37 _ _ rfl) rfl ⟨by omega, by omega⟩ ⟨by omega, by omega⟩ (fun c8 => ?_) (fun c9 => ?_)
  · have c8 : v1 ≠ v6 := c8
    refine av_wp_sqF ck_37 1 (pc' := 28) (lv' := [some (.inr (.inr (.inl (some (22))))), some (.inl (row : Int))]) (st' := [.inr (.inr (.inl (some (22))))]) (h' := h) rfl ?_
    refine wq_gr (p' := 31) (ck_37 _ _ rfl) rfl (congrArg Prod.fst (ly_k C.1 22 rfl)) rfl (ly_g C.1 22 1 23 rfl) ?_
    refine av_wp_sqF ck_37 4 (pc' := 35) (lv' := [some (.inr (.inr (.inl (some (22))))), some (.inl (row : Int))]) (st' := [.inr (.inr (.inl (some (22)))), .inl ((row : Int) + (2)), .inr (.inr (.inl (some (23))))]) (h' := h) rfl ?_
    refine wq_gr (p' := 38) (ck_37 _ _ rfl) rfl (congrArg Prod.fst (ly_k C.1 22 rfl)) rfl (ly_g C.1 22 0 1 rfl) ?_
    refine av_wp_sqF ck_37 1 (pc' := 40) (lv' := [some (.inr (.inr (.inl (some (22))))), some (.inl (row : Int))]) (st' := [.inr (.inr (.inr 1)), .inr (.inr (.inl (some (1)))), .inl ((row : Int) + (2)), .inr (.inr (.inl (some (23))))]) (h' := h) rfl ?_
    refine wq_cv (p' := 43) (av_qc (.invokevirtual 68) 87 1 0 6) 3 cd_87 [.inr (.inr (.inr 1))] (1) 6 [some (.inr (.inr (.inl (some (1))))), some (.inr (.inr (.inr 1))), none] (ck_37 _ _ rfl) rfl rfl pp_87 rfl rfl rfl (congrArg Prod.fst (ly_k C.1 1 rfl)) rfl rfl rfl rfl ?_
    refine ct_87 C F 1 (by decide) (fun v10 h12 p11 C13 F14 => ?_)
    have g15 := pkv_le (b := b) (t := t) 1 2 rfl
    have p11b := p11.2
    have q16 : v1 = v10 := (p11.1.trans q4).symm
    subst q16
    generalize q18 : cho b lim t 1 = t17 at C13
    have g19 := ct_wf C13
    show av_wp _ cd_37 43 [some (.inr (.inr (.inl (some (22))))), some (.inl (row : Int))] [.inl v1, .inl ((row : Int) + (2)), .inr (.inr (.inl (some (23))))] h12 _
    refine ct_as (p' := 44) rfl rfl C13 F14 (row + 2) (by omega) (by omega) (by omega) (fun h20 C21 F22 => ?_)
    refine av_wp_ret (v := none) (ck_37 _ _ rfl) rfl rfl ?_
    exact hq h20 (by first | (simp only [rsO, q4, q7, q18, if_neg c8]; exact C21) | (exfalso; omega)) F22
  · have c9 : v1 = v6 := c9
    refine av_wp_sqF ck_37 1 (pc' := 21) (lv' := [some (.inr (.inr (.inl (some (22))))), some (.inl (row : Int))]) (st' := [.inr (.inr (.inl (some (22))))]) (h' := h) rfl ?_
    refine wq_gr (p' := 24) (ck_37 _ _ rfl) rfl (congrArg Prod.fst (ly_k C.1 22 rfl)) rfl (ly_g C.1 22 0 1 rfl) ?_
    refine wq_cv (p' := 27) (av_qc (.invokevirtual 47) 85 0 0 6) 1 cd_85 [] (1) 6 [some (.inr (.inr (.inl (some (1)))))] (ck_37 _ _ rfl) rfl rfl pp_85 rfl rfl rfl (congrArg Prod.fst (ly_k C.1 1 rfl)) rfl rfl rfl rfl ?_
    refine ct_85 C F (fun h23 C24 F25 => ?_)
    generalize q27 : fal t = t26 at C24
    have g28 := ct_wf C24
    show av_wp _ cd_37 27 [some (.inr (.inr (.inl (some (22))))), some (.inl (row : Int))] [] h23 _
    refine av_wp_sqF ck_37 1 (pc' := 28) (lv' := [some (.inr (.inr (.inl (some (22))))), some (.inl (row : Int))]) (st' := [.inr (.inr (.inl (some (22))))]) (h' := h23) rfl ?_
    refine wq_gr (p' := 31) (ck_37 _ _ rfl) rfl (congrArg Prod.fst (ly_k C24.1 22 rfl)) rfl (ly_g C24.1 22 1 23 rfl) ?_
    refine av_wp_sqF ck_37 4 (pc' := 35) (lv' := [some (.inr (.inr (.inl (some (22))))), some (.inl (row : Int))]) (st' := [.inr (.inr (.inl (some (22)))), .inl ((row : Int) + (2)), .inr (.inr (.inl (some (23))))]) (h' := h23) rfl ?_
    refine wq_gr (p' := 38) (ck_37 _ _ rfl) rfl (congrArg Prod.fst (ly_k C24.1 22 rfl)) rfl (ly_g C24.1 22 0 1 rfl) ?_
    refine av_wp_sqF ck_37 1 (pc' := 40) (lv' := [some (.inr (.inr (.inl (some (22))))), some (.inl (row : Int))]) (st' := [.inr (.inr (.inr 1)), .inr (.inr (.inl (some (1)))), .inl ((row : Int) + (2)), .inr (.inr (.inl (some (23))))]) (h' := h23) rfl ?_
    refine wq_cv (p' := 43) (av_qc (.invokevirtual 68) 87 1 0 6) 3 cd_87 [.inr (.inr (.inr 1))] (1) 6 [some (.inr (.inr (.inl (some (1))))), some (.inr (.inr (.inr 1))), none] (ck_37 _ _ rfl) rfl rfl pp_87 rfl rfl rfl (congrArg Prod.fst (ly_k C24.1 1 rfl)) rfl rfl rfl rfl ?_
    refine ct_87 C24 F25 1 (by decide) (fun v29 h31 p30 C32 F33 => ?_)
    have g34 := pkv_le (b := b) (t := t26) 1 2 rfl
    have q35 := p30.1.symm
    have p30 := p30.2
    generalize q37 : cho b lim t26 1 = t36 at C32
    have g38 := ct_wf C32
    show av_wp _ cd_37 43 [some (.inr (.inr (.inl (some (22))))), some (.inl (row : Int))] [.inl v29, .inl ((row : Int) + (2)), .inr (.inr (.inl (some (23))))] h31 _
    refine ct_as (p' := 44) rfl rfl C32 F33 (row + 2) (by omega) (by omega) (by omega) (fun h39 C40 F41 => ?_)
    refine av_wp_ret (v := none) (ck_37 _ _ rfl) rfl rfl ?_
    exact hq h39 (by first | (simp only [rsO, q4, q7, q27, q35, q37, if_pos c9]; exact C40) | (exfalso; omega)) F41

set_option maxRecDepth 100000 in
set_option maxHeartbeats 4000000 in
theorem ct_39 {g h : av_H} {b r d : Nat → Int} {lim : Nat} {t : TT} (C : CT b lim t r d h) (F : FT g h) (y z x : Int) (qy : -2147483648 ≤ y ∧ y ≤ 2147483647) (qz : -2147483648 ≤ z ∧ z ≤ 2147483647) (row : Nat) (ex : x = (row : Int)) (hrow : row ≤ 231) {Q : Option av_V → av_H → Prop} (hq1 : fts r y z row → Q (some (.inl 1)) h) (hq0 : ¬ fts r y z row → Q (some (.inl 0)) h) : av_wp none cd_39 0 [some (.inr (.inr (.inl (some (22))))), some (.inl y), some (.inl z), some (.inl x), none, none] [] h Q := by
  have g0 := ct_wf C
  subst ex
  refine av_wp_sqF ck_39 1 (pc' := 1) (lv' := [some (.inr (.inr (.inl (some (22))))), some (.inl y), some (.inl z), some (.inl (row : Int)), none, none]) (st' := [.inr (.inr (.inl (some (22))))]) (h' := h) rfl ?_
  refine wq_gr (p' := 4) (ck_39 _ _ rfl) rfl (congrArg Prod.fst (ly_k C.1 22 rfl)) rfl (ly_g C.1 22 1 23 rfl) ?_
  refine av_wp_sqF ck_39 3 (pc' := 7) (lv' := [some (.inr (.inr (.inl (some (22))))), some (.inl y), some (.inl z), some (.inl (row : Int)), none, none]) (st' := [.inl ((row : Int) + (0)), .inr (.inr (.inl (some (23))))]) (h' := h) rfl ?_
  obtain ⟨v2, q3⟩ : ∃ v, r (row) = v := ⟨_, rfl⟩
  have g1 := ct_rv C (row)
  rw [q3] at g1
  refine wq_al (p' := 8) (n := 252) (ck_39 _ _ rfl) rfl (ly_k C.1 23 rfl) (by omega) (show hA h 23 (Int.toNat (((row : Int) + (0)))) = v2 from (congrFun (ct_r C) _).trans ((congrArg r (show (Int.toNat (((row : Int) + (0)))) = (row) by omega)).trans q3)) ?_
  refine av_wp_sqF ck_39 2 (pc' := 12) (lv' := [some (.inr (.inr (.inl (some (22))))), some (.inl y), some (.inl z), some (.inl (row : Int)), some (.inl v2), none]) (st' := [.inl v2]) (h' := h) rfl ?_
  refine wq_k1 (p' := 15) (ck_39 _ _ rfl) rfl ⟨by omega, by omega⟩ (fun c4 => ?_) (fun c5 => ?_)
  · have c4 : v2 = (0) := c4
    refine av_wp_sqF ck_39 5 (pc' := 30) (lv' := [some (.inr (.inr (.inl (some (22))))), some (.inl y), some (.inl z), some (.inl (row : Int)), some (.inl v2), some (.inl (1))]) (st' := [.inl (5), .inl y]) (h' := h) rfl ?_
    refine wq_k2 (p' := 33) (ck_39 _ _ rfl) rfl ⟨by omega, by omega⟩ ⟨by omega, by omega⟩ (fun c6 => ?_) (fun c7 => ?_)
    · have c6 : y ≠ (5) := c6
      refine av_wp_sqF ck_39 3 (pc' := 68) (lv' := [some (.inr (.inr (.inl (some (22))))), some (.inl y), some (.inl z), some (.inl (row : Int)), some (.inl v2), some (.inl (1))]) (st' := [.inr (.inr (.inl (some (22))))]) (h' := h) rfl ?_
      refine wq_gr (p' := 71) (ck_39 _ _ rfl) rfl (congrArg Prod.fst (ly_k C.1 22 rfl)) rfl (ly_g C.1 22 1 23 rfl) ?_
      refine av_wp_sqF ck_39 3 (pc' := 75) (lv' := [some (.inr (.inr (.inl (some (22))))), some (.inl y), some (.inl z), some (.inl (row : Int)), some (.inl v2), some (.inl (1))]) (st' := [.inl (7), .inl y, .inl (row : Int), .inr (.inr (.inl (some (23))))]) (h' := h) rfl ?_
      refine wq_k2 (p' := 78) (ck_39 _ _ rfl) rfl ⟨by omega, by omega⟩ ⟨by omega, by omega⟩ (fun c8 => ?_) (fun c9 => ?_)
      · have c8 : y ≠ (7) := c8
        refine av_wp_sqF ck_39 2 (pc' := 84) (lv' := [some (.inr (.inr (.inl (some (22))))), some (.inl y), some (.inl z), some (.inl (row : Int)), some (.inl v2), some (.inl (1))]) (st' := [.inl ((row : Int) + (2)), .inr (.inr (.inl (some (23))))]) (h' := h) rfl ?_
        obtain ⟨v11, q12⟩ : ∃ v, r (row + 2) = v := ⟨_, rfl⟩
        have g10 := ct_rv C (row + 2)
        rw [q12] at g10
        refine wq_al (p' := 85) (n := 252) (ck_39 _ _ rfl) rfl (ly_k C.1 23 rfl) (by omega) (show hA h 23 (Int.toNat (((row : Int) + (2)))) = v11 from (congrFun (ct_r C) _).trans ((congrArg r (show (Int.toNat (((row : Int) + (2)))) = (row + 2) by omega)).trans q12)) ?_
        refine av_wp_sqF ck_39 1 (pc' := 86) (lv' := [some (.inr (.inr (.inl (some (22))))), some (.inl y), some (.inl z), some (.inl (row : Int)), some (.inl v2), some (.inl (1))]) (st' := [.inl z, .inl v11]) (h' := h) rfl ?_
        refine wq_k2 (p' := 89) (ck_39 _ _ rfl) rfl ⟨by omega, by omega⟩ ⟨by omega, by omega⟩ (fun c13 => ?_) (fun c14 => ?_)
        · have c13 : v11 ≠ z := c13
          refine av_wp_sqF ck_39 1 (pc' := 94) (lv' := [some (.inr (.inr (.inl (some (22))))), some (.inl y), some (.inl z), some (.inl (row : Int)), some (.inl v2), some (.inl (1))]) (st' := [.inl (0)]) (h' := h) rfl ?_
          refine av_wp_ret (v := some (.inl (0))) (ck_39 _ _ rfl) rfl rfl ?_
          exact hq0 (fun z => by unfold fts at z; omega)
        · have c14 : v11 = z := c14
          refine av_wp_sqF ck_39 2 (pc' := 94) (lv' := [some (.inr (.inr (.inl (some (22))))), some (.inl y), some (.inl z), some (.inl (row : Int)), some (.inl v2), some (.inl (1))]) (st' := [.inl (1)]) (h' := h) rfl ?_
          refine av_wp_ret (v := some (.inl (1))) (ck_39 _ _ rfl) rfl rfl ?_
          exact hq1 (by unfold fts; omega)
      · have c9 : y = (7) := c9
        refine av_wp_sqF ck_39 3 (pc' := 84) (lv' := [some (.inr (.inr (.inl (some (22))))), some (.inl y), some (.inl z), some (.inl (row : Int)), some (.inl v2), some (.inl (1))]) (st' := [.inl ((row : Int) + (1)), .inr (.inr (.inl (some (23))))]) (h' := h) rfl ?_
        obtain ⟨v16, q17⟩ : ∃ v, r (row + 1) = v := ⟨_, rfl⟩
        have g15 := ct_rv C (row + 1)
        rw [q17] at g15
        refine wq_al (p' := 85) (n := 252) (ck_39 _ _ rfl) rfl (ly_k C.1 23 rfl) (by omega) (show hA h 23 (Int.toNat (((row : Int) + (1)))) = v16 from (congrFun (ct_r C) _).trans ((congrArg r (show (Int.toNat (((row : Int) + (1)))) = (row + 1) by omega)).trans q17)) ?_
        refine av_wp_sqF ck_39 1 (pc' := 86) (lv' := [some (.inr (.inr (.inl (some (22))))), some (.inl y), some (.inl z), some (.inl (row : Int)), some (.inl v2), some (.inl (1))]) (st' := [.inl z, .inl v16]) (h' := h) rfl ?_
        refine wq_k2 (p' := 89) (ck_39 _ _ rfl) rfl ⟨by omega, by omega⟩ ⟨by omega, by omega⟩ (fun c18 => ?_) (fun c19 => ?_)
        · have c18 : v16 ≠ z := c18
          refine av_wp_sqF ck_39 1 (pc' := 94) (lv' := [some (.inr (.inr (.inl (some (22))))), some (.inl y), some (.inl z), some (.inl (row : Int)), some (.inl v2), some (.inl (1))]) (st' := [.inl (0)]) (h' := h) rfl ?_
          refine av_wp_ret (v := some (.inl (0))) (ck_39 _ _ rfl) rfl rfl ?_
          exact hq0 (fun z => by unfold fts at z; omega)
        · have c19 : v16 = z := c19
          refine av_wp_sqF ck_39 2 (pc' := 94) (lv' := [some (.inr (.inr (.inl (some (22))))), some (.inl y), some (.inl z), some (.inl (row : Int)), some (.inl v2), some (.inl (1))]) (st' := [.inl (1)]) (h' := h) rfl ?_
          refine av_wp_ret (v := some (.inl (1))) (ck_39 _ _ rfl) rfl rfl ?_
          exact hq1 (by unfold fts; omega)
    · have c7 : y = (5) := c7
      refine av_wp_sqF ck_39 3 (pc' := 45) (lv' := [some (.inr (.inr (.inl (some (22))))), some (.inl y), some (.inl z), some (.inl (row : Int)), some (.inl v2), some (.inl (1))]) (st' := [.inr (.inr (.inl (some (22))))]) (h' := h) rfl ?_
      refine wq_gr (p' := 48) (ck_39 _ _ rfl) rfl (congrArg Prod.fst (ly_k C.1 22 rfl)) rfl (ly_g C.1 22 1 23 rfl) ?_
      refine av_wp_sqF ck_39 3 (pc' := 51) (lv' := [some (.inr (.inr (.inl (some (22))))), some (.inl y), some (.inl z), some (.inl (row : Int)), some (.inl v2), some (.inl (1))]) (st' := [.inl ((row : Int) + (1)), .inr (.inr (.inl (some (23))))]) (h' := h) rfl ?_
      obtain ⟨v21, q22⟩ : ∃ v, r (row + 1) = v := ⟨_, rfl⟩
      have g20 := ct_rv C (row + 1)
      rw [q22] at g20
      refine wq_al (p' := 52) (n := 252) (ck_39 _ _ rfl) rfl (ly_k C.1 23 rfl) (by omega) (show hA h 23 (Int.toNat (((row : Int) + (1)))) = v21 from (congrFun (ct_r C) _).trans ((congrArg r (show (Int.toNat (((row : Int) + (1)))) = (row + 1) by omega)).trans q22)) ?_
      refine av_wp_sqF ck_39 1 (pc' := 53) (lv' := [some (.inr (.inr (.inl (some (22))))), some (.inl y), some (.inl z), some (.inl (row : Int)), some (.inl v2), some (.inl (1))]) (st' := [.inl z, .inl v21]) (h' := h) rfl ?_
      refine wq_k2 (p' := 56) (ck_39 _ _ rfl) rfl ⟨by omega, by omega⟩ ⟨by omega, by omega⟩ (fun c23 => ?_) (fun c24 => ?_)
      · have c23 : v21 ≠ z := c23
        refine av_wp_sqF ck_39 1 (pc' := 61) (lv' := [some (.inr (.inr (.inl (some (22))))), some (.inl y), some (.inl z), some (.inl (row : Int)), some (.inl v2), some (.inl (1))]) (st' := [.inl (0)]) (h' := h) rfl ?_
        refine av_wp_ret (v := some (.inl (0))) (ck_39 _ _ rfl) rfl rfl ?_
        exact hq0 (fun z => by unfold fts at z; omega)
      · have c24 : v21 = z := c24
        refine av_wp_sqF ck_39 2 (pc' := 61) (lv' := [some (.inr (.inr (.inl (some (22))))), some (.inl y), some (.inl z), some (.inl (row : Int)), some (.inl v2), some (.inl (1))]) (st' := [.inl (1)]) (h' := h) rfl ?_
        refine av_wp_ret (v := some (.inl (1))) (ck_39 _ _ rfl) rfl rfl ?_
        exact hq1 (by unfold fts; omega)
  · have c5 : v2 ≠ (0) := c5
    refine av_wp_sqF ck_39 2 (pc' := 18) (lv' := [some (.inr (.inr (.inl (some (22))))), some (.inl y), some (.inl z), some (.inl (row : Int)), some (.inl v2), none]) (st' := [.inl (3), .inl v2]) (h' := h) rfl ?_
    refine wq_k2 (p' := 21) (ck_39 _ _ rfl) rfl ⟨by omega, by omega⟩ ⟨by omega, by omega⟩ (fun c25 => ?_) (fun c26 => ?_)
    · have c25 : v2 ≠ (3) := c25
      refine av_wp_sqF ck_39 4 (pc' := 30) (lv' := [some (.inr (.inr (.inl (some (22))))), some (.inl y), some (.inl z), some (.inl (row : Int)), some (.inl v2), some (.inl (0))]) (st' := [.inl (5), .inl y]) (h' := h) rfl ?_
      refine wq_k2 (p' := 33) (ck_39 _ _ rfl) rfl ⟨by omega, by omega⟩ ⟨by omega, by omega⟩ (fun c27 => ?_) (fun c28 => ?_)
      · have c27 : y ≠ (5) := c27
        refine av_wp_sqF ck_39 3 (pc' := 94) (lv' := [some (.inr (.inr (.inl (some (22))))), some (.inl y), some (.inl z), some (.inl (row : Int)), some (.inl v2), some (.inl (0))]) (st' := [.inl (0)]) (h' := h) rfl ?_
        refine av_wp_ret (v := some (.inl (0))) (ck_39 _ _ rfl) rfl rfl ?_
        exact hq0 (fun z => by unfold fts at z; omega)
      · have c28 : y = (5) := c28
        refine av_wp_sqF ck_39 4 (pc' := 41) (lv' := [some (.inr (.inr (.inl (some (22))))), some (.inl y), some (.inl z), some (.inl (row : Int)), some (.inl v2), some (.inl (0))]) (st' := [.inl (2), .inl v2]) (h' := h) rfl ?_
        refine wq_k2 (p' := 44) (ck_39 _ _ rfl) rfl ⟨by omega, by omega⟩ ⟨by omega, by omega⟩ (fun c29 => ?_) (fun c30 => ?_)
        · have c29 : v2 ≠ (2) := c29
          refine av_wp_sqF ck_39 1 (pc' := 61) (lv' := [some (.inr (.inr (.inl (some (22))))), some (.inl y), some (.inl z), some (.inl (row : Int)), some (.inl v2), some (.inl (0))]) (st' := [.inl (0)]) (h' := h) rfl ?_
          refine av_wp_ret (v := some (.inl (0))) (ck_39 _ _ rfl) rfl rfl ?_
          exact hq0 (fun z => by unfold fts at z; omega)
        · have c30 : v2 = (2) := c30
          refine av_wp_sqF ck_39 1 (pc' := 45) (lv' := [some (.inr (.inr (.inl (some (22))))), some (.inl y), some (.inl z), some (.inl (row : Int)), some (.inl v2), some (.inl (0))]) (st' := [.inr (.inr (.inl (some (22))))]) (h' := h) rfl ?_
          refine wq_gr (p' := 48) (ck_39 _ _ rfl) rfl (congrArg Prod.fst (ly_k C.1 22 rfl)) rfl (ly_g C.1 22 1 23 rfl) ?_
          refine av_wp_sqF ck_39 3 (pc' := 51) (lv' := [some (.inr (.inr (.inl (some (22))))), some (.inl y), some (.inl z), some (.inl (row : Int)), some (.inl v2), some (.inl (0))]) (st' := [.inl ((row : Int) + (1)), .inr (.inr (.inl (some (23))))]) (h' := h) rfl ?_
          obtain ⟨v32, q33⟩ : ∃ v, r (row + 1) = v := ⟨_, rfl⟩
          have g31 := ct_rv C (row + 1)
          rw [q33] at g31
          refine wq_al (p' := 52) (n := 252) (ck_39 _ _ rfl) rfl (ly_k C.1 23 rfl) (by omega) (show hA h 23 (Int.toNat (((row : Int) + (1)))) = v32 from (congrFun (ct_r C) _).trans ((congrArg r (show (Int.toNat (((row : Int) + (1)))) = (row + 1) by omega)).trans q33)) ?_
          refine av_wp_sqF ck_39 1 (pc' := 53) (lv' := [some (.inr (.inr (.inl (some (22))))), some (.inl y), some (.inl z), some (.inl (row : Int)), some (.inl v2), some (.inl (0))]) (st' := [.inl z, .inl v32]) (h' := h) rfl ?_
          refine wq_k2 (p' := 56) (ck_39 _ _ rfl) rfl ⟨by omega, by omega⟩ ⟨by omega, by omega⟩ (fun c34 => ?_) (fun c35 => ?_)
          · have c34 : v32 ≠ z := c34
            refine av_wp_sqF ck_39 1 (pc' := 61) (lv' := [some (.inr (.inr (.inl (some (22))))), some (.inl y), some (.inl z), some (.inl (row : Int)), some (.inl v2), some (.inl (0))]) (st' := [.inl (0)]) (h' := h) rfl ?_
            refine av_wp_ret (v := some (.inl (0))) (ck_39 _ _ rfl) rfl rfl ?_
            exact hq0 (fun z => by unfold fts at z; omega)
          · have c35 : v32 = z := c35
            refine av_wp_sqF ck_39 2 (pc' := 61) (lv' := [some (.inr (.inr (.inl (some (22))))), some (.inl y), some (.inl z), some (.inl (row : Int)), some (.inl v2), some (.inl (0))]) (st' := [.inl (1)]) (h' := h) rfl ?_
            refine av_wp_ret (v := some (.inl (1))) (ck_39 _ _ rfl) rfl rfl ?_
            exact hq1 (by unfold fts; omega)
    · have c26 : v2 = (3) := c26
      refine av_wp_sqF ck_39 5 (pc' := 30) (lv' := [some (.inr (.inr (.inl (some (22))))), some (.inl y), some (.inl z), some (.inl (row : Int)), some (.inl v2), some (.inl (1))]) (st' := [.inl (5), .inl y]) (h' := h) rfl ?_
      refine wq_k2 (p' := 33) (ck_39 _ _ rfl) rfl ⟨by omega, by omega⟩ ⟨by omega, by omega⟩ (fun c36 => ?_) (fun c37 => ?_)
      · have c36 : y ≠ (5) := c36
        refine av_wp_sqF ck_39 3 (pc' := 68) (lv' := [some (.inr (.inr (.inl (some (22))))), some (.inl y), some (.inl z), some (.inl (row : Int)), some (.inl v2), some (.inl (1))]) (st' := [.inr (.inr (.inl (some (22))))]) (h' := h) rfl ?_
        refine wq_gr (p' := 71) (ck_39 _ _ rfl) rfl (congrArg Prod.fst (ly_k C.1 22 rfl)) rfl (ly_g C.1 22 1 23 rfl) ?_
        refine av_wp_sqF ck_39 3 (pc' := 75) (lv' := [some (.inr (.inr (.inl (some (22))))), some (.inl y), some (.inl z), some (.inl (row : Int)), some (.inl v2), some (.inl (1))]) (st' := [.inl (7), .inl y, .inl (row : Int), .inr (.inr (.inl (some (23))))]) (h' := h) rfl ?_
        refine wq_k2 (p' := 78) (ck_39 _ _ rfl) rfl ⟨by omega, by omega⟩ ⟨by omega, by omega⟩ (fun c38 => ?_) (fun c39 => ?_)
        · have c38 : y ≠ (7) := c38
          refine av_wp_sqF ck_39 2 (pc' := 84) (lv' := [some (.inr (.inr (.inl (some (22))))), some (.inl y), some (.inl z), some (.inl (row : Int)), some (.inl v2), some (.inl (1))]) (st' := [.inl ((row : Int) + (2)), .inr (.inr (.inl (some (23))))]) (h' := h) rfl ?_
          obtain ⟨v41, q42⟩ : ∃ v, r (row + 2) = v := ⟨_, rfl⟩
          have g40 := ct_rv C (row + 2)
          rw [q42] at g40
          refine wq_al (p' := 85) (n := 252) (ck_39 _ _ rfl) rfl (ly_k C.1 23 rfl) (by omega) (show hA h 23 (Int.toNat (((row : Int) + (2)))) = v41 from (congrFun (ct_r C) _).trans ((congrArg r (show (Int.toNat (((row : Int) + (2)))) = (row + 2) by omega)).trans q42)) ?_
          refine av_wp_sqF ck_39 1 (pc' := 86) (lv' := [some (.inr (.inr (.inl (some (22))))), some (.inl y), some (.inl z), some (.inl (row : Int)), some (.inl v2), some (.inl (1))]) (st' := [.inl z, .inl v41]) (h' := h) rfl ?_
          refine wq_k2 (p' := 89) (ck_39 _ _ rfl) rfl ⟨by omega, by omega⟩ ⟨by omega, by omega⟩ (fun c43 => ?_) (fun c44 => ?_)
          · have c43 : v41 ≠ z := c43
            refine av_wp_sqF ck_39 1 (pc' := 94) (lv' := [some (.inr (.inr (.inl (some (22))))), some (.inl y), some (.inl z), some (.inl (row : Int)), some (.inl v2), some (.inl (1))]) (st' := [.inl (0)]) (h' := h) rfl ?_
            refine av_wp_ret (v := some (.inl (0))) (ck_39 _ _ rfl) rfl rfl ?_
            exact hq0 (fun z => by unfold fts at z; omega)
          · have c44 : v41 = z := c44
            refine av_wp_sqF ck_39 2 (pc' := 94) (lv' := [some (.inr (.inr (.inl (some (22))))), some (.inl y), some (.inl z), some (.inl (row : Int)), some (.inl v2), some (.inl (1))]) (st' := [.inl (1)]) (h' := h) rfl ?_
            refine av_wp_ret (v := some (.inl (1))) (ck_39 _ _ rfl) rfl rfl ?_
            exact hq1 (by unfold fts; omega)
        · have c39 : y = (7) := c39
          refine av_wp_sqF ck_39 3 (pc' := 84) (lv' := [some (.inr (.inr (.inl (some (22))))), some (.inl y), some (.inl z), some (.inl (row : Int)), some (.inl v2), some (.inl (1))]) (st' := [.inl ((row : Int) + (1)), .inr (.inr (.inl (some (23))))]) (h' := h) rfl ?_
          obtain ⟨v46, q47⟩ : ∃ v, r (row + 1) = v := ⟨_, rfl⟩
          have g45 := ct_rv C (row + 1)
          rw [q47] at g45
          refine wq_al (p' := 85) (n := 252) (ck_39 _ _ rfl) rfl (ly_k C.1 23 rfl) (by omega) (show hA h 23 (Int.toNat (((row : Int) + (1)))) = v46 from (congrFun (ct_r C) _).trans ((congrArg r (show (Int.toNat (((row : Int) + (1)))) = (row + 1) by omega)).trans q47)) ?_
          refine av_wp_sqF ck_39 1 (pc' := 86) (lv' := [some (.inr (.inr (.inl (some (22))))), some (.inl y), some (.inl z), some (.inl (row : Int)), some (.inl v2), some (.inl (1))]) (st' := [.inl z, .inl v46]) (h' := h) rfl ?_
          refine wq_k2 (p' := 89) (ck_39 _ _ rfl) rfl ⟨by omega, by omega⟩ ⟨by omega, by omega⟩ (fun c48 => ?_) (fun c49 => ?_)
          · have c48 : v46 ≠ z := c48
            refine av_wp_sqF ck_39 1 (pc' := 94) (lv' := [some (.inr (.inr (.inl (some (22))))), some (.inl y), some (.inl z), some (.inl (row : Int)), some (.inl v2), some (.inl (1))]) (st' := [.inl (0)]) (h' := h) rfl ?_
            refine av_wp_ret (v := some (.inl (0))) (ck_39 _ _ rfl) rfl rfl ?_
            exact hq0 (fun z => by unfold fts at z; omega)
          · have c49 : v46 = z := c49
            refine av_wp_sqF ck_39 2 (pc' := 94) (lv' := [some (.inr (.inr (.inl (some (22))))), some (.inl y), some (.inl z), some (.inl (row : Int)), some (.inl v2), some (.inl (1))]) (st' := [.inl (1)]) (h' := h) rfl ?_
            refine av_wp_ret (v := some (.inl (1))) (ck_39 _ _ rfl) rfl rfl ?_
            exact hq1 (by unfold fts; omega)
      · have c37 : y = (5) := c37
        refine av_wp_sqF ck_39 3 (pc' := 45) (lv' := [some (.inr (.inr (.inl (some (22))))), some (.inl y), some (.inl z), some (.inl (row : Int)), some (.inl v2), some (.inl (1))]) (st' := [.inr (.inr (.inl (some (22))))]) (h' := h) rfl ?_
        refine wq_gr (p' := 48) (ck_39 _ _ rfl) rfl (congrArg Prod.fst (ly_k C.1 22 rfl)) rfl (ly_g C.1 22 1 23 rfl) ?_
        refine av_wp_sqF ck_39 3 (pc' := 51) (lv' := [some (.inr (.inr (.inl (some (22))))), some (.inl y), some (.inl z), some (.inl (row : Int)), some (.inl v2), some (.inl (1))]) (st' := [.inl ((row : Int) + (1)), .inr (.inr (.inl (some (23))))]) (h' := h) rfl ?_
        obtain ⟨v51, q52⟩ : ∃ v, r (row + 1) = v := ⟨_, rfl⟩
        have g50 := ct_rv C (row + 1)
        rw [q52] at g50
        refine wq_al (p' := 52) (n := 252) (ck_39 _ _ rfl) rfl (ly_k C.1 23 rfl) (by omega) (show hA h 23 (Int.toNat (((row : Int) + (1)))) = v51 from (congrFun (ct_r C) _).trans ((congrArg r (show (Int.toNat (((row : Int) + (1)))) = (row + 1) by omega)).trans q52)) ?_
        refine av_wp_sqF ck_39 1 (pc' := 53) (lv' := [some (.inr (.inr (.inl (some (22))))), some (.inl y), some (.inl z), some (.inl (row : Int)), some (.inl v2), some (.inl (1))]) (st' := [.inl z, .inl v51]) (h' := h) rfl ?_
        refine wq_k2 (p' := 56) (ck_39 _ _ rfl) rfl ⟨by omega, by omega⟩ ⟨by omega, by omega⟩ (fun c53 => ?_) (fun c54 => ?_)
        · have c53 : v51 ≠ z := c53
          refine av_wp_sqF ck_39 1 (pc' := 61) (lv' := [some (.inr (.inr (.inl (some (22))))), some (.inl y), some (.inl z), some (.inl (row : Int)), some (.inl v2), some (.inl (1))]) (st' := [.inl (0)]) (h' := h) rfl ?_
          refine av_wp_ret (v := some (.inl (0))) (ck_39 _ _ rfl) rfl rfl ?_
          exact hq0 (fun z => by unfold fts at z; omega)
        · have c54 : v51 = z := c54
          refine av_wp_sqF ck_39 2 (pc' := 61) (lv' := [some (.inr (.inr (.inl (some (22))))), some (.inl y), some (.inl z), some (.inl (row : Int)), some (.inl v2), some (.inl (1))]) (st' := [.inl (1)]) (h' := h) rfl ?_
          refine av_wp_ret (v := some (.inl (1))) (ck_39 _ _ rfl) rfl rfl ?_
          exact hq1 (by unfold fts; omega)

set_option maxRecDepth 100000 in
set_option maxHeartbeats 4000000 in
theorem ct_38 {g h : av_H} {b r d : Nat → Int} {lim : Nat} {t : TT} (C : CT b lim t r d h) (F : FT g h) (x : Int) (k : Nat) (ex : x = (k : Int)) (hk : k ≤ 11) (y : Int) (qy : -2147483648 ≤ y ∧ y ≤ 2147483647) {Q : Option av_V → av_H → Prop} (hq : ∀ h', CT b lim (rsS b lim k y t r).1 (rsS b lim k y t r).2 d h' → FT g h' → Q none h') : av_wp none cd_38 0 [some (.inr (.inr (.inl (some (22))))), some (.inl x), some (.inl y), none] [] h Q := by
  have g0 := ct_wf C
  subst ex
  refine av_wp_sqF ck_38 1 (pc' := 1) (lv' := [some (.inr (.inr (.inl (some (22))))), some (.inl (k : Int)), some (.inl y), none]) (st' := [.inr (.inr (.inl (some (22))))]) (h' := h) rfl ?_
  refine wq_gr (p' := 4) (ck_38 _ _ rfl) rfl (congrArg Prod.fst (ly_k C.1 22 rfl)) rfl (ly_g C.1 22 0 1 rfl) ?_
  refine wq_cv (p' := 7) (av_qc (.invokevirtual 102) 91 0 0 6) 3 cd_91 [] (1) 6 [some (.inr (.inr (.inl (some (1))))), none, none] (ck_38 _ _ rfl) rfl rfl pp_91 rfl rfl rfl (congrArg Prod.fst (ly_k C.1 1 rfl)) rfl rfl rfl rfl ?_
  refine ct_91 C F (fun v1 p2 => ?_)
  have q3 := p2.1.symm
  have p2 := p2.2
  show av_wp _ cd_38 7 [some (.inr (.inr (.inl (some (22))))), some (.inl (k : Int)), some (.inl y), none] [.inl v1] h _
  refine av_wp_sqF ck_38 2 (pc' := 9) (lv' := [some (.inr (.inr (.inl (some (22))))), some (.inl (k : Int)), some (.inl y), some (.inl v1)]) (st' := [.inl v1]) (h' := h) rfl ?_
  refine wq_k1 (p' := 12) (ck_38 _ _ rfl) rfl ⟨by omega, by omega⟩ (fun c4 => ?_) (fun c5 => ?_)
  · have c4 : v1 < (0) := c4
    refine av_wp_sqF ck_38 1 (pc' := 41) (lv' := [some (.inr (.inr (.inl (some (22))))), some (.inl (k : Int)), some (.inl y), some (.inl v1)]) (st' := [.inr (.inr (.inl (some (22))))]) (h' := h) rfl ?_
    refine wq_gr (p' := 44) (ck_38 _ _ rfl) rfl (congrArg Prod.fst (ly_k C.1 22 rfl)) rfl (ly_g C.1 22 0 1 rfl) ?_
    refine wq_cv (p' := 47) (av_qc (.invokevirtual 47) 85 0 0 6) 1 cd_85 [] (1) 6 [some (.inr (.inr (.inl (some (1)))))] (ck_38 _ _ rfl) rfl rfl pp_85 rfl rfl rfl (congrArg Prod.fst (ly_k C.1 1 rfl)) rfl rfl rfl rfl ?_
    refine ct_85 C F (fun h6 C7 F8 => ?_)
    generalize q10 : fal t = t9 at C7
    have g11 := ct_wf C7
    show av_wp _ cd_38 47 [some (.inr (.inr (.inl (some (22))))), some (.inl (k : Int)), some (.inl y), some (.inl v1)] [] h6 _
    refine av_wp_ret (v := none) (ck_38 _ _ rfl) rfl rfl ?_
    exact hq h6 (by simp only [rsS, q3, q10]; rw [if_neg (fun z => by have z1 := z.1; omega)]; exact C7) F8
  · have c5 : (0) ≤ v1 := c5
    refine av_wp_sqF ck_38 2 (pc' := 14) (lv' := [some (.inr (.inr (.inl (some (22))))), some (.inl (k : Int)), some (.inl y), some (.inl v1)]) (st' := [.inl (k : Int), .inl v1]) (h' := h) rfl ?_
    refine wq_k2 (p' := 17) (ck_38 _ _ rfl) rfl ⟨by omega, by omega⟩ ⟨by omega, by omega⟩ (fun c12 => ?_) (fun c13 => ?_)
    · have c12 : (k : Int) ≤ v1 := c12
      refine av_wp_sqF ck_38 1 (pc' := 41) (lv' := [some (.inr (.inr (.inl (some (22))))), some (.inl (k : Int)), some (.inl y), some (.inl v1)]) (st' := [.inr (.inr (.inl (some (22))))]) (h' := h) rfl ?_
      refine wq_gr (p' := 44) (ck_38 _ _ rfl) rfl (congrArg Prod.fst (ly_k C.1 22 rfl)) rfl (ly_g C.1 22 0 1 rfl) ?_
      refine wq_cv (p' := 47) (av_qc (.invokevirtual 47) 85 0 0 6) 1 cd_85 [] (1) 6 [some (.inr (.inr (.inl (some (1)))))] (ck_38 _ _ rfl) rfl rfl pp_85 rfl rfl rfl (congrArg Prod.fst (ly_k C.1 1 rfl)) rfl rfl rfl rfl ?_
      refine ct_85 C F (fun h14 C15 F16 => ?_)
      generalize q18 : fal t = t17 at C15
      have g19 := ct_wf C15
      show av_wp _ cd_38 47 [some (.inr (.inr (.inl (some (22))))), some (.inl (k : Int)), some (.inl y), some (.inl v1)] [] h14 _
      refine av_wp_ret (v := none) (ck_38 _ _ rfl) rfl rfl ?_
      exact hq h14 (by simp only [rsS, q3, q18]; rw [if_neg (fun z => by have z1 := z.1; omega)]; exact C15) F16
    · have c13 : v1 < (k : Int) := c13
      refine av_wp_sqF ck_38 3 (pc' := 20) (lv' := [some (.inr (.inr (.inl (some (22))))), some (.inl (k : Int)), some (.inl y), some (.inl v1)]) (st' := [.inr (.inr (.inl (some (22)))), .inl y, .inr (.inr (.inl (some (22))))]) (h' := h) rfl ?_
      refine wq_gr (p' := 23) (ck_38 _ _ rfl) rfl (congrArg Prod.fst (ly_k C.1 22 rfl)) rfl (ly_g C.1 22 1 23 rfl) ?_
      refine av_wp_sqF ck_38 5 (pc' := 29) (lv' := [some (.inr (.inr (.inl (some (22))))), some (.inl (k : Int)), some (.inl y), some (.inl v1)]) (st' := [.inl (((k : Int) * (21)) + (1)), .inr (.inr (.inl (some (23)))), .inl y, .inr (.inr (.inl (some (22))))]) (h' := h) rfl ?_
      obtain ⟨v21, q22⟩ : ∃ v, r (k * 21 + 1) = v := ⟨_, rfl⟩
      have g20 := ct_rv C (k * 21 + 1)
      rw [q22] at g20
      refine wq_al (p' := 30) (n := 252) (ck_38 _ _ rfl) rfl (ly_k C.1 23 rfl) (by omega) (show hA h 23 (Int.toNat ((((k : Int) * (21)) + (1)))) = v21 from (congrFun (ct_r C) _).trans ((congrArg r (show (Int.toNat ((((k : Int) * (21)) + (1)))) = (k * 21 + 1) by omega)).trans q22)) ?_
      refine av_wp_sqF ck_38 3 (pc' := 34) (lv' := [some (.inr (.inr (.inl (some (22))))), some (.inl (k : Int)), some (.inl y), some (.inl v1)]) (st' := [.inl (v1 * (21)), .inl v21, .inl y, .inr (.inr (.inl (some (22))))]) (h' := h) rfl ?_
      refine wq_cv (p' := 37) (av_qc (.invokevirtual 106) 39 3 0 2) 6 cd_39 [.inl (v1 * (21)), .inl v21, .inl y] (22) 2 [some (.inr (.inr (.inl (some (22))))), some (.inl y), some (.inl v21), some (.inl (v1 * (21))), none, none] (ck_38 _ _ rfl) rfl rfl pp_39 rfl rfl rfl (congrArg Prod.fst (ly_k C.1 22 rfl)) rfl rfl rfl rfl ?_
      refine ct_39 C F (y) (v21) ((v1 * (21))) (by omega) (by omega) ((v1).toNat * 21) (by omega) (by omega) (fun z23 => ?_) (fun z23 => ?_)
      · show av_wp _ cd_38 37 [some (.inr (.inr (.inl (some (22))))), some (.inl (k : Int)), some (.inl y), some (.inl v1)] [.inl (1)] h _
        refine av_wp_sqF ck_38 2 (pc' := 49) (lv' := [some (.inr (.inr (.inl (some (22))))), some (.inl (k : Int)), some (.inl y), some (.inl v1)]) (st' := [.inr (.inr (.inl (some (22))))]) (h' := h) rfl ?_
        refine wq_gr (p' := 52) (ck_38 _ _ rfl) rfl (congrArg Prod.fst (ly_k C.1 22 rfl)) rfl (ly_g C.1 22 1 23 rfl) ?_
        refine av_wp_sqF ck_38 6 (pc' := 59) (lv' := [some (.inr (.inr (.inl (some (22))))), some (.inl (k : Int)), some (.inl y), some (.inl v1)]) (st' := [.inl v1, .inl (((k : Int) * (21)) + (3)), .inr (.inr (.inl (some (23))))]) (h' := h) rfl ?_
        refine ct_as (p' := 60) rfl rfl C F (k * 21 + 3) (by omega) (by omega) (by omega) (fun h24 C25 F26 => ?_)
        refine av_wp_sqF ck_38 1 (pc' := 61) (lv' := [some (.inr (.inr (.inl (some (22))))), some (.inl (k : Int)), some (.inl y), some (.inl v1)]) (st' := [.inr (.inr (.inl (some (22))))]) (h' := h24) rfl ?_
        refine wq_gr (p' := 64) (ck_38 _ _ rfl) rfl (congrArg Prod.fst (ly_k C25.1 22 rfl)) rfl (ly_g C25.1 22 0 1 rfl) ?_
        refine wq_cv (p' := 67) (av_qc (.invokevirtual 110) 82 0 0 6) 2 cd_82 [] (1) 6 [some (.inr (.inr (.inl (some (1))))), none] (ck_38 _ _ rfl) rfl rfl pp_82 rfl rfl rfl (congrArg Prod.fst (ly_k C25.1 1 rfl)) rfl rfl rfl rfl ?_
        refine ct_82 C25 F26 (fun h27 C28 F29 => ?_)
        generalize q31 : adv b lim t = t30 at C28
        have g32 := ct_wf C28
        show av_wp _ cd_38 67 [some (.inr (.inr (.inl (some (22))))), some (.inl (k : Int)), some (.inl y), some (.inl v1)] [] h27 _
        refine av_wp_ret (v := none) (ck_38 _ _ rfl) rfl rfl ?_
        exact hq h27 (by simp only [rsS, q3, q22, q31]; rw [if_pos ⟨⟨by omega, by omega⟩, z23⟩]; exact C28) F29
      · show av_wp _ cd_38 37 [some (.inr (.inr (.inl (some (22))))), some (.inl (k : Int)), some (.inl y), some (.inl v1)] [.inl (0)] h _
        refine av_wp_sqF ck_38 2 (pc' := 41) (lv' := [some (.inr (.inr (.inl (some (22))))), some (.inl (k : Int)), some (.inl y), some (.inl v1)]) (st' := [.inr (.inr (.inl (some (22))))]) (h' := h) rfl ?_
        refine wq_gr (p' := 44) (ck_38 _ _ rfl) rfl (congrArg Prod.fst (ly_k C.1 22 rfl)) rfl (ly_g C.1 22 0 1 rfl) ?_
        refine wq_cv (p' := 47) (av_qc (.invokevirtual 47) 85 0 0 6) 1 cd_85 [] (1) 6 [some (.inr (.inr (.inl (some (1)))))] (ck_38 _ _ rfl) rfl rfl pp_85 rfl rfl rfl (congrArg Prod.fst (ly_k C.1 1 rfl)) rfl rfl rfl rfl ?_
        refine ct_85 C F (fun h33 C34 F35 => ?_)
        generalize q37 : fal t = t36 at C34
        have g38 := ct_wf C34
        show av_wp _ cd_38 47 [some (.inr (.inr (.inl (some (22))))), some (.inl (k : Int)), some (.inl y), some (.inl v1)] [] h33 _
        refine av_wp_ret (v := none) (ck_38 _ _ rfl) rfl rfl ?_
        exact hq h33 (by simp only [rsS, q3, q22, q37]; rw [if_neg (fun z => z23 z.2)]; exact C34) F35

set_option maxRecDepth 100000 in
set_option maxHeartbeats 4000000 in
theorem ct_42 {g h : av_H} {b r d : Nat → Int} {lim : Nat} {t : TT} (C : CT b lim t r d h) (F : FT g h) (x : Int) (row : Nat) (ex : x = (row : Int)) (hrow : row ≤ 231) {Q : Option av_V → av_H → Prop} (hq : ∀ h', CT b lim (rsW b lim row 900 t r).1 (rsW b lim row 900 t r).2 d h' → FT g h' → Q none h') : av_wp none cd_42 0 [some (.inr (.inr (.inl (some (22))))), some (.inl x), none, none] [] h Q := by
  have g0 := ct_wf C
  subst ex
  refine av_wp_sqF ck_42 2 (pc' := 2) (lv' := [some (.inr (.inr (.inl (some (22))))), some (.inl (row : Int)), some (.inl (0)), none]) (st' := []) (h' := h) rfl ?_
  have L9 : ∀ (m8 : Nat) (k1 : Int) (a2 : Option av_V) (t3 : TT) (r4 : Nat → Int) (h5 : av_H), av_lg a2 = false → rsW b lim row (Int.toNat (900 - k1)) t3 r4 = rsW b lim row 900 t r → (0 ≤ k1 ∧ k1 ≤ 900) → CT b lim t3 r4 d h5 → FT g h5 → (900 - k1).toNat = m8 → av_wp none cd_42 2 [some (.inr (.inr (.inl (some (22))))), some (.inl (row : Int)), some (.inl k1), a2] [] h5 Q := by
    intro m8
    induction m8 using Nat.strongRecOn with
    | _ m8 I10 =>
      intro k1 a2 t3 r4 h5 g12 g13 g14 C6 F7 e11
      have la2 := g12
      refine av_wp_sqF ck_42 2 (pc' := 6) (lv' := [some (.inr (.inr (.inl (some (22))))), some (.inl (row : Int)), some (.inl k1), a2]) (st' := [.inl (900), .inl k1]) (h' := h5) rfl ?_
      refine wq_k2 (p' := 9) (ck_42 _ _ rfl) rfl ⟨by omega, by omega⟩ ⟨by omega, by omega⟩ (fun c15 => ?_) (fun c16 => ?_)
      · have c15 : (900) ≤ k1 := c15
        refine av_wp_ret (v := none) (ck_42 _ _ rfl) rfl rfl ?_
        have z17 : rsW b lim row 900 t r = (t3, r4) := by rw [← g13, show (Int.toNat (900 - k1)) = 0 by omega]; rfl
        exact hq h5 (by rw [z17]; exact C6) F7
      · have c16 : k1 < (900) := c16
        have g18 := ct_wf C6
        refine av_wp_sqF ck_42 1 (pc' := 10) (lv' := [some (.inr (.inr (.inl (some (22))))), some (.inl (row : Int)), some (.inl k1), a2]) (st' := [.inr (.inr (.inl (some (22))))]) (h' := h5) rfl ?_
        refine wq_gr (p' := 13) (ck_42 _ _ rfl) rfl (congrArg Prod.fst (ly_k C6.1 22 rfl)) rfl (ly_g C6.1 22 0 1 rfl) ?_
        refine av_wp_sqF ck_42 1 (pc' := 15) (lv' := [some (.inr (.inr (.inl (some (22))))), some (.inl (row : Int)), some (.inl k1), a2]) (st' := [.inr (.inr (.inr 2)), .inr (.inr (.inl (some (1))))]) (h' := h5) rfl ?_
        refine wq_cv (p' := 18) (av_qc (.invokevirtual 99) 86 1 0 6) 7 cd_86 [.inr (.inr (.inr 2))] (1) 6 [some (.inr (.inr (.inl (some (1))))), some (.inr (.inr (.inr 2))), none, none, none, none, none] (ck_42 _ _ rfl) rfl rfl pp_86 rfl rfl rfl (congrArg Prod.fst (ly_k C6.1 1 rfl)) rfl rfl rfl rfl ?_
        refine ct_86 C6 F7 2 (by decide) (fun v19 p20 => ?_)
        have g21 := pkv_le (b := b) (t := t3) 2 4 rfl
        have q22 := p20.1.symm
        have p20 := p20.2
        show av_wp _ cd_42 18 [some (.inr (.inr (.inl (some (22))))), some (.inl (row : Int)), some (.inl k1), a2] [.inl v19] h5 _
        refine av_wp_sqF ck_42 3 (pc' := 21) (lv' := [some (.inr (.inr (.inl (some (22))))), some (.inl (row : Int)), some (.inl k1), some (.inl v19)]) (st' := [.inl (-1), .inl v19]) (h' := h5) rfl ?_
        refine wq_k2 (p' := 24) (ck_42 _ _ rfl) rfl ⟨by omega, by omega⟩ ⟨by omega, by omega⟩ (fun c23 => ?_) (fun c24 => ?_)
        · have c23 : v19 ≠ (-1) := c23
          refine av_wp_sqF ck_42 1 (pc' := 26) (lv' := [some (.inr (.inr (.inl (some (22))))), some (.inl (row : Int)), some (.inl k1), some (.inl v19)]) (st' := [.inr (.inr (.inl (some (22))))]) (h' := h5) rfl ?_
          refine wq_gr (p' := 29) (ck_42 _ _ rfl) rfl (congrArg Prod.fst (ly_k C6.1 22 rfl)) rfl (ly_g C6.1 22 0 1 rfl) ?_
          refine wq_cv (p' := 32) (av_qc (.invokevirtual 110) 82 0 0 6) 2 cd_82 [] (1) 6 [some (.inr (.inr (.inl (some (1))))), none] (ck_42 _ _ rfl) rfl rfl pp_82 rfl rfl rfl (congrArg Prod.fst (ly_k C6.1 1 rfl)) rfl rfl rfl rfl ?_
          refine ct_82 C6 F7 (fun h25 C26 F27 => ?_)
          generalize q29 : adv b lim t3 = t28 at C26
          have g30 := ct_wf C26
          show av_wp _ cd_42 32 [some (.inr (.inr (.inl (some (22))))), some (.inl (row : Int)), some (.inl k1), some (.inl v19)] [] h25 _
          refine av_wp_sqF ck_42 1 (pc' := 33) (lv' := [some (.inr (.inr (.inl (some (22))))), some (.inl (row : Int)), some (.inl k1), some (.inl v19)]) (st' := [.inr (.inr (.inl (some (22))))]) (h' := h25) rfl ?_
          refine wq_gr (p' := 36) (ck_42 _ _ rfl) rfl (congrArg Prod.fst (ly_k C26.1 22 rfl)) rfl (ly_g C26.1 22 1 23 rfl) ?_
          refine av_wp_sqF ck_42 6 (pc' := 43) (lv' := [some (.inr (.inr (.inl (some (22))))), some (.inl (row : Int)), some (.inl k1), some (.inl v19)]) (st' := [.inr (.inr (.inl (some (22)))), .inl (((row : Int) + (10)) + v19), .inr (.inr (.inl (some (23))))]) (h' := h25) rfl ?_
          refine wq_gr (p' := 46) (ck_42 _ _ rfl) rfl (congrArg Prod.fst (ly_k C26.1 22 rfl)) rfl (ly_g C26.1 22 0 1 rfl) ?_
          refine av_wp_sqF ck_42 2 (pc' := 50) (lv' := [some (.inr (.inr (.inl (some (22))))), some (.inl (row : Int)), some (.inl k1), some (.inl v19)]) (st' := [.inl (999), .inl (0), .inr (.inr (.inl (some (1)))), .inl (((row : Int) + (10)) + v19), .inr (.inr (.inl (some (23))))]) (h' := h25) rfl ?_
          refine wq_cv (p' := 53) (av_qc (.invokevirtual 118) 92 2 0 6) 4 cd_92 [.inl (999), .inl (0)] (1) 6 [some (.inr (.inr (.inl (some (1))))), some (.inl (0)), some (.inl (999)), none] (ck_42 _ _ rfl) rfl rfl pp_92 rfl rfl rfl (congrArg Prod.fst (ly_k C26.1 1 rfl)) rfl rfl rfl rfl ?_
          refine ct_92 C26 F27 ((0)) ((999)) (by omega) (by omega) (fun v31 h33 p32 C34 F35 => ?_)
          have q36 := p32.1.symm
          have p32 := p32.2
          generalize q38 : nmt b lim t28 (0) (999) = t37 at C34
          have g39 := ct_wf C34
          show av_wp _ cd_42 53 [some (.inr (.inr (.inl (some (22))))), some (.inl (row : Int)), some (.inl k1), some (.inl v19)] [.inl v31, .inl (((row : Int) + (10)) + v19), .inr (.inr (.inl (some (23))))] h33 _
          refine ct_as (p' := 54) rfl rfl C34 F35 (row + 10 + (Int.toNat v19)) (by omega) (by omega) (by omega) (fun h40 C41 F42 => ?_)
          refine av_wp_sqF ck_42 2 (pc' := 2) (lv' := [some (.inr (.inr (.inl (some (22))))), some (.inl (row : Int)), some (.inl (k1 + (1))), some (.inl v19)]) (st' := []) (h' := h40) rfl ?_
          exact I10 _ (by omega) ((k1 + (1))) (some (.inl v19)) t37 (av_u1 r4 (row + 10 + (Int.toNat v19)) v31) h40 rfl (by rw [← g13, show (Int.toNat (900 - k1)) = (Int.toNat (900 - (k1 + (1)))) + 1 by omega]; simp only [rsW, q22, q29, q36, q38, if_pos c16, if_neg (Int.not_le.mpr c16), if_neg c23]) (by omega) C41 F42 rfl
        · have c24 : v19 = (-1) := c24
          refine av_wp_ret (v := none) (ck_42 _ _ rfl) rfl rfl ?_
          have z43 : rsW b lim row 900 t r = (t3, r4) := by rw [← g13, show (Int.toNat (900 - k1)) = (Int.toNat (899 - k1)) + 1 by omega]; simp only [rsW, q22, if_pos c16, if_neg (Int.not_le.mpr c16), if_pos c24]
          exact hq h5 (by rw [z43]; exact C6) F7
  exact L9 _ ((0)) (none) t r h rfl rfl (by omega) C F rfl

set_option maxRecDepth 100000 in
set_option maxHeartbeats 4000000 in
theorem ct_40 {g h : av_H} {b r d : Nat → Int} {lim : Nat} {t : TT} (C : CT b lim t r d h) (F : FT g h) {ah : Int} (ha : hF g 22 2 = ah) (qa : 0 ≤ ah ∧ ah ≤ 16) (x : Int) (row : Nat) (ex : x = (row : Int)) (hrow : row ≤ 231) {Q : Option av_V → av_H → Prop} (hq : ∀ h', CT b lim (rsT b lim row ah t r).1 (rsT b lim row ah t r).2 d h' → FT g h' → Q none h') : av_wp none cd_40 0 [some (.inr (.inr (.inl (some (22))))), some (.inl x)] [] h Q := by
  have g0 := ct_wf C
  subst ex
  refine av_wp_sqF ck_40 2 (pc' := 2) (lv' := [some (.inr (.inr (.inl (some (22))))), some (.inl (row : Int))]) (st' := [.inl (row : Int), .inr (.inr (.inl (some (22))))]) (h' := h) rfl ?_
  refine wq_cv (p' := 5) (av_qc (.invokevirtual 113) 42 1 0 2) 4 cd_42 [.inl (row : Int)] (22) 2 [some (.inr (.inr (.inl (some (22))))), some (.inl (row : Int)), none, none] (ck_40 _ _ rfl) rfl rfl pp_42 rfl rfl rfl (congrArg Prod.fst (ly_k C.1 22 rfl)) rfl rfl rfl rfl ?_
  refine ct_42 C F ((row : Int)) (row) (by omega) (by omega) (fun h1 C2 F3 => ?_)
  obtain ⟨⟨t4, r5⟩, q6⟩ : ∃ x, rsW b lim (row) 900 t r = x := ⟨_, rfl⟩
  rw [q6] at C2
  have C2 : CT b lim t4 r5 d h1 := C2
  have g7 := ct_wf C2
  show av_wp _ cd_40 5 [some (.inr (.inr (.inl (some (22))))), some (.inl (row : Int))] [] h1 _
  refine av_wp_sqF ck_40 1 (pc' := 6) (lv' := [some (.inr (.inr (.inl (some (22))))), some (.inl (row : Int))]) (st' := [.inr (.inr (.inl (some (22))))]) (h' := h1) rfl ?_
  refine wq_gr (p' := 9) (ck_40 _ _ rfl) rfl (congrArg Prod.fst (ly_k C2.1 22 rfl)) rfl (ly_g C2.1 22 0 1 rfl) ?_
  refine av_wp_sqF ck_40 1 (pc' := 11) (lv' := [some (.inr (.inr (.inl (some (22))))), some (.inl (row : Int))]) (st' := [.inr (.inr (.inr 3)), .inr (.inr (.inl (some (1))))]) (h' := h1) rfl ?_
  refine wq_cv (p' := 14) (av_qc (.invokevirtual 86) 88 1 0 6) 2 cd_88 [.inr (.inr (.inr 3))] (1) 6 [some (.inr (.inr (.inl (some (1))))), some (.inr (.inr (.inr 3)))] (ck_40 _ _ rfl) rfl rfl pp_88 rfl rfl rfl (congrArg Prod.fst (ly_k C2.1 1 rfl)) rfl rfl rfl rfl ?_
  refine ct_88b C2 F3 3 (by decide) (fun z8 h9 C10 F11 => ?_) (fun z8 => ?_)
  · generalize q13 : adv b lim t4 = t12 at C10
    have g14 := ct_wf C10
    show av_wp _ cd_40 14 [some (.inr (.inr (.inl (some (22))))), some (.inl (row : Int))] [.inl (1)] h9 _
    refine av_wp_sqF ck_40 2 (pc' := 18) (lv' := [some (.inr (.inr (.inl (some (22))))), some (.inl (row : Int))]) (st' := [.inr (.inr (.inl (some (22))))]) (h' := h9) rfl ?_
    refine wq_gr (p' := 21) (ck_40 _ _ rfl) rfl (congrArg Prod.fst (ly_k C10.1 22 rfl)) rfl (ly_g C10.1 22 1 23 rfl) ?_
    refine av_wp_sqF ck_40 4 (pc' := 25) (lv' := [some (.inr (.inr (.inl (some (22))))), some (.inl (row : Int))]) (st' := [.inr (.inr (.inl (some (22)))), .inl ((row : Int) + (5)), .inr (.inr (.inl (some (23))))]) (h' := h9) rfl ?_
    refine wq_gr (p' := 28) (ck_40 _ _ rfl) rfl (congrArg Prod.fst (ly_k C10.1 22 rfl)) rfl (ly_g C10.1 22 0 1 rfl) ?_
    refine av_wp_sqF ck_40 2 (pc' := 32) (lv' := [some (.inr (.inr (.inl (some (22))))), some (.inl (row : Int))]) (st' := [.inl (1999), .inl (0), .inr (.inr (.inl (some (1)))), .inl ((row : Int) + (5)), .inr (.inr (.inl (some (23))))]) (h' := h9) rfl ?_
    refine wq_cv (p' := 35) (av_qc (.invokevirtual 118) 92 2 0 6) 4 cd_92 [.inl (1999), .inl (0)] (1) 6 [some (.inr (.inr (.inl (some (1))))), some (.inl (0)), some (.inl (1999)), none] (ck_40 _ _ rfl) rfl rfl pp_92 rfl rfl rfl (congrArg Prod.fst (ly_k C10.1 1 rfl)) rfl rfl rfl rfl ?_
    refine ct_92 C10 F11 ((0)) ((1999)) (by omega) (by omega) (fun v15 h17 p16 C18 F19 => ?_)
    have q20 := p16.1.symm
    have p16 := p16.2
    generalize q22 : nmt b lim t12 (0) (1999) = t21 at C18
    have g23 := ct_wf C18
    show av_wp _ cd_40 35 [some (.inr (.inr (.inl (some (22))))), some (.inl (row : Int))] [.inl v15, .inl ((row : Int) + (5)), .inr (.inr (.inl (some (23))))] h17 _
    refine ct_as (p' := 36) rfl rfl C18 F19 (row + 5) (by omega) (by omega) (by omega) (fun h24 C25 F26 => ?_)
    refine av_wp_sqF ck_40 1 (pc' := 37) (lv' := [some (.inr (.inr (.inl (some (22))))), some (.inl (row : Int))]) (st' := [.inr (.inr (.inl (some (22))))]) (h' := h24) rfl ?_
    refine wq_gr (p' := 40) (ck_40 _ _ rfl) rfl (congrArg Prod.fst (ly_k C25.1 22 rfl)) rfl (ly_g C25.1 22 0 1 rfl) ?_
    refine av_wp_sqF ck_40 1 (pc' := 42) (lv' := [some (.inr (.inr (.inl (some (22))))), some (.inl (row : Int))]) (st' := [.inr (.inr (.inr 4)), .inr (.inr (.inl (some (1))))]) (h' := h24) rfl ?_
    refine wq_cv (p' := 45) (av_qc (.invokevirtual 86) 88 1 0 6) 2 cd_88 [.inr (.inr (.inr 4))] (1) 6 [some (.inr (.inr (.inl (some (1))))), some (.inr (.inr (.inr 4)))] (ck_40 _ _ rfl) rfl rfl pp_88 rfl rfl rfl (congrArg Prod.fst (ly_k C25.1 1 rfl)) rfl rfl rfl rfl ?_
    refine ct_88b C25 F26 4 (by decide) (fun z27 h28 C29 F30 => ?_) (fun z27 => ?_)
    · generalize q32 : adv b lim t21 = t31 at C29
      have g33 := ct_wf C29
      show av_wp _ cd_40 45 [some (.inr (.inr (.inl (some (22))))), some (.inl (row : Int))] [.inl (1)] h28 _
      refine av_wp_sqF ck_40 2 (pc' := 49) (lv' := [some (.inr (.inr (.inl (some (22))))), some (.inl (row : Int))]) (st' := [.inr (.inr (.inl (some (22))))]) (h' := h28) rfl ?_
      refine wq_gr (p' := 52) (ck_40 _ _ rfl) rfl (congrArg Prod.fst (ly_k C29.1 22 rfl)) rfl (ly_g C29.1 22 1 23 rfl) ?_
      refine av_wp_sqF ck_40 4 (pc' := 57) (lv' := [some (.inr (.inr (.inl (some (22))))), some (.inl (row : Int))]) (st' := [.inr (.inr (.inl (some (22)))), .inl ((row : Int) + (6)), .inr (.inr (.inl (some (23))))]) (h' := h28) rfl ?_
      refine wq_gr (p' := 60) (ck_40 _ _ rfl) rfl (congrArg Prod.fst (ly_k C29.1 22 rfl)) rfl (ly_g C29.1 22 0 1 rfl) ?_
      refine av_wp_sqF ck_40 2 (pc' := 62) (lv' := [some (.inr (.inr (.inl (some (22))))), some (.inl (row : Int))]) (st' := [.inr (.inr (.inl (some (22)))), .inl (0), .inr (.inr (.inl (some (1)))), .inl ((row : Int) + (6)), .inr (.inr (.inl (some (23))))]) (h' := h28) rfl ?_
      refine wq_gi (p' := 65) (ck_40 _ _ rfl) rfl (congrArg Prod.fst (ly_k C29.1 22 rfl)) rfl ((F30.2.2.2.2.2.1 22 2 rfl).trans ha) ?_
      refine av_wp_sqF ck_40 2 (pc' := 67) (lv' := [some (.inr (.inr (.inl (some (22))))), some (.inl (row : Int))]) (st' := [.inl (ah - (1)), .inl (0), .inr (.inr (.inl (some (1)))), .inl ((row : Int) + (6)), .inr (.inr (.inl (some (23))))]) (h' := h28) rfl ?_
      refine wq_cv (p' := 70) (av_qc (.invokevirtual 118) 92 2 0 6) 4 cd_92 [.inl (ah - (1)), .inl (0)] (1) 6 [some (.inr (.inr (.inl (some (1))))), some (.inl (0)), some (.inl (ah - (1))), none] (ck_40 _ _ rfl) rfl rfl pp_92 rfl rfl rfl (congrArg Prod.fst (ly_k C29.1 1 rfl)) rfl rfl rfl rfl ?_
      refine ct_92 C29 F30 ((0)) ((ah - (1))) (by omega) (by omega) (fun v34 h36 p35 C37 F38 => ?_)
      have q39 := p35.1.symm
      have p35 := p35.2
      generalize q41 : nmt b lim t31 (0) (ah - (1)) = t40 at C37
      have g42 := ct_wf C37
      show av_wp _ cd_40 70 [some (.inr (.inr (.inl (some (22))))), some (.inl (row : Int))] [.inl v34, .inl ((row : Int) + (6)), .inr (.inr (.inl (some (23))))] h36 _
      refine ct_as (p' := 71) rfl rfl C37 F38 (row + 6) (by omega) (by omega) (by omega) (fun h43 C44 F45 => ?_)
      refine av_wp_ret (v := none) (ck_40 _ _ rfl) rfl rfl ?_
      exact hq h43 (by first | (simp only [rsT, rsT2, rsT1, q6, q13, q20, q22, q32, q39, q41, if_neg z8, if_neg z27]; exact C44) | (exfalso; omega)) F45
    · show av_wp _ cd_40 45 [some (.inr (.inr (.inl (some (22))))), some (.inl (row : Int))] [.inl (0)] h24 _
      refine av_wp_sqF ck_40 1 (pc' := 71) (lv' := [some (.inr (.inr (.inl (some (22))))), some (.inl (row : Int))]) (st' := []) (h' := h24) rfl ?_
      refine av_wp_ret (v := none) (ck_40 _ _ rfl) rfl rfl ?_
      exact hq h24 (by first | (simp only [rsT, rsT2, rsT1, q6, q13, q20, q22, if_neg z8, if_pos z27]; exact C25) | (exfalso; omega)) F26
  · show av_wp _ cd_40 14 [some (.inr (.inr (.inl (some (22))))), some (.inl (row : Int))] [.inl (0)] h1 _
    refine av_wp_sqF ck_40 2 (pc' := 37) (lv' := [some (.inr (.inr (.inl (some (22))))), some (.inl (row : Int))]) (st' := [.inr (.inr (.inl (some (22))))]) (h' := h1) rfl ?_
    refine wq_gr (p' := 40) (ck_40 _ _ rfl) rfl (congrArg Prod.fst (ly_k C2.1 22 rfl)) rfl (ly_g C2.1 22 0 1 rfl) ?_
    refine av_wp_sqF ck_40 1 (pc' := 42) (lv' := [some (.inr (.inr (.inl (some (22))))), some (.inl (row : Int))]) (st' := [.inr (.inr (.inr 4)), .inr (.inr (.inl (some (1))))]) (h' := h1) rfl ?_
    refine wq_cv (p' := 45) (av_qc (.invokevirtual 86) 88 1 0 6) 2 cd_88 [.inr (.inr (.inr 4))] (1) 6 [some (.inr (.inr (.inl (some (1))))), some (.inr (.inr (.inr 4)))] (ck_40 _ _ rfl) rfl rfl pp_88 rfl rfl rfl (congrArg Prod.fst (ly_k C2.1 1 rfl)) rfl rfl rfl rfl ?_
    refine ct_88b C2 F3 4 (by decide) (fun z46 h47 C48 F49 => ?_) (fun z46 => ?_)
    · generalize q51 : adv b lim t4 = t50 at C48
      have g52 := ct_wf C48
      show av_wp _ cd_40 45 [some (.inr (.inr (.inl (some (22))))), some (.inl (row : Int))] [.inl (1)] h47 _
      refine av_wp_sqF ck_40 2 (pc' := 49) (lv' := [some (.inr (.inr (.inl (some (22))))), some (.inl (row : Int))]) (st' := [.inr (.inr (.inl (some (22))))]) (h' := h47) rfl ?_
      refine wq_gr (p' := 52) (ck_40 _ _ rfl) rfl (congrArg Prod.fst (ly_k C48.1 22 rfl)) rfl (ly_g C48.1 22 1 23 rfl) ?_
      refine av_wp_sqF ck_40 4 (pc' := 57) (lv' := [some (.inr (.inr (.inl (some (22))))), some (.inl (row : Int))]) (st' := [.inr (.inr (.inl (some (22)))), .inl ((row : Int) + (6)), .inr (.inr (.inl (some (23))))]) (h' := h47) rfl ?_
      refine wq_gr (p' := 60) (ck_40 _ _ rfl) rfl (congrArg Prod.fst (ly_k C48.1 22 rfl)) rfl (ly_g C48.1 22 0 1 rfl) ?_
      refine av_wp_sqF ck_40 2 (pc' := 62) (lv' := [some (.inr (.inr (.inl (some (22))))), some (.inl (row : Int))]) (st' := [.inr (.inr (.inl (some (22)))), .inl (0), .inr (.inr (.inl (some (1)))), .inl ((row : Int) + (6)), .inr (.inr (.inl (some (23))))]) (h' := h47) rfl ?_
      refine wq_gi (p' := 65) (ck_40 _ _ rfl) rfl (congrArg Prod.fst (ly_k C48.1 22 rfl)) rfl ((F49.2.2.2.2.2.1 22 2 rfl).trans ha) ?_
      refine av_wp_sqF ck_40 2 (pc' := 67) (lv' := [some (.inr (.inr (.inl (some (22))))), some (.inl (row : Int))]) (st' := [.inl (ah - (1)), .inl (0), .inr (.inr (.inl (some (1)))), .inl ((row : Int) + (6)), .inr (.inr (.inl (some (23))))]) (h' := h47) rfl ?_
      refine wq_cv (p' := 70) (av_qc (.invokevirtual 118) 92 2 0 6) 4 cd_92 [.inl (ah - (1)), .inl (0)] (1) 6 [some (.inr (.inr (.inl (some (1))))), some (.inl (0)), some (.inl (ah - (1))), none] (ck_40 _ _ rfl) rfl rfl pp_92 rfl rfl rfl (congrArg Prod.fst (ly_k C48.1 1 rfl)) rfl rfl rfl rfl ?_
      refine ct_92 C48 F49 ((0)) ((ah - (1))) (by omega) (by omega) (fun v53 h55 p54 C56 F57 => ?_)
      have q58 := p54.1.symm
      have p54 := p54.2
      generalize q60 : nmt b lim t50 (0) (ah - (1)) = t59 at C56
      have g61 := ct_wf C56
      show av_wp _ cd_40 70 [some (.inr (.inr (.inl (some (22))))), some (.inl (row : Int))] [.inl v53, .inl ((row : Int) + (6)), .inr (.inr (.inl (some (23))))] h55 _
      refine ct_as (p' := 71) rfl rfl C56 F57 (row + 6) (by omega) (by omega) (by omega) (fun h62 C63 F64 => ?_)
      refine av_wp_ret (v := none) (ck_40 _ _ rfl) rfl rfl ?_
      exact hq h62 (by first | (simp only [rsT, rsT2, rsT1, q6, q51, q58, q60, if_pos z8, if_neg z46]; exact C63) | (exfalso; omega)) F64
    · show av_wp _ cd_40 45 [some (.inr (.inr (.inl (some (22))))), some (.inl (row : Int))] [.inl (0)] h1 _
      refine av_wp_sqF ck_40 1 (pc' := 71) (lv' := [some (.inr (.inr (.inl (some (22))))), some (.inl (row : Int))]) (st' := []) (h' := h1) rfl ?_
      refine av_wp_ret (v := none) (ck_40 _ _ rfl) rfl rfl ?_
      exact hq h1 (by first | (simp only [rsT, rsT2, rsT1, q6, if_pos z8, if_pos z46]; exact C2) | (exfalso; omega)) F3
end
section
set_option maxRecDepth 100000 in
set_option maxHeartbeats 4000000 in
theorem ct_41 {g h : av_H} {b r d : Nat → Int} {lim : Nat} {t : TT} (C : CT b lim t r d h) (F : FT g h) (x : Int) (row : Nat) (ex : x = (row : Int)) (hrow : row ≤ 231) {Q : Option av_V → av_H → Prop} (hq : ∀ h', CT b lim (rsB b lim row t r).1 (rsB b lim row t r).2 d h' → FT g h' → Q none h') : av_wp none cd_41 0 [some (.inr (.inr (.inl (some (22))))), some (.inl x), none] [] h Q := by
  have g0 := ct_wf C
  subst ex
  refine av_wp_sqF ck_41 1 (pc' := 1) (lv' := [some (.inr (.inr (.inl (some (22))))), some (.inl (row : Int)), none]) (st' := [.inr (.inr (.inl (some (22))))]) (h' := h) rfl ?_
  refine wq_gr (p' := 4) (ck_41 _ _ rfl) rfl (congrArg Prod.fst (ly_k C.1 22 rfl)) rfl (ly_g C.1 22 1 23 rfl) ?_
  refine av_wp_sqF ck_41 4 (pc' := 8) (lv' := [some (.inr (.inr (.inl (some (22))))), some (.inl (row : Int)), none]) (st' := [.inl (3), .inl ((row : Int) + (0)), .inr (.inr (.inl (some (23))))]) (h' := h) rfl ?_
  refine ct_as (p' := 9) rfl rfl C F (row) (by omega) (by omega) (by omega) (fun h1 C2 F3 => ?_)
  refine av_wp_sqF ck_41 1 (pc' := 10) (lv' := [some (.inr (.inr (.inl (some (22))))), some (.inl (row : Int)), none]) (st' := [.inr (.inr (.inl (some (22))))]) (h' := h1) rfl ?_
  refine wq_gr (p' := 13) (ck_41 _ _ rfl) rfl (congrArg Prod.fst (ly_k C2.1 22 rfl)) rfl (ly_g C2.1 22 1 23 rfl) ?_
  refine av_wp_sqF ck_41 3 (pc' := 16) (lv' := [some (.inr (.inr (.inl (some (22))))), some (.inl (row : Int)), none]) (st' := [.inl ((row : Int) + (3)), .inr (.inr (.inl (some (23))))]) (h' := h1) rfl ?_
  obtain ⟨v5, q6⟩ : ∃ v, (av_u1 r (row) (3)) (row + 3) = v := ⟨_, rfl⟩
  have g4 := ct_rv C2 (row + 3)
  rw [q6] at g4
  refine wq_al (p' := 17) (n := 252) (ck_41 _ _ rfl) rfl (ly_k C2.1 23 rfl) (by omega) (show hA h1 23 (Int.toNat (((row : Int) + (3)))) = v5 from (congrFun (ct_r C2) _).trans ((congrArg (av_u1 r (row) (3)) (show (Int.toNat (((row : Int) + (3)))) = (row + 3) by omega)).trans q6)) ?_
  refine av_wp_sqF ck_41 2 (pc' := 19) (lv' := [some (.inr (.inr (.inl (some (22))))), some (.inl (row : Int)), some (.inl v5)]) (st' := [.inl v5]) (h' := h1) rfl ?_
  refine wq_k1 (p' := 22) (ck_41 _ _ rfl) rfl ⟨by omega, by omega⟩ (fun c7 => ?_) (fun c8 => ?_)
  · have c7 : v5 < (0) := c7
    refine av_wp_sqF ck_41 1 (pc' := 48) (lv' := [some (.inr (.inr (.inl (some (22))))), some (.inl (row : Int)), some (.inl v5)]) (st' := [.inr (.inr (.inl (some (22))))]) (h' := h1) rfl ?_
    refine wq_gr (p' := 51) (ck_41 _ _ rfl) rfl (congrArg Prod.fst (ly_k C2.1 22 rfl)) rfl (ly_g C2.1 22 0 1 rfl) ?_
    refine av_wp_sqF ck_41 1 (pc' := 53) (lv' := [some (.inr (.inr (.inl (some (22))))), some (.inl (row : Int)), some (.inl v5)]) (st' := [.inr (.inr (.inr 2)), .inr (.inr (.inl (some (1))))]) (h' := h1) rfl ?_
    refine wq_cv (p' := 56) (av_qc (.invokevirtual 99) 86 1 0 6) 7 cd_86 [.inr (.inr (.inr 2))] (1) 6 [some (.inr (.inr (.inl (some (1))))), some (.inr (.inr (.inr 2))), none, none, none, none, none] (ck_41 _ _ rfl) rfl rfl pp_86 rfl rfl rfl (congrArg Prod.fst (ly_k C2.1 1 rfl)) rfl rfl rfl rfl ?_
    refine ct_86 C2 F3 2 (by decide) (fun v9 p10 => ?_)
    have g11 := pkv_le (b := b) (t := t) 2 4 rfl
    have q12 := p10.1.symm
    have p10 := p10.2
    show av_wp _ cd_41 56 [some (.inr (.inr (.inl (some (22))))), some (.inl (row : Int)), some (.inl v5)] [.inl v9] h1 _
    refine av_wp_sqF ck_41 1 (pc' := 57) (lv' := [some (.inr (.inr (.inl (some (22))))), some (.inl (row : Int)), some (.inl v5)]) (st' := [.inl (-1), .inl v9]) (h' := h1) rfl ?_
    refine wq_k2 (p' := 60) (ck_41 _ _ rfl) rfl ⟨by omega, by omega⟩ ⟨by omega, by omega⟩ (fun c13 => ?_) (fun c14 => ?_)
    · have c13 : v9 ≠ (-1) := c13
      refine av_wp_sqF ck_41 2 (pc' := 69) (lv' := [some (.inr (.inr (.inl (some (22))))), some (.inl (row : Int)), some (.inl v5)]) (st' := [.inl (row : Int), .inr (.inr (.inl (some (22))))]) (h' := h1) rfl ?_
      refine wq_cv (p' := 72) (av_qc (.invokevirtual 113) 42 1 0 2) 4 cd_42 [.inl (row : Int)] (22) 2 [some (.inr (.inr (.inl (some (22))))), some (.inl (row : Int)), none, none] (ck_41 _ _ rfl) rfl rfl pp_42 rfl rfl rfl (congrArg Prod.fst (ly_k C2.1 22 rfl)) rfl rfl rfl rfl ?_
      refine ct_42 C2 F3 ((row : Int)) (row) (by omega) (by omega) (fun h15 C16 F17 => ?_)
      obtain ⟨⟨t18, r19⟩, q20⟩ : ∃ x, rsW b lim (row) 900 t (av_u1 r (row) (3)) = x := ⟨_, rfl⟩
      rw [q20] at C16
      have C16 : CT b lim t18 r19 d h15 := C16
      have g21 := ct_wf C16
      show av_wp _ cd_41 72 [some (.inr (.inr (.inl (some (22))))), some (.inl (row : Int)), some (.inl v5)] [] h15 _
      refine av_wp_ret (v := none) (ck_41 _ _ rfl) rfl rfl ?_
      exact hq h15 (by first | (simp only [rsB, rsB0, q6, q12, q20, if_pos c7, if_neg (Int.not_le.mpr c7), if_neg c13, if_neg (show ¬ (0 ≤ v5 ∧ v5 < 12) by omega)]; exact C16) | (exfalso; omega)) F17
    · have c14 : v9 = (-1) := c14
      refine av_wp_sqF ck_41 1 (pc' := 61) (lv' := [some (.inr (.inr (.inl (some (22))))), some (.inl (row : Int)), some (.inl v5)]) (st' := [.inr (.inr (.inl (some (22))))]) (h' := h1) rfl ?_
      refine wq_gr (p' := 64) (ck_41 _ _ rfl) rfl (congrArg Prod.fst (ly_k C2.1 22 rfl)) rfl (ly_g C2.1 22 0 1 rfl) ?_
      refine wq_cv (p' := 67) (av_qc (.invokevirtual 47) 85 0 0 6) 1 cd_85 [] (1) 6 [some (.inr (.inr (.inl (some (1)))))] (ck_41 _ _ rfl) rfl rfl pp_85 rfl rfl rfl (congrArg Prod.fst (ly_k C2.1 1 rfl)) rfl rfl rfl rfl ?_
      refine ct_85 C2 F3 (fun h22 C23 F24 => ?_)
      generalize q26 : fal t = t25 at C23
      have g27 := ct_wf C23
      show av_wp _ cd_41 67 [some (.inr (.inr (.inl (some (22))))), some (.inl (row : Int)), some (.inl v5)] [] h22 _
      refine av_wp_sqF ck_41 2 (pc' := 69) (lv' := [some (.inr (.inr (.inl (some (22))))), some (.inl (row : Int)), some (.inl v5)]) (st' := [.inl (row : Int), .inr (.inr (.inl (some (22))))]) (h' := h22) rfl ?_
      refine wq_cv (p' := 72) (av_qc (.invokevirtual 113) 42 1 0 2) 4 cd_42 [.inl (row : Int)] (22) 2 [some (.inr (.inr (.inl (some (22))))), some (.inl (row : Int)), none, none] (ck_41 _ _ rfl) rfl rfl pp_42 rfl rfl rfl (congrArg Prod.fst (ly_k C23.1 22 rfl)) rfl rfl rfl rfl ?_
      refine ct_42 C23 F24 ((row : Int)) (row) (by omega) (by omega) (fun h28 C29 F30 => ?_)
      obtain ⟨⟨t31, r32⟩, q33⟩ : ∃ x, rsW b lim (row) 900 t25 (av_u1 r (row) (3)) = x := ⟨_, rfl⟩
      rw [q33] at C29
      have C29 : CT b lim t31 r32 d h28 := C29
      have g34 := ct_wf C29
      show av_wp _ cd_41 72 [some (.inr (.inr (.inl (some (22))))), some (.inl (row : Int)), some (.inl v5)] [] h28 _
      refine av_wp_ret (v := none) (ck_41 _ _ rfl) rfl rfl ?_
      exact hq h28 (by first | (simp only [rsB, rsB0, q6, q12, q26, q33, if_pos c7, if_neg (Int.not_le.mpr c7), if_pos c14, if_neg (show ¬ (0 ≤ v5 ∧ v5 < 12) by omega)]; exact C29) | (exfalso; omega)) F30
  · have c8 : (0) ≤ v5 := c8
    refine av_wp_sqF ck_41 2 (pc' := 25) (lv' := [some (.inr (.inr (.inl (some (22))))), some (.inl (row : Int)), some (.inl v5)]) (st' := [.inl (12), .inl v5]) (h' := h1) rfl ?_
    refine wq_k2 (p' := 28) (ck_41 _ _ rfl) rfl ⟨by omega, by omega⟩ ⟨by omega, by omega⟩ (fun c35 => ?_) (fun c36 => ?_)
    · have c35 : (12) ≤ v5 := c35
      refine av_wp_sqF ck_41 1 (pc' := 48) (lv' := [some (.inr (.inr (.inl (some (22))))), some (.inl (row : Int)), some (.inl v5)]) (st' := [.inr (.inr (.inl (some (22))))]) (h' := h1) rfl ?_
      refine wq_gr (p' := 51) (ck_41 _ _ rfl) rfl (congrArg Prod.fst (ly_k C2.1 22 rfl)) rfl (ly_g C2.1 22 0 1 rfl) ?_
      refine av_wp_sqF ck_41 1 (pc' := 53) (lv' := [some (.inr (.inr (.inl (some (22))))), some (.inl (row : Int)), some (.inl v5)]) (st' := [.inr (.inr (.inr 2)), .inr (.inr (.inl (some (1))))]) (h' := h1) rfl ?_
      refine wq_cv (p' := 56) (av_qc (.invokevirtual 99) 86 1 0 6) 7 cd_86 [.inr (.inr (.inr 2))] (1) 6 [some (.inr (.inr (.inl (some (1))))), some (.inr (.inr (.inr 2))), none, none, none, none, none] (ck_41 _ _ rfl) rfl rfl pp_86 rfl rfl rfl (congrArg Prod.fst (ly_k C2.1 1 rfl)) rfl rfl rfl rfl ?_
      refine ct_86 C2 F3 2 (by decide) (fun v37 p38 => ?_)
      have g39 := pkv_le (b := b) (t := t) 2 4 rfl
      have q40 := p38.1.symm
      have p38 := p38.2
      show av_wp _ cd_41 56 [some (.inr (.inr (.inl (some (22))))), some (.inl (row : Int)), some (.inl v5)] [.inl v37] h1 _
      refine av_wp_sqF ck_41 1 (pc' := 57) (lv' := [some (.inr (.inr (.inl (some (22))))), some (.inl (row : Int)), some (.inl v5)]) (st' := [.inl (-1), .inl v37]) (h' := h1) rfl ?_
      refine wq_k2 (p' := 60) (ck_41 _ _ rfl) rfl ⟨by omega, by omega⟩ ⟨by omega, by omega⟩ (fun c41 => ?_) (fun c42 => ?_)
      · have c41 : v37 ≠ (-1) := c41
        refine av_wp_sqF ck_41 2 (pc' := 69) (lv' := [some (.inr (.inr (.inl (some (22))))), some (.inl (row : Int)), some (.inl v5)]) (st' := [.inl (row : Int), .inr (.inr (.inl (some (22))))]) (h' := h1) rfl ?_
        refine wq_cv (p' := 72) (av_qc (.invokevirtual 113) 42 1 0 2) 4 cd_42 [.inl (row : Int)] (22) 2 [some (.inr (.inr (.inl (some (22))))), some (.inl (row : Int)), none, none] (ck_41 _ _ rfl) rfl rfl pp_42 rfl rfl rfl (congrArg Prod.fst (ly_k C2.1 22 rfl)) rfl rfl rfl rfl ?_
        refine ct_42 C2 F3 ((row : Int)) (row) (by omega) (by omega) (fun h43 C44 F45 => ?_)
        obtain ⟨⟨t46, r47⟩, q48⟩ : ∃ x, rsW b lim (row) 900 t (av_u1 r (row) (3)) = x := ⟨_, rfl⟩
        rw [q48] at C44
        have C44 : CT b lim t46 r47 d h43 := C44
        have g49 := ct_wf C44
        show av_wp _ cd_41 72 [some (.inr (.inr (.inl (some (22))))), some (.inl (row : Int)), some (.inl v5)] [] h43 _
        refine av_wp_ret (v := none) (ck_41 _ _ rfl) rfl rfl ?_
        exact hq h43 (by first | (simp only [rsB, rsB0, q6, q40, q48, if_pos c8, if_neg (Int.not_lt.mpr c8), if_pos c35, if_neg (Int.not_lt.mpr c35), if_neg c41, if_neg (show ¬ (0 ≤ v5 ∧ v5 < 12) by omega)]; exact C44) | (exfalso; omega)) F45
      · have c42 : v37 = (-1) := c42
        refine av_wp_sqF ck_41 1 (pc' := 61) (lv' := [some (.inr (.inr (.inl (some (22))))), some (.inl (row : Int)), some (.inl v5)]) (st' := [.inr (.inr (.inl (some (22))))]) (h' := h1) rfl ?_
        refine wq_gr (p' := 64) (ck_41 _ _ rfl) rfl (congrArg Prod.fst (ly_k C2.1 22 rfl)) rfl (ly_g C2.1 22 0 1 rfl) ?_
        refine wq_cv (p' := 67) (av_qc (.invokevirtual 47) 85 0 0 6) 1 cd_85 [] (1) 6 [some (.inr (.inr (.inl (some (1)))))] (ck_41 _ _ rfl) rfl rfl pp_85 rfl rfl rfl (congrArg Prod.fst (ly_k C2.1 1 rfl)) rfl rfl rfl rfl ?_
        refine ct_85 C2 F3 (fun h50 C51 F52 => ?_)
        generalize q54 : fal t = t53 at C51
        have g55 := ct_wf C51
        show av_wp _ cd_41 67 [some (.inr (.inr (.inl (some (22))))), some (.inl (row : Int)), some (.inl v5)] [] h50 _
        refine av_wp_sqF ck_41 2 (pc' := 69) (lv' := [some (.inr (.inr (.inl (some (22))))), some (.inl (row : Int)), some (.inl v5)]) (st' := [.inl (row : Int), .inr (.inr (.inl (some (22))))]) (h' := h50) rfl ?_
        refine wq_cv (p' := 72) (av_qc (.invokevirtual 113) 42 1 0 2) 4 cd_42 [.inl (row : Int)] (22) 2 [some (.inr (.inr (.inl (some (22))))), some (.inl (row : Int)), none, none] (ck_41 _ _ rfl) rfl rfl pp_42 rfl rfl rfl (congrArg Prod.fst (ly_k C51.1 22 rfl)) rfl rfl rfl rfl ?_
        refine ct_42 C51 F52 ((row : Int)) (row) (by omega) (by omega) (fun h56 C57 F58 => ?_)
        obtain ⟨⟨t59, r60⟩, q61⟩ : ∃ x, rsW b lim (row) 900 t53 (av_u1 r (row) (3)) = x := ⟨_, rfl⟩
        rw [q61] at C57
        have C57 : CT b lim t59 r60 d h56 := C57
        have g62 := ct_wf C57
        show av_wp _ cd_41 72 [some (.inr (.inr (.inl (some (22))))), some (.inl (row : Int)), some (.inl v5)] [] h56 _
        refine av_wp_ret (v := none) (ck_41 _ _ rfl) rfl rfl ?_
        exact hq h56 (by first | (simp only [rsB, rsB0, q6, q40, q54, q61, if_pos c8, if_neg (Int.not_lt.mpr c8), if_pos c35, if_neg (Int.not_lt.mpr c35), if_pos c42, if_neg (show ¬ (0 ≤ v5 ∧ v5 < 12) by omega)]; exact C57) | (exfalso; omega)) F58
    · have c36 : v5 < (12) := c36
      refine av_wp_sqF ck_41 1 (pc' := 29) (lv' := [some (.inr (.inr (.inl (some (22))))), some (.inl (row : Int)), some (.inl v5)]) (st' := [.inr (.inr (.inl (some (22))))]) (h' := h1) rfl ?_
      refine wq_gr (p' := 32) (ck_41 _ _ rfl) rfl (congrArg Prod.fst (ly_k C2.1 22 rfl)) rfl (ly_g C2.1 22 1 23 rfl) ?_
      refine av_wp_sqF ck_41 4 (pc' := 36) (lv' := [some (.inr (.inr (.inl (some (22))))), some (.inl (row : Int)), some (.inl v5)]) (st' := [.inr (.inr (.inl (some (22)))), .inl ((row : Int) + (2)), .inr (.inr (.inl (some (23))))]) (h' := h1) rfl ?_
      refine wq_gr (p' := 39) (ck_41 _ _ rfl) rfl (congrArg Prod.fst (ly_k C2.1 22 rfl)) rfl (ly_g C2.1 22 1 23 rfl) ?_
      refine av_wp_sqF ck_41 5 (pc' := 45) (lv' := [some (.inr (.inr (.inl (some (22))))), some (.inl (row : Int)), some (.inl v5)]) (st' := [.inl ((v5 * (21)) + (1)), .inr (.inr (.inl (some (23)))), .inl ((row : Int) + (2)), .inr (.inr (.inl (some (23))))]) (h' := h1) rfl ?_
      obtain ⟨v64, q65⟩ : ∃ v, (av_u1 r (row) (3)) ((Int.toNat v5) * 21 + 1) = v := ⟨_, rfl⟩
      have g63 := ct_rv C2 ((Int.toNat v5) * 21 + 1)
      rw [q65] at g63
      refine wq_al (p' := 46) (n := 252) (ck_41 _ _ rfl) rfl (ly_k C2.1 23 rfl) (by omega) (show hA h1 23 (Int.toNat (((v5 * (21)) + (1)))) = v64 from (congrFun (ct_r C2) _).trans ((congrArg (av_u1 r (row) (3)) (show (Int.toNat (((v5 * (21)) + (1)))) = ((Int.toNat v5) * 21 + 1) by omega)).trans q65)) ?_
      refine ct_as (p' := 47) rfl rfl C2 F3 (row + 2) (by omega) (by omega) (by omega) (fun h66 C67 F68 => ?_)
      refine av_wp_sqF ck_41 1 (pc' := 48) (lv' := [some (.inr (.inr (.inl (some (22))))), some (.inl (row : Int)), some (.inl v5)]) (st' := [.inr (.inr (.inl (some (22))))]) (h' := h66) rfl ?_
      refine wq_gr (p' := 51) (ck_41 _ _ rfl) rfl (congrArg Prod.fst (ly_k C67.1 22 rfl)) rfl (ly_g C67.1 22 0 1 rfl) ?_
      refine av_wp_sqF ck_41 1 (pc' := 53) (lv' := [some (.inr (.inr (.inl (some (22))))), some (.inl (row : Int)), some (.inl v5)]) (st' := [.inr (.inr (.inr 2)), .inr (.inr (.inl (some (1))))]) (h' := h66) rfl ?_
      refine wq_cv (p' := 56) (av_qc (.invokevirtual 99) 86 1 0 6) 7 cd_86 [.inr (.inr (.inr 2))] (1) 6 [some (.inr (.inr (.inl (some (1))))), some (.inr (.inr (.inr 2))), none, none, none, none, none] (ck_41 _ _ rfl) rfl rfl pp_86 rfl rfl rfl (congrArg Prod.fst (ly_k C67.1 1 rfl)) rfl rfl rfl rfl ?_
      refine ct_86 C67 F68 2 (by decide) (fun v69 p70 => ?_)
      have g71 := pkv_le (b := b) (t := t) 2 4 rfl
      have q72 := p70.1.symm
      have p70 := p70.2
      show av_wp _ cd_41 56 [some (.inr (.inr (.inl (some (22))))), some (.inl (row : Int)), some (.inl v5)] [.inl v69] h66 _
      refine av_wp_sqF ck_41 1 (pc' := 57) (lv' := [some (.inr (.inr (.inl (some (22))))), some (.inl (row : Int)), some (.inl v5)]) (st' := [.inl (-1), .inl v69]) (h' := h66) rfl ?_
      refine wq_k2 (p' := 60) (ck_41 _ _ rfl) rfl ⟨by omega, by omega⟩ ⟨by omega, by omega⟩ (fun c73 => ?_) (fun c74 => ?_)
      · have c73 : v69 ≠ (-1) := c73
        refine av_wp_sqF ck_41 2 (pc' := 69) (lv' := [some (.inr (.inr (.inl (some (22))))), some (.inl (row : Int)), some (.inl v5)]) (st' := [.inl (row : Int), .inr (.inr (.inl (some (22))))]) (h' := h66) rfl ?_
        refine wq_cv (p' := 72) (av_qc (.invokevirtual 113) 42 1 0 2) 4 cd_42 [.inl (row : Int)] (22) 2 [some (.inr (.inr (.inl (some (22))))), some (.inl (row : Int)), none, none] (ck_41 _ _ rfl) rfl rfl pp_42 rfl rfl rfl (congrArg Prod.fst (ly_k C67.1 22 rfl)) rfl rfl rfl rfl ?_
        refine ct_42 C67 F68 ((row : Int)) (row) (by omega) (by omega) (fun h75 C76 F77 => ?_)
        obtain ⟨⟨t78, r79⟩, q80⟩ : ∃ x, rsW b lim (row) 900 t (av_u1 (av_u1 r (row) (3)) (row + 2) v64) = x := ⟨_, rfl⟩
        rw [q80] at C76
        have C76 : CT b lim t78 r79 d h75 := C76
        have g81 := ct_wf C76
        show av_wp _ cd_41 72 [some (.inr (.inr (.inl (some (22))))), some (.inl (row : Int)), some (.inl v5)] [] h75 _
        refine av_wp_ret (v := none) (ck_41 _ _ rfl) rfl rfl ?_
        exact hq h75 (by first | (simp only [rsB, rsB0, q6, q65, q72, q80, if_pos c8, if_neg (Int.not_lt.mpr c8), if_pos c36, if_neg (Int.not_le.mpr c36), if_neg c73, if_pos (show 0 ≤ v5 ∧ v5 < 12 by omega)]; exact C76) | (exfalso; omega)) F77
      · have c74 : v69 = (-1) := c74
        refine av_wp_sqF ck_41 1 (pc' := 61) (lv' := [some (.inr (.inr (.inl (some (22))))), some (.inl (row : Int)), some (.inl v5)]) (st' := [.inr (.inr (.inl (some (22))))]) (h' := h66) rfl ?_
        refine wq_gr (p' := 64) (ck_41 _ _ rfl) rfl (congrArg Prod.fst (ly_k C67.1 22 rfl)) rfl (ly_g C67.1 22 0 1 rfl) ?_
        refine wq_cv (p' := 67) (av_qc (.invokevirtual 47) 85 0 0 6) 1 cd_85 [] (1) 6 [some (.inr (.inr (.inl (some (1)))))] (ck_41 _ _ rfl) rfl rfl pp_85 rfl rfl rfl (congrArg Prod.fst (ly_k C67.1 1 rfl)) rfl rfl rfl rfl ?_
        refine ct_85 C67 F68 (fun h82 C83 F84 => ?_)
        generalize q86 : fal t = t85 at C83
        have g87 := ct_wf C83
        show av_wp _ cd_41 67 [some (.inr (.inr (.inl (some (22))))), some (.inl (row : Int)), some (.inl v5)] [] h82 _
        refine av_wp_sqF ck_41 2 (pc' := 69) (lv' := [some (.inr (.inr (.inl (some (22))))), some (.inl (row : Int)), some (.inl v5)]) (st' := [.inl (row : Int), .inr (.inr (.inl (some (22))))]) (h' := h82) rfl ?_
        refine wq_cv (p' := 72) (av_qc (.invokevirtual 113) 42 1 0 2) 4 cd_42 [.inl (row : Int)] (22) 2 [some (.inr (.inr (.inl (some (22))))), some (.inl (row : Int)), none, none] (ck_41 _ _ rfl) rfl rfl pp_42 rfl rfl rfl (congrArg Prod.fst (ly_k C83.1 22 rfl)) rfl rfl rfl rfl ?_
        refine ct_42 C83 F84 ((row : Int)) (row) (by omega) (by omega) (fun h88 C89 F90 => ?_)
        obtain ⟨⟨t91, r92⟩, q93⟩ : ∃ x, rsW b lim (row) 900 t85 (av_u1 (av_u1 r (row) (3)) (row + 2) v64) = x := ⟨_, rfl⟩
        rw [q93] at C89
        have C89 : CT b lim t91 r92 d h88 := C89
        have g94 := ct_wf C89
        show av_wp _ cd_41 72 [some (.inr (.inr (.inl (some (22))))), some (.inl (row : Int)), some (.inl v5)] [] h88 _
        refine av_wp_ret (v := none) (ck_41 _ _ rfl) rfl rfl ?_
        exact hq h88 (by first | (simp only [rsB, rsB0, q6, q65, q72, q86, q93, if_pos c8, if_neg (Int.not_lt.mpr c8), if_pos c36, if_neg (Int.not_le.mpr c36), if_pos c74, if_pos (show 0 ≤ v5 ∧ v5 < 12 by omega)]; exact C89) | (exfalso; omega)) F90

set_option maxRecDepth 100000 in
set_option maxHeartbeats 4000000 in
theorem ct_44 {g h : av_H} {b r d : Nat → Int} {lim : Nat} {t : TT} (C : CT b lim t r d h) (F : FT g h) (x : Int) (row : Nat) (ex : x = (row : Int)) (hrow : row ≤ 231) (y : Int) (i : Nat) (ey : y = (i : Int)) (hi : i ≤ 2) (z : Int) (qz : 0 ≤ z ∧ z ≤ 1999) {Q : Option av_V → av_H → Prop} (hq : ∀ h', CT b lim (rsP b lim row i z t r).1 (rsP b lim row i z t r).2 d h' → FT g h' → Q none h') : av_wp none cd_44 0 [some (.inr (.inr (.inl (some (22))))), some (.inl x), some (.inl y), some (.inl z), none, none] [] h Q := by
  have g0 := ct_wf C
  subst ex
  subst ey
  refine av_wp_sqF ck_44 1 (pc' := 1) (lv' := [some (.inr (.inr (.inl (some (22))))), some (.inl (row : Int)), some (.inl (i : Int)), some (.inl z), none, none]) (st' := [.inr (.inr (.inl (some (22))))]) (h' := h) rfl ?_
  refine wq_gr (p' := 4) (ck_44 _ _ rfl) rfl (congrArg Prod.fst (ly_k C.1 22 rfl)) rfl (ly_g C.1 22 0 1 rfl) ?_
  refine av_wp_sqF ck_44 2 (pc' := 6) (lv' := [some (.inr (.inr (.inl (some (22))))), some (.inl (row : Int)), some (.inl (i : Int)), some (.inl z), none, none]) (st' := [.inl z, .inl (0), .inr (.inr (.inl (some (1))))]) (h' := h) rfl ?_
  refine wq_cv (p' := 9) (av_qc (.invokevirtual 118) 92 2 0 6) 4 cd_92 [.inl z, .inl (0)] (1) 6 [some (.inr (.inr (.inl (some (1))))), some (.inl (0)), some (.inl z), none] (ck_44 _ _ rfl) rfl rfl pp_92 rfl rfl rfl (congrArg Prod.fst (ly_k C.1 1 rfl)) rfl rfl rfl rfl ?_
  refine ct_92 C F ((0)) (z) (by omega) (by omega) (fun v1 h3 p2 C4 F5 => ?_)
  have q6 := p2.1.symm
  have p2 := p2.2
  generalize q8 : nmt b lim t (0) z = t7 at C4
  have g9 := ct_wf C4
  show av_wp _ cd_44 9 [some (.inr (.inr (.inl (some (22))))), some (.inl (row : Int)), some (.inl (i : Int)), some (.inl z), none, none] [.inl v1] h3 _
  refine av_wp_sqF ck_44 2 (pc' := 12) (lv' := [some (.inr (.inr (.inl (some (22))))), some (.inl (row : Int)), some (.inl (i : Int)), some (.inl z), some (.inl v1), none]) (st' := [.inr (.inr (.inl (some (22))))]) (h' := h3) rfl ?_
  refine wq_gr (p' := 15) (ck_44 _ _ rfl) rfl (congrArg Prod.fst (ly_k C4.1 22 rfl)) rfl (ly_g C4.1 22 1 23 rfl) ?_
  refine av_wp_sqF ck_44 6 (pc' := 23) (lv' := [some (.inr (.inr (.inl (some (22))))), some (.inl (row : Int)), some (.inl (i : Int)), some (.inl z), some (.inl v1), none]) (st' := [.inl v1, .inl (((row : Int) + (7)) + (i : Int)), .inr (.inr (.inl (some (23))))]) (h' := h3) rfl ?_
  refine ct_as (p' := 24) rfl rfl C4 F5 (row + 7 + i) (by omega) (by omega) (by omega) (fun h10 C11 F12 => ?_)
  refine av_wp_sqF ck_44 1 (pc' := 25) (lv' := [some (.inr (.inr (.inl (some (22))))), some (.inl (row : Int)), some (.inl (i : Int)), some (.inl z), some (.inl v1), none]) (st' := [.inr (.inr (.inl (some (22))))]) (h' := h10) rfl ?_
  refine wq_gr (p' := 28) (ck_44 _ _ rfl) rfl (congrArg Prod.fst (ly_k C11.1 22 rfl)) rfl (ly_g C11.1 22 0 1 rfl) ?_
  refine av_wp_sqF ck_44 1 (pc' := 30) (lv' := [some (.inr (.inr (.inl (some (22))))), some (.inl (row : Int)), some (.inl (i : Int)), some (.inl z), some (.inl v1), none]) (st' := [.inr (.inr (.inr 8)), .inr (.inr (.inl (some (1))))]) (h' := h10) rfl ?_
  refine wq_cv (p' := 33) (av_qc (.invokevirtual 86) 88 1 0 6) 2 cd_88 [.inr (.inr (.inr 8))] (1) 6 [some (.inr (.inr (.inl (some (1))))), some (.inr (.inr (.inr 8)))] (ck_44 _ _ rfl) rfl rfl pp_88 rfl rfl rfl (congrArg Prod.fst (ly_k C11.1 1 rfl)) rfl rfl rfl rfl ?_
  refine ct_88b C11 F12 8 (by decide) (fun z13 h14 C15 F16 => ?_) (fun z13 => ?_)
  · generalize q18 : adv b lim t7 = t17 at C15
    have g19 := ct_wf C15
    show av_wp _ cd_44 33 [some (.inr (.inr (.inl (some (22))))), some (.inl (row : Int)), some (.inl (i : Int)), some (.inl z), some (.inl v1), none] [.inl (1)] h14 _
    refine av_wp_sqF ck_44 2 (pc' := 37) (lv' := [some (.inr (.inr (.inl (some (22))))), some (.inl (row : Int)), some (.inl (i : Int)), some (.inl z), some (.inl v1), none]) (st' := [.inr (.inr (.inl (some (22))))]) (h' := h14) rfl ?_
    refine wq_gr (p' := 40) (ck_44 _ _ rfl) rfl (congrArg Prod.fst (ly_k C15.1 22 rfl)) rfl (ly_g C15.1 22 0 1 rfl) ?_
    refine av_wp_sqF ck_44 5 (pc' := 48) (lv' := [some (.inr (.inr (.inl (some (22))))), some (.inl (row : Int)), some (.inl (i : Int)), some (.inl z), some (.inl v1), none]) (st' := [.inl (v1 + (15)), .inl z, .inl v1, .inr (.inr (.inl (some (1))))]) (h' := h14) rfl ?_
    refine wq_mne (p' := 51) (ck_44 _ _ rfl) rfl rfl (fun _ _ => rfl) rfl ⟨by omega, by omega⟩ ⟨by omega, by omega⟩ ?_
    have g23 : (mn2 z (v1 + (15))) ≤ z ∧ (mn2 z (v1 + (15))) ≤ (v1 + (15)) ∧ ((mn2 z (v1 + (15))) = z ∨ (mn2 z (v1 + (15))) = (v1 + (15))) := by unfold mn2; split <;> omega
    show av_wp _ cd_44 51 [some (.inr (.inr (.inl (some (22))))), some (.inl (row : Int)), some (.inl (i : Int)), some (.inl z), some (.inl v1), none] [.inl (mn2 z (v1 + (15))), .inl v1, .inr (.inr (.inl (some (1))))] h14 _
    refine wq_cv (p' := 54) (av_qc (.invokevirtual 118) 92 2 0 6) 4 cd_92 [.inl (mn2 z (v1 + (15))), .inl v1] (1) 6 [some (.inr (.inr (.inl (some (1))))), some (.inl v1), some (.inl (mn2 z (v1 + (15)))), none] (ck_44 _ _ rfl) rfl rfl pp_92 rfl rfl rfl (congrArg Prod.fst (ly_k C15.1 1 rfl)) rfl rfl rfl rfl ?_
    refine ct_92 C15 F16 (v1) ((mn2 z (v1 + (15)))) (by omega) (by omega) (fun v24 h26 p25 C27 F28 => ?_)
    have q29 := p25.1.symm
    have p25 := p25.2
    generalize q31 : nmt b lim t17 v1 (mn2 z (v1 + (15))) = t30 at C27
    have g32 := ct_wf C27
    show av_wp _ cd_44 54 [some (.inr (.inr (.inl (some (22))))), some (.inl (row : Int)), some (.inl (i : Int)), some (.inl z), some (.inl v1), none] [.inl v24] h26 _
    refine av_wp_sqF ck_44 2 (pc' := 57) (lv' := [some (.inr (.inr (.inl (some (22))))), some (.inl (row : Int)), some (.inl (i : Int)), some (.inl z), some (.inl v1), some (.inl v24)]) (st' := [.inr (.inr (.inl (some (22))))]) (h' := h26) rfl ?_
    refine wq_gr (p' := 60) (ck_44 _ _ rfl) rfl (congrArg Prod.fst (ly_k C27.1 22 rfl)) rfl (ly_g C27.1 22 1 23 rfl) ?_
    refine av_wp_sqF ck_44 10 (pc' := 73) (lv' := [some (.inr (.inr (.inl (some (22))))), some (.inl (row : Int)), some (.inl (i : Int)), some (.inl z), some (.inl v1), some (.inl v24)]) (st' := [.inl ((v24 - v1) + (1)), .inl (((row : Int) + (15)) + (i : Int)), .inr (.inr (.inl (some (23))))]) (h' := h26) rfl ?_
    refine ct_as (p' := 74) rfl rfl C27 F28 (row + 15 + i) (by omega) (by omega) (by omega) (fun h33 C34 F35 => ?_)
    refine av_wp_ret (v := none) (ck_44 _ _ rfl) rfl rfl ?_
    exact hq h33 (by first | (simp only [rsP, rsP1, q6, q8, q18, q29, q31, if_neg z13]; exact C34) | (exfalso; omega)) F35
  · show av_wp _ cd_44 33 [some (.inr (.inr (.inl (some (22))))), some (.inl (row : Int)), some (.inl (i : Int)), some (.inl z), some (.inl v1), none] [.inl (0)] h10 _
    refine av_wp_sqF ck_44 1 (pc' := 74) (lv' := [some (.inr (.inr (.inl (some (22))))), some (.inl (row : Int)), some (.inl (i : Int)), some (.inl z), some (.inl v1), none]) (st' := []) (h' := h10) rfl ?_
    refine av_wp_ret (v := none) (ck_44 _ _ rfl) rfl rfl ?_
    exact hq h10 (by first | (simp only [rsP, rsP1, q6, q8, if_pos z13]; exact C11) | (exfalso; omega)) F12

set_option maxRecDepth 100000 in
set_option maxHeartbeats 4000000 in
theorem ct_43 {g h : av_H} {b r d : Nat → Int} {lim : Nat} {t : TT} (C : CT b lim t r d h) (F : FT g h) (x : Int) (row : Nat) (ex : x = (row : Int)) (hrow : row ≤ 231) {Q : Option av_V → av_H → Prop} (hq : ∀ h', CT b lim (rsM b lim row t r).1 (rsM b lim row t r).2 d h' → FT g h' → Q none h') : av_wp none cd_43 0 [some (.inr (.inr (.inl (some (22))))), some (.inl x), none] [] h Q := by
  have g0 := ct_wf C
  subst ex
  refine av_wp_sqF ck_43 1 (pc' := 1) (lv' := [some (.inr (.inr (.inl (some (22))))), some (.inl (row : Int)), none]) (st' := [.inr (.inr (.inl (some (22))))]) (h' := h) rfl ?_
  refine wq_gr (p' := 4) (ck_43 _ _ rfl) rfl (congrArg Prod.fst (ly_k C.1 22 rfl)) rfl (ly_g C.1 22 0 1 rfl) ?_
  refine av_wp_sqF ck_43 1 (pc' := 6) (lv' := [some (.inr (.inr (.inl (some (22))))), some (.inl (row : Int)), none]) (st' := [.inr (.inr (.inr 6)), .inr (.inr (.inl (some (1))))]) (h' := h) rfl ?_
  refine wq_cv (p' := 9) (av_qc (.invokevirtual 68) 87 1 0 6) 3 cd_87 [.inr (.inr (.inr 6))] (1) 6 [some (.inr (.inr (.inl (some (1))))), some (.inr (.inr (.inr 6))), none] (ck_43 _ _ rfl) rfl rfl pp_87 rfl rfl rfl (congrArg Prod.fst (ly_k C.1 1 rfl)) rfl rfl rfl rfl ?_
  refine ct_87 C F 6 (by decide) (fun v1 h3 p2 C4 F5 => ?_)
  have g6 := pkv_le (b := b) (t := t) 6 3 rfl
  have q7 := p2.1.symm
  have p2 := p2.2
  generalize q9 : cho b lim t 6 = t8 at C4
  have g10 := ct_wf C4
  show av_wp _ cd_43 9 [some (.inr (.inr (.inl (some (22))))), some (.inl (row : Int)), none] [.inl v1] h3 _
  refine av_wp_sqF ck_43 2 (pc' := 11) (lv' := [some (.inr (.inr (.inl (some (22))))), some (.inl (row : Int)), some (.inl v1)]) (st' := [.inr (.inr (.inl (some (22))))]) (h' := h3) rfl ?_
  refine wq_gr (p' := 14) (ck_43 _ _ rfl) rfl (congrArg Prod.fst (ly_k C4.1 22 rfl)) rfl (ly_g C4.1 22 1 23 rfl) ?_
  refine av_wp_sqF ck_43 4 (pc' := 18) (lv' := [some (.inr (.inr (.inl (some (22))))), some (.inl (row : Int)), some (.inl v1)]) (st' := [.inl v1, .inl ((row : Int) + (4)), .inr (.inr (.inl (some (23))))]) (h' := h3) rfl ?_
  refine ct_as (p' := 19) rfl rfl C4 F5 (row + 4) (by omega) (by omega) (by omega) (fun h11 C12 F13 => ?_)
  refine av_wp_sqF ck_43 1 (pc' := 20) (lv' := [some (.inr (.inr (.inl (some (22))))), some (.inl (row : Int)), some (.inl v1)]) (st' := [.inr (.inr (.inl (some (22))))]) (h' := h11) rfl ?_
  refine wq_gr (p' := 23) (ck_43 _ _ rfl) rfl (congrArg Prod.fst (ly_k C12.1 22 rfl)) rfl (ly_g C12.1 22 0 1 rfl) ?_
  refine av_wp_sqF ck_43 1 (pc' := 25) (lv' := [some (.inr (.inr (.inl (some (22))))), some (.inl (row : Int)), some (.inl v1)]) (st' := [.inr (.inr (.inr 7)), .inr (.inr (.inl (some (1))))]) (h' := h11) rfl ?_
  refine wq_cv (p' := 28) (av_qc (.invokevirtual 129) 89 1 0 6) 2 cd_89 [.inr (.inr (.inr 7))] (1) 6 [some (.inr (.inr (.inl (some (1))))), some (.inr (.inr (.inr 7)))] (ck_43 _ _ rfl) rfl rfl pp_89 rfl rfl rfl (congrArg Prod.fst (ly_k C12.1 1 rfl)) rfl rfl rfl rfl ?_
  refine ct_89 C12 F13 7 (by decide) (fun h14 C15 F16 => ?_)
  generalize q18 : cho b lim t8 7 = t17 at C15
  have g19 := ct_wf C15
  show av_wp _ cd_43 28 [some (.inr (.inr (.inl (some (22))))), some (.inl (row : Int)), some (.inl v1)] [] h14 _
  refine av_wp_sqF ck_43 4 (pc' := 34) (lv' := [some (.inr (.inr (.inl (some (22))))), some (.inl (row : Int)), some (.inl v1)]) (st' := [.inl (1999), .inl (0), .inl (row : Int), .inr (.inr (.inl (some (22))))]) (h' := h14) rfl ?_
  refine wq_cv (p' := 37) (av_qc (.invokevirtual 133) 44 3 0 2) 6 cd_44 [.inl (1999), .inl (0), .inl (row : Int)] (22) 2 [some (.inr (.inr (.inl (some (22))))), some (.inl (row : Int)), some (.inl (0)), some (.inl (1999)), none, none] (ck_43 _ _ rfl) rfl rfl pp_44 rfl rfl rfl (congrArg Prod.fst (ly_k C15.1 22 rfl)) rfl rfl rfl rfl ?_
  refine ct_44 C15 F16 ((row : Int)) (row) (by omega) (by omega) ((0)) 0 (by omega) (by omega) ((1999)) (by omega) (fun h20 C21 F22 => ?_)
  obtain ⟨⟨t23, r24⟩, q25⟩ : ∃ x, rsP b lim (row) 0 (1999) t17 (av_u1 r (row + 4) v1) = x := ⟨_, rfl⟩
  rw [q25] at C21
  have C21 : CT b lim t23 r24 d h20 := C21
  have g26 := ct_wf C21
  show av_wp _ cd_43 37 [some (.inr (.inr (.inl (some (22))))), some (.inl (row : Int)), some (.inl v1)] [] h20 _
  refine av_wp_sqF ck_43 2 (pc' := 39) (lv' := [some (.inr (.inr (.inl (some (22))))), some (.inl (row : Int)), some (.inl v1)]) (st' := [.inl (1), .inl v1]) (h' := h20) rfl ?_
  refine wq_k2 (p' := 42) (ck_43 _ _ rfl) rfl ⟨by omega, by omega⟩ ⟨by omega, by omega⟩ (fun c27 => ?_) (fun c28 => ?_)
  · have c27 : v1 ≤ (1) := c27
    refine av_wp_sqF ck_43 1 (pc' := 44) (lv' := [some (.inr (.inr (.inl (some (22))))), some (.inl (row : Int)), some (.inl v1)]) (st' := [.inr (.inr (.inl (some (22))))]) (h' := h20) rfl ?_
    refine wq_gr (p' := 47) (ck_43 _ _ rfl) rfl (congrArg Prod.fst (ly_k C21.1 22 rfl)) rfl (ly_g C21.1 22 0 1 rfl) ?_
    refine av_wp_sqF ck_43 1 (pc' := 49) (lv' := [some (.inr (.inr (.inl (some (22))))), some (.inl (row : Int)), some (.inl v1)]) (st' := [.inr (.inr (.inr 9)), .inr (.inr (.inl (some (1))))]) (h' := h20) rfl ?_
    refine wq_cv (p' := 52) (av_qc (.invokevirtual 129) 89 1 0 6) 2 cd_89 [.inr (.inr (.inr 9))] (1) 6 [some (.inr (.inr (.inl (some (1))))), some (.inr (.inr (.inr 9)))] (ck_43 _ _ rfl) rfl rfl pp_89 rfl rfl rfl (congrArg Prod.fst (ly_k C21.1 1 rfl)) rfl rfl rfl rfl ?_
    refine ct_89 C21 F22 9 (by decide) (fun h29 C30 F31 => ?_)
    generalize q33 : cho b lim t23 9 = t32 at C30
    have g34 := ct_wf C30
    show av_wp _ cd_43 52 [some (.inr (.inr (.inl (some (22))))), some (.inl (row : Int)), some (.inl v1)] [] h29 _
    refine av_wp_sqF ck_43 4 (pc' := 58) (lv' := [some (.inr (.inr (.inl (some (22))))), some (.inl (row : Int)), some (.inl v1)]) (st' := [.inl (999), .inl (1), .inl (row : Int), .inr (.inr (.inl (some (22))))]) (h' := h29) rfl ?_
    refine wq_cv (p' := 61) (av_qc (.invokevirtual 133) 44 3 0 2) 6 cd_44 [.inl (999), .inl (1), .inl (row : Int)] (22) 2 [some (.inr (.inr (.inl (some (22))))), some (.inl (row : Int)), some (.inl (1)), some (.inl (999)), none, none] (ck_43 _ _ rfl) rfl rfl pp_44 rfl rfl rfl (congrArg Prod.fst (ly_k C30.1 22 rfl)) rfl rfl rfl rfl ?_
    refine ct_44 C30 F31 ((row : Int)) (row) (by omega) (by omega) ((1)) 1 (by omega) (by omega) ((999)) (by omega) (fun h35 C36 F37 => ?_)
    obtain ⟨⟨t38, r39⟩, q40⟩ : ∃ x, rsP b lim (row) 1 (999) t32 r24 = x := ⟨_, rfl⟩
    rw [q40] at C36
    have C36 : CT b lim t38 r39 d h35 := C36
    have g41 := ct_wf C36
    show av_wp _ cd_43 61 [some (.inr (.inr (.inl (some (22))))), some (.inl (row : Int)), some (.inl v1)] [] h35 _
    refine av_wp_sqF ck_43 1 (pc' := 62) (lv' := [some (.inr (.inr (.inl (some (22))))), some (.inl (row : Int)), some (.inl v1)]) (st' := [.inr (.inr (.inl (some (22))))]) (h' := h35) rfl ?_
    refine wq_gr (p' := 65) (ck_43 _ _ rfl) rfl (congrArg Prod.fst (ly_k C36.1 22 rfl)) rfl (ly_g C36.1 22 0 1 rfl) ?_
    refine av_wp_sqF ck_43 1 (pc' := 67) (lv' := [some (.inr (.inr (.inl (some (22))))), some (.inl (row : Int)), some (.inl v1)]) (st' := [.inr (.inr (.inr 10)), .inr (.inr (.inl (some (1))))]) (h' := h35) rfl ?_
    refine wq_cv (p' := 70) (av_qc (.invokevirtual 86) 88 1 0 6) 2 cd_88 [.inr (.inr (.inr 10))] (1) 6 [some (.inr (.inr (.inl (some (1))))), some (.inr (.inr (.inr 10)))] (ck_43 _ _ rfl) rfl rfl pp_88 rfl rfl rfl (congrArg Prod.fst (ly_k C36.1 1 rfl)) rfl rfl rfl rfl ?_
    refine ct_88b C36 F37 10 (by decide) (fun z42 h43 C44 F45 => ?_) (fun z42 => ?_)
    · generalize q47 : adv b lim t38 = t46 at C44
      have g48 := ct_wf C44
      show av_wp _ cd_43 70 [some (.inr (.inr (.inl (some (22))))), some (.inl (row : Int)), some (.inl v1)] [.inl (1)] h43 _
      refine av_wp_sqF ck_43 5 (pc' := 79) (lv' := [some (.inr (.inr (.inl (some (22))))), some (.inl (row : Int)), some (.inl v1)]) (st' := [.inl (999), .inl (2), .inl (row : Int), .inr (.inr (.inl (some (22))))]) (h' := h43) rfl ?_
      refine wq_cv (p' := 82) (av_qc (.invokevirtual 133) 44 3 0 2) 6 cd_44 [.inl (999), .inl (2), .inl (row : Int)] (22) 2 [some (.inr (.inr (.inl (some (22))))), some (.inl (row : Int)), some (.inl (2)), some (.inl (999)), none, none] (ck_43 _ _ rfl) rfl rfl pp_44 rfl rfl rfl (congrArg Prod.fst (ly_k C44.1 22 rfl)) rfl rfl rfl rfl ?_
      refine ct_44 C44 F45 ((row : Int)) (row) (by omega) (by omega) ((2)) 2 (by omega) (by omega) ((999)) (by omega) (fun h49 C50 F51 => ?_)
      obtain ⟨⟨t52, r53⟩, q54⟩ : ∃ x, rsP b lim (row) 2 (999) t46 r39 = x := ⟨_, rfl⟩
      rw [q54] at C50
      have C50 : CT b lim t52 r53 d h49 := C50
      have g55 := ct_wf C50
      show av_wp _ cd_43 82 [some (.inr (.inr (.inl (some (22))))), some (.inl (row : Int)), some (.inl v1)] [] h49 _
      refine av_wp_sqF ck_43 1 (pc' := 83) (lv' := [some (.inr (.inr (.inl (some (22))))), some (.inl (row : Int)), some (.inl v1)]) (st' := [.inr (.inr (.inl (some (22))))]) (h' := h49) rfl ?_
      refine wq_gr (p' := 86) (ck_43 _ _ rfl) rfl (congrArg Prod.fst (ly_k C50.1 22 rfl)) rfl (ly_g C50.1 22 0 1 rfl) ?_
      refine av_wp_sqF ck_43 1 (pc' := 88) (lv' := [some (.inr (.inr (.inl (some (22))))), some (.inl (row : Int)), some (.inl v1)]) (st' := [.inr (.inr (.inr 11)), .inr (.inr (.inl (some (1))))]) (h' := h49) rfl ?_
      refine wq_cv (p' := 91) (av_qc (.invokevirtual 86) 88 1 0 6) 2 cd_88 [.inr (.inr (.inr 11))] (1) 6 [some (.inr (.inr (.inl (some (1))))), some (.inr (.inr (.inr 11)))] (ck_43 _ _ rfl) rfl rfl pp_88 rfl rfl rfl (congrArg Prod.fst (ly_k C50.1 1 rfl)) rfl rfl rfl rfl ?_
      refine ct_88b C50 F51 11 (by decide) (fun z56 h57 C58 F59 => ?_) (fun z56 => ?_)
      · generalize q61 : adv b lim t52 = t60 at C58
        have g62 := ct_wf C58
        show av_wp _ cd_43 91 [some (.inr (.inr (.inl (some (22))))), some (.inl (row : Int)), some (.inl v1)] [.inl (1)] h57 _
        refine av_wp_sqF ck_43 2 (pc' := 95) (lv' := [some (.inr (.inr (.inl (some (22))))), some (.inl (row : Int)), some (.inl v1)]) (st' := [.inr (.inr (.inl (some (22))))]) (h' := h57) rfl ?_
        refine wq_gr (p' := 98) (ck_43 _ _ rfl) rfl (congrArg Prod.fst (ly_k C58.1 22 rfl)) rfl (ly_g C58.1 22 1 23 rfl) ?_
        refine av_wp_sqF ck_43 6 (pc' := 105) (lv' := [some (.inr (.inr (.inl (some (22))))), some (.inl (row : Int)), some (.inl v1)]) (st' := [.inl (2), .inl (((row : Int) + (15)) + (3)), .inr (.inr (.inl (some (23))))]) (h' := h57) rfl ?_
        refine ct_as (p' := 106) rfl rfl C58 F59 (row + 18) (by omega) (by omega) (by omega) (fun h63 C64 F65 => ?_)
        refine av_wp_ret (v := none) (ck_43 _ _ rfl) rfl rfl ?_
        exact hq h63 (by first | (simp only [rsM, rsM0, rsM1, rsM2, rsM3, q7, q9, q18, q25, q33, q40, q47, q54, q61, if_pos c27, if_neg (Int.not_lt.mpr c27), if_neg z42, if_neg z56]; exact C64) | (exfalso; omega)) F65
      · show av_wp _ cd_43 91 [some (.inr (.inr (.inl (some (22))))), some (.inl (row : Int)), some (.inl v1)] [.inl (0)] h49 _
        refine av_wp_sqF ck_43 1 (pc' := 106) (lv' := [some (.inr (.inr (.inl (some (22))))), some (.inl (row : Int)), some (.inl v1)]) (st' := []) (h' := h49) rfl ?_
        refine av_wp_ret (v := none) (ck_43 _ _ rfl) rfl rfl ?_
        exact hq h49 (by first | (simp only [rsM, rsM0, rsM1, rsM2, rsM3, q7, q9, q18, q25, q33, q40, q47, q54, if_pos c27, if_neg (Int.not_lt.mpr c27), if_neg z42, if_pos z56]; exact C50) | (exfalso; omega)) F51
    · show av_wp _ cd_43 70 [some (.inr (.inr (.inl (some (22))))), some (.inl (row : Int)), some (.inl v1)] [.inl (0)] h35 _
      refine av_wp_sqF ck_43 2 (pc' := 83) (lv' := [some (.inr (.inr (.inl (some (22))))), some (.inl (row : Int)), some (.inl v1)]) (st' := [.inr (.inr (.inl (some (22))))]) (h' := h35) rfl ?_
      refine wq_gr (p' := 86) (ck_43 _ _ rfl) rfl (congrArg Prod.fst (ly_k C36.1 22 rfl)) rfl (ly_g C36.1 22 0 1 rfl) ?_
      refine av_wp_sqF ck_43 1 (pc' := 88) (lv' := [some (.inr (.inr (.inl (some (22))))), some (.inl (row : Int)), some (.inl v1)]) (st' := [.inr (.inr (.inr 11)), .inr (.inr (.inl (some (1))))]) (h' := h35) rfl ?_
      refine wq_cv (p' := 91) (av_qc (.invokevirtual 86) 88 1 0 6) 2 cd_88 [.inr (.inr (.inr 11))] (1) 6 [some (.inr (.inr (.inl (some (1))))), some (.inr (.inr (.inr 11)))] (ck_43 _ _ rfl) rfl rfl pp_88 rfl rfl rfl (congrArg Prod.fst (ly_k C36.1 1 rfl)) rfl rfl rfl rfl ?_
      refine ct_88b C36 F37 11 (by decide) (fun z66 h67 C68 F69 => ?_) (fun z66 => ?_)
      · generalize q71 : adv b lim t38 = t70 at C68
        have g72 := ct_wf C68
        show av_wp _ cd_43 91 [some (.inr (.inr (.inl (some (22))))), some (.inl (row : Int)), some (.inl v1)] [.inl (1)] h67 _
        refine av_wp_sqF ck_43 2 (pc' := 95) (lv' := [some (.inr (.inr (.inl (some (22))))), some (.inl (row : Int)), some (.inl v1)]) (st' := [.inr (.inr (.inl (some (22))))]) (h' := h67) rfl ?_
        refine wq_gr (p' := 98) (ck_43 _ _ rfl) rfl (congrArg Prod.fst (ly_k C68.1 22 rfl)) rfl (ly_g C68.1 22 1 23 rfl) ?_
        refine av_wp_sqF ck_43 6 (pc' := 105) (lv' := [some (.inr (.inr (.inl (some (22))))), some (.inl (row : Int)), some (.inl v1)]) (st' := [.inl (2), .inl (((row : Int) + (15)) + (3)), .inr (.inr (.inl (some (23))))]) (h' := h67) rfl ?_
        refine ct_as (p' := 106) rfl rfl C68 F69 (row + 18) (by omega) (by omega) (by omega) (fun h73 C74 F75 => ?_)
        refine av_wp_ret (v := none) (ck_43 _ _ rfl) rfl rfl ?_
        exact hq h73 (by first | (simp only [rsM, rsM0, rsM1, rsM2, rsM3, q7, q9, q18, q25, q33, q40, q71, if_pos c27, if_neg (Int.not_lt.mpr c27), if_pos z42, if_neg z66]; exact C74) | (exfalso; omega)) F75
      · show av_wp _ cd_43 91 [some (.inr (.inr (.inl (some (22))))), some (.inl (row : Int)), some (.inl v1)] [.inl (0)] h35 _
        refine av_wp_sqF ck_43 1 (pc' := 106) (lv' := [some (.inr (.inr (.inl (some (22))))), some (.inl (row : Int)), some (.inl v1)]) (st' := []) (h' := h35) rfl ?_
        refine av_wp_ret (v := none) (ck_43 _ _ rfl) rfl rfl ?_
        exact hq h35 (by first | (simp only [rsM, rsM0, rsM1, rsM2, rsM3, q7, q9, q18, q25, q33, q40, if_pos c27, if_neg (Int.not_lt.mpr c27), if_pos z42, if_pos z66]; exact C36) | (exfalso; omega)) F37
  · have c28 : (1) < v1 := c28
    refine av_wp_ret (v := none) (ck_43 _ _ rfl) rfl rfl ?_
    exact hq h20 (by first | (simp only [rsM, rsM0, rsM1, rsM2, rsM3, q7, q9, q18, q25, if_pos c28, if_neg (Int.not_le.mpr c28)]; exact C21) | (exfalso; omega)) F22
end
