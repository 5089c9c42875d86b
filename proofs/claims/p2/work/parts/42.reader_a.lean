/-! THE CLASS'S READER OF CASES, exactly -/
set_option maxRecDepth 100000 in
set_option maxHeartbeats 4000000 in
theorem ct_37 {g h : av_H} {b r d : Nat → Int} {lim : Nat} {t : TT} (C : CT b lim t r d h) (F : FT g h) (x : Int) (row : Nat) (ex : x = (row : Int)) (hrow : row ≤ 231) {Q : Option av_V → av_H → Prop} (hq : ∀ h', CT b lim (rsO b lim row t r).1 (rsO b lim row t r).2 d h' → FT g h' → Q none h') : av_wp none cd_37 0 [some (.inr (.inr (.inl (some (22))))), some (.inl x)] [] h Q := by
  have g0 := ct_wf C
  subst ex
  refine av_wp_seq 1 (pc' := 1) (lv' := [some (.inr (.inr (.inl (some (22))))), some (.inl (row : Int))]) (st' := [.inr (.inr (.inl (some (22))))]) (h' := h) rfl ?_
  refine wq_gr (p' := 4) rfl rfl (congrArg Prod.fst (ly_k C.1 22 rfl)) rfl (ly_g C.1 22 0 1 rfl) ?_
  refine av_wp_seq 1 (pc' := 6) (lv' := [some (.inr (.inr (.inl (some (22))))), some (.inl (row : Int))]) (st' := [.inr (.inr (.inr 1)), .inr (.inr (.inl (some (1))))]) (h' := h) rfl ?_
  refine wq_cv (p' := 9) (av_qc (.invokevirtual 99) 86 1 0 6) 7 cd_86 [.inr (.inr (.inr 1))] (1) 6 [some (.inr (.inr (.inl (some (1))))), some (.inr (.inr (.inr 1))), none, none, none, none, none] rfl rfl rfl pp_86 rfl rfl rfl (congrArg Prod.fst (ly_k C.1 1 rfl)) rfl rfl rfl rfl ?_
  refine ct_86 C F 1 (by decide) (fun v1 p2 => ?_)
  obtain ⟨rfl, p2⟩ := p2
  have g3 := pkv_le (b := b) (t := t) 1 2 rfl
  show av_wp _ cd_37 9 [some (.inr (.inr (.inl (some (22))))), some (.inl (row : Int))] [.inl (pkv b t 1)] h _
  refine av_wp_seq 1 (pc' := 10) (lv' := [some (.inr (.inr (.inl (some (22))))), some (.inl (row : Int))]) (st' := [.inr (.inr (.inl (some (22)))), .inl (pkv b t 1)]) (h' := h) rfl ?_
  refine wq_gr (p' := 13) rfl rfl (congrArg Prod.fst (ly_k C.1 22 rfl)) rfl (ly_g C.1 22 1 23 rfl) ?_
  refine av_wp_seq 3 (pc' := 16) (lv' := [some (.inr (.inr (.inl (some (22))))), some (.inl (row : Int))]) (st' := [.inl ((row : Int) + (1)), .inr (.inr (.inl (some (23)))), .inl (pkv b t 1)]) (h' := h) rfl ?_
  have g4 := ct_rv C (row + 1)
  refine wq_al (p' := 17) (n := 252) rfl rfl (ly_k C.1 23 rfl) (by omega) (show hA h 23 (Int.toNat (((row : Int) + (1)))) = (r (row + 1)) from (congrFun (ct_r C) _).trans (congrArg r (show (Int.toNat (((row : Int) + (1)))) = (row + 1) by omega))) ?_
  refine wq_k2 (p' := 20) rfl rfl ⟨by omega, by omega⟩ ⟨by omega, by omega⟩ (fun c5 => ?_) (fun c6 => ?_)
  · have c5 : (pkv b t 1) ≠ (r (row + 1)) := c5
    refine av_wp_seq 1 (pc' := 28) (lv' := [some (.inr (.inr (.inl (some (22))))), some (.inl (row : Int))]) (st' := [.inr (.inr (.inl (some (22))))]) (h' := h) rfl ?_
    refine wq_gr (p' := 31) rfl rfl (congrArg Prod.fst (ly_k C.1 22 rfl)) rfl (ly_g C.1 22 1 23 rfl) ?_
    refine av_wp_seq 4 (pc' := 35) (lv' := [some (.inr (.inr (.inl (some (22))))), some (.inl (row : Int))]) (st' := [.inr (.inr (.inl (some (22)))), .inl ((row : Int) + (2)), .inr (.inr (.inl (some (23))))]) (h' := h) rfl ?_
    refine wq_gr (p' := 38) rfl rfl (congrArg Prod.fst (ly_k C.1 22 rfl)) rfl (ly_g C.1 22 0 1 rfl) ?_
    refine av_wp_seq 1 (pc' := 40) (lv' := [some (.inr (.inr (.inl (some (22))))), some (.inl (row : Int))]) (st' := [.inr (.inr (.inr 1)), .inr (.inr (.inl (some (1)))), .inl ((row : Int) + (2)), .inr (.inr (.inl (some (23))))]) (h' := h) rfl ?_
    refine wq_cv (p' := 43) (av_qc (.invokevirtual 68) 87 1 0 6) 3 cd_87 [.inr (.inr (.inr 1))] (1) 6 [some (.inr (.inr (.inl (some (1))))), some (.inr (.inr (.inr 1))), none] rfl rfl rfl pp_87 rfl rfl rfl (congrArg Prod.fst (ly_k C.1 1 rfl)) rfl rfl rfl rfl ?_
    refine ct_87 C F 1 (by decide) (fun v7 h9 p8 C10 F11 => ?_)
    obtain ⟨rfl, p8⟩ := p8
    have g12 := pkv_le (b := b) (t := t) 1 2 rfl
    have g13 := ct_wf C10
    show av_wp _ cd_37 43 [some (.inr (.inr (.inl (some (22))))), some (.inl (row : Int))] [.inl (pkv b t 1), .inl ((row : Int) + (2)), .inr (.inr (.inl (some (23))))] h9 _
    refine ct_as (p' := 44) rfl rfl C10 F11 (row + 2) (by omega) (by omega) (by omega) (fun h14 C15 F16 => ?_)
    refine av_wp_ret (v := none) rfl rfl rfl ?_
    exact hq h14 (by unfold rsO; (repeat' split) <;> first | assumption | (exfalso; omega)) F16
  · have c6 : (pkv b t 1) = (r (row + 1)) := c6
    refine av_wp_seq 1 (pc' := 21) (lv' := [some (.inr (.inr (.inl (some (22))))), some (.inl (row : Int))]) (st' := [.inr (.inr (.inl (some (22))))]) (h' := h) rfl ?_
    refine wq_gr (p' := 24) rfl rfl (congrArg Prod.fst (ly_k C.1 22 rfl)) rfl (ly_g C.1 22 0 1 rfl) ?_
    refine wq_cv (p' := 27) (av_qc (.invokevirtual 47) 85 0 0 6) 1 cd_85 [] (1) 6 [some (.inr (.inr (.inl (some (1)))))] rfl rfl rfl pp_85 rfl rfl rfl (congrArg Prod.fst (ly_k C.1 1 rfl)) rfl rfl rfl rfl ?_
    refine ct_85 C F (fun h17 C18 F19 => ?_)
    have g20 := ct_wf C18
    show av_wp _ cd_37 27 [some (.inr (.inr (.inl (some (22))))), some (.inl (row : Int))] [] h17 _
    refine av_wp_seq 1 (pc' := 28) (lv' := [some (.inr (.inr (.inl (some (22))))), some (.inl (row : Int))]) (st' := [.inr (.inr (.inl (some (22))))]) (h' := h17) rfl ?_
    refine wq_gr (p' := 31) rfl rfl (congrArg Prod.fst (ly_k C18.1 22 rfl)) rfl (ly_g C18.1 22 1 23 rfl) ?_
    refine av_wp_seq 4 (pc' := 35) (lv' := [some (.inr (.inr (.inl (some (22))))), some (.inl (row : Int))]) (st' := [.inr (.inr (.inl (some (22)))), .inl ((row : Int) + (2)), .inr (.inr (.inl (some (23))))]) (h' := h17) rfl ?_
    refine wq_gr (p' := 38) rfl rfl (congrArg Prod.fst (ly_k C18.1 22 rfl)) rfl (ly_g C18.1 22 0 1 rfl) ?_
    refine av_wp_seq 1 (pc' := 40) (lv' := [some (.inr (.inr (.inl (some (22))))), some (.inl (row : Int))]) (st' := [.inr (.inr (.inr 1)), .inr (.inr (.inl (some (1)))), .inl ((row : Int) + (2)), .inr (.inr (.inl (some (23))))]) (h' := h17) rfl ?_
    refine wq_cv (p' := 43) (av_qc (.invokevirtual 68) 87 1 0 6) 3 cd_87 [.inr (.inr (.inr 1))] (1) 6 [some (.inr (.inr (.inl (some (1))))), some (.inr (.inr (.inr 1))), none] rfl rfl rfl pp_87 rfl rfl rfl (congrArg Prod.fst (ly_k C18.1 1 rfl)) rfl rfl rfl rfl ?_
    refine ct_87 C18 F19 1 (by decide) (fun v21 h23 p22 C24 F25 => ?_)
    obtain ⟨rfl, p22⟩ := p22
    have g26 := pkv_le (b := b) (t := (fal t)) 1 2 rfl
    have g27 := ct_wf C24
    show av_wp _ cd_37 43 [some (.inr (.inr (.inl (some (22))))), some (.inl (row : Int))] [.inl (pkv b (fal t) 1), .inl ((row : Int) + (2)), .inr (.inr (.inl (some (23))))] h23 _
    refine ct_as (p' := 44) rfl rfl C24 F25 (row + 2) (by omega) (by omega) (by omega) (fun h28 C29 F30 => ?_)
    refine av_wp_ret (v := none) rfl rfl rfl ?_
    exact hq h28 (by unfold rsO; (repeat' split) <;> first | assumption | (exfalso; omega)) F30

set_option maxRecDepth 100000 in
set_option maxHeartbeats 4000000 in
theorem ct_39 {g h : av_H} {b r d : Nat → Int} {lim : Nat} {t : TT} (C : CT b lim t r d h) (F : FT g h) (y z x : Int) (qy : -2147483648 ≤ y ∧ y ≤ 2147483647) (qz : -2147483648 ≤ z ∧ z ≤ 2147483647) (row : Nat) (ex : x = (row : Int)) (hrow : row ≤ 231) {Q : Option av_V → av_H → Prop} (hq1 : fts r y z row → Q (some (.inl 1)) h) (hq0 : ¬ fts r y z row → Q (some (.inl 0)) h) : av_wp none cd_39 0 [some (.inr (.inr (.inl (some (22))))), some (.inl y), some (.inl z), some (.inl x), none, none] [] h Q := by
  have g0 := ct_wf C
  subst ex
  refine av_wp_seq 1 (pc' := 1) (lv' := [some (.inr (.inr (.inl (some (22))))), some (.inl y), some (.inl z), some (.inl (row : Int)), none, none]) (st' := [.inr (.inr (.inl (some (22))))]) (h' := h) rfl ?_
  refine wq_gr (p' := 4) rfl rfl (congrArg Prod.fst (ly_k C.1 22 rfl)) rfl (ly_g C.1 22 1 23 rfl) ?_
  refine av_wp_seq 3 (pc' := 7) (lv' := [some (.inr (.inr (.inl (some (22))))), some (.inl y), some (.inl z), some (.inl (row : Int)), none, none]) (st' := [.inl ((row : Int) + (0)), .inr (.inr (.inl (some (23))))]) (h' := h) rfl ?_
  have g1 := ct_rv C (row)
  refine wq_al (p' := 8) (n := 252) rfl rfl (ly_k C.1 23 rfl) (by omega) (show hA h 23 (Int.toNat (((row : Int) + (0)))) = (r (row)) from (congrFun (ct_r C) _).trans (congrArg r (show (Int.toNat (((row : Int) + (0)))) = (row) by omega))) ?_
  refine av_wp_seq 2 (pc' := 12) (lv' := [some (.inr (.inr (.inl (some (22))))), some (.inl y), some (.inl z), some (.inl (row : Int)), some (.inl (r (row))), none]) (st' := [.inl (r (row))]) (h' := h) rfl ?_
  refine wq_k1 (p' := 15) rfl rfl ⟨by omega, by omega⟩ (fun c2 => ?_) (fun c3 => ?_)
  · have c2 : (r (row)) = (0) := c2
    refine av_wp_seq 5 (pc' := 30) (lv' := [some (.inr (.inr (.inl (some (22))))), some (.inl y), some (.inl z), some (.inl (row : Int)), some (.inl (r (row))), some (.inl (1))]) (st' := [.inl (5), .inl y]) (h' := h) rfl ?_
    refine wq_k2 (p' := 33) rfl rfl ⟨by omega, by omega⟩ ⟨by omega, by omega⟩ (fun c4 => ?_) (fun c5 => ?_)
    · have c4 : y ≠ (5) := c4
      refine av_wp_seq 3 (pc' := 68) (lv' := [some (.inr (.inr (.inl (some (22))))), some (.inl y), some (.inl z), some (.inl (row : Int)), some (.inl (r (row))), some (.inl (1))]) (st' := [.inr (.inr (.inl (some (22))))]) (h' := h) rfl ?_
      refine wq_gr (p' := 71) rfl rfl (congrArg Prod.fst (ly_k C.1 22 rfl)) rfl (ly_g C.1 22 1 23 rfl) ?_
      refine av_wp_seq 3 (pc' := 75) (lv' := [some (.inr (.inr (.inl (some (22))))), some (.inl y), some (.inl z), some (.inl (row : Int)), some (.inl (r (row))), some (.inl (1))]) (st' := [.inl (7), .inl y, .inl (row : Int), .inr (.inr (.inl (some (23))))]) (h' := h) rfl ?_
      refine wq_k2 (p' := 78) rfl rfl ⟨by omega, by omega⟩ ⟨by omega, by omega⟩ (fun c6 => ?_) (fun c7 => ?_)
      · have c6 : y ≠ (7) := c6
        refine av_wp_seq 2 (pc' := 84) (lv' := [some (.inr (.inr (.inl (some (22))))), some (.inl y), some (.inl z), some (.inl (row : Int)), some (.inl (r (row))), some (.inl (1))]) (st' := [.inl ((row : Int) + (2)), .inr (.inr (.inl (some (23))))]) (h' := h) rfl ?_
        have g8 := ct_rv C (row + 2)
        refine wq_al (p' := 85) (n := 252) rfl rfl (ly_k C.1 23 rfl) (by omega) (show hA h 23 (Int.toNat (((row : Int) + (2)))) = (r (row + 2)) from (congrFun (ct_r C) _).trans (congrArg r (show (Int.toNat (((row : Int) + (2)))) = (row + 2) by omega))) ?_
        refine av_wp_seq 1 (pc' := 86) (lv' := [some (.inr (.inr (.inl (some (22))))), some (.inl y), some (.inl z), some (.inl (row : Int)), some (.inl (r (row))), some (.inl (1))]) (st' := [.inl z, .inl (r (row + 2))]) (h' := h) rfl ?_
        refine wq_k2 (p' := 89) rfl rfl ⟨by omega, by omega⟩ ⟨by omega, by omega⟩ (fun c9 => ?_) (fun c10 => ?_)
        · have c9 : (r (row + 2)) ≠ z := c9
          refine av_wp_seq 1 (pc' := 94) (lv' := [some (.inr (.inr (.inl (some (22))))), some (.inl y), some (.inl z), some (.inl (row : Int)), some (.inl (r (row))), some (.inl (1))]) (st' := [.inl (0)]) (h' := h) rfl ?_
          refine av_wp_ret (v := some (.inl (0))) rfl rfl rfl ?_
          exact hq0 (fun z => by unfold fts at z; omega)
        · have c10 : (r (row + 2)) = z := c10
          refine av_wp_seq 2 (pc' := 94) (lv' := [some (.inr (.inr (.inl (some (22))))), some (.inl y), some (.inl z), some (.inl (row : Int)), some (.inl (r (row))), some (.inl (1))]) (st' := [.inl (1)]) (h' := h) rfl ?_
          refine av_wp_ret (v := some (.inl (1))) rfl rfl rfl ?_
          exact hq1 (by unfold fts; omega)
      · have c7 : y = (7) := c7
        refine av_wp_seq 3 (pc' := 84) (lv' := [some (.inr (.inr (.inl (some (22))))), some (.inl y), some (.inl z), some (.inl (row : Int)), some (.inl (r (row))), some (.inl (1))]) (st' := [.inl ((row : Int) + (1)), .inr (.inr (.inl (some (23))))]) (h' := h) rfl ?_
        have g11 := ct_rv C (row + 1)
        refine wq_al (p' := 85) (n := 252) rfl rfl (ly_k C.1 23 rfl) (by omega) (show hA h 23 (Int.toNat (((row : Int) + (1)))) = (r (row + 1)) from (congrFun (ct_r C) _).trans (congrArg r (show (Int.toNat (((row : Int) + (1)))) = (row + 1) by omega))) ?_
        refine av_wp_seq 1 (pc' := 86) (lv' := [some (.inr (.inr (.inl (some (22))))), some (.inl y), some (.inl z), some (.inl (row : Int)), some (.inl (r (row))), some (.inl (1))]) (st' := [.inl z, .inl (r (row + 1))]) (h' := h) rfl ?_
        refine wq_k2 (p' := 89) rfl rfl ⟨by omega, by omega⟩ ⟨by omega, by omega⟩ (fun c12 => ?_) (fun c13 => ?_)
        · have c12 : (r (row + 1)) ≠ z := c12
          refine av_wp_seq 1 (pc' := 94) (lv' := [some (.inr (.inr (.inl (some (22))))), some (.inl y), some (.inl z), some (.inl (row : Int)), some (.inl (r (row))), some (.inl (1))]) (st' := [.inl (0)]) (h' := h) rfl ?_
          refine av_wp_ret (v := some (.inl (0))) rfl rfl rfl ?_
          exact hq0 (fun z => by unfold fts at z; omega)
        · have c13 : (r (row + 1)) = z := c13
          refine av_wp_seq 2 (pc' := 94) (lv' := [some (.inr (.inr (.inl (some (22))))), some (.inl y), some (.inl z), some (.inl (row : Int)), some (.inl (r (row))), some (.inl (1))]) (st' := [.inl (1)]) (h' := h) rfl ?_
          refine av_wp_ret (v := some (.inl (1))) rfl rfl rfl ?_
          exact hq1 (by unfold fts; omega)
    · have c5 : y = (5) := c5
      refine av_wp_seq 3 (pc' := 45) (lv' := [some (.inr (.inr (.inl (some (22))))), some (.inl y), some (.inl z), some (.inl (row : Int)), some (.inl (r (row))), some (.inl (1))]) (st' := [.inr (.inr (.inl (some (22))))]) (h' := h) rfl ?_
      refine wq_gr (p' := 48) rfl rfl (congrArg Prod.fst (ly_k C.1 22 rfl)) rfl (ly_g C.1 22 1 23 rfl) ?_
      refine av_wp_seq 3 (pc' := 51) (lv' := [some (.inr (.inr (.inl (some (22))))), some (.inl y), some (.inl z), some (.inl (row : Int)), some (.inl (r (row))), some (.inl (1))]) (st' := [.inl ((row : Int) + (1)), .inr (.inr (.inl (some (23))))]) (h' := h) rfl ?_
      have g14 := ct_rv C (row + 1)
      refine wq_al (p' := 52) (n := 252) rfl rfl (ly_k C.1 23 rfl) (by omega) (show hA h 23 (Int.toNat (((row : Int) + (1)))) = (r (row + 1)) from (congrFun (ct_r C) _).trans (congrArg r (show (Int.toNat (((row : Int) + (1)))) = (row + 1) by omega))) ?_
      refine av_wp_seq 1 (pc' := 53) (lv' := [some (.inr (.inr (.inl (some (22))))), some (.inl y), some (.inl z), some (.inl (row : Int)), some (.inl (r (row))), some (.inl (1))]) (st' := [.inl z, .inl (r (row + 1))]) (h' := h) rfl ?_
      refine wq_k2 (p' := 56) rfl rfl ⟨by omega, by omega⟩ ⟨by omega, by omega⟩ (fun c15 => ?_) (fun c16 => ?_)
      · have c15 : (r (row + 1)) ≠ z := c15
        refine av_wp_seq 1 (pc' := 61) (lv' := [some (.inr (.inr (.inl (some (22))))), some (.inl y), some (.inl z), some (.inl (row : Int)), some (.inl (r (row))), some (.inl (1))]) (st' := [.inl (0)]) (h' := h) rfl ?_
        refine av_wp_ret (v := some (.inl (0))) rfl rfl rfl ?_
        exact hq0 (fun z => by unfold fts at z; omega)
      · have c16 : (r (row + 1)) = z := c16
        refine av_wp_seq 2 (pc' := 61) (lv' := [some (.inr (.inr (.inl (some (22))))), some (.inl y), some (.inl z), some (.inl (row : Int)), some (.inl (r (row))), some (.inl (1))]) (st' := [.inl (1)]) (h' := h) rfl ?_
        refine av_wp_ret (v := some (.inl (1))) rfl rfl rfl ?_
        exact hq1 (by unfold fts; omega)
  · have c3 : (r (row)) ≠ (0) := c3
    refine av_wp_seq 2 (pc' := 18) (lv' := [some (.inr (.inr (.inl (some (22))))), some (.inl y), some (.inl z), some (.inl (row : Int)), some (.inl (r (row))), none]) (st' := [.inl (3), .inl (r (row))]) (h' := h) rfl ?_
    refine wq_k2 (p' := 21) rfl rfl ⟨by omega, by omega⟩ ⟨by omega, by omega⟩ (fun c17 => ?_) (fun c18 => ?_)
    · have c17 : (r (row)) ≠ (3) := c17
      refine av_wp_seq 4 (pc' := 30) (lv' := [some (.inr (.inr (.inl (some (22))))), some (.inl y), some (.inl z), some (.inl (row : Int)), some (.inl (r (row))), some (.inl (0))]) (st' := [.inl (5), .inl y]) (h' := h) rfl ?_
      refine wq_k2 (p' := 33) rfl rfl ⟨by omega, by omega⟩ ⟨by omega, by omega⟩ (fun c19 => ?_) (fun c20 => ?_)
      · have c19 : y ≠ (5) := c19
        refine av_wp_seq 3 (pc' := 94) (lv' := [some (.inr (.inr (.inl (some (22))))), some (.inl y), some (.inl z), some (.inl (row : Int)), some (.inl (r (row))), some (.inl (0))]) (st' := [.inl (0)]) (h' := h) rfl ?_
        refine av_wp_ret (v := some (.inl (0))) rfl rfl rfl ?_
        exact hq0 (fun z => by unfold fts at z; omega)
      · have c20 : y = (5) := c20
        refine av_wp_seq 4 (pc' := 41) (lv' := [some (.inr (.inr (.inl (some (22))))), some (.inl y), some (.inl z), some (.inl (row : Int)), some (.inl (r (row))), some (.inl (0))]) (st' := [.inl (2), .inl (r (row))]) (h' := h) rfl ?_
        refine wq_k2 (p' := 44) rfl rfl ⟨by omega, by omega⟩ ⟨by omega, by omega⟩ (fun c21 => ?_) (fun c22 => ?_)
        · have c21 : (r (row)) ≠ (2) := c21
          refine av_wp_seq 1 (pc' := 61) (lv' := [some (.inr (.inr (.inl (some (22))))), some (.inl y), some (.inl z), some (.inl (row : Int)), some (.inl (r (row))), some (.inl (0))]) (st' := [.inl (0)]) (h' := h) rfl ?_
          refine av_wp_ret (v := some (.inl (0))) rfl rfl rfl ?_
          exact hq0 (fun z => by unfold fts at z; omega)
        · have c22 : (r (row)) = (2) := c22
          refine av_wp_seq 1 (pc' := 45) (lv' := [some (.inr (.inr (.inl (some (22))))), some (.inl y), some (.inl z), some (.inl (row : Int)), some (.inl (r (row))), some (.inl (0))]) (st' := [.inr (.inr (.inl (some (22))))]) (h' := h) rfl ?_
          refine wq_gr (p' := 48) rfl rfl (congrArg Prod.fst (ly_k C.1 22 rfl)) rfl (ly_g C.1 22 1 23 rfl) ?_
          refine av_wp_seq 3 (pc' := 51) (lv' := [some (.inr (.inr (.inl (some (22))))), some (.inl y), some (.inl z), some (.inl (row : Int)), some (.inl (r (row))), some (.inl (0))]) (st' := [.inl ((row : Int) + (1)), .inr (.inr (.inl (some (23))))]) (h' := h) rfl ?_
          have g23 := ct_rv C (row + 1)
          refine wq_al (p' := 52) (n := 252) rfl rfl (ly_k C.1 23 rfl) (by omega) (show hA h 23 (Int.toNat (((row : Int) + (1)))) = (r (row + 1)) from (congrFun (ct_r C) _).trans (congrArg r (show (Int.toNat (((row : Int) + (1)))) = (row + 1) by omega))) ?_
          refine av_wp_seq 1 (pc' := 53) (lv' := [some (.inr (.inr (.inl (some (22))))), some (.inl y), some (.inl z), some (.inl (row : Int)), some (.inl (r (row))), some (.inl (0))]) (st' := [.inl z, .inl (r (row + 1))]) (h' := h) rfl ?_
          refine wq_k2 (p' := 56) rfl rfl ⟨by omega, by omega⟩ ⟨by omega, by omega⟩ (fun c24 => ?_) (fun c25 => ?_)
          · have c24 : (r (row + 1)) ≠ z := c24
            refine av_wp_seq 1 (pc' := 61) (lv' := [some (.inr (.inr (.inl (some (22))))), some (.inl y), some (.inl z), some (.inl (row : Int)), some (.inl (r (row))), some (.inl (0))]) (st' := [.inl (0)]) (h' := h) rfl ?_
            refine av_wp_ret (v := some (.inl (0))) rfl rfl rfl ?_
            exact hq0 (fun z => by unfold fts at z; omega)
          · have c25 : (r (row + 1)) = z := c25
            refine av_wp_seq 2 (pc' := 61) (lv' := [some (.inr (.inr (.inl (some (22))))), some (.inl y), some (.inl z), some (.inl (row : Int)), some (.inl (r (row))), some (.inl (0))]) (st' := [.inl (1)]) (h' := h) rfl ?_
            refine av_wp_ret (v := some (.inl (1))) rfl rfl rfl ?_
            exact hq1 (by unfold fts; omega)
    · have c18 : (r (row)) = (3) := c18
      refine av_wp_seq 5 (pc' := 30) (lv' := [some (.inr (.inr (.inl (some (22))))), some (.inl y), some (.inl z), some (.inl (row : Int)), some (.inl (r (row))), some (.inl (1))]) (st' := [.inl (5), .inl y]) (h' := h) rfl ?_
      refine wq_k2 (p' := 33) rfl rfl ⟨by omega, by omega⟩ ⟨by omega, by omega⟩ (fun c26 => ?_) (fun c27 => ?_)
      · have c26 : y ≠ (5) := c26
        refine av_wp_seq 3 (pc' := 68) (lv' := [some (.inr (.inr (.inl (some (22))))), some (.inl y), some (.inl z), some (.inl (row : Int)), some (.inl (r (row))), some (.inl (1))]) (st' := [.inr (.inr (.inl (some (22))))]) (h' := h) rfl ?_
        refine wq_gr (p' := 71) rfl rfl (congrArg Prod.fst (ly_k C.1 22 rfl)) rfl (ly_g C.1 22 1 23 rfl) ?_
        refine av_wp_seq 3 (pc' := 75) (lv' := [some (.inr (.inr (.inl (some (22))))), some (.inl y), some (.inl z), some (.inl (row : Int)), some (.inl (r (row))), some (.inl (1))]) (st' := [.inl (7), .inl y, .inl (row : Int), .inr (.inr (.inl (some (23))))]) (h' := h) rfl ?_
        refine wq_k2 (p' := 78) rfl rfl ⟨by omega, by omega⟩ ⟨by omega, by omega⟩ (fun c28 => ?_) (fun c29 => ?_)
        · have c28 : y ≠ (7) := c28
          refine av_wp_seq 2 (pc' := 84) (lv' := [some (.inr (.inr (.inl (some (22))))), some (.inl y), some (.inl z), some (.inl (row : Int)), some (.inl (r (row))), some (.inl (1))]) (st' := [.inl ((row : Int) + (2)), .inr (.inr (.inl (some (23))))]) (h' := h) rfl ?_
          have g30 := ct_rv C (row + 2)
          refine wq_al (p' := 85) (n := 252) rfl rfl (ly_k C.1 23 rfl) (by omega) (show hA h 23 (Int.toNat (((row : Int) + (2)))) = (r (row + 2)) from (congrFun (ct_r C) _).trans (congrArg r (show (Int.toNat (((row : Int) + (2)))) = (row + 2) by omega))) ?_
          refine av_wp_seq 1 (pc' := 86) (lv' := [some (.inr (.inr (.inl (some (22))))), some (.inl y), some (.inl z), some (.inl (row : Int)), some (.inl (r (row))), some (.inl (1))]) (st' := [.inl z, .inl (r (row + 2))]) (h' := h) rfl ?_
          refine wq_k2 (p' := 89) rfl rfl ⟨by omega, by omega⟩ ⟨by omega, by omega⟩ (fun c31 => ?_) (fun c32 => ?_)
          · have c31 : (r (row + 2)) ≠ z := c31
            refine av_wp_seq 1 (pc' := 94) (lv' := [some (.inr (.inr (.inl (some (22))))), some (.inl y), some (.inl z), some (.inl (row : Int)), some (.inl (r (row))), some (.inl (1))]) (st' := [.inl (0)]) (h' := h) rfl ?_
            refine av_wp_ret (v := some (.inl (0))) rfl rfl rfl ?_
            exact hq0 (fun z => by unfold fts at z; omega)
          · have c32 : (r (row + 2)) = z := c32
            refine av_wp_seq 2 (pc' := 94) (lv' := [some (.inr (.inr (.inl (some (22))))), some (.inl y), some (.inl z), some (.inl (row : Int)), some (.inl (r (row))), some (.inl (1))]) (st' := [.inl (1)]) (h' := h) rfl ?_
            refine av_wp_ret (v := some (.inl (1))) rfl rfl rfl ?_
            exact hq1 (by unfold fts; omega)
        · have c29 : y = (7) := c29
          refine av_wp_seq 3 (pc' := 84) (lv' := [some (.inr (.inr (.inl (some (22))))), some (.inl y), some (.inl z), some (.inl (row : Int)), some (.inl (r (row))), some (.inl (1))]) (st' := [.inl ((row : Int) + (1)), .inr (.inr (.inl (some (23))))]) (h' := h) rfl ?_
          have g33 := ct_rv C (row + 1)
          refine wq_al (p' := 85) (n := 252) rfl rfl (ly_k C.1 23 rfl) (by omega) (show hA h 23 (Int.toNat (((row : Int) + (1)))) = (r (row + 1)) from (congrFun (ct_r C) _).trans (congrArg r (show (Int.toNat (((row : Int) + (1)))) = (row + 1) by omega))) ?_
          refine av_wp_seq 1 (pc' := 86) (lv' := [some (.inr (.inr (.inl (some (22))))), some (.inl y), some (.inl z), some (.inl (row : Int)), some (.inl (r (row))), some (.inl (1))]) (st' := [.inl z, .inl (r (row + 1))]) (h' := h) rfl ?_
          refine wq_k2 (p' := 89) rfl rfl ⟨by omega, by omega⟩ ⟨by omega, by omega⟩ (fun c34 => ?_) (fun c35 => ?_)
          · have c34 : (r (row + 1)) ≠ z := c34
            refine av_wp_seq 1 (pc' := 94) (lv' := [some (.inr (.inr (.inl (some (22))))), some (.inl y), some (.inl z), some (.inl (row : Int)), some (.inl (r (row))), some (.inl (1))]) (st' := [.inl (0)]) (h' := h) rfl ?_
            refine av_wp_ret (v := some (.inl (0))) rfl rfl rfl ?_
            exact hq0 (fun z => by unfold fts at z; omega)
          · have c35 : (r (row + 1)) = z := c35
            refine av_wp_seq 2 (pc' := 94) (lv' := [some (.inr (.inr (.inl (some (22))))), some (.inl y), some (.inl z), some (.inl (row : Int)), some (.inl (r (row))), some (.inl (1))]) (st' := [.inl (1)]) (h' := h) rfl ?_
            refine av_wp_ret (v := some (.inl (1))) rfl rfl rfl ?_
            exact hq1 (by unfold fts; omega)
      · have c27 : y = (5) := c27
        refine av_wp_seq 3 (pc' := 45) (lv' := [some (.inr (.inr (.inl (some (22))))), some (.inl y), some (.inl z), some (.inl (row : Int)), some (.inl (r (row))), some (.inl (1))]) (st' := [.inr (.inr (.inl (some (22))))]) (h' := h) rfl ?_
        refine wq_gr (p' := 48) rfl rfl (congrArg Prod.fst (ly_k C.1 22 rfl)) rfl (ly_g C.1 22 1 23 rfl) ?_
        refine av_wp_seq 3 (pc' := 51) (lv' := [some (.inr (.inr (.inl (some (22))))), some (.inl y), some (.inl z), some (.inl (row : Int)), some (.inl (r (row))), some (.inl (1))]) (st' := [.inl ((row : Int) + (1)), .inr (.inr (.inl (some (23))))]) (h' := h) rfl ?_
        have g36 := ct_rv C (row + 1)
        refine wq_al (p' := 52) (n := 252) rfl rfl (ly_k C.1 23 rfl) (by omega) (show hA h 23 (Int.toNat (((row : Int) + (1)))) = (r (row + 1)) from (congrFun (ct_r C) _).trans (congrArg r (show (Int.toNat (((row : Int) + (1)))) = (row + 1) by omega))) ?_
        refine av_wp_seq 1 (pc' := 53) (lv' := [some (.inr (.inr (.inl (some (22))))), some (.inl y), some (.inl z), some (.inl (row : Int)), some (.inl (r (row))), some (.inl (1))]) (st' := [.inl z, .inl (r (row + 1))]) (h' := h) rfl ?_
        refine wq_k2 (p' := 56) rfl rfl ⟨by omega, by omega⟩ ⟨by omega, by omega⟩ (fun c37 => ?_) (fun c38 => ?_)
        · have c37 : (r (row + 1)) ≠ z := c37
          refine av_wp_seq 1 (pc' := 61) (lv' := [some (.inr (.inr (.inl (some (22))))), some (.inl y), some (.inl z), some (.inl (row : Int)), some (.inl (r (row))), some (.inl (1))]) (st' := [.inl (0)]) (h' := h) rfl ?_
          refine av_wp_ret (v := some (.inl (0))) rfl rfl rfl ?_
          exact hq0 (fun z => by unfold fts at z; omega)
        · have c38 : (r (row + 1)) = z := c38
          refine av_wp_seq 2 (pc' := 61) (lv' := [some (.inr (.inr (.inl (some (22))))), some (.inl y), some (.inl z), some (.inl (row : Int)), some (.inl (r (row))), some (.inl (1))]) (st' := [.inl (1)]) (h' := h) rfl ?_
          refine av_wp_ret (v := some (.inl (1))) rfl rfl rfl ?_
          exact hq1 (by unfold fts; omega)

set_option maxRecDepth 100000 in
set_option maxHeartbeats 4000000 in
theorem ct_38 {g h : av_H} {b r d : Nat → Int} {lim : Nat} {t : TT} (C : CT b lim t r d h) (F : FT g h) (x : Int) (k : Nat) (ex : x = (k : Int)) (hk : k ≤ 11) (y : Int) (qy : -2147483648 ≤ y ∧ y ≤ 2147483647) {Q : Option av_V → av_H → Prop} (hq : ∀ h', CT b lim (rsS b lim k y t r).1 (rsS b lim k y t r).2 d h' → FT g h' → Q none h') : av_wp none cd_38 0 [some (.inr (.inr (.inl (some (22))))), some (.inl x), some (.inl y), none] [] h Q := by
  have g0 := ct_wf C
  subst ex
  refine av_wp_seq 1 (pc' := 1) (lv' := [some (.inr (.inr (.inl (some (22))))), some (.inl (k : Int)), some (.inl y), none]) (st' := [.inr (.inr (.inl (some (22))))]) (h' := h) rfl ?_
  refine wq_gr (p' := 4) rfl rfl (congrArg Prod.fst (ly_k C.1 22 rfl)) rfl (ly_g C.1 22 0 1 rfl) ?_
  refine wq_cv (p' := 7) (av_qc (.invokevirtual 102) 91 0 0 6) 3 cd_91 [] (1) 6 [some (.inr (.inr (.inl (some (1))))), none, none] rfl rfl rfl pp_91 rfl rfl rfl (congrArg Prod.fst (ly_k C.1 1 rfl)) rfl rfl rfl rfl ?_
  refine ct_91 C F (fun v1 p2 => ?_)
  obtain ⟨rfl, p2⟩ := p2
  show av_wp _ cd_38 7 [some (.inr (.inr (.inl (some (22))))), some (.inl (k : Int)), some (.inl y), none] [.inl (vlv b t)] h _
  refine av_wp_seq 2 (pc' := 9) (lv' := [some (.inr (.inr (.inl (some (22))))), some (.inl (k : Int)), some (.inl y), some (.inl (vlv b t))]) (st' := [.inl (vlv b t)]) (h' := h) rfl ?_
  refine wq_k1 (p' := 12) rfl rfl ⟨by omega, by omega⟩ (fun c3 => ?_) (fun c4 => ?_)
  · have c3 : (vlv b t) < (0) := c3
    refine av_wp_seq 1 (pc' := 41) (lv' := [some (.inr (.inr (.inl (some (22))))), some (.inl (k : Int)), some (.inl y), some (.inl (vlv b t))]) (st' := [.inr (.inr (.inl (some (22))))]) (h' := h) rfl ?_
    refine wq_gr (p' := 44) rfl rfl (congrArg Prod.fst (ly_k C.1 22 rfl)) rfl (ly_g C.1 22 0 1 rfl) ?_
    refine wq_cv (p' := 47) (av_qc (.invokevirtual 47) 85 0 0 6) 1 cd_85 [] (1) 6 [some (.inr (.inr (.inl (some (1)))))] rfl rfl rfl pp_85 rfl rfl rfl (congrArg Prod.fst (ly_k C.1 1 rfl)) rfl rfl rfl rfl ?_
    refine ct_85 C F (fun h5 C6 F7 => ?_)
    have g8 := ct_wf C6
    show av_wp _ cd_38 47 [some (.inr (.inr (.inl (some (22))))), some (.inl (k : Int)), some (.inl y), some (.inl (vlv b t))] [] h5 _
    refine av_wp_ret (v := none) rfl rfl rfl ?_
    exact hq h5 (by rw [rsS, if_neg (fun z => by have z1 := z.1; omega)]; exact C6) F7
  · have c4 : (0) ≤ (vlv b t) := c4
    refine av_wp_seq 2 (pc' := 14) (lv' := [some (.inr (.inr (.inl (some (22))))), some (.inl (k : Int)), some (.inl y), some (.inl (vlv b t))]) (st' := [.inl (k : Int), .inl (vlv b t)]) (h' := h) rfl ?_
    refine wq_k2 (p' := 17) rfl rfl ⟨by omega, by omega⟩ ⟨by omega, by omega⟩ (fun c9 => ?_) (fun c10 => ?_)
    · have c9 : (k : Int) ≤ (vlv b t) := c9
      refine av_wp_seq 1 (pc' := 41) (lv' := [some (.inr (.inr (.inl (some (22))))), some (.inl (k : Int)), some (.inl y), some (.inl (vlv b t))]) (st' := [.inr (.inr (.inl (some (22))))]) (h' := h) rfl ?_
      refine wq_gr (p' := 44) rfl rfl (congrArg Prod.fst (ly_k C.1 22 rfl)) rfl (ly_g C.1 22 0 1 rfl) ?_
      refine wq_cv (p' := 47) (av_qc (.invokevirtual 47) 85 0 0 6) 1 cd_85 [] (1) 6 [some (.inr (.inr (.inl (some (1)))))] rfl rfl rfl pp_85 rfl rfl rfl (congrArg Prod.fst (ly_k C.1 1 rfl)) rfl rfl rfl rfl ?_
      refine ct_85 C F (fun h11 C12 F13 => ?_)
      have g14 := ct_wf C12
      show av_wp _ cd_38 47 [some (.inr (.inr (.inl (some (22))))), some (.inl (k : Int)), some (.inl y), some (.inl (vlv b t))] [] h11 _
      refine av_wp_ret (v := none) rfl rfl rfl ?_
      exact hq h11 (by rw [rsS, if_neg (fun z => by have z1 := z.1; omega)]; exact C12) F13
    · have c10 : (vlv b t) < (k : Int) := c10
      refine av_wp_seq 3 (pc' := 20) (lv' := [some (.inr (.inr (.inl (some (22))))), some (.inl (k : Int)), some (.inl y), some (.inl (vlv b t))]) (st' := [.inr (.inr (.inl (some (22)))), .inl y, .inr (.inr (.inl (some (22))))]) (h' := h) rfl ?_
      refine wq_gr (p' := 23) rfl rfl (congrArg Prod.fst (ly_k C.1 22 rfl)) rfl (ly_g C.1 22 1 23 rfl) ?_
      refine av_wp_seq 5 (pc' := 29) (lv' := [some (.inr (.inr (.inl (some (22))))), some (.inl (k : Int)), some (.inl y), some (.inl (vlv b t))]) (st' := [.inl (((k : Int) * (21)) + (1)), .inr (.inr (.inl (some (23)))), .inl y, .inr (.inr (.inl (some (22))))]) (h' := h) rfl ?_
      have g15 := ct_rv C (k * 21 + 1)
      refine wq_al (p' := 30) (n := 252) rfl rfl (ly_k C.1 23 rfl) (by omega) (show hA h 23 (Int.toNat ((((k : Int) * (21)) + (1)))) = (r (k * 21 + 1)) from (congrFun (ct_r C) _).trans (congrArg r (show (Int.toNat ((((k : Int) * (21)) + (1)))) = (k * 21 + 1) by omega))) ?_
      refine av_wp_seq 3 (pc' := 34) (lv' := [some (.inr (.inr (.inl (some (22))))), some (.inl (k : Int)), some (.inl y), some (.inl (vlv b t))]) (st' := [.inl ((vlv b t) * (21)), .inl (r (k * 21 + 1)), .inl y, .inr (.inr (.inl (some (22))))]) (h' := h) rfl ?_
      refine wq_cv (p' := 37) (av_qc (.invokevirtual 106) 39 3 0 2) 6 cd_39 [.inl ((vlv b t) * (21)), .inl (r (k * 21 + 1)), .inl y] (22) 2 [some (.inr (.inr (.inl (some (22))))), some (.inl y), some (.inl (r (k * 21 + 1))), some (.inl ((vlv b t) * (21))), none, none] rfl rfl rfl pp_39 rfl rfl rfl (congrArg Prod.fst (ly_k C.1 22 rfl)) rfl rfl rfl rfl ?_
      refine ct_39 C F (y) ((r (k * 21 + 1))) (((vlv b t) * (21))) (by omega) (by omega) ((vlv b t).toNat * 21) (by omega) (by omega) (fun z16 => ?_) (fun z16 => ?_)
      · show av_wp _ cd_38 37 [some (.inr (.inr (.inl (some (22))))), some (.inl (k : Int)), some (.inl y), some (.inl (vlv b t))] [.inl (1)] h _
        refine av_wp_seq 2 (pc' := 49) (lv' := [some (.inr (.inr (.inl (some (22))))), some (.inl (k : Int)), some (.inl y), some (.inl (vlv b t))]) (st' := [.inr (.inr (.inl (some (22))))]) (h' := h) rfl ?_
        refine wq_gr (p' := 52) rfl rfl (congrArg Prod.fst (ly_k C.1 22 rfl)) rfl (ly_g C.1 22 1 23 rfl) ?_
        refine av_wp_seq 6 (pc' := 59) (lv' := [some (.inr (.inr (.inl (some (22))))), some (.inl (k : Int)), some (.inl y), some (.inl (vlv b t))]) (st' := [.inl (vlv b t), .inl (((k : Int) * (21)) + (3)), .inr (.inr (.inl (some (23))))]) (h' := h) rfl ?_
        refine ct_as (p' := 60) rfl rfl C F (k * 21 + 3) (by omega) (by omega) (by omega) (fun h17 C18 F19 => ?_)
        refine av_wp_seq 1 (pc' := 61) (lv' := [some (.inr (.inr (.inl (some (22))))), some (.inl (k : Int)), some (.inl y), some (.inl (vlv b t))]) (st' := [.inr (.inr (.inl (some (22))))]) (h' := h17) rfl ?_
        refine wq_gr (p' := 64) rfl rfl (congrArg Prod.fst (ly_k C18.1 22 rfl)) rfl (ly_g C18.1 22 0 1 rfl) ?_
        refine wq_cv (p' := 67) (av_qc (.invokevirtual 110) 82 0 0 6) 2 cd_82 [] (1) 6 [some (.inr (.inr (.inl (some (1))))), none] rfl rfl rfl pp_82 rfl rfl rfl (congrArg Prod.fst (ly_k C18.1 1 rfl)) rfl rfl rfl rfl ?_
        refine ct_82 C18 F19 (fun h20 C21 F22 => ?_)
        have g23 := ct_wf C21
        show av_wp _ cd_38 67 [some (.inr (.inr (.inl (some (22))))), some (.inl (k : Int)), some (.inl y), some (.inl (vlv b t))] [] h20 _
        refine av_wp_ret (v := none) rfl rfl rfl ?_
        exact hq h20 (by rw [rsS, if_pos ⟨⟨by omega, by omega⟩, z16⟩]; exact C21) F22
      · show av_wp _ cd_38 37 [some (.inr (.inr (.inl (some (22))))), some (.inl (k : Int)), some (.inl y), some (.inl (vlv b t))] [.inl (0)] h _
        refine av_wp_seq 2 (pc' := 41) (lv' := [some (.inr (.inr (.inl (some (22))))), some (.inl (k : Int)), some (.inl y), some (.inl (vlv b t))]) (st' := [.inr (.inr (.inl (some (22))))]) (h' := h) rfl ?_
        refine wq_gr (p' := 44) rfl rfl (congrArg Prod.fst (ly_k C.1 22 rfl)) rfl (ly_g C.1 22 0 1 rfl) ?_
        refine wq_cv (p' := 47) (av_qc (.invokevirtual 47) 85 0 0 6) 1 cd_85 [] (1) 6 [some (.inr (.inr (.inl (some (1)))))] rfl rfl rfl pp_85 rfl rfl rfl (congrArg Prod.fst (ly_k C.1 1 rfl)) rfl rfl rfl rfl ?_
        refine ct_85 C F (fun h24 C25 F26 => ?_)
        have g27 := ct_wf C25
        show av_wp _ cd_38 47 [some (.inr (.inr (.inl (some (22))))), some (.inl (k : Int)), some (.inl y), some (.inl (vlv b t))] [] h24 _
        refine av_wp_ret (v := none) rfl rfl rfl ?_
        exact hq h24 (by rw [rsS, if_neg (fun z => z16 z.2)]; exact C25) F26

set_option maxRecDepth 100000 in
set_option maxHeartbeats 4000000 in
theorem ct_42 {g h : av_H} {b r d : Nat → Int} {lim : Nat} {t : TT} (C : CT b lim t r d h) (F : FT g h) (x : Int) (row : Nat) (ex : x = (row : Int)) (hrow : row ≤ 231) {Q : Option av_V → av_H → Prop} (hq : ∀ h', CT b lim (rsW b lim row 900 t r).1 (rsW b lim row 900 t r).2 d h' → FT g h' → Q none h') : av_wp none cd_42 0 [some (.inr (.inr (.inl (some (22))))), some (.inl x), none, none] [] h Q := by
  have g0 := ct_wf C
  subst ex
  refine av_wp_seq 2 (pc' := 2) (lv' := [some (.inr (.inr (.inl (some (22))))), some (.inl (row : Int)), some (.inl (0)), none]) (st' := []) (h' := h) rfl ?_
  have L9 : ∀ (m8 : Nat) (k1 : Int) (a2 : Option av_V) (t3 : TT) (r4 : Nat → Int) (h5 : av_H), av_lg a2 = false → rsW b lim row (Int.toNat (900 - k1)) t3 r4 = rsW b lim row 900 t r → (0 ≤ k1 ∧ k1 ≤ 900) → CT b lim t3 r4 d h5 → FT g h5 → (900 - k1).toNat = m8 → av_wp none cd_42 2 [some (.inr (.inr (.inl (some (22))))), some (.inl (row : Int)), some (.inl k1), a2] [] h5 Q := by
    intro m8
    induction m8 using Nat.strongRecOn with
    | _ m8 I10 =>
      intro k1 a2 t3 r4 h5 g12 g13 g14 C6 F7 e11
      have la2 := g12
      refine av_wp_seq 2 (pc' := 6) (lv' := [some (.inr (.inr (.inl (some (22))))), some (.inl (row : Int)), some (.inl k1), a2]) (st' := [.inl (900), .inl k1]) (h' := h5) rfl ?_
      refine wq_k2 (p' := 9) rfl rfl ⟨by omega, by omega⟩ ⟨by omega, by omega⟩ (fun c15 => ?_) (fun c16 => ?_)
      · have c15 : (900) ≤ k1 := c15
        refine av_wp_ret (v := none) rfl rfl rfl ?_
        have z17 : rsW b lim row 900 t r = (t3, r4) := by rw [← g13, show (Int.toNat (900 - k1)) = 0 by omega]; rfl
        exact hq h5 (by rw [z17]; exact C6) F7
      · have c16 : k1 < (900) := c16
        have g18 := ct_wf C6
        refine av_wp_seq 1 (pc' := 10) (lv' := [some (.inr (.inr (.inl (some (22))))), some (.inl (row : Int)), some (.inl k1), a2]) (st' := [.inr (.inr (.inl (some (22))))]) (h' := h5) rfl ?_
        refine wq_gr (p' := 13) rfl rfl (congrArg Prod.fst (ly_k C6.1 22 rfl)) rfl (ly_g C6.1 22 0 1 rfl) ?_
        refine av_wp_seq 1 (pc' := 15) (lv' := [some (.inr (.inr (.inl (some (22))))), some (.inl (row : Int)), some (.inl k1), a2]) (st' := [.inr (.inr (.inr 2)), .inr (.inr (.inl (some (1))))]) (h' := h5) rfl ?_
        refine wq_cv (p' := 18) (av_qc (.invokevirtual 99) 86 1 0 6) 7 cd_86 [.inr (.inr (.inr 2))] (1) 6 [some (.inr (.inr (.inl (some (1))))), some (.inr (.inr (.inr 2))), none, none, none, none, none] rfl rfl rfl pp_86 rfl rfl rfl (congrArg Prod.fst (ly_k C6.1 1 rfl)) rfl rfl rfl rfl ?_
        refine ct_86 C6 F7 2 (by decide) (fun v19 p20 => ?_)
        obtain ⟨rfl, p20⟩ := p20
        have g21 := pkv_le (b := b) (t := t3) 2 4 rfl
        show av_wp _ cd_42 18 [some (.inr (.inr (.inl (some (22))))), some (.inl (row : Int)), some (.inl k1), a2] [.inl (pkv b t3 2)] h5 _
        refine av_wp_seq 3 (pc' := 21) (lv' := [some (.inr (.inr (.inl (some (22))))), some (.inl (row : Int)), some (.inl k1), some (.inl (pkv b t3 2))]) (st' := [.inl (-1), .inl (pkv b t3 2)]) (h' := h5) rfl ?_
        refine wq_k2 (p' := 24) rfl rfl ⟨by omega, by omega⟩ ⟨by omega, by omega⟩ (fun c22 => ?_) (fun c23 => ?_)
        · have c22 : (pkv b t3 2) ≠ (-1) := c22
          refine av_wp_seq 1 (pc' := 26) (lv' := [some (.inr (.inr (.inl (some (22))))), some (.inl (row : Int)), some (.inl k1), some (.inl (pkv b t3 2))]) (st' := [.inr (.inr (.inl (some (22))))]) (h' := h5) rfl ?_
          refine wq_gr (p' := 29) rfl rfl (congrArg Prod.fst (ly_k C6.1 22 rfl)) rfl (ly_g C6.1 22 0 1 rfl) ?_
          refine wq_cv (p' := 32) (av_qc (.invokevirtual 110) 82 0 0 6) 2 cd_82 [] (1) 6 [some (.inr (.inr (.inl (some (1))))), none] rfl rfl rfl pp_82 rfl rfl rfl (congrArg Prod.fst (ly_k C6.1 1 rfl)) rfl rfl rfl rfl ?_
          refine ct_82 C6 F7 (fun h24 C25 F26 => ?_)
          have g27 := ct_wf C25
          show av_wp _ cd_42 32 [some (.inr (.inr (.inl (some (22))))), some (.inl (row : Int)), some (.inl k1), some (.inl (pkv b t3 2))] [] h24 _
          refine av_wp_seq 1 (pc' := 33) (lv' := [some (.inr (.inr (.inl (some (22))))), some (.inl (row : Int)), some (.inl k1), some (.inl (pkv b t3 2))]) (st' := [.inr (.inr (.inl (some (22))))]) (h' := h24) rfl ?_
          refine wq_gr (p' := 36) rfl rfl (congrArg Prod.fst (ly_k C25.1 22 rfl)) rfl (ly_g C25.1 22 1 23 rfl) ?_
          refine av_wp_seq 6 (pc' := 43) (lv' := [some (.inr (.inr (.inl (some (22))))), some (.inl (row : Int)), some (.inl k1), some (.inl (pkv b t3 2))]) (st' := [.inr (.inr (.inl (some (22)))), .inl (((row : Int) + (10)) + (pkv b t3 2)), .inr (.inr (.inl (some (23))))]) (h' := h24) rfl ?_
          refine wq_gr (p' := 46) rfl rfl (congrArg Prod.fst (ly_k C25.1 22 rfl)) rfl (ly_g C25.1 22 0 1 rfl) ?_
          refine av_wp_seq 2 (pc' := 50) (lv' := [some (.inr (.inr (.inl (some (22))))), some (.inl (row : Int)), some (.inl k1), some (.inl (pkv b t3 2))]) (st' := [.inl (999), .inl (0), .inr (.inr (.inl (some (1)))), .inl (((row : Int) + (10)) + (pkv b t3 2)), .inr (.inr (.inl (some (23))))]) (h' := h24) rfl ?_
          refine wq_cv (p' := 53) (av_qc (.invokevirtual 118) 92 2 0 6) 4 cd_92 [.inl (999), .inl (0)] (1) 6 [some (.inr (.inr (.inl (some (1))))), some (.inl (0)), some (.inl (999)), none] rfl rfl rfl pp_92 rfl rfl rfl (congrArg Prod.fst (ly_k C25.1 1 rfl)) rfl rfl rfl rfl ?_
          refine ct_92 C25 F26 ((0)) ((999)) (by omega) (by omega) (fun v28 h30 p29 C31 F32 => ?_)
          obtain ⟨rfl, p29⟩ := p29
          have g33 := ct_wf C31
          show av_wp _ cd_42 53 [some (.inr (.inr (.inl (some (22))))), some (.inl (row : Int)), some (.inl k1), some (.inl (pkv b t3 2))] [.inl (nmv b (adv b lim t3) (0) (999)), .inl (((row : Int) + (10)) + (pkv b t3 2)), .inr (.inr (.inl (some (23))))] h30 _
          refine ct_as (p' := 54) rfl rfl C31 F32 (row + 10 + (Int.toNat (pkv b t3 2))) (by omega) (by omega) (by omega) (fun h34 C35 F36 => ?_)
          refine av_wp_seq 2 (pc' := 2) (lv' := [some (.inr (.inr (.inl (some (22))))), some (.inl (row : Int)), some (.inl (k1 + (1))), some (.inl (pkv b t3 2))]) (st' := []) (h' := h34) rfl ?_
          exact I10 _ (by omega) ((k1 + (1))) (some (.inl (pkv b t3 2))) (nmt b lim (adv b lim t3) (0) (999)) (av_u1 r4 (row + 10 + (Int.toNat (pkv b t3 2))) (nmv b (adv b lim t3) (0) (999))) h34 rfl (by rw [← g13, show (Int.toNat (900 - k1)) = (Int.toNat (900 - (k1 + (1)))) + 1 by omega]; symm; exact if_neg (by omega)) (by omega) C35 F36 rfl
        · have c23 : (pkv b t3 2) = (-1) := c23
          refine av_wp_ret (v := none) rfl rfl rfl ?_
          have z37 : rsW b lim row 900 t r = (t3, r4) := by rw [← g13, show (Int.toNat (900 - k1)) = (Int.toNat (899 - k1)) + 1 by omega]; exact if_pos (by omega)
          exact hq h5 (by rw [z37]; exact C6) F7
  exact L9 _ ((0)) (none) t r h rfl rfl (by omega) C F rfl

set_option maxRecDepth 100000 in
set_option maxHeartbeats 4000000 in
theorem ct_40 {g h : av_H} {b r d : Nat → Int} {lim : Nat} {t : TT} (C : CT b lim t r d h) (F : FT g h) {ah : Int} (ha : hF g 22 2 = ah) (qa : 0 ≤ ah ∧ ah ≤ 16) (x : Int) (row : Nat) (ex : x = (row : Int)) (hrow : row ≤ 231) {Q : Option av_V → av_H → Prop} (hq : ∀ h', CT b lim (rsT b lim row ah t r).1 (rsT b lim row ah t r).2 d h' → FT g h' → Q none h') : av_wp none cd_40 0 [some (.inr (.inr (.inl (some (22))))), some (.inl x)] [] h Q := by
  have g0 := ct_wf C
  subst ex
  refine av_wp_seq 2 (pc' := 2) (lv' := [some (.inr (.inr (.inl (some (22))))), some (.inl (row : Int))]) (st' := [.inl (row : Int), .inr (.inr (.inl (some (22))))]) (h' := h) rfl ?_
  refine wq_cv (p' := 5) (av_qc (.invokevirtual 113) 42 1 0 2) 4 cd_42 [.inl (row : Int)] (22) 2 [some (.inr (.inr (.inl (some (22))))), some (.inl (row : Int)), none, none] rfl rfl rfl pp_42 rfl rfl rfl (congrArg Prod.fst (ly_k C.1 22 rfl)) rfl rfl rfl rfl ?_
  refine ct_42 C F ((row : Int)) (row) (by omega) (by omega) (fun h1 C2 F3 => ?_)
  have g4 := ct_wf C2
  show av_wp _ cd_40 5 [some (.inr (.inr (.inl (some (22))))), some (.inl (row : Int))] [] h1 _
  refine av_wp_seq 1 (pc' := 6) (lv' := [some (.inr (.inr (.inl (some (22))))), some (.inl (row : Int))]) (st' := [.inr (.inr (.inl (some (22))))]) (h' := h1) rfl ?_
  refine wq_gr (p' := 9) rfl rfl (congrArg Prod.fst (ly_k C2.1 22 rfl)) rfl (ly_g C2.1 22 0 1 rfl) ?_
  refine av_wp_seq 1 (pc' := 11) (lv' := [some (.inr (.inr (.inl (some (22))))), some (.inl (row : Int))]) (st' := [.inr (.inr (.inr 3)), .inr (.inr (.inl (some (1))))]) (h' := h1) rfl ?_
  refine wq_cv (p' := 14) (av_qc (.invokevirtual 86) 88 1 0 6) 2 cd_88 [.inr (.inr (.inr 3))] (1) 6 [some (.inr (.inr (.inl (some (1))))), some (.inr (.inr (.inr 3)))] rfl rfl rfl pp_88 rfl rfl rfl (congrArg Prod.fst (ly_k C2.1 1 rfl)) rfl rfl rfl rfl ?_
  refine ct_88 C2 F3 3 (by decide) (fun v5 h7 p6 C8 F9 => ?_)
  have g10 := ct_wf C8
  show av_wp _ cd_40 14 [some (.inr (.inr (.inl (some (22))))), some (.inl (row : Int))] [.inl v5] h7 _
  refine wq_k1 (p' := 17) rfl rfl ⟨by omega, by omega⟩ (fun c11 => ?_) (fun c12 => ?_)
  · have c11 : v5 = (0) := c11
    refine av_wp_seq 1 (pc' := 37) (lv' := [some (.inr (.inr (.inl (some (22))))), some (.inl (row : Int))]) (st' := [.inr (.inr (.inl (some (22))))]) (h' := h7) rfl ?_
    refine wq_gr (p' := 40) rfl rfl (congrArg Prod.fst (ly_k C8.1 22 rfl)) rfl (ly_g C8.1 22 0 1 rfl) ?_
    refine av_wp_seq 1 (pc' := 42) (lv' := [some (.inr (.inr (.inl (some (22))))), some (.inl (row : Int))]) (st' := [.inr (.inr (.inr 4)), .inr (.inr (.inl (some (1))))]) (h' := h7) rfl ?_
    refine wq_cv (p' := 45) (av_qc (.invokevirtual 86) 88 1 0 6) 2 cd_88 [.inr (.inr (.inr 4))] (1) 6 [some (.inr (.inr (.inl (some (1))))), some (.inr (.inr (.inr 4)))] rfl rfl rfl pp_88 rfl rfl rfl (congrArg Prod.fst (ly_k C8.1 1 rfl)) rfl rfl rfl rfl ?_
    refine ct_88 C8 F9 4 (by decide) (fun v13 h15 p14 C16 F17 => ?_)
    have g18 := ct_wf C16
    show av_wp _ cd_40 45 [some (.inr (.inr (.inl (some (22))))), some (.inl (row : Int))] [.inl v13] h15 _
    refine wq_k1 (p' := 48) rfl rfl ⟨by omega, by omega⟩ (fun c19 => ?_) (fun c20 => ?_)
    · have c19 : v13 = (0) := c19
      refine av_wp_ret (v := none) rfl rfl rfl ?_
      exact hq h15 (by unfold rsT rsT2 rsT1; (repeat' split) <;> first | assumption | (exfalso; omega)) F17
    · have c20 : v13 ≠ (0) := c20
      refine av_wp_seq 1 (pc' := 49) (lv' := [some (.inr (.inr (.inl (some (22))))), some (.inl (row : Int))]) (st' := [.inr (.inr (.inl (some (22))))]) (h' := h15) rfl ?_
      refine wq_gr (p' := 52) rfl rfl (congrArg Prod.fst (ly_k C16.1 22 rfl)) rfl (ly_g C16.1 22 1 23 rfl) ?_
      refine av_wp_seq 4 (pc' := 57) (lv' := [some (.inr (.inr (.inl (some (22))))), some (.inl (row : Int))]) (st' := [.inr (.inr (.inl (some (22)))), .inl ((row : Int) + (6)), .inr (.inr (.inl (some (23))))]) (h' := h15) rfl ?_
      refine wq_gr (p' := 60) rfl rfl (congrArg Prod.fst (ly_k C16.1 22 rfl)) rfl (ly_g C16.1 22 0 1 rfl) ?_
      refine av_wp_seq 2 (pc' := 62) (lv' := [some (.inr (.inr (.inl (some (22))))), some (.inl (row : Int))]) (st' := [.inr (.inr (.inl (some (22)))), .inl (0), .inr (.inr (.inl (some (1)))), .inl ((row : Int) + (6)), .inr (.inr (.inl (some (23))))]) (h' := h15) rfl ?_
      refine wq_gi (p' := 65) rfl rfl (congrArg Prod.fst (ly_k C16.1 22 rfl)) rfl ((F17.2.2.2.2.2.1 22 2 rfl).trans ha) ?_
      refine av_wp_seq 2 (pc' := 67) (lv' := [some (.inr (.inr (.inl (some (22))))), some (.inl (row : Int))]) (st' := [.inl (ah - (1)), .inl (0), .inr (.inr (.inl (some (1)))), .inl ((row : Int) + (6)), .inr (.inr (.inl (some (23))))]) (h' := h15) rfl ?_
      refine wq_cv (p' := 70) (av_qc (.invokevirtual 118) 92 2 0 6) 4 cd_92 [.inl (ah - (1)), .inl (0)] (1) 6 [some (.inr (.inr (.inl (some (1))))), some (.inl (0)), some (.inl (ah - (1))), none] rfl rfl rfl pp_92 rfl rfl rfl (congrArg Prod.fst (ly_k C16.1 1 rfl)) rfl rfl rfl rfl ?_
      refine ct_92 C16 F17 ((0)) ((ah - (1))) (by omega) (by omega) (fun v21 h23 p22 C24 F25 => ?_)
      obtain ⟨rfl, p22⟩ := p22
      have g26 := ct_wf C24
      show av_wp _ cd_40 70 [some (.inr (.inr (.inl (some (22))))), some (.inl (row : Int))] [.inl (nmv b (tak b lim (tak b lim (rsW b lim (row) 900 t r).1 3) 4) (0) (ah - (1))), .inl ((row : Int) + (6)), .inr (.inr (.inl (some (23))))] h23 _
      refine ct_as (p' := 71) rfl rfl C24 F25 (row + 6) (by omega) (by omega) (by omega) (fun h27 C28 F29 => ?_)
      refine av_wp_ret (v := none) rfl rfl rfl ?_
      exact hq h27 (by unfold rsT rsT2 rsT1; (repeat' split) <;> first | assumption | (exfalso; omega)) F29
  · have c12 : v5 ≠ (0) := c12
    refine av_wp_seq 1 (pc' := 18) (lv' := [some (.inr (.inr (.inl (some (22))))), some (.inl (row : Int))]) (st' := [.inr (.inr (.inl (some (22))))]) (h' := h7) rfl ?_
    refine wq_gr (p' := 21) rfl rfl (congrArg Prod.fst (ly_k C8.1 22 rfl)) rfl (ly_g C8.1 22 1 23 rfl) ?_
    refine av_wp_seq 4 (pc' := 25) (lv' := [some (.inr (.inr (.inl (some (22))))), some (.inl (row : Int))]) (st' := [.inr (.inr (.inl (some (22)))), .inl ((row : Int) + (5)), .inr (.inr (.inl (some (23))))]) (h' := h7) rfl ?_
    refine wq_gr (p' := 28) rfl rfl (congrArg Prod.fst (ly_k C8.1 22 rfl)) rfl (ly_g C8.1 22 0 1 rfl) ?_
    refine av_wp_seq 2 (pc' := 32) (lv' := [some (.inr (.inr (.inl (some (22))))), some (.inl (row : Int))]) (st' := [.inl (1999), .inl (0), .inr (.inr (.inl (some (1)))), .inl ((row : Int) + (5)), .inr (.inr (.inl (some (23))))]) (h' := h7) rfl ?_
    refine wq_cv (p' := 35) (av_qc (.invokevirtual 118) 92 2 0 6) 4 cd_92 [.inl (1999), .inl (0)] (1) 6 [some (.inr (.inr (.inl (some (1))))), some (.inl (0)), some (.inl (1999)), none] rfl rfl rfl pp_92 rfl rfl rfl (congrArg Prod.fst (ly_k C8.1 1 rfl)) rfl rfl rfl rfl ?_
    refine ct_92 C8 F9 ((0)) ((1999)) (by omega) (by omega) (fun v30 h32 p31 C33 F34 => ?_)
    obtain ⟨rfl, p31⟩ := p31
    have g35 := ct_wf C33
    show av_wp _ cd_40 35 [some (.inr (.inr (.inl (some (22))))), some (.inl (row : Int))] [.inl (nmv b (tak b lim (rsW b lim (row) 900 t r).1 3) (0) (1999)), .inl ((row : Int) + (5)), .inr (.inr (.inl (some (23))))] h32 _
    refine ct_as (p' := 36) rfl rfl C33 F34 (row + 5) (by omega) (by omega) (by omega) (fun h36 C37 F38 => ?_)
    refine av_wp_seq 1 (pc' := 37) (lv' := [some (.inr (.inr (.inl (some (22))))), some (.inl (row : Int))]) (st' := [.inr (.inr (.inl (some (22))))]) (h' := h36) rfl ?_
    refine wq_gr (p' := 40) rfl rfl (congrArg Prod.fst (ly_k C37.1 22 rfl)) rfl (ly_g C37.1 22 0 1 rfl) ?_
    refine av_wp_seq 1 (pc' := 42) (lv' := [some (.inr (.inr (.inl (some (22))))), some (.inl (row : Int))]) (st' := [.inr (.inr (.inr 4)), .inr (.inr (.inl (some (1))))]) (h' := h36) rfl ?_
    refine wq_cv (p' := 45) (av_qc (.invokevirtual 86) 88 1 0 6) 2 cd_88 [.inr (.inr (.inr 4))] (1) 6 [some (.inr (.inr (.inl (some (1))))), some (.inr (.inr (.inr 4)))] rfl rfl rfl pp_88 rfl rfl rfl (congrArg Prod.fst (ly_k C37.1 1 rfl)) rfl rfl rfl rfl ?_
    refine ct_88 C37 F38 4 (by decide) (fun v39 h41 p40 C42 F43 => ?_)
    have g44 := ct_wf C42
    show av_wp _ cd_40 45 [some (.inr (.inr (.inl (some (22))))), some (.inl (row : Int))] [.inl v39] h41 _
    refine wq_k1 (p' := 48) rfl rfl ⟨by omega, by omega⟩ (fun c45 => ?_) (fun c46 => ?_)
    · have c45 : v39 = (0) := c45
      refine av_wp_ret (v := none) rfl rfl rfl ?_
      exact hq h41 (by unfold rsT rsT2 rsT1; (repeat' split) <;> first | assumption | (exfalso; omega)) F43
    · have c46 : v39 ≠ (0) := c46
      refine av_wp_seq 1 (pc' := 49) (lv' := [some (.inr (.inr (.inl (some (22))))), some (.inl (row : Int))]) (st' := [.inr (.inr (.inl (some (22))))]) (h' := h41) rfl ?_
      refine wq_gr (p' := 52) rfl rfl (congrArg Prod.fst (ly_k C42.1 22 rfl)) rfl (ly_g C42.1 22 1 23 rfl) ?_
      refine av_wp_seq 4 (pc' := 57) (lv' := [some (.inr (.inr (.inl (some (22))))), some (.inl (row : Int))]) (st' := [.inr (.inr (.inl (some (22)))), .inl ((row : Int) + (6)), .inr (.inr (.inl (some (23))))]) (h' := h41) rfl ?_
      refine wq_gr (p' := 60) rfl rfl (congrArg Prod.fst (ly_k C42.1 22 rfl)) rfl (ly_g C42.1 22 0 1 rfl) ?_
      refine av_wp_seq 2 (pc' := 62) (lv' := [some (.inr (.inr (.inl (some (22))))), some (.inl (row : Int))]) (st' := [.inr (.inr (.inl (some (22)))), .inl (0), .inr (.inr (.inl (some (1)))), .inl ((row : Int) + (6)), .inr (.inr (.inl (some (23))))]) (h' := h41) rfl ?_
      refine wq_gi (p' := 65) rfl rfl (congrArg Prod.fst (ly_k C42.1 22 rfl)) rfl ((F43.2.2.2.2.2.1 22 2 rfl).trans ha) ?_
      refine av_wp_seq 2 (pc' := 67) (lv' := [some (.inr (.inr (.inl (some (22))))), some (.inl (row : Int))]) (st' := [.inl (ah - (1)), .inl (0), .inr (.inr (.inl (some (1)))), .inl ((row : Int) + (6)), .inr (.inr (.inl (some (23))))]) (h' := h41) rfl ?_
      refine wq_cv (p' := 70) (av_qc (.invokevirtual 118) 92 2 0 6) 4 cd_92 [.inl (ah - (1)), .inl (0)] (1) 6 [some (.inr (.inr (.inl (some (1))))), some (.inl (0)), some (.inl (ah - (1))), none] rfl rfl rfl pp_92 rfl rfl rfl (congrArg Prod.fst (ly_k C42.1 1 rfl)) rfl rfl rfl rfl ?_
      refine ct_92 C42 F43 ((0)) ((ah - (1))) (by omega) (by omega) (fun v47 h49 p48 C50 F51 => ?_)
      obtain ⟨rfl, p48⟩ := p48
      have g52 := ct_wf C50
      show av_wp _ cd_40 70 [some (.inr (.inr (.inl (some (22))))), some (.inl (row : Int))] [.inl (nmv b (tak b lim (nmt b lim (tak b lim (rsW b lim (row) 900 t r).1 3) (0) (1999)) 4) (0) (ah - (1))), .inl ((row : Int) + (6)), .inr (.inr (.inl (some (23))))] h49 _
      refine ct_as (p' := 71) rfl rfl C50 F51 (row + 6) (by omega) (by omega) (by omega) (fun h53 C54 F55 => ?_)
      refine av_wp_ret (v := none) rfl rfl rfl ?_
      exact hq h53 (by unfold rsT rsT2 rsT1; (repeat' split) <;> first | assumption | (exfalso; omega)) F55

set_option maxRecDepth 100000 in
set_option maxHeartbeats 4000000 in
theorem ct_41 {g h : av_H} {b r d : Nat → Int} {lim : Nat} {t : TT} (C : CT b lim t r d h) (F : FT g h) (x : Int) (row : Nat) (ex : x = (row : Int)) (hrow : row ≤ 231) {Q : Option av_V → av_H → Prop} (hq : ∀ h', CT b lim (rsB b lim row t r).1 (rsB b lim row t r).2 d h' → FT g h' → Q none h') : av_wp none cd_41 0 [some (.inr (.inr (.inl (some (22))))), some (.inl x), none] [] h Q := by
  have g0 := ct_wf C
  subst ex
  refine av_wp_seq 1 (pc' := 1) (lv' := [some (.inr (.inr (.inl (some (22))))), some (.inl (row : Int)), none]) (st' := [.inr (.inr (.inl (some (22))))]) (h' := h) rfl ?_
  refine wq_gr (p' := 4) rfl rfl (congrArg Prod.fst (ly_k C.1 22 rfl)) rfl (ly_g C.1 22 1 23 rfl) ?_
  refine av_wp_seq 4 (pc' := 8) (lv' := [some (.inr (.inr (.inl (some (22))))), some (.inl (row : Int)), none]) (st' := [.inl (3), .inl ((row : Int) + (0)), .inr (.inr (.inl (some (23))))]) (h' := h) rfl ?_
  refine ct_as (p' := 9) rfl rfl C F (row) (by omega) (by omega) (by omega) (fun h1 C2 F3 => ?_)
  refine av_wp_seq 1 (pc' := 10) (lv' := [some (.inr (.inr (.inl (some (22))))), some (.inl (row : Int)), none]) (st' := [.inr (.inr (.inl (some (22))))]) (h' := h1) rfl ?_
  refine wq_gr (p' := 13) rfl rfl (congrArg Prod.fst (ly_k C2.1 22 rfl)) rfl (ly_g C2.1 22 1 23 rfl) ?_
  refine av_wp_seq 3 (pc' := 16) (lv' := [some (.inr (.inr (.inl (some (22))))), some (.inl (row : Int)), none]) (st' := [.inl ((row : Int) + (3)), .inr (.inr (.inl (some (23))))]) (h' := h1) rfl ?_
  have g4 := ct_rv C2 (row + 3)
  refine wq_al (p' := 17) (n := 252) rfl rfl (ly_k C2.1 23 rfl) (by omega) (show hA h1 23 (Int.toNat (((row : Int) + (3)))) = ((av_u1 r (row) (3)) (row + 3)) from (congrFun (ct_r C2) _).trans (congrArg (av_u1 r (row) (3)) (show (Int.toNat (((row : Int) + (3)))) = (row + 3) by omega))) ?_
  refine av_wp_seq 2 (pc' := 19) (lv' := [some (.inr (.inr (.inl (some (22))))), some (.inl (row : Int)), some (.inl ((av_u1 r (row) (3)) (row + 3)))]) (st' := [.inl ((av_u1 r (row) (3)) (row + 3))]) (h' := h1) rfl ?_
  refine wq_k1 (p' := 22) rfl rfl ⟨by omega, by omega⟩ (fun c5 => ?_) (fun c6 => ?_)
  · have c5 : ((av_u1 r (row) (3)) (row + 3)) < (0) := c5
    refine av_wp_seq 1 (pc' := 48) (lv' := [some (.inr (.inr (.inl (some (22))))), some (.inl (row : Int)), some (.inl ((av_u1 r (row) (3)) (row + 3)))]) (st' := [.inr (.inr (.inl (some (22))))]) (h' := h1) rfl ?_
    refine wq_gr (p' := 51) rfl rfl (congrArg Prod.fst (ly_k C2.1 22 rfl)) rfl (ly_g C2.1 22 0 1 rfl) ?_
    refine av_wp_seq 1 (pc' := 53) (lv' := [some (.inr (.inr (.inl (some (22))))), some (.inl (row : Int)), some (.inl ((av_u1 r (row) (3)) (row + 3)))]) (st' := [.inr (.inr (.inr 2)), .inr (.inr (.inl (some (1))))]) (h' := h1) rfl ?_
    refine wq_cv (p' := 56) (av_qc (.invokevirtual 99) 86 1 0 6) 7 cd_86 [.inr (.inr (.inr 2))] (1) 6 [some (.inr (.inr (.inl (some (1))))), some (.inr (.inr (.inr 2))), none, none, none, none, none] rfl rfl rfl pp_86 rfl rfl rfl (congrArg Prod.fst (ly_k C2.1 1 rfl)) rfl rfl rfl rfl ?_
    refine ct_86 C2 F3 2 (by decide) (fun v7 p8 => ?_)
    obtain ⟨rfl, p8⟩ := p8
    have g9 := pkv_le (b := b) (t := t) 2 4 rfl
    show av_wp _ cd_41 56 [some (.inr (.inr (.inl (some (22))))), some (.inl (row : Int)), some (.inl ((av_u1 r (row) (3)) (row + 3)))] [.inl (pkv b t 2)] h1 _
    refine av_wp_seq 1 (pc' := 57) (lv' := [some (.inr (.inr (.inl (some (22))))), some (.inl (row : Int)), some (.inl ((av_u1 r (row) (3)) (row + 3)))]) (st' := [.inl (-1), .inl (pkv b t 2)]) (h' := h1) rfl ?_
    refine wq_k2 (p' := 60) rfl rfl ⟨by omega, by omega⟩ ⟨by omega, by omega⟩ (fun c10 => ?_) (fun c11 => ?_)
    · have c10 : (pkv b t 2) ≠ (-1) := c10
      refine av_wp_seq 2 (pc' := 69) (lv' := [some (.inr (.inr (.inl (some (22))))), some (.inl (row : Int)), some (.inl ((av_u1 r (row) (3)) (row + 3)))]) (st' := [.inl (row : Int), .inr (.inr (.inl (some (22))))]) (h' := h1) rfl ?_
      refine wq_cv (p' := 72) (av_qc (.invokevirtual 113) 42 1 0 2) 4 cd_42 [.inl (row : Int)] (22) 2 [some (.inr (.inr (.inl (some (22))))), some (.inl (row : Int)), none, none] rfl rfl rfl pp_42 rfl rfl rfl (congrArg Prod.fst (ly_k C2.1 22 rfl)) rfl rfl rfl rfl ?_
      refine ct_42 C2 F3 ((row : Int)) (row) (by omega) (by omega) (fun h12 C13 F14 => ?_)
      have g15 := ct_wf C13
      show av_wp _ cd_41 72 [some (.inr (.inr (.inl (some (22))))), some (.inl (row : Int)), some (.inl ((av_u1 r (row) (3)) (row + 3)))] [] h12 _
      refine av_wp_ret (v := none) rfl rfl rfl ?_
      exact hq h12 (by unfold rsB rsB0; (repeat' split) <;> first | assumption | (exfalso; omega)) F14
    · have c11 : (pkv b t 2) = (-1) := c11
      refine av_wp_seq 1 (pc' := 61) (lv' := [some (.inr (.inr (.inl (some (22))))), some (.inl (row : Int)), some (.inl ((av_u1 r (row) (3)) (row + 3)))]) (st' := [.inr (.inr (.inl (some (22))))]) (h' := h1) rfl ?_
      refine wq_gr (p' := 64) rfl rfl (congrArg Prod.fst (ly_k C2.1 22 rfl)) rfl (ly_g C2.1 22 0 1 rfl) ?_
      refine wq_cv (p' := 67) (av_qc (.invokevirtual 47) 85 0 0 6) 1 cd_85 [] (1) 6 [some (.inr (.inr (.inl (some (1)))))] rfl rfl rfl pp_85 rfl rfl rfl (congrArg Prod.fst (ly_k C2.1 1 rfl)) rfl rfl rfl rfl ?_
      refine ct_85 C2 F3 (fun h16 C17 F18 => ?_)
      have g19 := ct_wf C17
      show av_wp _ cd_41 67 [some (.inr (.inr (.inl (some (22))))), some (.inl (row : Int)), some (.inl ((av_u1 r (row) (3)) (row + 3)))] [] h16 _
      refine av_wp_seq 2 (pc' := 69) (lv' := [some (.inr (.inr (.inl (some (22))))), some (.inl (row : Int)), some (.inl ((av_u1 r (row) (3)) (row + 3)))]) (st' := [.inl (row : Int), .inr (.inr (.inl (some (22))))]) (h' := h16) rfl ?_
      refine wq_cv (p' := 72) (av_qc (.invokevirtual 113) 42 1 0 2) 4 cd_42 [.inl (row : Int)] (22) 2 [some (.inr (.inr (.inl (some (22))))), some (.inl (row : Int)), none, none] rfl rfl rfl pp_42 rfl rfl rfl (congrArg Prod.fst (ly_k C17.1 22 rfl)) rfl rfl rfl rfl ?_
      refine ct_42 C17 F18 ((row : Int)) (row) (by omega) (by omega) (fun h20 C21 F22 => ?_)
      have g23 := ct_wf C21
      show av_wp _ cd_41 72 [some (.inr (.inr (.inl (some (22))))), some (.inl (row : Int)), some (.inl ((av_u1 r (row) (3)) (row + 3)))] [] h20 _
      refine av_wp_ret (v := none) rfl rfl rfl ?_
      exact hq h20 (by unfold rsB rsB0; (repeat' split) <;> first | assumption | (exfalso; omega)) F22
  · have c6 : (0) ≤ ((av_u1 r (row) (3)) (row + 3)) := c6
    refine av_wp_seq 2 (pc' := 25) (lv' := [some (.inr (.inr (.inl (some (22))))), some (.inl (row : Int)), some (.inl ((av_u1 r (row) (3)) (row + 3)))]) (st' := [.inl (12), .inl ((av_u1 r (row) (3)) (row + 3))]) (h' := h1) rfl ?_
    refine wq_k2 (p' := 28) rfl rfl ⟨by omega, by omega⟩ ⟨by omega, by omega⟩ (fun c24 => ?_) (fun c25 => ?_)
    · have c24 : (12) ≤ ((av_u1 r (row) (3)) (row + 3)) := c24
      refine av_wp_seq 1 (pc' := 48) (lv' := [some (.inr (.inr (.inl (some (22))))), some (.inl (row : Int)), some (.inl ((av_u1 r (row) (3)) (row + 3)))]) (st' := [.inr (.inr (.inl (some (22))))]) (h' := h1) rfl ?_
      refine wq_gr (p' := 51) rfl rfl (congrArg Prod.fst (ly_k C2.1 22 rfl)) rfl (ly_g C2.1 22 0 1 rfl) ?_
      refine av_wp_seq 1 (pc' := 53) (lv' := [some (.inr (.inr (.inl (some (22))))), some (.inl (row : Int)), some (.inl ((av_u1 r (row) (3)) (row + 3)))]) (st' := [.inr (.inr (.inr 2)), .inr (.inr (.inl (some (1))))]) (h' := h1) rfl ?_
      refine wq_cv (p' := 56) (av_qc (.invokevirtual 99) 86 1 0 6) 7 cd_86 [.inr (.inr (.inr 2))] (1) 6 [some (.inr (.inr (.inl (some (1))))), some (.inr (.inr (.inr 2))), none, none, none, none, none] rfl rfl rfl pp_86 rfl rfl rfl (congrArg Prod.fst (ly_k C2.1 1 rfl)) rfl rfl rfl rfl ?_
      refine ct_86 C2 F3 2 (by decide) (fun v26 p27 => ?_)
      obtain ⟨rfl, p27⟩ := p27
      have g28 := pkv_le (b := b) (t := t) 2 4 rfl
      show av_wp _ cd_41 56 [some (.inr (.inr (.inl (some (22))))), some (.inl (row : Int)), some (.inl ((av_u1 r (row) (3)) (row + 3)))] [.inl (pkv b t 2)] h1 _
      refine av_wp_seq 1 (pc' := 57) (lv' := [some (.inr (.inr (.inl (some (22))))), some (.inl (row : Int)), some (.inl ((av_u1 r (row) (3)) (row + 3)))]) (st' := [.inl (-1), .inl (pkv b t 2)]) (h' := h1) rfl ?_
      refine wq_k2 (p' := 60) rfl rfl ⟨by omega, by omega⟩ ⟨by omega, by omega⟩ (fun c29 => ?_) (fun c30 => ?_)
      · have c29 : (pkv b t 2) ≠ (-1) := c29
        refine av_wp_seq 2 (pc' := 69) (lv' := [some (.inr (.inr (.inl (some (22))))), some (.inl (row : Int)), some (.inl ((av_u1 r (row) (3)) (row + 3)))]) (st' := [.inl (row : Int), .inr (.inr (.inl (some (22))))]) (h' := h1) rfl ?_
        refine wq_cv (p' := 72) (av_qc (.invokevirtual 113) 42 1 0 2) 4 cd_42 [.inl (row : Int)] (22) 2 [some (.inr (.inr (.inl (some (22))))), some (.inl (row : Int)), none, none] rfl rfl rfl pp_42 rfl rfl rfl (congrArg Prod.fst (ly_k C2.1 22 rfl)) rfl rfl rfl rfl ?_
        refine ct_42 C2 F3 ((row : Int)) (row) (by omega) (by omega) (fun h31 C32 F33 => ?_)
        have g34 := ct_wf C32
        show av_wp _ cd_41 72 [some (.inr (.inr (.inl (some (22))))), some (.inl (row : Int)), some (.inl ((av_u1 r (row) (3)) (row + 3)))] [] h31 _
        refine av_wp_ret (v := none) rfl rfl rfl ?_
        exact hq h31 (by unfold rsB rsB0; (repeat' split) <;> first | assumption | (exfalso; omega)) F33
      · have c30 : (pkv b t 2) = (-1) := c30
        refine av_wp_seq 1 (pc' := 61) (lv' := [some (.inr (.inr (.inl (some (22))))), some (.inl (row : Int)), some (.inl ((av_u1 r (row) (3)) (row + 3)))]) (st' := [.inr (.inr (.inl (some (22))))]) (h' := h1) rfl ?_
        refine wq_gr (p' := 64) rfl rfl (congrArg Prod.fst (ly_k C2.1 22 rfl)) rfl (ly_g C2.1 22 0 1 rfl) ?_
        refine wq_cv (p' := 67) (av_qc (.invokevirtual 47) 85 0 0 6) 1 cd_85 [] (1) 6 [some (.inr (.inr (.inl (some (1)))))] rfl rfl rfl pp_85 rfl rfl rfl (congrArg Prod.fst (ly_k C2.1 1 rfl)) rfl rfl rfl rfl ?_
        refine ct_85 C2 F3 (fun h35 C36 F37 => ?_)
        have g38 := ct_wf C36
        show av_wp _ cd_41 67 [some (.inr (.inr (.inl (some (22))))), some (.inl (row : Int)), some (.inl ((av_u1 r (row) (3)) (row + 3)))] [] h35 _
        refine av_wp_seq 2 (pc' := 69) (lv' := [some (.inr (.inr (.inl (some (22))))), some (.inl (row : Int)), some (.inl ((av_u1 r (row) (3)) (row + 3)))]) (st' := [.inl (row : Int), .inr (.inr (.inl (some (22))))]) (h' := h35) rfl ?_
        refine wq_cv (p' := 72) (av_qc (.invokevirtual 113) 42 1 0 2) 4 cd_42 [.inl (row : Int)] (22) 2 [some (.inr (.inr (.inl (some (22))))), some (.inl (row : Int)), none, none] rfl rfl rfl pp_42 rfl rfl rfl (congrArg Prod.fst (ly_k C36.1 22 rfl)) rfl rfl rfl rfl ?_
        refine ct_42 C36 F37 ((row : Int)) (row) (by omega) (by omega) (fun h39 C40 F41 => ?_)
        have g42 := ct_wf C40
        show av_wp _ cd_41 72 [some (.inr (.inr (.inl (some (22))))), some (.inl (row : Int)), some (.inl ((av_u1 r (row) (3)) (row + 3)))] [] h39 _
        refine av_wp_ret (v := none) rfl rfl rfl ?_
        exact hq h39 (by unfold rsB rsB0; (repeat' split) <;> first | assumption | (exfalso; omega)) F41
    · have c25 : ((av_u1 r (row) (3)) (row + 3)) < (12) := c25
      refine av_wp_seq 1 (pc' := 29) (lv' := [some (.inr (.inr (.inl (some (22))))), some (.inl (row : Int)), some (.inl ((av_u1 r (row) (3)) (row + 3)))]) (st' := [.inr (.inr (.inl (some (22))))]) (h' := h1) rfl ?_
      refine wq_gr (p' := 32) rfl rfl (congrArg Prod.fst (ly_k C2.1 22 rfl)) rfl (ly_g C2.1 22 1 23 rfl) ?_
      refine av_wp_seq 4 (pc' := 36) (lv' := [some (.inr (.inr (.inl (some (22))))), some (.inl (row : Int)), some (.inl ((av_u1 r (row) (3)) (row + 3)))]) (st' := [.inr (.inr (.inl (some (22)))), .inl ((row : Int) + (2)), .inr (.inr (.inl (some (23))))]) (h' := h1) rfl ?_
      refine wq_gr (p' := 39) rfl rfl (congrArg Prod.fst (ly_k C2.1 22 rfl)) rfl (ly_g C2.1 22 1 23 rfl) ?_
      refine av_wp_seq 5 (pc' := 45) (lv' := [some (.inr (.inr (.inl (some (22))))), some (.inl (row : Int)), some (.inl ((av_u1 r (row) (3)) (row + 3)))]) (st' := [.inl ((((av_u1 r (row) (3)) (row + 3)) * (21)) + (1)), .inr (.inr (.inl (some (23)))), .inl ((row : Int) + (2)), .inr (.inr (.inl (some (23))))]) (h' := h1) rfl ?_
      have g43 := ct_rv C2 (1 + (Int.toNat ((av_u1 r (row) (3)) (row + 3))) * 21)
      refine wq_al (p' := 46) (n := 252) rfl rfl (ly_k C2.1 23 rfl) (by omega) (show hA h1 23 (Int.toNat (((((av_u1 r (row) (3)) (row + 3)) * (21)) + (1)))) = ((av_u1 r (row) (3)) (1 + (Int.toNat ((av_u1 r (row) (3)) (row + 3))) * 21)) from (congrFun (ct_r C2) _).trans (congrArg (av_u1 r (row) (3)) (show (Int.toNat (((((av_u1 r (row) (3)) (row + 3)) * (21)) + (1)))) = (1 + (Int.toNat ((av_u1 r (row) (3)) (row + 3))) * 21) by omega))) ?_
      refine ct_as (p' := 47) rfl rfl C2 F3 (row + 2) (by omega) (by omega) (by omega) (fun h44 C45 F46 => ?_)
      refine av_wp_seq 1 (pc' := 48) (lv' := [some (.inr (.inr (.inl (some (22))))), some (.inl (row : Int)), some (.inl ((av_u1 r (row) (3)) (row + 3)))]) (st' := [.inr (.inr (.inl (some (22))))]) (h' := h44) rfl ?_
      refine wq_gr (p' := 51) rfl rfl (congrArg Prod.fst (ly_k C45.1 22 rfl)) rfl (ly_g C45.1 22 0 1 rfl) ?_
      refine av_wp_seq 1 (pc' := 53) (lv' := [some (.inr (.inr (.inl (some (22))))), some (.inl (row : Int)), some (.inl ((av_u1 r (row) (3)) (row + 3)))]) (st' := [.inr (.inr (.inr 2)), .inr (.inr (.inl (some (1))))]) (h' := h44) rfl ?_
      refine wq_cv (p' := 56) (av_qc (.invokevirtual 99) 86 1 0 6) 7 cd_86 [.inr (.inr (.inr 2))] (1) 6 [some (.inr (.inr (.inl (some (1))))), some (.inr (.inr (.inr 2))), none, none, none, none, none] rfl rfl rfl pp_86 rfl rfl rfl (congrArg Prod.fst (ly_k C45.1 1 rfl)) rfl rfl rfl rfl ?_
      refine ct_86 C45 F46 2 (by decide) (fun v47 p48 => ?_)
      obtain ⟨rfl, p48⟩ := p48
      have g49 := pkv_le (b := b) (t := t) 2 4 rfl
      show av_wp _ cd_41 56 [some (.inr (.inr (.inl (some (22))))), some (.inl (row : Int)), some (.inl ((av_u1 r (row) (3)) (row + 3)))] [.inl (pkv b t 2)] h44 _
      refine av_wp_seq 1 (pc' := 57) (lv' := [some (.inr (.inr (.inl (some (22))))), some (.inl (row : Int)), some (.inl ((av_u1 r (row) (3)) (row + 3)))]) (st' := [.inl (-1), .inl (pkv b t 2)]) (h' := h44) rfl ?_
      refine wq_k2 (p' := 60) rfl rfl ⟨by omega, by omega⟩ ⟨by omega, by omega⟩ (fun c50 => ?_) (fun c51 => ?_)
      · have c50 : (pkv b t 2) ≠ (-1) := c50
        refine av_wp_seq 2 (pc' := 69) (lv' := [some (.inr (.inr (.inl (some (22))))), some (.inl (row : Int)), some (.inl ((av_u1 r (row) (3)) (row + 3)))]) (st' := [.inl (row : Int), .inr (.inr (.inl (some (22))))]) (h' := h44) rfl ?_
        refine wq_cv (p' := 72) (av_qc (.invokevirtual 113) 42 1 0 2) 4 cd_42 [.inl (row : Int)] (22) 2 [some (.inr (.inr (.inl (some (22))))), some (.inl (row : Int)), none, none] rfl rfl rfl pp_42 rfl rfl rfl (congrArg Prod.fst (ly_k C45.1 22 rfl)) rfl rfl rfl rfl ?_
        refine ct_42 C45 F46 ((row : Int)) (row) (by omega) (by omega) (fun h52 C53 F54 => ?_)
        have g55 := ct_wf C53
        show av_wp _ cd_41 72 [some (.inr (.inr (.inl (some (22))))), some (.inl (row : Int)), some (.inl ((av_u1 r (row) (3)) (row + 3)))] [] h52 _
        refine av_wp_ret (v := none) rfl rfl rfl ?_
        exact hq h52 (by unfold rsB rsB0; (repeat' split) <;> first | assumption | (exfalso; omega)) F54
      · have c51 : (pkv b t 2) = (-1) := c51
        refine av_wp_seq 1 (pc' := 61) (lv' := [some (.inr (.inr (.inl (some (22))))), some (.inl (row : Int)), some (.inl ((av_u1 r (row) (3)) (row + 3)))]) (st' := [.inr (.inr (.inl (some (22))))]) (h' := h44) rfl ?_
        refine wq_gr (p' := 64) rfl rfl (congrArg Prod.fst (ly_k C45.1 22 rfl)) rfl (ly_g C45.1 22 0 1 rfl) ?_
        refine wq_cv (p' := 67) (av_qc (.invokevirtual 47) 85 0 0 6) 1 cd_85 [] (1) 6 [some (.inr (.inr (.inl (some (1)))))] rfl rfl rfl pp_85 rfl rfl rfl (congrArg Prod.fst (ly_k C45.1 1 rfl)) rfl rfl rfl rfl ?_
        refine ct_85 C45 F46 (fun h56 C57 F58 => ?_)
        have g59 := ct_wf C57
        show av_wp _ cd_41 67 [some (.inr (.inr (.inl (some (22))))), some (.inl (row : Int)), some (.inl ((av_u1 r (row) (3)) (row + 3)))] [] h56 _
        refine av_wp_seq 2 (pc' := 69) (lv' := [some (.inr (.inr (.inl (some (22))))), some (.inl (row : Int)), some (.inl ((av_u1 r (row) (3)) (row + 3)))]) (st' := [.inl (row : Int), .inr (.inr (.inl (some (22))))]) (h' := h56) rfl ?_
        refine wq_cv (p' := 72) (av_qc (.invokevirtual 113) 42 1 0 2) 4 cd_42 [.inl (row : Int)] (22) 2 [some (.inr (.inr (.inl (some (22))))), some (.inl (row : Int)), none, none] rfl rfl rfl pp_42 rfl rfl rfl (congrArg Prod.fst (ly_k C57.1 22 rfl)) rfl rfl rfl rfl ?_
        refine ct_42 C57 F58 ((row : Int)) (row) (by omega) (by omega) (fun h60 C61 F62 => ?_)
        have g63 := ct_wf C61
        show av_wp _ cd_41 72 [some (.inr (.inr (.inl (some (22))))), some (.inl (row : Int)), some (.inl ((av_u1 r (row) (3)) (row + 3)))] [] h60 _
        refine av_wp_ret (v := none) rfl rfl rfl ?_
        exact hq h60 (by unfold rsB rsB0; (repeat' split) <;> first | assumption | (exfalso; omega)) F62

