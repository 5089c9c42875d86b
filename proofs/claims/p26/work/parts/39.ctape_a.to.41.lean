section
/-! THE CLASS'S TAPE, exactly -/
set_option maxRecDepth 100000 in
set_option maxHeartbeats 4000000 in
theorem ct_83 {h : av_H} (x : Int) (qx : -2147483648 ≤ x ∧ x ≤ 2147483647) {Q : Option av_V → av_H → Prop} (hq : Q (some (.inl (so x))) h) : av_wp none cd_83 0 [some (.inl x)] [] h Q := by
  refine av_wp_sqF ck_83 2 (pc' := 3) (lv' := [some (.inl x)]) (st' := [.inl (97), .inl x]) (h' := h) rfl ?_
  refine wq_k2 (p' := 6) (ck_83 _ _ rfl) rfl ⟨by omega, by omega⟩ ⟨by omega, by omega⟩ (fun c1 => ?_) (fun c2 => ?_)
  · have c1 : x < (97) := c1
    refine av_wp_sqF ck_83 2 (pc' := 17) (lv' := [some (.inl x)]) (st' := [.inl (48), .inl x]) (h' := h) rfl ?_
    refine wq_k2 (p' := 20) (ck_83 _ _ rfl) rfl ⟨by omega, by omega⟩ ⟨by omega, by omega⟩ (fun c3 => ?_) (fun c4 => ?_)
    · have c3 : x < (48) := c3
      refine av_wp_sqF ck_83 2 (pc' := 31) (lv' := [some (.inl x)]) (st' := [.inl (59), .inl x]) (h' := h) rfl ?_
      refine wq_k2 (p' := 34) (ck_83 _ _ rfl) rfl ⟨by omega, by omega⟩ ⟨by omega, by omega⟩ (fun c5 => ?_) (fun c6 => ?_)
      · have c5 : x ≠ (59) := c5
        refine av_wp_sqF ck_83 2 (pc' := 39) (lv' := [some (.inl x)]) (st' := [.inl (32), .inl x]) (h' := h) rfl ?_
        refine wq_k2 (p' := 42) (ck_83 _ _ rfl) rfl ⟨by omega, by omega⟩ ⟨by omega, by omega⟩ (fun c7 => ?_) (fun c8 => ?_)
        · have c7 : x = (32) := c7
          refine av_wp_sqF ck_83 2 (pc' := 53) (lv' := [some (.inl x)]) (st' := [.inl (4)]) (h' := h) rfl ?_
          refine av_wp_ret (v := some (.inl (4))) (ck_83 _ _ rfl) rfl rfl ?_
          have z : so x = (4) := by unfold so; (repeat' split) <;> omega
          rw [z] at hq
          exact hq
        · have c8 : x ≠ (32) := c8
          refine av_wp_sqF ck_83 2 (pc' := 45) (lv' := [some (.inl x)]) (st' := [.inl (10), .inl x]) (h' := h) rfl ?_
          refine wq_k2 (p' := 48) (ck_83 _ _ rfl) rfl ⟨by omega, by omega⟩ ⟨by omega, by omega⟩ (fun c9 => ?_) (fun c10 => ?_)
          · have c9 : x ≠ (10) := c9
            refine av_wp_sqF ck_83 1 (pc' := 53) (lv' := [some (.inl x)]) (st' := [.inl (5)]) (h' := h) rfl ?_
            refine av_wp_ret (v := some (.inl (5))) (ck_83 _ _ rfl) rfl rfl ?_
            have z : so x = (5) := by unfold so; (repeat' split) <;> omega
            rw [z] at hq
            exact hq
          · have c10 : x = (10) := c10
            refine av_wp_sqF ck_83 2 (pc' := 53) (lv' := [some (.inl x)]) (st' := [.inl (4)]) (h' := h) rfl ?_
            refine av_wp_ret (v := some (.inl (4))) (ck_83 _ _ rfl) rfl rfl ?_
            have z : so x = (4) := by unfold so; (repeat' split) <;> omega
            rw [z] at hq
            exact hq
      · have c6 : x = (59) := c6
        exfalso; omega
    · have c4 : (48) ≤ x := c4
      refine av_wp_sqF ck_83 2 (pc' := 23) (lv' := [some (.inl x)]) (st' := [.inl (57), .inl x]) (h' := h) rfl ?_
      refine wq_k2 (p' := 26) (ck_83 _ _ rfl) rfl ⟨by omega, by omega⟩ ⟨by omega, by omega⟩ (fun c11 => ?_) (fun c12 => ?_)
      · have c11 : (57) < x := c11
        refine av_wp_sqF ck_83 2 (pc' := 31) (lv' := [some (.inl x)]) (st' := [.inl (59), .inl x]) (h' := h) rfl ?_
        refine wq_k2 (p' := 34) (ck_83 _ _ rfl) rfl ⟨by omega, by omega⟩ ⟨by omega, by omega⟩ (fun c13 => ?_) (fun c14 => ?_)
        · have c13 : x ≠ (59) := c13
          refine av_wp_sqF ck_83 2 (pc' := 39) (lv' := [some (.inl x)]) (st' := [.inl (32), .inl x]) (h' := h) rfl ?_
          refine wq_k2 (p' := 42) (ck_83 _ _ rfl) rfl ⟨by omega, by omega⟩ ⟨by omega, by omega⟩ (fun c15 => ?_) (fun c16 => ?_)
          · have c15 : x = (32) := c15
            exfalso; omega
          · have c16 : x ≠ (32) := c16
            refine av_wp_sqF ck_83 2 (pc' := 45) (lv' := [some (.inl x)]) (st' := [.inl (10), .inl x]) (h' := h) rfl ?_
            refine wq_k2 (p' := 48) (ck_83 _ _ rfl) rfl ⟨by omega, by omega⟩ ⟨by omega, by omega⟩ (fun c17 => ?_) (fun c18 => ?_)
            · have c17 : x ≠ (10) := c17
              refine av_wp_sqF ck_83 1 (pc' := 53) (lv' := [some (.inl x)]) (st' := [.inl (5)]) (h' := h) rfl ?_
              refine av_wp_ret (v := some (.inl (5))) (ck_83 _ _ rfl) rfl rfl ?_
              have z : so x = (5) := by unfold so; (repeat' split) <;> omega
              rw [z] at hq
              exact hq
            · have c18 : x = (10) := c18
              exfalso; omega
        · have c14 : x = (59) := c14
          refine av_wp_sqF ck_83 1 (pc' := 35) (lv' := [some (.inl x)]) (st' := [.inl (3)]) (h' := h) rfl ?_
          refine av_wp_ret (v := some (.inl (3))) (ck_83 _ _ rfl) rfl rfl ?_
          have z : so x = (3) := by unfold so; (repeat' split) <;> omega
          rw [z] at hq
          exact hq
      · have c12 : x ≤ (57) := c12
        refine av_wp_sqF ck_83 1 (pc' := 27) (lv' := [some (.inl x)]) (st' := [.inl (2)]) (h' := h) rfl ?_
        refine av_wp_ret (v := some (.inl (2))) (ck_83 _ _ rfl) rfl rfl ?_
        have z : so x = (2) := by unfold so; (repeat' split) <;> omega
        rw [z] at hq
        exact hq
  · have c2 : (97) ≤ x := c2
    refine av_wp_sqF ck_83 2 (pc' := 9) (lv' := [some (.inl x)]) (st' := [.inl (122), .inl x]) (h' := h) rfl ?_
    refine wq_k2 (p' := 12) (ck_83 _ _ rfl) rfl ⟨by omega, by omega⟩ ⟨by omega, by omega⟩ (fun c19 => ?_) (fun c20 => ?_)
    · have c19 : (122) < x := c19
      refine av_wp_sqF ck_83 2 (pc' := 17) (lv' := [some (.inl x)]) (st' := [.inl (48), .inl x]) (h' := h) rfl ?_
      refine wq_k2 (p' := 20) (ck_83 _ _ rfl) rfl ⟨by omega, by omega⟩ ⟨by omega, by omega⟩ (fun c21 => ?_) (fun c22 => ?_)
      · have c21 : x < (48) := c21
        exfalso; omega
      · have c22 : (48) ≤ x := c22
        refine av_wp_sqF ck_83 2 (pc' := 23) (lv' := [some (.inl x)]) (st' := [.inl (57), .inl x]) (h' := h) rfl ?_
        refine wq_k2 (p' := 26) (ck_83 _ _ rfl) rfl ⟨by omega, by omega⟩ ⟨by omega, by omega⟩ (fun c23 => ?_) (fun c24 => ?_)
        · have c23 : (57) < x := c23
          refine av_wp_sqF ck_83 2 (pc' := 31) (lv' := [some (.inl x)]) (st' := [.inl (59), .inl x]) (h' := h) rfl ?_
          refine wq_k2 (p' := 34) (ck_83 _ _ rfl) rfl ⟨by omega, by omega⟩ ⟨by omega, by omega⟩ (fun c25 => ?_) (fun c26 => ?_)
          · have c25 : x ≠ (59) := c25
            refine av_wp_sqF ck_83 2 (pc' := 39) (lv' := [some (.inl x)]) (st' := [.inl (32), .inl x]) (h' := h) rfl ?_
            refine wq_k2 (p' := 42) (ck_83 _ _ rfl) rfl ⟨by omega, by omega⟩ ⟨by omega, by omega⟩ (fun c27 => ?_) (fun c28 => ?_)
            · have c27 : x = (32) := c27
              exfalso; omega
            · have c28 : x ≠ (32) := c28
              refine av_wp_sqF ck_83 2 (pc' := 45) (lv' := [some (.inl x)]) (st' := [.inl (10), .inl x]) (h' := h) rfl ?_
              refine wq_k2 (p' := 48) (ck_83 _ _ rfl) rfl ⟨by omega, by omega⟩ ⟨by omega, by omega⟩ (fun c29 => ?_) (fun c30 => ?_)
              · have c29 : x ≠ (10) := c29
                refine av_wp_sqF ck_83 1 (pc' := 53) (lv' := [some (.inl x)]) (st' := [.inl (5)]) (h' := h) rfl ?_
                refine av_wp_ret (v := some (.inl (5))) (ck_83 _ _ rfl) rfl rfl ?_
                have z : so x = (5) := by unfold so; (repeat' split) <;> omega
                rw [z] at hq
                exact hq
              · have c30 : x = (10) := c30
                exfalso; omega
          · have c26 : x = (59) := c26
            exfalso; omega
        · have c24 : x ≤ (57) := c24
          exfalso; omega
    · have c20 : x ≤ (122) := c20
      refine av_wp_sqF ck_83 1 (pc' := 13) (lv' := [some (.inl x)]) (st' := [.inl (1)]) (h' := h) rfl ?_
      refine av_wp_ret (v := some (.inl (1))) (ck_83 _ _ rfl) rfl rfl ?_
      have z : so x = (1) := by unfold so; (repeat' split) <;> omega
      rw [z] at hq
      exact hq

set_option maxRecDepth 100000 in
set_option maxHeartbeats 4000000 in
theorem ct_84 {g h : av_H} {b r d : Nat → Int} {lim : Nat} {t : TT} (C : CT b lim t r d h) (F : FT g h)  {Q : Option av_V → av_H → Prop} (hq : ∀ v : Int, ((v = 1 ∧ t.2.2.2 = -1 ∧ t.2.2.1 ≠ 0) ∨ (v = 0 ∧ (t.2.2.2 ≠ -1 ∨ t.2.2.1 = 0))) → Q (some (.inl v)) h) : av_wp none cd_84 0 [some (.inr (.inr (.inl (some (1)))))] [] h Q := by
  have g0 := ct_wf C
  refine av_wp_sqF ck_84 1 (pc' := 1) (lv' := [some (.inr (.inr (.inl (some (1)))))]) (st' := [.inr (.inr (.inl (some (1))))]) (h' := h) rfl ?_
  refine wq_gi (p' := 4) (ck_84 _ _ rfl) rfl (congrArg Prod.fst (ly_k C.1 1 rfl)) rfl (ct_w C) ?_
  refine av_wp_sqF ck_84 1 (pc' := 5) (lv' := [some (.inr (.inr (.inl (some (1)))))]) (st' := [.inl (-1), .inl t.2.2.2]) (h' := h) rfl ?_
  refine wq_k2 (p' := 8) (ck_84 _ _ rfl) rfl ⟨by omega, by omega⟩ ⟨by omega, by omega⟩ (fun c1 => ?_) (fun c2 => ?_)
  · have c1 : t.2.2.2 ≠ (-1) := c1
    refine av_wp_sqF ck_84 1 (pc' := 20) (lv' := [some (.inr (.inr (.inl (some (1)))))]) (st' := [.inl (0)]) (h' := h) rfl ?_
    refine av_wp_ret (v := some (.inl (0))) (ck_84 _ _ rfl) rfl rfl ?_
    exact hq _ (by omega)
  · have c2 : t.2.2.2 = (-1) := c2
    refine av_wp_sqF ck_84 1 (pc' := 9) (lv' := [some (.inr (.inr (.inl (some (1)))))]) (st' := [.inr (.inr (.inl (some (1))))]) (h' := h) rfl ?_
    refine wq_gi (p' := 12) (ck_84 _ _ rfl) rfl (congrArg Prod.fst (ly_k C.1 1 rfl)) rfl (ct_s C) ?_
    refine wq_k1 (p' := 15) (ck_84 _ _ rfl) rfl ⟨by omega, by omega⟩ (fun c3 => ?_) (fun c4 => ?_)
    · have c3 : t.2.2.1 = (0) := c3
      refine av_wp_sqF ck_84 1 (pc' := 20) (lv' := [some (.inr (.inr (.inl (some (1)))))]) (st' := [.inl (0)]) (h' := h) rfl ?_
      refine av_wp_ret (v := some (.inl (0))) (ck_84 _ _ rfl) rfl rfl ?_
      exact hq _ (by omega)
    · have c4 : t.2.2.1 ≠ (0) := c4
      refine av_wp_sqF ck_84 2 (pc' := 20) (lv' := [some (.inr (.inr (.inl (some (1)))))]) (st' := [.inl (1)]) (h' := h) rfl ?_
      refine av_wp_ret (v := some (.inl (1))) (ck_84 _ _ rfl) rfl rfl ?_
      exact hq _ (by omega)

set_option maxRecDepth 100000 in
set_option maxHeartbeats 4000000 in
theorem ct_85 {g h : av_H} {b r d : Nat → Int} {lim : Nat} {t : TT} (C : CT b lim t r d h) (F : FT g h)  {Q : Option av_V → av_H → Prop} (hq : ∀ h', CT b lim (fal t) r d h' → FT g h' → Q none h') : av_wp none cd_85 0 [some (.inr (.inr (.inl (some (1)))))] [] h Q := by
  have g0 := ct_wf C
  refine av_wp_sqF ck_85 1 (pc' := 1) (lv' := [some (.inr (.inr (.inl (some (1)))))]) (st' := [.inr (.inr (.inl (some (1))))]) (h' := h) rfl ?_
  refine wq_gi (p' := 4) (ck_85 _ _ rfl) rfl (congrArg Prod.fst (ly_k C.1 1 rfl)) rfl (ct_w C) ?_
  refine av_wp_sqF ck_85 1 (pc' := 5) (lv' := [some (.inr (.inr (.inl (some (1)))))]) (st' := [.inl (-1), .inl t.2.2.2]) (h' := h) rfl ?_
  refine wq_k2 (p' := 8) (ck_85 _ _ rfl) rfl ⟨by omega, by omega⟩ ⟨by omega, by omega⟩ (fun c1 => ?_) (fun c2 => ?_)
  · have c1 : t.2.2.2 ≠ (-1) := c1
    refine av_wp_ret (v := none) (ck_85 _ _ rfl) rfl rfl ?_
    have z3 : fal t = t := by unfold fal; rw [if_neg (by omega)]
    exact hq h (by rw [z3]; exact C) F
  · have c2 : t.2.2.2 = (-1) := c2
    refine av_wp_sqF ck_85 2 (pc' := 10) (lv' := [some (.inr (.inr (.inl (some (1)))))]) (st' := [.inr (.inr (.inl (some (1)))), .inr (.inr (.inl (some (1))))]) (h' := h) rfl ?_
    refine wq_gi (p' := 13) (ck_85 _ _ rfl) rfl (congrArg Prod.fst (ly_k C.1 1 rfl)) rfl (ct_f C) ?_
    refine ct_p6 (p' := 16) rfl rfl C F (by omega) (fun h4 C5 F6 => ?_)
    have g7 := ct_wf C5
    refine av_wp_ret (v := none) (ck_85 _ _ rfl) rfl rfl ?_
    have z8 : fal t = (t.1, t.2.1, t.2.2.1, (t.1 : Int)) := by unfold fal; rw [if_pos (by omega)]
    exact hq h4 (by rw [z8]; exact C5) F6

set_option maxRecDepth 100000 in
set_option maxHeartbeats 4000000 in
theorem ct_82 {g h : av_H} {b r d : Nat → Int} {lim : Nat} {t : TT} (C : CT b lim t r d h) (F : FT g h) {Q : Option av_V → av_H → Prop} (hq : ∀ h', CT b lim (adv b lim t) r d h' → FT g h' → Q none h') : av_wp none cd_82 0 [some (.inr (.inr (.inl (some (1))))), none] [] h Q := by
  have g0 := ct_wf C
  have rd : ∀ {h1 : av_H} {t1 : TT} (C1 : CT b lim t1 r d h1) (k : Nat) (hk : k < lim) (st : List av_V) (pc : Nat) (p1 : Nat) (lv : av_L), cd_82.lookup pc = some (av_q (.baload)) → pc + 1 = p1 → av_wp none cd_82 p1 lv (.inl (b k) :: st) h1 Q → av_wp none cd_82 pc lv (.inl (k : Int) :: .inr (.inr (.inl (some (2)))) :: st) h1 Q := by
    intro h1 t1 C1 k hk st pc p1 lv hx hp hw
    have w1 := ct_wf C1
    exact wq_bl (n := 900) hx hp (Or.inl (ly_k C1.1 2 rfl)) (by omega) (congrFun (ct_b C1) _) hw
  refine av_wp_sqF ck_82 1 (pc' := 1) (lv' := [some (.inr (.inr (.inl (some (1))))), none]) (st' := [.inr (.inr (.inl (some (1))))]) (h' := h) rfl ?_
  refine wq_gi (p' := 4) (ck_82 _ _ rfl) rfl (congrArg Prod.fst (ly_k C.1 1 rfl)) rfl (ct_p C) ?_
  refine av_wp_sqF ck_82 1 (pc' := 5) (lv' := [some (.inr (.inr (.inl (some (1))))), some (.inl (t.2.1 : Int))]) (st' := []) (h' := h) rfl ?_
  -- the place behind is found: the end
  have fin : ∀ {h1 : av_H} (f : Nat) (s : Int) (k : Nat), CT b lim (f, t.2.1, s, t.2.2.2) r d h1 → FT g h1 → f ≤ lim → k ≤ lim → adv b lim t = (f, k, s, t.2.2.2) → av_wp none cd_82 119 [some (.inr (.inr (.inl (some (1))))), some (.inl (k : Int))] [] h1 Q := by
    intro h1 f s k C1 F1 hf hk ea
    refine av_wp_sqF ck_82 2 (pc' := 121) (lv' := [some (.inr (.inr (.inl (some (1))))), some (.inl (k : Int))]) (st' := [.inl (k : Int), .inr (.inr (.inl (some (1))))]) (h' := h1) rfl ?_
    refine ct_p4 (p' := 124) rfl rfl C1 F1 k rfl hk (fun h2 C2 F2 => ?_)
    exact av_wp_ret (v := none) rfl rfl rfl (hq h2 (by rw [ea]; exact C2) F2)
  -- the run of letters or digits
  have run : ∀ {h1 : av_H} (f : Nat) (s : Int) (k2 : Nat), CT b lim (f, t.2.1, s, t.2.2.2) r d h1 → FT g h1 → f ≤ lim → adv b lim t = (f, edn b lim s k2, s, t.2.2.2) → ∀ (m k : Nat), lim - k = m → k ≤ lim → edn b lim s k = edn b lim s k2 → av_wp none cd_82 89 [some (.inr (.inr (.inl (some (1))))), some (.inl (k : Int))] [] h1 Q := by
    intro h1 f s k2 C1 F1 hf ea m
    have w1 := ct_wf C1
    induction m using Nat.strongRecOn with
    | _ m ih =>
      intro k em hk ek
      refine av_wp_sqF ck_82 2 (pc' := 91) (lv' := [some (.inr (.inr (.inl (some (1))))), some (.inl (k : Int))]) (st' := [.inr (.inr (.inl (some (1)))), .inl (k : Int)]) (h' := h1) rfl ?_
      refine wq_gi (p' := 94) (ck_82 _ _ rfl) rfl (congrArg Prod.fst (ly_k C1.1 1 rfl)) rfl (ct_l C1) ?_
      refine wq_k2 (p' := 97) (ck_82 _ _ rfl) rfl ⟨by omega, by omega⟩ ⟨by omega, by omega⟩ (fun c1 => ?_) (fun c2 => ?_)
      · have c1 : (lim : Int) ≤ (k : Int) := c1
        have e1 : edn b lim s k = k := edn_end (fun z => by have z1 := z.1; omega)
        exact fin f s k C1 F1 hf hk (by rw [ea, ← ek, e1])
      · have c2 : (k : Int) < (lim : Int) := c2
        refine av_wp_sqF ck_82 1 (pc' := 98) (lv' := [some (.inr (.inr (.inl (some (1))))), some (.inl (k : Int))]) (st' := [.inr (.inr (.inl (some (1))))]) (h' := h1) rfl ?_
        refine wq_gr (p' := 101) (ck_82 _ _ rfl) rfl (congrArg Prod.fst (ly_k C1.1 1 rfl)) rfl (ly_g C1.1 1 0 2 rfl) ?_
        refine av_wp_sqF ck_82 1 (pc' := 102) (lv' := [some (.inr (.inr (.inl (some (1))))), some (.inl (k : Int))]) (st' := [.inl (k : Int), .inr (.inr (.inl (some (2))))]) (h' := h1) rfl ?_
        refine rd C1 k (by omega) [] 102 103 _ rfl rfl ?_
        have gb := ct_bv C1 k
        have gs := so_r (b k)
        refine wq_cs (p' := 106) (av_qc (.invokestatic 41) 83 1 2 6) 1 cd_83 [.inl (b k)] [.inl (b k)] [some (.inl (b k))] (ck_82 _ _ rfl) rfl rfl pp_83 (fun _ => rfl) rfl rfl ?_
        refine ct_83 (b k) (by omega) ?_
        show av_wp _ cd_82 106 [some (.inr (.inr (.inl (some (1))))), some (.inl (k : Int))] [.inl (so (b k))] h1 _
        refine av_wp_sqF ck_82 1 (pc' := 107) (lv' := [some (.inr (.inr (.inl (some (1))))), some (.inl (k : Int))]) (st' := [.inr (.inr (.inl (some (1)))), .inl (so (b k))]) (h' := h1) rfl ?_
        refine wq_gi (p' := 110) (ck_82 _ _ rfl) rfl (congrArg Prod.fst (ly_k C1.1 1 rfl)) rfl (ct_s C1) ?_
        refine wq_k2 (p' := 113) (ck_82 _ _ rfl) rfl ⟨by omega, by omega⟩ ⟨by omega, by omega⟩ (fun c3 => ?_) (fun c4 => ?_)
        · have c3 : so (b k) ≠ s := c3
          have e1 : edn b lim s k = k := edn_end (fun z => c3 z.2)
          exact fin f s k C1 F1 hf hk (by rw [ea, ← ek, e1])
        · have c4 : so (b k) = s := c4
          refine av_wp_sqF ck_82 2 (pc' := 89) (lv' := [some (.inr (.inr (.inl (some (1))))), some (.inl ((k : Int) + (1)))]) (st' := []) (h' := h1) rfl ?_
          exact ih (lim - (k + 1)) (by omega) (k + 1) rfl (by omega) (by rw [← ek]; exact (edn_go (by omega) c4).symm)
  -- the token begins at k
  have tok : ∀ (k : Nat), k ≤ lim → edn b lim 4 t.2.1 = k → av_wp none cd_82 32 [some (.inr (.inr (.inl (some (1))))), some (.inl (k : Int))] [] h Q := by
    intro k hk ek
    refine av_wp_sqF ck_82 2 (pc' := 34) (lv' := [some (.inr (.inr (.inl (some (1))))), some (.inl (k : Int))]) (st' := [.inl (k : Int), .inr (.inr (.inl (some (1))))]) (h' := h) rfl ?_
    refine ct_p3 (p' := 37) rfl rfl C F k rfl hk (fun h1 C1 F1 => ?_)
    refine av_wp_sqF ck_82 3 (pc' := 40) (lv' := [some (.inr (.inr (.inl (some (1))))), some (.inl (k : Int))]) (st' := [.inr (.inr (.inl (some (1)))), .inl (k : Int), .inr (.inr (.inl (some (1))))]) (h' := h1) rfl ?_
    refine wq_gi (p' := 43) (ck_82 _ _ rfl) rfl (congrArg Prod.fst (ly_k C1.1 1 rfl)) rfl (ct_l C1) ?_
    refine wq_k2 (p' := 46) (ck_82 _ _ rfl) rfl ⟨by omega, by omega⟩ ⟨by omega, by omega⟩ (fun c1 => ?_) (fun c2 => ?_)
    · have c1 : (lim : Int) ≤ (k : Int) := c1
      refine av_wp_sqF ck_82 1 (pc' := 59) (lv' := [some (.inr (.inr (.inl (some (1))))), some (.inl (k : Int))]) (st' := [.inl (0), .inr (.inr (.inl (some (1))))]) (h' := h1) rfl ?_
      refine ct_p5 (p' := 62) rfl rfl C1 F1 (by omega) (fun h2 C2 F2 => ?_)
      refine av_wp_sqF ck_82 2 (pc' := 64) (lv' := [some (.inr (.inr (.inl (some (1))))), some (.inl (k : Int))]) (st' := [.inr (.inr (.inl (some (1)))), .inl (k : Int)]) (h' := h2) rfl ?_
      refine wq_gi (p' := 67) (ck_82 _ _ rfl) rfl (congrArg Prod.fst (ly_k C2.1 1 rfl)) rfl (ct_l C2) ?_
      refine wq_k2 (p' := 70) (ck_82 _ _ rfl) rfl ⟨by omega, by omega⟩ ⟨by omega, by omega⟩ (fun _ => ?_) (fun c3 => ?_)
      · refine av_wp_sqF ck_82 1 (pc' := 74) (lv' := [some (.inr (.inr (.inl (some (1))))), some (.inl (k : Int))]) (st' := [.inr (.inr (.inl (some (1))))]) (h' := h2) rfl ?_
        refine wq_gi (p' := 77) (ck_82 _ _ rfl) rfl (congrArg Prod.fst (ly_k C2.1 1 rfl)) rfl (ct_s C2) ?_
        refine av_wp_sqF ck_82 2 (pc' := 81) (lv' := [some (.inr (.inr (.inl (some (1))))), some (.inl (k : Int))]) (st' := []) (h' := h2) rfl ?_
        refine av_wp_sqF ck_82 1 (pc' := 82) (lv' := [some (.inr (.inr (.inl (some (1))))), some (.inl (k : Int))]) (st' := [.inr (.inr (.inl (some (1))))]) (h' := h2) rfl ?_
        refine wq_gi (p' := 85) (ck_82 _ _ rfl) rfl (congrArg Prod.fst (ly_k C2.1 1 rfl)) rfl (ct_s C2) ?_
        refine av_wp_sqF ck_82 2 (pc' := 119) (lv' := [some (.inr (.inr (.inl (some (1))))), some (.inl (k : Int))]) (st' := []) (h' := h2) rfl ?_
        refine fin k 0 k C2 F2 hk hk ?_
        have hnl : ¬ k < lim := by omega
        simp only [adv, ek, if_neg hnl]
      · have c3 : (k : Int) < (lim : Int) := c3
        omega
    · have c2 : (k : Int) < (lim : Int) := c2
      refine av_wp_sqF ck_82 1 (pc' := 47) (lv' := [some (.inr (.inr (.inl (some (1))))), some (.inl (k : Int))]) (st' := [.inr (.inr (.inl (some (1)))), .inr (.inr (.inl (some (1))))]) (h' := h1) rfl ?_
      refine wq_gr (p' := 50) (ck_82 _ _ rfl) rfl (congrArg Prod.fst (ly_k C1.1 1 rfl)) rfl (ly_g C1.1 1 0 2 rfl) ?_
      refine av_wp_sqF ck_82 1 (pc' := 51) (lv' := [some (.inr (.inr (.inl (some (1))))), some (.inl (k : Int))]) (st' := [.inl (k : Int), .inr (.inr (.inl (some (2)))), .inr (.inr (.inl (some (1))))]) (h' := h1) rfl ?_
      refine rd C1 k (by omega) _ 51 52 _ rfl rfl ?_
      have gb := ct_bv C1 k
      have gs := so_r (b k)
      refine wq_cs (p' := 55) (av_qc (.invokestatic 41) 83 1 2 6) 1 cd_83 [.inl (b k)] [.inl (b k), .inr (.inr (.inl (some (1))))] [some (.inl (b k))] (ck_82 _ _ rfl) rfl rfl pp_83 (fun _ => rfl) rfl rfl ?_
      refine ct_83 (b k) (by omega) ?_
      show av_wp _ cd_82 55 [some (.inr (.inr (.inl (some (1))))), some (.inl (k : Int))] [.inl (so (b k)), .inr (.inr (.inl (some (1))))] h1 _
      refine av_wp_sqF ck_82 1 (pc' := 59) (lv' := [some (.inr (.inr (.inl (some (1))))), some (.inl (k : Int))]) (st' := [.inl (so (b k)), .inr (.inr (.inl (some (1))))]) (h' := h1) rfl ?_
      refine ct_p5 (p' := 62) rfl rfl C1 F1 (by omega) (fun h2 C2 F2 => ?_)
      refine av_wp_sqF ck_82 2 (pc' := 64) (lv' := [some (.inr (.inr (.inl (some (1))))), some (.inl (k : Int))]) (st' := [.inr (.inr (.inl (some (1)))), .inl (k : Int)]) (h' := h2) rfl ?_
      refine wq_gi (p' := 67) (ck_82 _ _ rfl) rfl (congrArg Prod.fst (ly_k C2.1 1 rfl)) rfl (ct_l C2) ?_
      refine wq_k2 (p' := 70) (ck_82 _ _ rfl) rfl ⟨by omega, by omega⟩ ⟨by omega, by omega⟩ (fun c3 => ?_) (fun _ => ?_)
      · have c3 : (lim : Int) ≤ (k : Int) := c3
        omega
      · refine av_wp_sqF ck_82 2 (pc' := 74) (lv' := [some (.inr (.inr (.inl (some (1))))), some (.inl ((k : Int) + (1)))]) (st' := [.inr (.inr (.inl (some (1))))]) (h' := h2) rfl ?_
        refine wq_gi (p' := 77) (ck_82 _ _ rfl) rfl (congrArg Prod.fst (ly_k C2.1 1 rfl)) rfl (ct_s C2) ?_
        refine av_wp_sqF ck_82 1 (pc' := 78) (lv' := [some (.inr (.inr (.inl (some (1))))), some (.inl ((k : Int) + (1)))]) (st' := [.inl (1), .inl (so (b k))]) (h' := h2) rfl ?_
        have go : (so (b k) = 1 ∨ so (b k) = 2) → av_wp none cd_82 89 [some (.inr (.inr (.inl (some (1))))), some (.inl ((k : Int) + (1)))] [] h2 Q := fun e => by
          refine run k (so (b k)) (k + 1) C2 F2 hk ?_ (lim - (k + 1)) (k + 1) rfl (by omega) rfl
          have hlt : k < lim := by omega
          simp only [adv, ek, if_pos hlt, if_pos e]
        refine wq_k2 (p' := 81) (ck_82 _ _ rfl) rfl ⟨by omega, by omega⟩ ⟨by omega, by omega⟩ (fun c4 => ?_) (fun c5 => ?_)
        · have c4 : so (b k) = 1 := c4
          exact go (Or.inl c4)
        · have c5 : so (b k) ≠ 1 := c5
          refine av_wp_sqF ck_82 1 (pc' := 82) (lv' := [some (.inr (.inr (.inl (some (1))))), some (.inl ((k : Int) + (1)))]) (st' := [.inr (.inr (.inl (some (1))))]) (h' := h2) rfl ?_
          refine wq_gi (p' := 85) (ck_82 _ _ rfl) rfl (congrArg Prod.fst (ly_k C2.1 1 rfl)) rfl (ct_s C2) ?_
          refine av_wp_sqF ck_82 1 (pc' := 86) (lv' := [some (.inr (.inr (.inl (some (1))))), some (.inl ((k : Int) + (1)))]) (st' := [.inl (2), .inl (so (b k))]) (h' := h2) rfl ?_
          refine wq_k2 (p' := 89) (ck_82 _ _ rfl) rfl ⟨by omega, by omega⟩ ⟨by omega, by omega⟩ (fun c6 => ?_) (fun c7 => ?_)
          · have c6 : so (b k) ≠ 2 := c6
            refine fin k (so (b k)) (k + 1) C2 F2 hk (by omega) ?_
            have hlt : k < lim := by omega
            have hne : ¬ (so (b k) = 1 ∨ so (b k) = 2) := by omega
            simp only [adv, ek, if_pos hlt, if_neg hne]
          · have c7 : so (b k) = 2 := c7
            exact go (Or.inr c7)
  -- the blanks
  have blk : ∀ (m k : Nat), lim - k = m → k ≤ lim → edn b lim 4 t.2.1 = edn b lim 4 k → av_wp none cd_82 5 [some (.inr (.inr (.inl (some (1))))), some (.inl (k : Int))] [] h Q := by
    intro m
    induction m using Nat.strongRecOn with
    | _ m ih =>
      intro k em hk ek
      refine av_wp_sqF ck_82 2 (pc' := 7) (lv' := [some (.inr (.inr (.inl (some (1))))), some (.inl (k : Int))]) (st' := [.inr (.inr (.inl (some (1)))), .inl (k : Int)]) (h' := h) rfl ?_
      refine wq_gi (p' := 10) (ck_82 _ _ rfl) rfl (congrArg Prod.fst (ly_k C.1 1 rfl)) rfl (ct_l C) ?_
      refine wq_k2 (p' := 13) (ck_82 _ _ rfl) rfl ⟨by omega, by omega⟩ ⟨by omega, by omega⟩ (fun c1 => ?_) (fun c2 => ?_)
      · have c1 : (lim : Int) ≤ (k : Int) := c1
        exact tok k hk (by rw [ek]; exact edn_end (fun z => by have z1 := z.1; omega))
      · have c2 : (k : Int) < (lim : Int) := c2
        refine av_wp_sqF ck_82 1 (pc' := 14) (lv' := [some (.inr (.inr (.inl (some (1))))), some (.inl (k : Int))]) (st' := [.inr (.inr (.inl (some (1))))]) (h' := h) rfl ?_
        refine wq_gr (p' := 17) (ck_82 _ _ rfl) rfl (congrArg Prod.fst (ly_k C.1 1 rfl)) rfl (ly_g C.1 1 0 2 rfl) ?_
        refine av_wp_sqF ck_82 1 (pc' := 18) (lv' := [some (.inr (.inr (.inl (some (1))))), some (.inl (k : Int))]) (st' := [.inl (k : Int), .inr (.inr (.inl (some (2))))]) (h' := h) rfl ?_
        refine rd C k (by omega) [] 18 19 _ rfl rfl ?_
        have gb := ct_bv C k
        have gs := so_r (b k)
        refine wq_cs (p' := 22) (av_qc (.invokestatic 41) 83 1 2 6) 1 cd_83 [.inl (b k)] [.inl (b k)] [some (.inl (b k))] (ck_82 _ _ rfl) rfl rfl pp_83 (fun _ => rfl) rfl rfl ?_
        refine ct_83 (b k) (by omega) ?_
        show av_wp _ cd_82 22 [some (.inr (.inr (.inl (some (1))))), some (.inl (k : Int))] [.inl (so (b k))] h _
        refine av_wp_sqF ck_82 1 (pc' := 23) (lv' := [some (.inr (.inr (.inl (some (1))))), some (.inl (k : Int))]) (st' := [.inl (4), .inl (so (b k))]) (h' := h) rfl ?_
        refine wq_k2 (p' := 26) (ck_82 _ _ rfl) rfl ⟨by omega, by omega⟩ ⟨by omega, by omega⟩ (fun c3 => ?_) (fun c4 => ?_)
        · have c3 : so (b k) ≠ 4 := c3
          exact tok k hk (by rw [ek]; exact edn_end (fun z => c3 z.2))
        · have c4 : so (b k) = 4 := c4
          refine av_wp_sqF ck_82 2 (pc' := 5) (lv' := [some (.inr (.inr (.inl (some (1))))), some (.inl ((k : Int) + (1)))]) (st' := []) (h' := h) rfl ?_
          exact ih (lim - (k + 1)) (by omega) (k + 1) rfl (by omega) (by rw [ek]; exact edn_go (by omega) c4)
  exact blk (lim - t.2.1) t.2.1 rfl (by omega) rfl

set_option maxRecDepth 100000 in
set_option maxHeartbeats 4000000 in
theorem ct_86 {g h : av_H} {b r d : Nat → Int} {lim : Nat} {t : TT} (C : CT b lim t r d h) (F : FT g h) (n : Nat) (hn : n < 20) {Q : Option av_V → av_H → Prop} (hq : ∀ v : Int, (v = pkv b t n ∧ -1 ≤ v ∧ v ≤ 100) → Q (some (.inl v)) h) : av_wp none cd_86 0 [some (.inr (.inr (.inl (some (1))))), some (.inr (.inr (.inr n))), none, none, none, none, none] [] h Q := by
  have g0 := ct_wf C
  have gl := (lit_v n hn).1
  refine av_wp_sqF ck_86 1 (pc' := 1) (lv' := [some (.inr (.inr (.inl (some (1))))), some (.inr (.inr (.inr n))), none, none, none, none, none]) (st' := [.inr (.inr (.inl (some (1))))]) (h' := h) rfl ?_
  refine wq_gi (p' := 4) (ck_86 _ _ rfl) rfl (congrArg Prod.fst (ly_k C.1 1 rfl)) rfl (ct_w C) ?_
  refine av_wp_sqF ck_86 1 (pc' := 5) (lv' := [some (.inr (.inr (.inl (some (1))))), some (.inr (.inr (.inr n))), none, none, none, none, none]) (st' := [.inl (-1), .inl t.2.2.2]) (h' := h) rfl ?_
  refine wq_k2 (p' := 8) (ck_86 _ _ rfl) rfl ⟨by omega, by omega⟩ ⟨by omega, by omega⟩ (fun c1 => ?_) (fun c2 => ?_)
  · have c1 : t.2.2.2 ≠ (-1) := c1
    refine av_wp_sqF ck_86 1 (pc' := 17) (lv' := [some (.inr (.inr (.inl (some (1))))), some (.inr (.inr (.inr n))), none, none, none, none, none]) (st' := [.inl (-1)]) (h' := h) rfl ?_
    refine av_wp_ret (v := some (.inl (-1))) (ck_86 _ _ rfl) rfl rfl ?_
    have z3 : pkv b t n = -1 := if_neg (by omega)
    exact hq _ (by omega)
  · have c2 : t.2.2.2 = (-1) := c2
    refine av_wp_sqF ck_86 1 (pc' := 9) (lv' := [some (.inr (.inr (.inl (some (1))))), some (.inr (.inr (.inr n))), none, none, none, none, none]) (st' := [.inr (.inr (.inl (some (1))))]) (h' := h) rfl ?_
    refine wq_gi (p' := 12) (ck_86 _ _ rfl) rfl (congrArg Prod.fst (ly_k C.1 1 rfl)) rfl (ct_s C) ?_
    refine av_wp_sqF ck_86 1 (pc' := 13) (lv' := [some (.inr (.inr (.inl (some (1))))), some (.inr (.inr (.inr n))), none, none, none, none, none]) (st' := [.inl (1), .inl t.2.2.1]) (h' := h) rfl ?_
    refine wq_k2 (p' := 16) (ck_86 _ _ rfl) rfl ⟨by omega, by omega⟩ ⟨by omega, by omega⟩ (fun c4 => ?_) (fun c5 => ?_)
    · have c4 : t.2.2.1 = (1) := c4
      refine av_wp_sqF ck_86 3 (pc' := 21) (lv' := [some (.inr (.inr (.inl (some (1))))), some (.inr (.inr (.inr n))), some (.inl (0)), none, none, none, none]) (st' := [.inr (.inr (.inl (some (1))))]) (h' := h) rfl ?_
      refine wq_gi (p' := 24) (ck_86 _ _ rfl) rfl (congrArg Prod.fst (ly_k C.1 1 rfl)) rfl (ct_f C) ?_
      refine av_wp_sqF ck_86 3 (pc' := 28) (lv' := [some (.inr (.inr (.inl (some (1))))), some (.inr (.inr (.inr n))), some (.inl (0)), some (.inl (t.1 : Int)), some (.inl (1)), none, none]) (st' := []) (h' := h) rfl ?_
      refine av_wp_sqF ck_86 2 (pc' := 31) (lv' := [some (.inr (.inr (.inl (some (1))))), some (.inr (.inr (.inr n))), some (.inl (0)), some (.inl (t.1 : Int)), some (.inl (1)), some (.inl (0)), none]) (st' := []) (h' := h) rfl ?_
      have L12 : ∀ (m11 : Nat) (k6 : Int) (k7 : Int) (k8 : Int) (k9 : Int) (a10 : Option av_V), av_lg a10 = false → PKI b t.1 t.2.1 (av_lit n) (pkf b t.1 t.2.1 (av_lit n) 0 t.1 true) k9 k6 k7 k8 → k6 ≤ k9 → k9 ≤ ((av_lit n).length : Int) + 1 → k7 ≤ (t.1 : Int) + k9 → (0 ≤ k6 ∧ k6 ≤ 61) → (0 ≤ k7 ∧ k7 ≤ 961) → (0 ≤ k8 ∧ k8 ≤ 1) → (0 ≤ k9 ∧ k9 ≤ 61) → (62 - k9).toNat = m11 → av_wp none cd_86 31 [some (.inr (.inr (.inl (some (1))))), some (.inr (.inr (.inr n))), some (.inl k6), some (.inl k7), some (.inl k8), some (.inl k9), a10] [] h Q := by
        intro m11
        induction m11 using Nat.strongRecOn with
        | _ m11 I13 =>
          intro k6 k7 k8 k9 a10 g15 g16 g17 g18 g19 g20 g21 g22 g23 e14
          have la10 := g15
          refine av_wp_sqF ck_86 2 (pc' := 34) (lv' := [some (.inr (.inr (.inl (some (1))))), some (.inr (.inr (.inr n))), some (.inl k6), some (.inl k7), some (.inl k8), some (.inl k9), a10]) (st' := [.inr (.inr (.inr n)), .inl k9]) (h' := h) rfl ?_
          refine wq_sl (p' := 37) (ck_86 _ _ rfl) rfl rfl (fun _ _ => rfl) rfl hn ?_
          refine wq_k2 (p' := 40) (ck_86 _ _ rfl) rfl ⟨by omega, by omega⟩ ⟨by omega, by omega⟩ (fun c24 => ?_) (fun c25 => ?_)
          · have c24 : ((av_lit n).length : Int) < k9 := c24
            refine av_wp_sqF ck_86 1 (pc' := 139) (lv' := [some (.inr (.inr (.inl (some (1))))), some (.inr (.inr (.inr n))), some (.inl k6), some (.inl k7), some (.inl k8), some (.inl k9), a10]) (st' := [.inl (-1)]) (h' := h) rfl ?_
            refine av_wp_ret (v := some (.inl (-1))) (ck_86 _ _ rfl) rfl rfl ?_
            have z26 : pkv b t n = -1 := (if_pos (by omega)).trans (PKI_x g16 (by omega))
            exact hq _ (by omega)
          · have c25 : k9 ≤ ((av_lit n).length : Int) := c25
            refine av_wp_sqF ck_86 2 (pc' := 43) (lv' := [some (.inr (.inr (.inl (some (1))))), some (.inr (.inr (.inr n))), some (.inl k6), some (.inl k7), some (.inl k8), some (.inl k9), a10]) (st' := [.inr (.inr (.inr n)), .inl k9]) (h' := h) rfl ?_
            refine wq_sl (p' := 46) (ck_86 _ _ rfl) rfl rfl (fun _ _ => rfl) rfl hn ?_
            refine wq_k2 (p' := 49) (ck_86 _ _ rfl) rfl ⟨by omega, by omega⟩ ⟨by omega, by omega⟩ (fun c27 => ?_) (fun c28 => ?_)
            · have c27 : ((av_lit n).length : Int) ≤ k9 := c27
              refine av_wp_sqF ck_86 1 (pc' := 60) (lv' := [some (.inr (.inr (.inl (some (1))))), some (.inr (.inr (.inr n))), some (.inl k6), some (.inl k7), some (.inl k8), some (.inl k9), a10]) (st' := [.inl (32)]) (h' := h) rfl ?_
              have z29 : sgn (av_lit n) k9 = 32 := if_neg (by omega)
              refine av_wp_sqF ck_86 5 (pc' := 108) (lv' := [some (.inr (.inr (.inl (some (1))))), some (.inr (.inr (.inr n))), some (.inl k6), some (.inl k7), some (.inl k8), some (.inl k9), some (.inl (32))]) (st' := [.inl k8]) (h' := h) rfl ?_
              refine wq_k1 (p' := 111) (ck_86 _ _ rfl) rfl ⟨by omega, by omega⟩ (fun c30 => ?_) (fun c31 => ?_)
              · have c30 : k8 = (0) := c30
                have z32 : PKI b t.1 t.2.1 (av_lit n) (pkf b t.1 t.2.1 (av_lit n) 0 t.1 true) (k9 + 1) (k6 + 1) (t.1 : Int) 1 := PKI_miss g16 (by omega) (by omega) (by omega) (by first | omega | exact z29) (by omega)
                refine av_wp_sqF ck_86 2 (pc' := 125) (lv' := [some (.inr (.inr (.inl (some (1))))), some (.inr (.inr (.inr n))), some (.inl (k6 + (1))), some (.inl k7), some (.inl k8), some (.inl k9), some (.inl (32))]) (st' := [.inr (.inr (.inl (some (1))))]) (h' := h) rfl ?_
                refine wq_gi (p' := 128) (ck_86 _ _ rfl) rfl (congrArg Prod.fst (ly_k C.1 1 rfl)) rfl (ct_f C) ?_
                refine av_wp_sqF ck_86 5 (pc' := 31) (lv' := [some (.inr (.inr (.inl (some (1))))), some (.inr (.inr (.inr n))), some (.inl (k6 + (1))), some (.inl (t.1 : Int)), some (.inl (1)), some (.inl (k9 + (1))), some (.inl (32))]) (st' := []) (h' := h) rfl ?_
                exact I13 _ (by omega) ((k6 + (1))) ((t.1 : Int)) ((1)) ((k9 + (1))) (some (.inl (32))) rfl z32 (by omega) (by omega) (by omega) (by omega) (by omega) (by omega) (by omega) rfl
              · have c31 : k8 ≠ (0) := c31
                refine av_wp_sqF ck_86 2 (pc' := 113) (lv' := [some (.inr (.inr (.inl (some (1))))), some (.inr (.inr (.inr n))), some (.inl k6), some (.inl k7), some (.inl k8), some (.inl k9), some (.inl (32))]) (st' := [.inr (.inr (.inl (some (1)))), .inl k7]) (h' := h) rfl ?_
                refine wq_gi (p' := 116) (ck_86 _ _ rfl) rfl (congrArg Prod.fst (ly_k C.1 1 rfl)) rfl (ct_p C) ?_
                refine wq_k2 (p' := 119) (ck_86 _ _ rfl) rfl ⟨by omega, by omega⟩ ⟨by omega, by omega⟩ (fun c33 => ?_) (fun c34 => ?_)
                · have c33 : k7 ≠ (t.2.1 : Int) := c33
                  have z35 : PKI b t.1 t.2.1 (av_lit n) (pkf b t.1 t.2.1 (av_lit n) 0 t.1 true) (k9 + 1) (k6 + 1) (t.1 : Int) 1 := PKI_miss g16 (by omega) (by omega) (by omega) (by first | omega | exact z29) (by omega)
                  refine av_wp_sqF ck_86 2 (pc' := 125) (lv' := [some (.inr (.inr (.inl (some (1))))), some (.inr (.inr (.inr n))), some (.inl (k6 + (1))), some (.inl k7), some (.inl k8), some (.inl k9), some (.inl (32))]) (st' := [.inr (.inr (.inl (some (1))))]) (h' := h) rfl ?_
                  refine wq_gi (p' := 128) (ck_86 _ _ rfl) rfl (congrArg Prod.fst (ly_k C.1 1 rfl)) rfl (ct_f C) ?_
                  refine av_wp_sqF ck_86 5 (pc' := 31) (lv' := [some (.inr (.inr (.inl (some (1))))), some (.inr (.inr (.inr n))), some (.inl (k6 + (1))), some (.inl (t.1 : Int)), some (.inl (1)), some (.inl (k9 + (1))), some (.inl (32))]) (st' := []) (h' := h) rfl ?_
                  exact I13 _ (by omega) ((k6 + (1))) ((t.1 : Int)) ((1)) ((k9 + (1))) (some (.inl (32))) rfl z35 (by omega) (by omega) (by omega) (by omega) (by omega) (by omega) (by omega) rfl
                · have c34 : k7 = (t.2.1 : Int) := c34
                  refine av_wp_sqF ck_86 1 (pc' := 120) (lv' := [some (.inr (.inr (.inl (some (1))))), some (.inr (.inr (.inr n))), some (.inl k6), some (.inl k7), some (.inl k8), some (.inl k9), some (.inl (32))]) (st' := [.inl k6]) (h' := h) rfl ?_
                  refine av_wp_ret (v := some (.inl k6)) (ck_86 _ _ rfl) rfl rfl ?_
                  have z36 : pkv b t n = k6 := (if_pos (by omega)).trans (PKI_hit g16 (by omega) (by omega) (by omega) (by first | omega | exact z29) (by omega) (by omega)).symm
                  exact hq _ (by omega)
            · have c28 : k9 < ((av_lit n).length : Int) := c28
              refine av_wp_sqF ck_86 2 (pc' := 52) (lv' := [some (.inr (.inr (.inl (some (1))))), some (.inr (.inr (.inr n))), some (.inl k6), some (.inl k7), some (.inl k8), some (.inl k9), a10]) (st' := [.inl k9, .inr (.inr (.inr n))]) (h' := h) rfl ?_
              refine wq_sc (p' := 55) (ck_86 _ _ rfl) rfl rfl (fun _ _ => rfl) rfl hn (by omega) ?_
              have g37 := sgn_r hn k9
              refine av_wp_sqF ck_86 1 (pc' := 60) (lv' := [some (.inr (.inr (.inl (some (1))))), some (.inr (.inr (.inr n))), some (.inl k6), some (.inl k7), some (.inl k8), some (.inl k9), a10]) (st' := [.inl (sgn (av_lit n) k9)]) (h' := h) rfl ?_
              refine av_wp_sqF ck_86 3 (pc' := 66) (lv' := [some (.inr (.inr (.inl (some (1))))), some (.inr (.inr (.inr n))), some (.inl k6), some (.inl k7), some (.inl k8), some (.inl k9), some (.inl (sgn (av_lit n) k9))]) (st' := [.inl (32), .inl (sgn (av_lit n) k9)]) (h' := h) rfl ?_
              refine wq_k2 (p' := 69) (ck_86 _ _ rfl) rfl ⟨by omega, by omega⟩ ⟨by omega, by omega⟩ (fun c38 => ?_) (fun c39 => ?_)
              · have c38 : (sgn (av_lit n) k9) = (32) := c38
                refine av_wp_sqF ck_86 1 (pc' := 108) (lv' := [some (.inr (.inr (.inl (some (1))))), some (.inr (.inr (.inr n))), some (.inl k6), some (.inl k7), some (.inl k8), some (.inl k9), some (.inl (sgn (av_lit n) k9))]) (st' := [.inl k8]) (h' := h) rfl ?_
                refine wq_k1 (p' := 111) (ck_86 _ _ rfl) rfl ⟨by omega, by omega⟩ (fun c40 => ?_) (fun c41 => ?_)
                · have c40 : k8 = (0) := c40
                  have z42 : PKI b t.1 t.2.1 (av_lit n) (pkf b t.1 t.2.1 (av_lit n) 0 t.1 true) (k9 + 1) (k6 + 1) (t.1 : Int) 1 := PKI_miss g16 (by omega) (by omega) (by omega) (by omega) (by omega)
                  refine av_wp_sqF ck_86 2 (pc' := 125) (lv' := [some (.inr (.inr (.inl (some (1))))), some (.inr (.inr (.inr n))), some (.inl (k6 + (1))), some (.inl k7), some (.inl k8), some (.inl k9), some (.inl (sgn (av_lit n) k9))]) (st' := [.inr (.inr (.inl (some (1))))]) (h' := h) rfl ?_
                  refine wq_gi (p' := 128) (ck_86 _ _ rfl) rfl (congrArg Prod.fst (ly_k C.1 1 rfl)) rfl (ct_f C) ?_
                  refine av_wp_sqF ck_86 5 (pc' := 31) (lv' := [some (.inr (.inr (.inl (some (1))))), some (.inr (.inr (.inr n))), some (.inl (k6 + (1))), some (.inl (t.1 : Int)), some (.inl (1)), some (.inl (k9 + (1))), some (.inl (sgn (av_lit n) k9))]) (st' := []) (h' := h) rfl ?_
                  exact I13 _ (by omega) ((k6 + (1))) ((t.1 : Int)) ((1)) ((k9 + (1))) (some (.inl (sgn (av_lit n) k9))) rfl z42 (by omega) (by omega) (by omega) (by omega) (by omega) (by omega) (by omega) rfl
                · have c41 : k8 ≠ (0) := c41
                  refine av_wp_sqF ck_86 2 (pc' := 113) (lv' := [some (.inr (.inr (.inl (some (1))))), some (.inr (.inr (.inr n))), some (.inl k6), some (.inl k7), some (.inl k8), some (.inl k9), some (.inl (sgn (av_lit n) k9))]) (st' := [.inr (.inr (.inl (some (1)))), .inl k7]) (h' := h) rfl ?_
                  refine wq_gi (p' := 116) (ck_86 _ _ rfl) rfl (congrArg Prod.fst (ly_k C.1 1 rfl)) rfl (ct_p C) ?_
                  refine wq_k2 (p' := 119) (ck_86 _ _ rfl) rfl ⟨by omega, by omega⟩ ⟨by omega, by omega⟩ (fun c43 => ?_) (fun c44 => ?_)
                  · have c43 : k7 ≠ (t.2.1 : Int) := c43
                    have z45 : PKI b t.1 t.2.1 (av_lit n) (pkf b t.1 t.2.1 (av_lit n) 0 t.1 true) (k9 + 1) (k6 + 1) (t.1 : Int) 1 := PKI_miss g16 (by omega) (by omega) (by omega) (by omega) (by omega)
                    refine av_wp_sqF ck_86 2 (pc' := 125) (lv' := [some (.inr (.inr (.inl (some (1))))), some (.inr (.inr (.inr n))), some (.inl (k6 + (1))), some (.inl k7), some (.inl k8), some (.inl k9), some (.inl (sgn (av_lit n) k9))]) (st' := [.inr (.inr (.inl (some (1))))]) (h' := h) rfl ?_
                    refine wq_gi (p' := 128) (ck_86 _ _ rfl) rfl (congrArg Prod.fst (ly_k C.1 1 rfl)) rfl (ct_f C) ?_
                    refine av_wp_sqF ck_86 5 (pc' := 31) (lv' := [some (.inr (.inr (.inl (some (1))))), some (.inr (.inr (.inr n))), some (.inl (k6 + (1))), some (.inl (t.1 : Int)), some (.inl (1)), some (.inl (k9 + (1))), some (.inl (sgn (av_lit n) k9))]) (st' := []) (h' := h) rfl ?_
                    exact I13 _ (by omega) ((k6 + (1))) ((t.1 : Int)) ((1)) ((k9 + (1))) (some (.inl (sgn (av_lit n) k9))) rfl z45 (by omega) (by omega) (by omega) (by omega) (by omega) (by omega) (by omega) rfl
                  · have c44 : k7 = (t.2.1 : Int) := c44
                    refine av_wp_sqF ck_86 1 (pc' := 120) (lv' := [some (.inr (.inr (.inl (some (1))))), some (.inr (.inr (.inr n))), some (.inl k6), some (.inl k7), some (.inl k8), some (.inl k9), some (.inl (sgn (av_lit n) k9))]) (st' := [.inl k6]) (h' := h) rfl ?_
                    refine av_wp_ret (v := some (.inl k6)) (ck_86 _ _ rfl) rfl rfl ?_
                    have z46 : pkv b t n = k6 := (if_pos (by omega)).trans (PKI_hit g16 (by omega) (by omega) (by omega) (by omega) (by omega) (by omega)).symm
                    exact hq _ (by omega)
              · have c39 : (sgn (av_lit n) k9) ≠ (32) := c39
                refine av_wp_sqF ck_86 1 (pc' := 71) (lv' := [some (.inr (.inr (.inl (some (1))))), some (.inr (.inr (.inr n))), some (.inl k6), some (.inl k7), some (.inl k8), some (.inl k9), some (.inl (sgn (av_lit n) k9))]) (st' := [.inl k8]) (h' := h) rfl ?_
                refine wq_k1 (p' := 74) (ck_86 _ _ rfl) rfl ⟨by omega, by omega⟩ (fun c47 => ?_) (fun c48 => ?_)
                · have c47 : k8 = (0) := c47
                  refine av_wp_sqF ck_86 1 (pc' := 98) (lv' := [some (.inr (.inr (.inl (some (1))))), some (.inr (.inr (.inr n))), some (.inl k6), some (.inl k7), some (.inl k8), some (.inl k9), some (.inl (sgn (av_lit n) k9))]) (st' := [.inl (0)]) (h' := h) rfl ?_
                  have z49 : PKI b t.1 t.2.1 (av_lit n) (pkf b t.1 t.2.1 (av_lit n) 0 t.1 true) (k9 + 1) k6 (k7 + 1) (0) := PKI_char g16 (by omega) (by omega) (by omega) (by omega) (by right; refine ⟨by omega, fun z => ?_⟩; have z1 := z.1; have z2 := z.2.1; have z3 := z.2.2; omega)
                  refine av_wp_sqF ck_86 5 (pc' := 31) (lv' := [some (.inr (.inr (.inl (some (1))))), some (.inr (.inr (.inr n))), some (.inl k6), some (.inl (k7 + (1))), some (.inl (0)), some (.inl (k9 + (1))), some (.inl (sgn (av_lit n) k9))]) (st' := []) (h' := h) rfl ?_
                  exact I13 _ (by omega) (k6) ((k7 + (1))) ((0)) ((k9 + (1))) (some (.inl (sgn (av_lit n) k9))) rfl z49 (by omega) (by omega) (by omega) (by omega) (by omega) (by omega) (by omega) rfl
                · have c48 : k8 ≠ (0) := c48
                  refine av_wp_sqF ck_86 2 (pc' := 76) (lv' := [some (.inr (.inr (.inl (some (1))))), some (.inr (.inr (.inr n))), some (.inl k6), some (.inl k7), some (.inl k8), some (.inl k9), some (.inl (sgn (av_lit n) k9))]) (st' := [.inr (.inr (.inl (some (1)))), .inl k7]) (h' := h) rfl ?_
                  refine wq_gi (p' := 79) (ck_86 _ _ rfl) rfl (congrArg Prod.fst (ly_k C.1 1 rfl)) rfl (ct_p C) ?_
                  refine wq_k2 (p' := 82) (ck_86 _ _ rfl) rfl ⟨by omega, by omega⟩ ⟨by omega, by omega⟩ (fun c50 => ?_) (fun c51 => ?_)
                  · have c50 : (t.2.1 : Int) ≤ k7 := c50
                    refine av_wp_sqF ck_86 1 (pc' := 98) (lv' := [some (.inr (.inr (.inl (some (1))))), some (.inr (.inr (.inr n))), some (.inl k6), some (.inl k7), some (.inl k8), some (.inl k9), some (.inl (sgn (av_lit n) k9))]) (st' := [.inl (0)]) (h' := h) rfl ?_
                    have z52 : PKI b t.1 t.2.1 (av_lit n) (pkf b t.1 t.2.1 (av_lit n) 0 t.1 true) (k9 + 1) k6 (k7 + 1) (0) := PKI_char g16 (by omega) (by omega) (by omega) (by omega) (by right; refine ⟨by omega, fun z => ?_⟩; have z1 := z.1; have z2 := z.2.1; have z3 := z.2.2; omega)
                    refine av_wp_sqF ck_86 5 (pc' := 31) (lv' := [some (.inr (.inr (.inl (some (1))))), some (.inr (.inr (.inr n))), some (.inl k6), some (.inl (k7 + (1))), some (.inl (0)), some (.inl (k9 + (1))), some (.inl (sgn (av_lit n) k9))]) (st' := []) (h' := h) rfl ?_
                    exact I13 _ (by omega) (k6) ((k7 + (1))) ((0)) ((k9 + (1))) (some (.inl (sgn (av_lit n) k9))) rfl z52 (by omega) (by omega) (by omega) (by omega) (by omega) (by omega) (by omega) rfl
                  · have c51 : k7 < (t.2.1 : Int) := c51
                    refine av_wp_sqF ck_86 1 (pc' := 83) (lv' := [some (.inr (.inr (.inl (some (1))))), some (.inr (.inr (.inr n))), some (.inl k6), some (.inl k7), some (.inl k8), some (.inl k9), some (.inl (sgn (av_lit n) k9))]) (st' := [.inr (.inr (.inl (some (1))))]) (h' := h) rfl ?_
                    refine wq_gr (p' := 86) (ck_86 _ _ rfl) rfl (congrArg Prod.fst (ly_k C.1 1 rfl)) rfl (ly_g C.1 1 0 2 rfl) ?_
                    refine av_wp_sqF ck_86 1 (pc' := 87) (lv' := [some (.inr (.inr (.inl (some (1))))), some (.inr (.inr (.inr n))), some (.inl k6), some (.inl k7), some (.inl k8), some (.inl k9), some (.inl (sgn (av_lit n) k9))]) (st' := [.inl k7, .inr (.inr (.inl (some (2))))]) (h' := h) rfl ?_
                    obtain ⟨v53, e54⟩ : ∃ v, hA h 2 (Int.toNat (k7)) = v := ⟨_, rfl⟩
                    have e56 : b (Int.toNat (k7)) = v53 := (congrFun (ct_b C).symm _).trans e54
                    have g55 := ct_bv C (Int.toNat (k7))
                    rw [e56] at g55
                    refine wq_bl (p' := 88) (n := 900) (ck_86 _ _ rfl) rfl ((Or.inl (ly_k C.1 2 rfl))) (by omega) (e54) ?_
                    refine av_wp_sqF ck_86 1 (pc' := 90) (lv' := [some (.inr (.inr (.inl (some (1))))), some (.inr (.inr (.inr n))), some (.inl k6), some (.inl k7), some (.inl k8), some (.inl k9), some (.inl (sgn (av_lit n) k9))]) (st' := [.inl (sgn (av_lit n) k9), .inl v53]) (h' := h) rfl ?_
                    refine wq_k2 (p' := 93) (ck_86 _ _ rfl) rfl ⟨by omega, by omega⟩ ⟨by omega, by omega⟩ (fun c57 => ?_) (fun c58 => ?_)
                    · have c57 : v53 ≠ (sgn (av_lit n) k9) := c57
                      refine av_wp_sqF ck_86 1 (pc' := 98) (lv' := [some (.inr (.inr (.inl (some (1))))), some (.inr (.inr (.inr n))), some (.inl k6), some (.inl k7), some (.inl k8), some (.inl k9), some (.inl (sgn (av_lit n) k9))]) (st' := [.inl (0)]) (h' := h) rfl ?_
                      have z59 : PKI b t.1 t.2.1 (av_lit n) (pkf b t.1 t.2.1 (av_lit n) 0 t.1 true) (k9 + 1) k6 (k7 + 1) (0) := PKI_char g16 (by omega) (by omega) (by omega) (by omega) (by right; refine ⟨by omega, fun z => ?_⟩; have z1 := z.1; have z2 := z.2.1; have z3 := z.2.2; rw [e56] at z3; omega)
                      refine av_wp_sqF ck_86 5 (pc' := 31) (lv' := [some (.inr (.inr (.inl (some (1))))), some (.inr (.inr (.inr n))), some (.inl k6), some (.inl (k7 + (1))), some (.inl (0)), some (.inl (k9 + (1))), some (.inl (sgn (av_lit n) k9))]) (st' := []) (h' := h) rfl ?_
                      exact I13 _ (by omega) (k6) ((k7 + (1))) ((0)) ((k9 + (1))) (some (.inl (sgn (av_lit n) k9))) rfl z59 (by omega) (by omega) (by omega) (by omega) (by omega) (by omega) (by omega) rfl
                    · have c58 : v53 = (sgn (av_lit n) k9) := c58
                      refine av_wp_sqF ck_86 2 (pc' := 98) (lv' := [some (.inr (.inr (.inl (some (1))))), some (.inr (.inr (.inr n))), some (.inl k6), some (.inl k7), some (.inl k8), some (.inl k9), some (.inl (sgn (av_lit n) k9))]) (st' := [.inl (1)]) (h' := h) rfl ?_
                      have z60 : PKI b t.1 t.2.1 (av_lit n) (pkf b t.1 t.2.1 (av_lit n) 0 t.1 true) (k9 + 1) k6 (k7 + 1) (1) := PKI_char g16 (by omega) (by omega) (by omega) (by omega) (by left; refine ⟨by omega, by omega, by omega, ?_⟩; rw [e56]; omega)
                      refine av_wp_sqF ck_86 5 (pc' := 31) (lv' := [some (.inr (.inr (.inl (some (1))))), some (.inr (.inr (.inr n))), some (.inl k6), some (.inl (k7 + (1))), some (.inl (1)), some (.inl (k9 + (1))), some (.inl (sgn (av_lit n) k9))]) (st' := []) (h' := h) rfl ?_
                      exact I13 _ (by omega) (k6) ((k7 + (1))) ((1)) ((k9 + (1))) (some (.inl (sgn (av_lit n) k9))) rfl z60 (by omega) (by omega) (by omega) (by omega) (by omega) (by omega) (by omega) rfl
      exact L12 _ ((0)) ((t.1 : Int)) ((1)) ((0)) (none) rfl PKI_0 (by omega) (by omega) (by omega) (by omega) (by omega) (by omega) (by omega) rfl
    · have c5 : t.2.2.1 ≠ (1) := c5
      refine av_wp_sqF ck_86 1 (pc' := 17) (lv' := [some (.inr (.inr (.inl (some (1))))), some (.inr (.inr (.inr n))), none, none, none, none, none]) (st' := [.inl (-1)]) (h' := h) rfl ?_
      refine av_wp_ret (v := some (.inl (-1))) (ck_86 _ _ rfl) rfl rfl ?_
      have z61 : pkv b t n = -1 := if_neg (by omega)
      exact hq _ (by omega)

set_option maxRecDepth 100000 in
set_option maxHeartbeats 4000000 in
theorem ct_87 {g h : av_H} {b r d : Nat → Int} {lim : Nat} {t : TT} (C : CT b lim t r d h) (F : FT g h) (n : Nat) (hn : n < 20) {Q : Option av_V → av_H → Prop} (hq : ∀ (v : Int) h', (v = pkv b t n ∧ -1 ≤ v ∧ v ≤ 100) → CT b lim (cho b lim t n) r d h' → FT g h' → Q (some (.inl v)) h') : av_wp none cd_87 0 [some (.inr (.inr (.inl (some (1))))), some (.inr (.inr (.inr n))), none] [] h Q := by
  have g0 := ct_wf C
  refine av_wp_sqF ck_87 2 (pc' := 2) (lv' := [some (.inr (.inr (.inl (some (1))))), some (.inr (.inr (.inr n))), none]) (st' := [.inr (.inr (.inr n)), .inr (.inr (.inl (some (1))))]) (h' := h) rfl ?_
  refine wq_cv (p' := 5) (av_qc (.invokevirtual 54) 86 1 0 6) 7 cd_86 [.inr (.inr (.inr n))] (1) 6 [some (.inr (.inr (.inl (some (1))))), some (.inr (.inr (.inr n))), none, none, none, none, none] (ck_87 _ _ rfl) rfl rfl pp_86 rfl rfl rfl (congrArg Prod.fst (ly_k C.1 1 rfl)) rfl rfl rfl rfl ?_
  refine ct_86 C F n hn (fun v1 p2 => ?_)
  show av_wp _ cd_87 5 [some (.inr (.inr (.inl (some (1))))), some (.inr (.inr (.inr n))), none] [.inl v1] h _
  refine av_wp_sqF ck_87 3 (pc' := 8) (lv' := [some (.inr (.inr (.inl (some (1))))), some (.inr (.inr (.inr n))), some (.inl v1)]) (st' := [.inl (-1), .inl v1]) (h' := h) rfl ?_
  refine wq_k2 (p' := 11) (ck_87 _ _ rfl) rfl ⟨by omega, by omega⟩ ⟨by omega, by omega⟩ (fun c3 => ?_) (fun c4 => ?_)
  · have c3 : v1 ≠ (-1) := c3
    refine av_wp_sqF ck_87 1 (pc' := 19) (lv' := [some (.inr (.inr (.inl (some (1))))), some (.inr (.inr (.inr n))), some (.inl v1)]) (st' := [.inr (.inr (.inl (some (1))))]) (h' := h) rfl ?_
    refine wq_cv (p' := 22) (av_qc (.invokevirtual 38) 82 0 0 6) 2 cd_82 [] (1) 6 [some (.inr (.inr (.inl (some (1))))), none] (ck_87 _ _ rfl) rfl rfl pp_82 rfl rfl rfl (congrArg Prod.fst (ly_k C.1 1 rfl)) rfl rfl rfl rfl ?_
    refine ct_82 C F (fun h5 C6 F7 => ?_)
    have g8 := ct_wf C6
    show av_wp _ cd_87 22 [some (.inr (.inr (.inl (some (1))))), some (.inr (.inr (.inr n))), some (.inl v1)] [] h5 _
    refine av_wp_sqF ck_87 1 (pc' := 23) (lv' := [some (.inr (.inr (.inl (some (1))))), some (.inr (.inr (.inr n))), some (.inl v1)]) (st' := [.inl v1]) (h' := h5) rfl ?_
    refine av_wp_ret (v := some (.inl v1)) (ck_87 _ _ rfl) rfl rfl ?_
    exact hq _ h5 (by omega) (by unfold cho; (repeat' split) <;> first | assumption | (exfalso; omega)) F7
  · have c4 : v1 = (-1) := c4
    refine av_wp_sqF ck_87 1 (pc' := 12) (lv' := [some (.inr (.inr (.inl (some (1))))), some (.inr (.inr (.inr n))), some (.inl v1)]) (st' := [.inr (.inr (.inl (some (1))))]) (h' := h) rfl ?_
    refine wq_cv (p' := 15) (av_qc (.invokevirtual 58) 85 0 0 6) 1 cd_85 [] (1) 6 [some (.inr (.inr (.inl (some (1)))))] (ck_87 _ _ rfl) rfl rfl pp_85 rfl rfl rfl (congrArg Prod.fst (ly_k C.1 1 rfl)) rfl rfl rfl rfl ?_
    refine ct_85 C F (fun h9 C10 F11 => ?_)
    have g12 := ct_wf C10
    show av_wp _ cd_87 15 [some (.inr (.inr (.inl (some (1))))), some (.inr (.inr (.inr n))), some (.inl v1)] [] h9 _
    refine av_wp_sqF ck_87 2 (pc' := 23) (lv' := [some (.inr (.inr (.inl (some (1))))), some (.inr (.inr (.inr n))), some (.inl v1)]) (st' := [.inl v1]) (h' := h9) rfl ?_
    refine av_wp_ret (v := some (.inl v1)) (ck_87 _ _ rfl) rfl rfl ?_
    exact hq _ h9 (by omega) (by unfold cho; (repeat' split) <;> first | assumption | (exfalso; omega)) F11

set_option maxRecDepth 100000 in
set_option maxHeartbeats 4000000 in
theorem ct_89 {g h : av_H} {b r d : Nat → Int} {lim : Nat} {t : TT} (C : CT b lim t r d h) (F : FT g h) (n : Nat) (hn : n < 20) {Q : Option av_V → av_H → Prop} (hq : ∀ h', CT b lim (cho b lim t n) r d h' → FT g h' → Q none h') : av_wp none cd_89 0 [some (.inr (.inr (.inl (some (1))))), some (.inr (.inr (.inr n)))] [] h Q := by
  have g0 := ct_wf C
  refine av_wp_sqF ck_89 2 (pc' := 2) (lv' := [some (.inr (.inr (.inl (some (1))))), some (.inr (.inr (.inr n)))]) (st' := [.inr (.inr (.inr n)), .inr (.inr (.inl (some (1))))]) (h' := h) rfl ?_
  refine wq_cv (p' := 5) (av_qc (.invokevirtual 54) 86 1 0 6) 7 cd_86 [.inr (.inr (.inr n))] (1) 6 [some (.inr (.inr (.inl (some (1))))), some (.inr (.inr (.inr n))), none, none, none, none, none] (ck_89 _ _ rfl) rfl rfl pp_86 rfl rfl rfl (congrArg Prod.fst (ly_k C.1 1 rfl)) rfl rfl rfl rfl ?_
  refine ct_86 C F n hn (fun v1 p2 => ?_)
  show av_wp _ cd_89 5 [some (.inr (.inr (.inl (some (1))))), some (.inr (.inr (.inr n)))] [.inl v1] h _
  refine av_wp_sqF ck_89 1 (pc' := 6) (lv' := [some (.inr (.inr (.inl (some (1))))), some (.inr (.inr (.inr n)))]) (st' := [.inl (-1), .inl v1]) (h' := h) rfl ?_
  refine wq_k2 (p' := 9) (ck_89 _ _ rfl) rfl ⟨by omega, by omega⟩ ⟨by omega, by omega⟩ (fun c3 => ?_) (fun c4 => ?_)
  · have c3 : v1 ≠ (-1) := c3
    refine av_wp_sqF ck_89 1 (pc' := 17) (lv' := [some (.inr (.inr (.inl (some (1))))), some (.inr (.inr (.inr n)))]) (st' := [.inr (.inr (.inl (some (1))))]) (h' := h) rfl ?_
    refine wq_cv (p' := 20) (av_qc (.invokevirtual 38) 82 0 0 6) 2 cd_82 [] (1) 6 [some (.inr (.inr (.inl (some (1))))), none] (ck_89 _ _ rfl) rfl rfl pp_82 rfl rfl rfl (congrArg Prod.fst (ly_k C.1 1 rfl)) rfl rfl rfl rfl ?_
    refine ct_82 C F (fun h5 C6 F7 => ?_)
    have g8 := ct_wf C6
    show av_wp _ cd_89 20 [some (.inr (.inr (.inl (some (1))))), some (.inr (.inr (.inr n)))] [] h5 _
    refine av_wp_ret (v := none) (ck_89 _ _ rfl) rfl rfl ?_
    exact hq h5 (by unfold cho; (repeat' split) <;> first | assumption | (exfalso; omega)) F7
  · have c4 : v1 = (-1) := c4
    refine av_wp_sqF ck_89 1 (pc' := 10) (lv' := [some (.inr (.inr (.inl (some (1))))), some (.inr (.inr (.inr n)))]) (st' := [.inr (.inr (.inl (some (1))))]) (h' := h) rfl ?_
    refine wq_cv (p' := 13) (av_qc (.invokevirtual 58) 85 0 0 6) 1 cd_85 [] (1) 6 [some (.inr (.inr (.inl (some (1)))))] (ck_89 _ _ rfl) rfl rfl pp_85 rfl rfl rfl (congrArg Prod.fst (ly_k C.1 1 rfl)) rfl rfl rfl rfl ?_
    refine ct_85 C F (fun h9 C10 F11 => ?_)
    have g12 := ct_wf C10
    show av_wp _ cd_89 13 [some (.inr (.inr (.inl (some (1))))), some (.inr (.inr (.inr n)))] [] h9 _
    refine av_wp_sqF ck_89 1 (pc' := 20) (lv' := [some (.inr (.inr (.inl (some (1))))), some (.inr (.inr (.inr n)))]) (st' := []) (h' := h9) rfl ?_
    refine av_wp_ret (v := none) (ck_89 _ _ rfl) rfl rfl ?_
    exact hq h9 (by unfold cho; (repeat' split) <;> first | assumption | (exfalso; omega)) F11

set_option maxRecDepth 100000 in
set_option maxHeartbeats 4000000 in
theorem ct_90 {g h : av_H} {b r d : Nat → Int} {lim : Nat} {t : TT} (C : CT b lim t r d h) (F : FT g h)  {Q : Option av_V → av_H → Prop} (hq : ∀ h', CT b lim (sem b lim t) r d h' → FT g h' → Q none h') : av_wp none cd_90 0 [some (.inr (.inr (.inl (some (1)))))] [] h Q := by
  have g0 := ct_wf C
  refine av_wp_sqF ck_90 1 (pc' := 1) (lv' := [some (.inr (.inr (.inl (some (1)))))]) (st' := [.inr (.inr (.inl (some (1))))]) (h' := h) rfl ?_
  refine wq_gi (p' := 4) (ck_90 _ _ rfl) rfl (congrArg Prod.fst (ly_k C.1 1 rfl)) rfl (ct_w C) ?_
  refine av_wp_sqF ck_90 1 (pc' := 5) (lv' := [some (.inr (.inr (.inl (some (1)))))]) (st' := [.inl (-1), .inl t.2.2.2]) (h' := h) rfl ?_
  refine wq_k2 (p' := 8) (ck_90 _ _ rfl) rfl ⟨by omega, by omega⟩ ⟨by omega, by omega⟩ (fun c1 => ?_) (fun c2 => ?_)
  · have c1 : t.2.2.2 ≠ (-1) := c1
    refine av_wp_sqF ck_90 1 (pc' := 24) (lv' := [some (.inr (.inr (.inl (some (1)))))]) (st' := [.inr (.inr (.inl (some (1))))]) (h' := h) rfl ?_
    refine wq_cv (p' := 27) (av_qc (.invokevirtual 58) 85 0 0 6) 1 cd_85 [] (1) 6 [some (.inr (.inr (.inl (some (1)))))] (ck_90 _ _ rfl) rfl rfl pp_85 rfl rfl rfl (congrArg Prod.fst (ly_k C.1 1 rfl)) rfl rfl rfl rfl ?_
    refine ct_85 C F (fun h3 C4 F5 => ?_)
    have g6 := ct_wf C4
    show av_wp _ cd_90 27 [some (.inr (.inr (.inl (some (1)))))] [] h3 _
    refine av_wp_ret (v := none) (ck_90 _ _ rfl) rfl rfl ?_
    exact hq h3 (by unfold sem; (repeat' split) <;> first | assumption | (exfalso; omega)) F5
  · have c2 : t.2.2.2 = (-1) := c2
    refine av_wp_sqF ck_90 1 (pc' := 9) (lv' := [some (.inr (.inr (.inl (some (1)))))]) (st' := [.inr (.inr (.inl (some (1))))]) (h' := h) rfl ?_
    refine wq_gi (p' := 12) (ck_90 _ _ rfl) rfl (congrArg Prod.fst (ly_k C.1 1 rfl)) rfl (ct_s C) ?_
    refine av_wp_sqF ck_90 1 (pc' := 13) (lv' := [some (.inr (.inr (.inl (some (1)))))]) (st' := [.inl (3), .inl t.2.2.1]) (h' := h) rfl ?_
    refine wq_k2 (p' := 16) (ck_90 _ _ rfl) rfl ⟨by omega, by omega⟩ ⟨by omega, by omega⟩ (fun c7 => ?_) (fun c8 => ?_)
    · have c7 : t.2.2.1 ≠ (3) := c7
      refine av_wp_sqF ck_90 1 (pc' := 24) (lv' := [some (.inr (.inr (.inl (some (1)))))]) (st' := [.inr (.inr (.inl (some (1))))]) (h' := h) rfl ?_
      refine wq_cv (p' := 27) (av_qc (.invokevirtual 58) 85 0 0 6) 1 cd_85 [] (1) 6 [some (.inr (.inr (.inl (some (1)))))] (ck_90 _ _ rfl) rfl rfl pp_85 rfl rfl rfl (congrArg Prod.fst (ly_k C.1 1 rfl)) rfl rfl rfl rfl ?_
      refine ct_85 C F (fun h9 C10 F11 => ?_)
      have g12 := ct_wf C10
      show av_wp _ cd_90 27 [some (.inr (.inr (.inl (some (1)))))] [] h9 _
      refine av_wp_ret (v := none) (ck_90 _ _ rfl) rfl rfl ?_
      exact hq h9 (by unfold sem; (repeat' split) <;> first | assumption | (exfalso; omega)) F11
    · have c8 : t.2.2.1 = (3) := c8
      refine av_wp_sqF ck_90 1 (pc' := 17) (lv' := [some (.inr (.inr (.inl (some (1)))))]) (st' := [.inr (.inr (.inl (some (1))))]) (h' := h) rfl ?_
      refine wq_cv (p' := 20) (av_qc (.invokevirtual 38) 82 0 0 6) 2 cd_82 [] (1) 6 [some (.inr (.inr (.inl (some (1))))), none] (ck_90 _ _ rfl) rfl rfl pp_82 rfl rfl rfl (congrArg Prod.fst (ly_k C.1 1 rfl)) rfl rfl rfl rfl ?_
      refine ct_82 C F (fun h13 C14 F15 => ?_)
      have g16 := ct_wf C14
      show av_wp _ cd_90 20 [some (.inr (.inr (.inl (some (1)))))] [] h13 _
      refine av_wp_sqF ck_90 1 (pc' := 27) (lv' := [some (.inr (.inr (.inl (some (1)))))]) (st' := []) (h' := h13) rfl ?_
      refine av_wp_ret (v := none) (ck_90 _ _ rfl) rfl rfl ?_
      exact hq h13 (by unfold sem; (repeat' split) <;> first | assumption | (exfalso; omega)) F15

set_option maxRecDepth 100000 in
set_option maxHeartbeats 4000000 in
theorem ct_91 {g h : av_H} {b r d : Nat → Int} {lim : Nat} {t : TT} (C : CT b lim t r d h) (F : FT g h)  {Q : Option av_V → av_H → Prop} (hq : ∀ v : Int, (v = vlv b t ∧ -100000000 ≤ v ∧ v ≤ 100000000) → Q (some (.inl v)) h) : av_wp none cd_91 0 [some (.inr (.inr (.inl (some (1))))), none, none] [] h Q := by
  have g0 := ct_wf C
  refine av_wp_sqF ck_91 1 (pc' := 1) (lv' := [some (.inr (.inr (.inl (some (1))))), none, none]) (st' := [.inr (.inr (.inl (some (1))))]) (h' := h) rfl ?_
  refine wq_gi (p' := 4) (ck_91 _ _ rfl) rfl (congrArg Prod.fst (ly_k C.1 1 rfl)) rfl (ct_w C) ?_
  refine av_wp_sqF ck_91 1 (pc' := 5) (lv' := [some (.inr (.inr (.inl (some (1))))), none, none]) (st' := [.inl (-1), .inl t.2.2.2]) (h' := h) rfl ?_
  refine wq_k2 (p' := 8) (ck_91 _ _ rfl) rfl ⟨by omega, by omega⟩ ⟨by omega, by omega⟩ (fun c1 => ?_) (fun c2 => ?_)
  · have c1 : t.2.2.2 ≠ (-1) := c1
    refine av_wp_sqF ck_91 1 (pc' := 30) (lv' := [some (.inr (.inr (.inl (some (1))))), none, none]) (st' := [.inl (-1)]) (h' := h) rfl ?_
    refine av_wp_ret (v := some (.inl (-1))) (ck_91 _ _ rfl) rfl rfl ?_
    have z3 : vlv b t = -1 := if_neg (by omega)
    exact hq _ (by omega)
  · have c2 : t.2.2.2 = (-1) := c2
    refine av_wp_sqF ck_91 1 (pc' := 9) (lv' := [some (.inr (.inr (.inl (some (1))))), none, none]) (st' := [.inr (.inr (.inl (some (1))))]) (h' := h) rfl ?_
    refine wq_gi (p' := 12) (ck_91 _ _ rfl) rfl (congrArg Prod.fst (ly_k C.1 1 rfl)) rfl (ct_s C) ?_
    refine av_wp_sqF ck_91 1 (pc' := 13) (lv' := [some (.inr (.inr (.inl (some (1))))), none, none]) (st' := [.inl (2), .inl t.2.2.1]) (h' := h) rfl ?_
    refine wq_k2 (p' := 16) (ck_91 _ _ rfl) rfl ⟨by omega, by omega⟩ ⟨by omega, by omega⟩ (fun c4 => ?_) (fun c5 => ?_)
    · have c4 : t.2.2.1 ≠ (2) := c4
      refine av_wp_sqF ck_91 1 (pc' := 30) (lv' := [some (.inr (.inr (.inl (some (1))))), none, none]) (st' := [.inl (-1)]) (h' := h) rfl ?_
      refine av_wp_ret (v := some (.inl (-1))) (ck_91 _ _ rfl) rfl rfl ?_
      have z6 : vlv b t = -1 := if_neg (by omega)
      exact hq _ (by omega)
    · have c5 : t.2.2.1 = (2) := c5
      refine av_wp_sqF ck_91 1 (pc' := 17) (lv' := [some (.inr (.inr (.inl (some (1))))), none, none]) (st' := [.inr (.inr (.inl (some (1))))]) (h' := h) rfl ?_
      refine wq_gi (p' := 20) (ck_91 _ _ rfl) rfl (congrArg Prod.fst (ly_k C.1 1 rfl)) rfl (ct_p C) ?_
      refine av_wp_sqF ck_91 1 (pc' := 21) (lv' := [some (.inr (.inr (.inl (some (1))))), none, none]) (st' := [.inr (.inr (.inl (some (1)))), .inl (t.2.1 : Int)]) (h' := h) rfl ?_
      refine wq_gi (p' := 24) (ck_91 _ _ rfl) rfl (congrArg Prod.fst (ly_k C.1 1 rfl)) rfl (ct_f C) ?_
      refine av_wp_sqF ck_91 2 (pc' := 26) (lv' := [some (.inr (.inr (.inl (some (1))))), none, none]) (st' := [.inl (4), .inl ((t.2.1 : Int) - (t.1 : Int))]) (h' := h) rfl ?_
      refine wq_k2 (p' := 29) (ck_91 _ _ rfl) rfl ⟨by omega, by omega⟩ ⟨by omega, by omega⟩ (fun c7 => ?_) (fun c8 => ?_)
      · have c7 : ((t.2.1 : Int) - (t.1 : Int)) ≤ (4) := c7
        refine av_wp_sqF ck_91 2 (pc' := 33) (lv' := [some (.inr (.inr (.inl (some (1))))), some (.inl (0)), none]) (st' := []) (h' := h) rfl ?_
        refine av_wp_sqF ck_91 1 (pc' := 34) (lv' := [some (.inr (.inr (.inl (some (1))))), some (.inl (0)), none]) (st' := [.inr (.inr (.inl (some (1))))]) (h' := h) rfl ?_
        refine wq_gi (p' := 37) (ck_91 _ _ rfl) rfl (congrArg Prod.fst (ly_k C.1 1 rfl)) rfl (ct_f C) ?_
        refine av_wp_sqF ck_91 1 (pc' := 38) (lv' := [some (.inr (.inr (.inl (some (1))))), some (.inl (0)), some (.inl (t.1 : Int))]) (st' := []) (h' := h) rfl ?_
        have L12 : ∀ (m11 : Nat) (k9 : Int) (k10 : Int), k9 = dgv b t.1 (Int.toNat (k10 - (t.1 : Int))) → (t.1 : Int) ≤ k10 → k10 ≤ (t.2.1 : Int) ∨ k10 = (t.1 : Int) → (k10 = (t.1 : Int) ∧ k9 = 0) ∨ (k10 = (t.1 : Int) + 1 ∧ -1000 ≤ k9 ∧ k9 ≤ 1000) ∨ (k10 = (t.1 : Int) + 2 ∧ -20000 ≤ k9 ∧ k9 ≤ 20000) ∨ (k10 = (t.1 : Int) + 3 ∧ -300000 ≤ k9 ∧ k9 ≤ 300000) ∨ (k10 = (t.1 : Int) + 4 ∧ -4000000 ≤ k9 ∧ k9 ≤ 4000000) → (-4000000 ≤ k9 ∧ k9 ≤ 4000000) → (0 ≤ k10 ∧ k10 ≤ 904) → (905 - k10).toNat = m11 → av_wp none cd_91 38 [some (.inr (.inr (.inl (some (1))))), some (.inl k9), some (.inl k10)] [] h Q := by
          intro m11
          induction m11 using Nat.strongRecOn with
          | _ m11 I13 =>
            intro k9 k10 g15 g16 g17 g18 g19 g20 e14
            refine av_wp_sqF ck_91 2 (pc' := 40) (lv' := [some (.inr (.inr (.inl (some (1))))), some (.inl k9), some (.inl k10)]) (st' := [.inr (.inr (.inl (some (1)))), .inl k10]) (h' := h) rfl ?_
            refine wq_gi (p' := 43) (ck_91 _ _ rfl) rfl (congrArg Prod.fst (ly_k C.1 1 rfl)) rfl (ct_p C) ?_
            refine wq_k2 (p' := 46) (ck_91 _ _ rfl) rfl ⟨by omega, by omega⟩ ⟨by omega, by omega⟩ (fun c21 => ?_) (fun c22 => ?_)
            · have c21 : (t.2.1 : Int) ≤ k10 := c21
              refine av_wp_sqF ck_91 1 (pc' := 68) (lv' := [some (.inr (.inr (.inl (some (1))))), some (.inl k9), some (.inl k10)]) (st' := [.inl k9]) (h' := h) rfl ?_
              refine av_wp_ret (v := some (.inl k9)) (ck_91 _ _ rfl) rfl rfl ?_
              have z23 : vlv b t = k9 := (if_pos (by omega)).trans (by rw [g15]; congr 1; omega)
              exact hq _ (by omega)
            · have c22 : k10 < (t.2.1 : Int) := c22
              refine av_wp_sqF ck_91 4 (pc' := 51) (lv' := [some (.inr (.inr (.inl (some (1))))), some (.inl k9), some (.inl k10)]) (st' := [.inr (.inr (.inl (some (1)))), .inl (k9 * (10))]) (h' := h) rfl ?_
              refine wq_gr (p' := 54) (ck_91 _ _ rfl) rfl (congrArg Prod.fst (ly_k C.1 1 rfl)) rfl (ly_g C.1 1 0 2 rfl) ?_
              refine av_wp_sqF ck_91 1 (pc' := 55) (lv' := [some (.inr (.inr (.inl (some (1))))), some (.inl k9), some (.inl k10)]) (st' := [.inl k10, .inr (.inr (.inl (some (2)))), .inl (k9 * (10))]) (h' := h) rfl ?_
              obtain ⟨v24, e25⟩ : ∃ v, hA h 2 (Int.toNat (k10)) = v := ⟨_, rfl⟩
              have e27 : b (Int.toNat (k10)) = v24 := (congrFun (ct_b C).symm _).trans e25
              have g26 := ct_bv C (Int.toNat (k10))
              rw [e27] at g26
              refine wq_bl (p' := 56) (n := 900) (ck_91 _ _ rfl) rfl ((Or.inl (ly_k C.1 2 rfl))) (by omega) (e25) ?_
              refine av_wp_sqF ck_91 6 (pc' := 38) (lv' := [some (.inr (.inr (.inl (some (1))))), some (.inl (((k9 * (10)) + v24) - (48))), some (.inl (k10 + (1)))]) (st' := []) (h' := h) rfl ?_
              exact I13 _ (by omega) ((((k9 * (10)) + v24) - (48))) ((k10 + (1))) (by rw [show (Int.toNat ((k10 + (1)) - (t.1 : Int))) = (Int.toNat (k10 - (t.1 : Int))) + 1 by omega]; show _ = dgv b t.1 _ * 10 + b (t.1 + _) - 48; rw [← g15, show t.1 + (Int.toNat (k10 - (t.1 : Int))) = (Int.toNat (k10)) by omega, e27]) (by omega) (by omega) (by omega) (by omega) (by omega) rfl
        exact L12 _ ((0)) ((t.1 : Int)) (by rw [show (Int.toNat ((t.1 : Int) - (t.1 : Int))) = 0 by omega]; rfl) (by omega) (by omega) (by omega) (by omega) (by omega) rfl
      · have c8 : (4) < ((t.2.1 : Int) - (t.1 : Int)) := c8
        refine av_wp_sqF ck_91 1 (pc' := 30) (lv' := [some (.inr (.inr (.inl (some (1))))), none, none]) (st' := [.inl (-1)]) (h' := h) rfl ?_
        refine av_wp_ret (v := some (.inl (-1))) (ck_91 _ _ rfl) rfl rfl ?_
        have z28 : vlv b t = -1 := if_neg (by omega)
        exact hq _ (by omega)
end
section
set_option maxRecDepth 100000 in
set_option maxHeartbeats 4000000 in
theorem ct_92 {g h : av_H} {b r d : Nat → Int} {lim : Nat} {t : TT} (C : CT b lim t r d h) (F : FT g h) (x y : Int) (qx : -2147483648 ≤ x ∧ x ≤ 2147483647) (qy : -2147483648 ≤ y ∧ y ≤ 2147483647) {Q : Option av_V → av_H → Prop} (hq : ∀ (v : Int) h', (v = nmv b t x y ∧ (v = -1 ∨ (x ≤ v ∧ v ≤ y))) → CT b lim (nmt b lim t x y) r d h' → FT g h' → Q (some (.inl v)) h') : av_wp none cd_92 0 [some (.inr (.inr (.inl (some (1))))), some (.inl x), some (.inl y), none] [] h Q := by
  have g0 := ct_wf C
  refine av_wp_sqF ck_92 1 (pc' := 1) (lv' := [some (.inr (.inr (.inl (some (1))))), some (.inl x), some (.inl y), none]) (st' := [.inr (.inr (.inl (some (1))))]) (h' := h) rfl ?_
  refine wq_cv (p' := 4) (av_qc (.invokevirtual 61) 91 0 0 6) 3 cd_91 [] (1) 6 [some (.inr (.inr (.inl (some (1))))), none, none] (ck_92 _ _ rfl) rfl rfl pp_91 rfl rfl rfl (congrArg Prod.fst (ly_k C.1 1 rfl)) rfl rfl rfl rfl ?_
  refine ct_91 C F (fun v1 p2 => ?_)
  show av_wp _ cd_92 4 [some (.inr (.inr (.inl (some (1))))), some (.inl x), some (.inl y), none] [.inl v1] h _
  refine av_wp_sqF ck_92 3 (pc' := 7) (lv' := [some (.inr (.inr (.inl (some (1))))), some (.inl x), some (.inl y), some (.inl v1)]) (st' := [.inl (-1), .inl v1]) (h' := h) rfl ?_
  refine wq_k2 (p' := 10) (ck_92 _ _ rfl) rfl ⟨by omega, by omega⟩ ⟨by omega, by omega⟩ (fun c3 => ?_) (fun c4 => ?_)
  · have c3 : v1 = (-1) := c3
    refine av_wp_sqF ck_92 1 (pc' := 21) (lv' := [some (.inr (.inr (.inl (some (1))))), some (.inl x), some (.inl y), some (.inl v1)]) (st' := [.inr (.inr (.inl (some (1))))]) (h' := h) rfl ?_
    refine wq_cv (p' := 24) (av_qc (.invokevirtual 58) 85 0 0 6) 1 cd_85 [] (1) 6 [some (.inr (.inr (.inl (some (1)))))] (ck_92 _ _ rfl) rfl rfl pp_85 rfl rfl rfl (congrArg Prod.fst (ly_k C.1 1 rfl)) rfl rfl rfl rfl ?_
    refine ct_85 C F (fun h5 C6 F7 => ?_)
    have g8 := ct_wf C6
    show av_wp _ cd_92 24 [some (.inr (.inr (.inl (some (1))))), some (.inl x), some (.inl y), some (.inl v1)] [] h5 _
    refine av_wp_sqF ck_92 1 (pc' := 25) (lv' := [some (.inr (.inr (.inl (some (1))))), some (.inl x), some (.inl y), some (.inl v1)]) (st' := [.inl (-1)]) (h' := h5) rfl ?_
    refine av_wp_ret (v := some (.inl (-1))) (ck_92 _ _ rfl) rfl rfl ?_
    exact hq _ h5 (by refine ⟨?_, by omega⟩; unfold nmv; (repeat' split) <;> omega) (by unfold nmt; (repeat' split) <;> first | assumption | (exfalso; omega)) F7
  · have c4 : v1 ≠ (-1) := c4
    refine av_wp_sqF ck_92 2 (pc' := 12) (lv' := [some (.inr (.inr (.inl (some (1))))), some (.inl x), some (.inl y), some (.inl v1)]) (st' := [.inl x, .inl v1]) (h' := h) rfl ?_
    refine wq_k2 (p' := 15) (ck_92 _ _ rfl) rfl ⟨by omega, by omega⟩ ⟨by omega, by omega⟩ (fun c9 => ?_) (fun c10 => ?_)
    · have c9 : v1 < x := c9
      refine av_wp_sqF ck_92 1 (pc' := 21) (lv' := [some (.inr (.inr (.inl (some (1))))), some (.inl x), some (.inl y), some (.inl v1)]) (st' := [.inr (.inr (.inl (some (1))))]) (h' := h) rfl ?_
      refine wq_cv (p' := 24) (av_qc (.invokevirtual 58) 85 0 0 6) 1 cd_85 [] (1) 6 [some (.inr (.inr (.inl (some (1)))))] (ck_92 _ _ rfl) rfl rfl pp_85 rfl rfl rfl (congrArg Prod.fst (ly_k C.1 1 rfl)) rfl rfl rfl rfl ?_
      refine ct_85 C F (fun h11 C12 F13 => ?_)
      have g14 := ct_wf C12
      show av_wp _ cd_92 24 [some (.inr (.inr (.inl (some (1))))), some (.inl x), some (.inl y), some (.inl v1)] [] h11 _
      refine av_wp_sqF ck_92 1 (pc' := 25) (lv' := [some (.inr (.inr (.inl (some (1))))), some (.inl x), some (.inl y), some (.inl v1)]) (st' := [.inl (-1)]) (h' := h11) rfl ?_
      refine av_wp_ret (v := some (.inl (-1))) (ck_92 _ _ rfl) rfl rfl ?_
      exact hq _ h11 (by refine ⟨?_, by omega⟩; unfold nmv; (repeat' split) <;> omega) (by unfold nmt; (repeat' split) <;> first | assumption | (exfalso; omega)) F13
    · have c10 : x ≤ v1 := c10
      refine av_wp_sqF ck_92 2 (pc' := 17) (lv' := [some (.inr (.inr (.inl (some (1))))), some (.inl x), some (.inl y), some (.inl v1)]) (st' := [.inl y, .inl v1]) (h' := h) rfl ?_
      refine wq_k2 (p' := 20) (ck_92 _ _ rfl) rfl ⟨by omega, by omega⟩ ⟨by omega, by omega⟩ (fun c15 => ?_) (fun c16 => ?_)
      · have c15 : v1 ≤ y := c15
        refine av_wp_sqF ck_92 1 (pc' := 27) (lv' := [some (.inr (.inr (.inl (some (1))))), some (.inl x), some (.inl y), some (.inl v1)]) (st' := [.inr (.inr (.inl (some (1))))]) (h' := h) rfl ?_
        refine wq_cv (p' := 30) (av_qc (.invokevirtual 38) 82 0 0 6) 2 cd_82 [] (1) 6 [some (.inr (.inr (.inl (some (1))))), none] (ck_92 _ _ rfl) rfl rfl pp_82 rfl rfl rfl (congrArg Prod.fst (ly_k C.1 1 rfl)) rfl rfl rfl rfl ?_
        refine ct_82 C F (fun h17 C18 F19 => ?_)
        have g20 := ct_wf C18
        show av_wp _ cd_92 30 [some (.inr (.inr (.inl (some (1))))), some (.inl x), some (.inl y), some (.inl v1)] [] h17 _
        refine av_wp_sqF ck_92 1 (pc' := 31) (lv' := [some (.inr (.inr (.inl (some (1))))), some (.inl x), some (.inl y), some (.inl v1)]) (st' := [.inl v1]) (h' := h17) rfl ?_
        refine av_wp_ret (v := some (.inl v1)) (ck_92 _ _ rfl) rfl rfl ?_
        exact hq _ h17 (by refine ⟨?_, by omega⟩; unfold nmv; (repeat' split) <;> omega) (by unfold nmt; (repeat' split) <;> first | assumption | (exfalso; omega)) F19
      · have c16 : y < v1 := c16
        refine av_wp_sqF ck_92 1 (pc' := 21) (lv' := [some (.inr (.inr (.inl (some (1))))), some (.inl x), some (.inl y), some (.inl v1)]) (st' := [.inr (.inr (.inl (some (1))))]) (h' := h) rfl ?_
        refine wq_cv (p' := 24) (av_qc (.invokevirtual 58) 85 0 0 6) 1 cd_85 [] (1) 6 [some (.inr (.inr (.inl (some (1)))))] (ck_92 _ _ rfl) rfl rfl pp_85 rfl rfl rfl (congrArg Prod.fst (ly_k C.1 1 rfl)) rfl rfl rfl rfl ?_
        refine ct_85 C F (fun h21 C22 F23 => ?_)
        have g24 := ct_wf C22
        show av_wp _ cd_92 24 [some (.inr (.inr (.inl (some (1))))), some (.inl x), some (.inl y), some (.inl v1)] [] h21 _
        refine av_wp_sqF ck_92 1 (pc' := 25) (lv' := [some (.inr (.inr (.inl (some (1))))), some (.inl x), some (.inl y), some (.inl v1)]) (st' := [.inl (-1)]) (h' := h21) rfl ?_
        refine av_wp_ret (v := some (.inl (-1))) (ck_92 _ _ rfl) rfl rfl ?_
        exact hq _ h21 (by refine ⟨?_, by omega⟩; unfold nmv; (repeat' split) <;> omega) (by unfold nmt; (repeat' split) <;> first | assumption | (exfalso; omega)) F23
end
section
/-! WHAT THE CLASS'S READERS DO, as functions of the place where they stand and of their rows -/
def ufil (r : Nat → Int) (lo hi : Nat) (v : Int) : Nat → Int := fun j => if lo ≤ j ∧ j < hi then v else r j
section
variable (b : Nat → Int) (lim : Nat)
def rsO (row : Nat) (t : TT) (r : Nat → Int) : TT × (Nat → Int) :=
  if pkv b t 1 = r (row + 1) then (cho b lim (fal t) 1, av_u1 r (row + 2) (pkv b (fal t) 1)) else (cho b lim t 1, av_u1 r (row + 2) (pkv b t 1))
abbrev fts (r : Nat → Int) (kind hand : Int) (s : Nat) : Prop :=
  (kind = 5 ∧ (r s = 0 ∨ r s = 3 ∨ r s = 2) ∧ r (s + 1) = hand) ∨ (kind ≠ 5 ∧ (r s = 0 ∨ r s = 3) ∧ ((kind = 7 ∧ r (s + 1) = hand) ∨ (kind ≠ 7 ∧ r (s + 2) = hand)))
def rsS (k : Nat) (kind : Int) (t : TT) (r : Nat → Int) : TT × (Nat → Int) :=
  if (0 ≤ vlv b t ∧ vlv b t < k) ∧ fts r kind (r (k * 21 + 1)) ((vlv b t).toNat * 21) then (adv b lim t, av_u1 r (k * 21 + 3) (vlv b t)) else (fal t, r)
def rsW (row : Nat) : Nat → TT → (Nat → Int) → TT × (Nat → Int)
  | 0, t, r => (t, r)
  | n + 1, t, r => if pkv b t 2 = -1 then (t, r) else rsW row n (nmt b lim (adv b lim t) 0 999) (av_u1 r (row + 10 + (pkv b t 2).toNat) (nmv b (adv b lim t) 0 999))
def rsT1 (row : Nat) (x : TT × (Nat → Int)) : TT × (Nat → Int) :=
  if pkv b x.1 3 = -1 then x else (nmt b lim (adv b lim x.1) 0 1999, av_u1 x.2 (row + 5) (nmv b (adv b lim x.1) 0 1999))
def rsT2 (row : Nat) (ah : Int) (x : TT × (Nat → Int)) : TT × (Nat → Int) :=
  if pkv b x.1 4 = -1 then x else (nmt b lim (adv b lim x.1) 0 (ah - 1), av_u1 x.2 (row + 6) (nmv b (adv b lim x.1) 0 (ah - 1)))
def rsT (row : Nat) (ah : Int) (t : TT) (r : Nat → Int) : TT × (Nat → Int) := rsT2 b lim row ah (rsT1 b lim row (rsW b lim row 900 t r))
def rsB0 (row : Nat) (r : Nat → Int) : Nat → Int := if 0 ≤ r (row + 3) ∧ r (row + 3) < 12 then av_u1 r (row + 2) (r ((r (row + 3)).toNat * 21 + 1)) else r
def rsB (row : Nat) (t : TT) (r : Nat → Int) : TT × (Nat → Int) := rsW b lim row 900 (if pkv b t 2 = -1 then fal t else t) (rsB0 row (av_u1 r row 3))
def mn2 (x y : Int) : Int := if y < x then y else x
def rsP1 (row i : Nat) (most v : Int) (t : TT) (r : Nat → Int) : TT × (Nat → Int) :=
  if pkv b t 8 = -1 then (t, r) else (nmt b lim (adv b lim t) v (mn2 most (v + 15)), av_u1 r (row + 15 + i) (nmv b (adv b lim t) v (mn2 most (v + 15)) - v + 1))
def rsP (row i : Nat) (most : Int) (t : TT) (r : Nat → Int) : TT × (Nat → Int) := rsP1 b lim row i most (nmv b t 0 most) (nmt b lim t 0 most) (av_u1 r (row + 7 + i) (nmv b t 0 most))
def rsM1 (row : Nat) (x : TT × (Nat → Int)) : TT × (Nat → Int) := if pkv b x.1 10 = -1 then x else rsP b lim row 2 999 (adv b lim x.1) x.2
def rsM2 (row : Nat) (x : TT × (Nat → Int)) : TT × (Nat → Int) := if pkv b x.1 11 = -1 then x else (adv b lim x.1, av_u1 x.2 (row + 18) 2)
def rsM0 (row : Nat) (t : TT) (r : Nat → Int) : TT × (Nat → Int) := rsP b lim row 0 1999 (cho b lim (cho b lim t 6) 7) (av_u1 r (row + 4) (pkv b t 6))
def rsM3 (row : Nat) (x : TT × (Nat → Int)) : TT × (Nat → Int) := rsM2 b lim row (rsM1 b lim row (rsP b lim row 1 999 (cho b lim x.1 9) x.2))
def rsM (row : Nat) (t : TT) (r : Nat → Int) : TT × (Nat → Int) := if pkv b t 6 ≤ 1 then rsM3 b lim row (rsM0 b lim row t r) else rsM0 b lim row t r
def rs0 (k : Nat) (r : Nat → Int) : Nat → Int := ufil (ufil (ufil r (k * 21) (k * 21 + 21) (-1)) (k * 21 + 7) (k * 21 + 10) 0) (k * 21 + 15) (k * 21 + 21) 0
def rsK (t : TT) : Int := if pkv b t 0 ≤ 2 then pkv b t 0 else pkv b t 0 + 1
def rs1 (k : Nat) (t : TT) (r : Nat → Int) : TT × (Nat → Int) := (cho b lim (cho b lim t 0) 1, av_u1 (av_u1 (rs0 k r) (k * 21) (rsK b t)) (k * 21 + 1) (pkv b (cho b lim t 0) 1))
def rs2 (k : Nat) (kind : Int) (x : TT × (Nat → Int)) : TT × (Nat → Int) := if kind = 0 ∨ kind = 1 then rsO b lim (k * 21) x.1 x.2 else rsS b lim k kind x.1 x.2
def rs3 (k : Nat) (ah kind : Int) (x : TT × (Nat → Int)) : TT × (Nat → Int) := if kind = 0 then rsT b lim (k * 21) ah x.1 x.2 else x
def rs4 (k : Nat) (kind : Int) (x : TT × (Nat → Int)) : TT × (Nat → Int) := if kind = 2 then (if pkv b x.1 5 = -1 then x else rsB b lim (k * 21) (adv b lim x.1) x.2) else x
def rs5 (k : Nat) (x : TT × (Nat → Int)) : TT × (Nat → Int) := (sem b lim (rsM b lim (k * 21) x.1 x.2).1, (rsM b lim (k * 21) x.1 x.2).2)
/-- one saying -/
def rsy (k : Nat) (ah : Int) (t : TT) (r : Nat → Int) : TT × (Nat → Int) := rs5 b lim k (rs4 b lim k (rsK b t) (rs3 b lim k ah (rsK b t) (rs2 b lim k (rsK b t) (rs1 b lim k t r))))
end
section
variable {sc : av_Sr} {cd : List (Nat × av_E)} {Q : Option av_V → av_H → Prop} {pc p' : Nat} {lv : av_L} {r' : List av_V} {g h : av_H} {b r d : Nat → Int} {lim : Nat} {t : TT}
theorem ct_w23 {j : Nat} {v : Int} (C : CT b lim t r d h) (hv : -2000 ≤ v ∧ v ≤ 100000) : CT b lim t (av_u1 r j v) d (hwA h 23 j v) := by
  refine ⟨C.1, (hA_ne (by decide)).trans C.2.1, C.2.2.1, C.2.2.2.1, C.2.2.2.2.1, C.2.2.2.2.2.1, C.2.2.2.2.2.2.1, C.2.2.2.2.2.2.2.1, ?_, (hA_ne (by decide)).trans (ct_d C), ct_wf C, fun q => ?_, ct_dv C⟩
  case refine_2 =>
    unfold av_u1
    split
    · exact hv
    · exact ct_rv C q
  rw [← ct_r C]
  funext q
  show av_u2 h.2.2.2.1 23 j v 23 q = av_u1 (hA h 23) j v q
  unfold av_u2 av_u1
  by_cases e : q = j
  · rw [if_pos ⟨rfl, e⟩, if_pos e]
  · rw [if_neg (fun z => e z.2), if_neg e]
theorem ct_as {v x : Int} (hx : cd.lookup pc = some (av_q (.iastore))) (hp : pc + 1 = p') (C : CT b lim t r d h) (F : FT g h) (k : Nat) (e : x = (k : Int)) (hk : k < 252) (hv : -2000 ≤ v ∧ v ≤ 100000) (hw : ∀ h', CT b lim t (av_u1 r k v) d h' → FT g h' → av_wp sc cd p' lv r' h' Q) : av_wp sc cd pc lv (.inl v :: .inl x :: .inr (.inr (.inl (some 23))) :: r') h Q := by
  subst e
  exact wq_as (n := 252) hx hp (ly_k C.1 23 rfl) (by omega) (hw _ (ct_w23 C hv) (FT_wA F (Or.inl rfl)))
theorem ct_fil {lo hi : Nat} {v : Int} (C : CT b lim t r d h) (F : FT g h) (hv : -2000 ≤ v ∧ v ≤ 100000) : CT b lim t (ufil r lo hi v) d (hfil h 23 lo hi v) ∧ FT g (hfil h 23 lo hi v) := by
  have E : ∀ q, q ≠ 23 → hA (hfil h 23 lo hi v) q = hA h q := fun q hq => by
    funext j
    show (if q = 23 ∧ lo ≤ j ∧ j < hi then v else h.2.2.2.1 q j) = _
    rw [if_neg (fun z => hq z.1)]
  refine ⟨⟨C.1, (E 2 (by decide)).trans C.2.1, C.2.2.1, C.2.2.2.1, C.2.2.2.2.1, C.2.2.2.2.2.1, C.2.2.2.2.2.2.1, C.2.2.2.2.2.2.2.1, ?_, (E 25 (by decide)).trans (ct_d C), ct_wf C, fun q => ?_, ct_dv C⟩, F.1, F.2.1, F.2.2.1, F.2.2.2.1, F.2.2.2.2.1, F.2.2.2.2.2.1, fun q h1 h2 => (E q h1).trans (F.2.2.2.2.2.2 q h1 h2)⟩
  case refine_2 =>
    unfold ufil
    split
    · exact hv
    · exact ct_rv C q
  rw [← ct_r C]
  funext j
  show (if 23 = 23 ∧ lo ≤ j ∧ j < hi then v else h.2.2.2.1 23 j) = ufil (hA h 23) lo hi v j
  unfold ufil
  by_cases e : lo ≤ j ∧ j < hi
  · rw [if_pos ⟨rfl, e⟩, if_pos e]
  · rw [if_neg (fun z => e z.2), if_neg e]
end
theorem wq_mne {sc : av_Sr} {cd : List (Nat × av_E)} {Q : Option av_V → av_H → Prop} {pc p' : Nat} {lv : av_L} {r : List av_V} {h : av_H} {ins : Instr} {x y : Int} (hx : cd.lookup pc = some (av_qa ins 1002)) (hp : pc + 3 = p') (hk : av_kd (av_qa ins 1002) = 0) (hs : ∀ lv st, av_stp sc (av_qa ins 1002) pc lv st h = av_lib 1002 pc lv st h) (hr : Nat.ble (r.map av_cat).sum 8 = true) (rx : av_rg x) (ry : av_rg y) (hw : av_wp sc cd p' lv (.inl (if y < x then y else x) :: r) h Q) : av_wp sc cd pc lv (.inl y :: .inl x :: r) h Q := by
  subst hp
  refine av_wp_st1 hx (pc' := pc + 3) (lv' := lv) (st' := .inl (if y < x then y else x) :: r) (h' := h) hk ?_ hw
  rw [hs]
  simp only [av_lib]
  rw [if_pos (Nat.le_of_ble_eq_true hr), av_rgw rx, av_rgw ry]
end
