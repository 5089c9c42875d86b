set_option maxRecDepth 100000 in
set_option maxHeartbeats 4000000 in
theorem ct_178 {g h : av_H} {n a m : Int} (I : IMF n a m h) (F : FM g h) (x : Int) (qx : -1 ≤ x ∧ x ≤ 11) (k : Int) (qk : 0 ≤ k ∧ k ≤ 11) (y : Int) {Q : Option av_V → av_H → Prop} (hq : ∀ h', IMF n a m h' → FM g h' → Q none h') : av_wp none cd_178 0 [some (.inr (.inr (.inl (some (77))))), some (.inl x), some (.inl k), some (.inl y)] [] h Q := by
  have gn := im_n I.1.1
  rw [I.2.1] at gn
  have ga := im_a I.1.1
  rw [I.2.2.1] at ga
  have gm := im_cm I.1.1
  rw [I.2.2.2] at gm
  refine av_wp_sqF ck_178 1 (pc' := 1) (lv' := [some (.inr (.inr (.inl (some (77))))), some (.inl x), some (.inl k), some (.inl y)]) (st' := [.inr (.inr (.inl (some (77))))]) (h' := h) rfl ?_
  obtain ⟨v1, e2⟩ : ∃ v, hF h 77 50 = v := ⟨_, rfl⟩
  have g3 := im_has I.1.1
  rw [e2] at g3
  refine wq_gb (p' := 4) (ck_178 _ _ rfl) rfl (congrArg Prod.fst (ly_k I.1.1.1 77 rfl)) rfl (e2) ?_
  refine wq_k1 (p' := 7) (ck_178 _ _ rfl) rfl ⟨by omega, by omega⟩ (fun c4 => ?_) (fun c5 => ?_)
  · have c4 : v1 = (0) := c4
    refine av_wp_sqF ck_178 2 (pc' := 18) (lv' := [some (.inr (.inr (.inl (some (77))))), some (.inl x), some (.inl k), some (.inl y)]) (st' := [.inl (1), .inr (.inr (.inl (some (77))))]) (h' := h) rfl ?_
    refine im_pb (p' := 21) rfl rfl I F (by omega) (fun h6 I7 F8 => ?_)
    refine av_wp_sqF ck_178 2 (pc' := 23) (lv' := [some (.inr (.inr (.inl (some (77))))), some (.inl x), some (.inl k), some (.inl y)]) (st' := [.inl x, .inr (.inr (.inl (some (77))))]) (h' := h6) rfl ?_
    refine im_pf (p' := 26) rfl rfl I7 F8 (by omega) rfl (fun h9 I10 F11 => ?_)
    refine av_wp_sqF ck_178 2 (pc' := 28) (lv' := [some (.inr (.inr (.inl (some (77))))), some (.inl x), some (.inl k), some (.inl y)]) (st' := [.inl k, .inr (.inr (.inl (some (77))))]) (h' := h9) rfl ?_
    refine im_pf (p' := 31) rfl rfl I10 F11 (by omega) rfl (fun h12 I13 F14 => ?_)
    refine av_wp_sqF ck_178 2 (pc' := 33) (lv' := [some (.inr (.inr (.inl (some (77))))), some (.inl x), some (.inl k), some (.inl y)]) (st' := [.inl y, .inr (.inr (.inl (some (77))))]) (h' := h12) rfl ?_
    refine im_pf (p' := 36) rfl rfl I13 F14 (by omega) rfl (fun h15 I16 F17 => ?_)
    refine av_wp_ret (v := none) (ck_178 _ _ rfl) rfl rfl ?_
    exact hq h15 I16 F17
  · have c5 : v1 ≠ (0) := c5
    refine av_wp_sqF ck_178 2 (pc' := 9) (lv' := [some (.inr (.inr (.inl (some (77))))), some (.inl x), some (.inl k), some (.inl y)]) (st' := [.inr (.inr (.inl (some (77)))), .inl y]) (h' := h) rfl ?_
    obtain ⟨v18, e19⟩ : ∃ v, hF h 77 53 = v := ⟨_, rfl⟩
    refine wq_gi (p' := 12) (ck_178 _ _ rfl) rfl (congrArg Prod.fst (ly_k I.1.1.1 77 rfl)) rfl (e19) ?_
    refine wq_c2 (p' := 15) (ck_178 _ _ rfl) rfl ?_ ?_
    · refine av_wp_sqF ck_178 2 (pc' := 18) (lv' := [some (.inr (.inr (.inl (some (77))))), some (.inl x), some (.inl k), some (.inl y)]) (st' := [.inl (1), .inr (.inr (.inl (some (77))))]) (h' := h) rfl ?_
      refine im_pb (p' := 21) rfl rfl I F (by omega) (fun h20 I21 F22 => ?_)
      refine av_wp_sqF ck_178 2 (pc' := 23) (lv' := [some (.inr (.inr (.inl (some (77))))), some (.inl x), some (.inl k), some (.inl y)]) (st' := [.inl x, .inr (.inr (.inl (some (77))))]) (h' := h20) rfl ?_
      refine im_pf (p' := 26) rfl rfl I21 F22 (by omega) rfl (fun h23 I24 F25 => ?_)
      refine av_wp_sqF ck_178 2 (pc' := 28) (lv' := [some (.inr (.inr (.inl (some (77))))), some (.inl x), some (.inl k), some (.inl y)]) (st' := [.inl k, .inr (.inr (.inl (some (77))))]) (h' := h23) rfl ?_
      refine im_pf (p' := 31) rfl rfl I24 F25 (by omega) rfl (fun h26 I27 F28 => ?_)
      refine av_wp_sqF ck_178 2 (pc' := 33) (lv' := [some (.inr (.inr (.inl (some (77))))), some (.inl x), some (.inl k), some (.inl y)]) (st' := [.inl y, .inr (.inr (.inl (some (77))))]) (h' := h26) rfl ?_
      refine im_pf (p' := 36) rfl rfl I27 F28 (by omega) rfl (fun h29 I30 F31 => ?_)
      refine av_wp_ret (v := none) (ck_178 _ _ rfl) rfl rfl ?_
      exact hq h29 I30 F31
    · refine av_wp_ret (v := none) (ck_178 _ _ rfl) rfl rfl ?_
      exact hq h I F

set_option maxRecDepth 100000 in
set_option maxHeartbeats 4000000 in
theorem ct_179 {g h : av_H} {n a m : Int} (I : IMF n a m h) (F : FM g h) (k : Int) (qk : 0 ≤ k ∧ k ≤ 11) (x : Int) {Q : Option av_V → av_H → Prop} (hq : ∀ v : Int, (v = 0 ∨ v = 1) → Q (some (.inl v)) h) : av_wp none cd_179 0 [some (.inr (.inr (.inl (some (77))))), some (.inl k), some (.inl x), none, none] [] h Q := by
  have gn := im_n I.1.1
  rw [I.2.1] at gn
  have ga := im_a I.1.1
  rw [I.2.2.1] at ga
  have gm := im_cm I.1.1
  rw [I.2.2.2] at gm
  refine av_wp_sqF ck_179 4 (pc' := 4) (lv' := [some (.inr (.inr (.inl (some (77))))), some (.inl k), some (.inl x), some (.inl (k + (1))), none]) (st' := []) (h' := h) rfl ?_
  have L4 : ∀ (m3 : Nat) (k1 : Int) (a2 : Option av_V), av_lg a2 = false → (0 ≤ k1 ∧ k1 ≤ 12) → (12 - k1).toNat = m3 → av_wp none cd_179 4 [some (.inr (.inr (.inl (some (77))))), some (.inl k), some (.inl x), some (.inl k1), a2] [] h Q := by
    intro m3
    induction m3 using Nat.strongRecOn with
    | _ m3 I5 =>
      intro k1 a2 g7 g8 e6
      have la2 := g7
      refine av_wp_sqF ck_179 2 (pc' := 6) (lv' := [some (.inr (.inr (.inl (some (77))))), some (.inl k), some (.inl x), some (.inl k1), a2]) (st' := [.inr (.inr (.inl (some (77)))), .inl k1]) (h' := h) rfl ?_
      refine wq_gi (p' := 9) (ck_179 _ _ rfl) rfl (congrArg Prod.fst (ly_k I.1.1.1 77 rfl)) rfl (I.2.1) ?_
      refine wq_k2 (p' := 12) (ck_179 _ _ rfl) rfl ⟨by omega, by omega⟩ ⟨by omega, by omega⟩ (fun c9 => ?_) (fun c10 => ?_)
      · have c9 : n ≤ k1 := c9
        refine av_wp_sqF ck_179 1 (pc' := 94) (lv' := [some (.inr (.inr (.inl (some (77))))), some (.inl k), some (.inl x), some (.inl k1), a2]) (st' := [.inl (0)]) (h' := h) rfl ?_
        refine av_wp_ret (v := some (.inl (0))) (ck_179 _ _ rfl) rfl rfl ?_
        exact hq _ (by omega)
      · have c10 : k1 < n := c10
        refine av_wp_sqF ck_179 1 (pc' := 13) (lv' := [some (.inr (.inr (.inl (some (77))))), some (.inl k), some (.inl x), some (.inl k1), a2]) (st' := [.inr (.inr (.inl (some (77))))]) (h' := h) rfl ?_
        refine wq_gr (p' := 16) (ck_179 _ _ rfl) rfl (congrArg Prod.fst (ly_k I.1.1.1 77 rfl)) rfl (ly_g I.1.1.1 77 30 96 rfl) ?_
        refine av_wp_sqF ck_179 1 (pc' := 17) (lv' := [some (.inr (.inr (.inl (some (77))))), some (.inl k), some (.inl x), some (.inl k1), a2]) (st' := [.inl k1, .inr (.inr (.inl (some (96))))]) (h' := h) rfl ?_
        obtain ⟨v11, e12⟩ : ∃ v, hA h 96 (Int.toNat (k1)) = v := ⟨_, rfl⟩
        have g13 : 0 ≤ hA h 96 (Int.toNat (k1)) ∧ hA h 96 (Int.toNat (k1)) ≤ 7 := im_w I.1.1 96 (by decide) (by decide) _
        rw [e12] at g13
        refine wq_al (p' := 18) (n := 12) (ck_179 _ _ rfl) rfl (ly_k I.1.1.1 96 rfl) (by omega) (e12) ?_
        refine av_wp_sqF ck_179 1 (pc' := 19) (lv' := [some (.inr (.inr (.inl (some (77))))), some (.inl k), some (.inl x), some (.inl k1), a2]) (st' := [.inl (2), .inl v11]) (h' := h) rfl ?_
        have J16 : ∀ (j14 : Int), (0 ≤ j14 ∧ j14 ≤ 1) →  av_wp none cd_179 58 [some (.inr (.inr (.inl (some (77))))), some (.inl k), some (.inl x), some (.inl k1), a2] [.inl j14] h Q := by
          intro j14 g15
          refine av_wp_sqF ck_179 2 (pc' := 62) (lv' := [some (.inr (.inr (.inl (some (77))))), some (.inl k), some (.inl x), some (.inl k1), some (.inl j14)]) (st' := [.inl j14]) (h' := h) rfl ?_
          refine wq_k1 (p' := 65) (ck_179 _ _ rfl) rfl ⟨by omega, by omega⟩ (fun c17 => ?_) (fun c18 => ?_)
          · have c17 : j14 = (0) := c17
            refine av_wp_sqF ck_179 2 (pc' := 4) (lv' := [some (.inr (.inr (.inl (some (77))))), some (.inl k), some (.inl x), some (.inl (k1 + (1))), some (.inl j14)]) (st' := []) (h' := h) rfl ?_
            exact I5 _ (by omega) ((k1 + (1))) (some (.inl j14)) rfl (by omega) rfl
          · have c18 : j14 ≠ (0) := c18
            refine av_wp_sqF ck_179 1 (pc' := 66) (lv' := [some (.inr (.inr (.inl (some (77))))), some (.inl k), some (.inl x), some (.inl k1), some (.inl j14)]) (st' := [.inr (.inr (.inl (some (77))))]) (h' := h) rfl ?_
            refine wq_gr (p' := 69) (ck_179 _ _ rfl) rfl (congrArg Prod.fst (ly_k I.1.1.1 77 rfl)) rfl (ly_g I.1.1.1 77 34 100 rfl) ?_
            refine av_wp_sqF ck_179 1 (pc' := 70) (lv' := [some (.inr (.inr (.inl (some (77))))), some (.inl k), some (.inl x), some (.inl k1), some (.inl j14)]) (st' := [.inl k1, .inr (.inr (.inl (some (100))))]) (h' := h) rfl ?_
            obtain ⟨v19, e20⟩ : ∃ v, hA h 100 (Int.toNat (k1)) = v := ⟨_, rfl⟩
            have g21 : -1 ≤ hA h 100 (Int.toNat (k1)) ∧ hA h 100 (Int.toNat (k1)) ≤ 11 := im_w I.1.1 100 (by decide) (by decide) _
            rw [e20] at g21
            have w22 := im_wr I.1 (Int.toNat (k1)) (by omega)
            rw [e20] at w22
            refine wq_al (p' := 71) (n := 12) (ck_179 _ _ rfl) rfl (ly_k I.1.1.1 100 rfl) (by omega) (e20) ?_
            refine av_wp_sqF ck_179 1 (pc' := 72) (lv' := [some (.inr (.inr (.inl (some (77))))), some (.inl k), some (.inl x), some (.inl k1), some (.inl j14)]) (st' := [.inl k, .inl v19]) (h' := h) rfl ?_
            refine wq_k2 (p' := 75) (ck_179 _ _ rfl) rfl ⟨by omega, by omega⟩ ⟨by omega, by omega⟩ (fun c23 => ?_) (fun c24 => ?_)
            · have c23 : v19 ≠ k := c23
              refine av_wp_sqF ck_179 2 (pc' := 4) (lv' := [some (.inr (.inr (.inl (some (77))))), some (.inl k), some (.inl x), some (.inl (k1 + (1))), some (.inl j14)]) (st' := []) (h' := h) rfl ?_
              exact I5 _ (by omega) ((k1 + (1))) (some (.inl j14)) rfl (by omega) rfl
            · have c24 : v19 = k := c24
              refine av_wp_sqF ck_179 1 (pc' := 76) (lv' := [some (.inr (.inr (.inl (some (77))))), some (.inl k), some (.inl x), some (.inl k1), some (.inl j14)]) (st' := [.inr (.inr (.inl (some (77))))]) (h' := h) rfl ?_
              refine wq_gr (p' := 79) (ck_179 _ _ rfl) rfl (congrArg Prod.fst (ly_k I.1.1.1 77 rfl)) rfl (ly_g I.1.1.1 77 43 109 rfl) ?_
              refine av_wp_sqF ck_179 1 (pc' := 80) (lv' := [some (.inr (.inr (.inl (some (77))))), some (.inl k), some (.inl x), some (.inl k1), some (.inl j14)]) (st' := [.inl k1, .inr (.inr (.inl (some (109))))]) (h' := h) rfl ?_
              obtain ⟨v25, e26⟩ : ∃ v, hA h 109 (Int.toNat (k1)) = v := ⟨_, rfl⟩
              refine wq_al (p' := 81) (n := 12) (ck_179 _ _ rfl) rfl (ly_k I.1.1.1 109 rfl) (by omega) (e26) ?_
              refine av_wp_sqF ck_179 1 (pc' := 82) (lv' := [some (.inr (.inr (.inl (some (77))))), some (.inl k), some (.inl x), some (.inl k1), some (.inl j14)]) (st' := [.inl x, .inl v25]) (h' := h) rfl ?_
              refine wq_c2 (p' := 85) (ck_179 _ _ rfl) rfl ?_ ?_
              · refine av_wp_sqF ck_179 2 (pc' := 4) (lv' := [some (.inr (.inr (.inl (some (77))))), some (.inl k), some (.inl x), some (.inl (k1 + (1))), some (.inl j14)]) (st' := []) (h' := h) rfl ?_
                exact I5 _ (by omega) ((k1 + (1))) (some (.inl j14)) rfl (by omega) rfl
              · refine av_wp_sqF ck_179 1 (pc' := 86) (lv' := [some (.inr (.inr (.inl (some (77))))), some (.inl k), some (.inl x), some (.inl k1), some (.inl j14)]) (st' := [.inl (1)]) (h' := h) rfl ?_
                refine av_wp_ret (v := some (.inl (1))) (ck_179 _ _ rfl) rfl rfl ?_
                exact hq _ (by omega)
        refine wq_k2 (p' := 22) (ck_179 _ _ rfl) rfl ⟨by omega, by omega⟩ ⟨by omega, by omega⟩ (fun c28 => ?_) (fun c29 => ?_)
        · have c28 : v11 = (2) := c28
          refine av_wp_sqF ck_179 2 (pc' := 58) (lv' := [some (.inr (.inr (.inl (some (77))))), some (.inl k), some (.inl x), some (.inl k1), a2]) (st' := [.inl (1)]) (h' := h) rfl ?_
          exact J16 ((1)) (by omega)
        · have c29 : v11 ≠ (2) := c29
          refine av_wp_sqF ck_179 1 (pc' := 23) (lv' := [some (.inr (.inr (.inl (some (77))))), some (.inl k), some (.inl x), some (.inl k1), a2]) (st' := [.inr (.inr (.inl (some (77))))]) (h' := h) rfl ?_
          refine wq_gr (p' := 26) (ck_179 _ _ rfl) rfl (congrArg Prod.fst (ly_k I.1.1.1 77 rfl)) rfl (ly_g I.1.1.1 77 30 96 rfl) ?_
          refine av_wp_sqF ck_179 1 (pc' := 27) (lv' := [some (.inr (.inr (.inl (some (77))))), some (.inl k), some (.inl x), some (.inl k1), a2]) (st' := [.inl k1, .inr (.inr (.inl (some (96))))]) (h' := h) rfl ?_
          obtain ⟨v30, e31⟩ : ∃ v, hA h 96 (Int.toNat (k1)) = v := ⟨_, rfl⟩
          have g32 : 0 ≤ hA h 96 (Int.toNat (k1)) ∧ hA h 96 (Int.toNat (k1)) ≤ 7 := im_w I.1.1 96 (by decide) (by decide) _
          rw [e31] at g32
          refine wq_al (p' := 28) (n := 12) (ck_179 _ _ rfl) rfl (ly_k I.1.1.1 96 rfl) (by omega) (e31) ?_
          refine av_wp_sqF ck_179 1 (pc' := 29) (lv' := [some (.inr (.inr (.inl (some (77))))), some (.inl k), some (.inl x), some (.inl k1), a2]) (st' := [.inl (3), .inl v30]) (h' := h) rfl ?_
          refine wq_k2 (p' := 32) (ck_179 _ _ rfl) rfl ⟨by omega, by omega⟩ ⟨by omega, by omega⟩ (fun c33 => ?_) (fun c34 => ?_)
          · have c33 : v30 = (3) := c33
            refine av_wp_sqF ck_179 2 (pc' := 58) (lv' := [some (.inr (.inr (.inl (some (77))))), some (.inl k), some (.inl x), some (.inl k1), a2]) (st' := [.inl (1)]) (h' := h) rfl ?_
            exact J16 ((1)) (by omega)
          · have c34 : v30 ≠ (3) := c34
            refine av_wp_sqF ck_179 1 (pc' := 33) (lv' := [some (.inr (.inr (.inl (some (77))))), some (.inl k), some (.inl x), some (.inl k1), a2]) (st' := [.inr (.inr (.inl (some (77))))]) (h' := h) rfl ?_
            refine wq_gr (p' := 36) (ck_179 _ _ rfl) rfl (congrArg Prod.fst (ly_k I.1.1.1 77 rfl)) rfl (ly_g I.1.1.1 77 30 96 rfl) ?_
            refine av_wp_sqF ck_179 1 (pc' := 37) (lv' := [some (.inr (.inr (.inl (some (77))))), some (.inl k), some (.inl x), some (.inl k1), a2]) (st' := [.inl k1, .inr (.inr (.inl (some (96))))]) (h' := h) rfl ?_
            obtain ⟨v35, e36⟩ : ∃ v, hA h 96 (Int.toNat (k1)) = v := ⟨_, rfl⟩
            have g37 : 0 ≤ hA h 96 (Int.toNat (k1)) ∧ hA h 96 (Int.toNat (k1)) ≤ 7 := im_w I.1.1 96 (by decide) (by decide) _
            rw [e36] at g37
            refine wq_al (p' := 38) (n := 12) (ck_179 _ _ rfl) rfl (ly_k I.1.1.1 96 rfl) (by omega) (e36) ?_
            refine av_wp_sqF ck_179 1 (pc' := 39) (lv' := [some (.inr (.inr (.inl (some (77))))), some (.inl k), some (.inl x), some (.inl k1), a2]) (st' := [.inl (4), .inl v35]) (h' := h) rfl ?_
            refine wq_k2 (p' := 42) (ck_179 _ _ rfl) rfl ⟨by omega, by omega⟩ ⟨by omega, by omega⟩ (fun c38 => ?_) (fun c39 => ?_)
            · have c38 : v35 = (4) := c38
              refine av_wp_sqF ck_179 2 (pc' := 58) (lv' := [some (.inr (.inr (.inl (some (77))))), some (.inl k), some (.inl x), some (.inl k1), a2]) (st' := [.inl (1)]) (h' := h) rfl ?_
              exact J16 ((1)) (by omega)
            · have c39 : v35 ≠ (4) := c39
              refine av_wp_sqF ck_179 1 (pc' := 43) (lv' := [some (.inr (.inr (.inl (some (77))))), some (.inl k), some (.inl x), some (.inl k1), a2]) (st' := [.inr (.inr (.inl (some (77))))]) (h' := h) rfl ?_
              refine wq_gr (p' := 46) (ck_179 _ _ rfl) rfl (congrArg Prod.fst (ly_k I.1.1.1 77 rfl)) rfl (ly_g I.1.1.1 77 30 96 rfl) ?_
              refine av_wp_sqF ck_179 1 (pc' := 47) (lv' := [some (.inr (.inr (.inl (some (77))))), some (.inl k), some (.inl x), some (.inl k1), a2]) (st' := [.inl k1, .inr (.inr (.inl (some (96))))]) (h' := h) rfl ?_
              obtain ⟨v40, e41⟩ : ∃ v, hA h 96 (Int.toNat (k1)) = v := ⟨_, rfl⟩
              have g42 : 0 ≤ hA h 96 (Int.toNat (k1)) ∧ hA h 96 (Int.toNat (k1)) ≤ 7 := im_w I.1.1 96 (by decide) (by decide) _
              rw [e41] at g42
              refine wq_al (p' := 48) (n := 12) (ck_179 _ _ rfl) rfl (ly_k I.1.1.1 96 rfl) (by omega) (e41) ?_
              refine av_wp_sqF ck_179 1 (pc' := 50) (lv' := [some (.inr (.inr (.inl (some (77))))), some (.inl k), some (.inl x), some (.inl k1), a2]) (st' := [.inl (6), .inl v40]) (h' := h) rfl ?_
              refine wq_k2 (p' := 53) (ck_179 _ _ rfl) rfl ⟨by omega, by omega⟩ ⟨by omega, by omega⟩ (fun c43 => ?_) (fun c44 => ?_)
              · have c43 : v40 ≠ (6) := c43
                refine av_wp_sqF ck_179 1 (pc' := 58) (lv' := [some (.inr (.inr (.inl (some (77))))), some (.inl k), some (.inl x), some (.inl k1), a2]) (st' := [.inl (0)]) (h' := h) rfl ?_
                exact J16 ((0)) (by omega)
              · have c44 : v40 = (6) := c44
                refine av_wp_sqF ck_179 2 (pc' := 58) (lv' := [some (.inr (.inr (.inl (some (77))))), some (.inl k), some (.inl x), some (.inl k1), a2]) (st' := [.inl (1)]) (h' := h) rfl ?_
                exact J16 ((1)) (by omega)
  exact L4 _ ((k + (1))) (none) rfl (by omega) rfl

set_option maxRecDepth 100000 in
set_option maxHeartbeats 4000000 in
theorem ct_174 {g h : av_H} {n a m : Int} (I : IMF n a m h) (F : FM g h)  {Q : Option av_V → av_H → Prop} (hq : ∀ h', IMF n a m h' → FM g h' → Q none h') : av_wp none cd_174 0 [some (.inr (.inr (.inl (some (77))))), none, none] [] h Q := by
  have gn := im_n I.1.1
  rw [I.2.1] at gn
  have ga := im_a I.1.1
  rw [I.2.2.1] at ga
  have gm := im_cm I.1.1
  rw [I.2.2.2] at gm
  refine av_wp_sqF ck_174 2 (pc' := 2) (lv' := [some (.inr (.inr (.inl (some (77))))), some (.inl (0)), none]) (st' := []) (h' := h) rfl ?_
  have L7 : ∀ (m6 : Nat) (k1 : Int) (a2 : Option av_V) (h3 : av_H), av_lg a2 = false → (0 ≤ k1 ∧ k1 ≤ 12) → IMF n a m h3 → FM g h3 → (12 - k1).toNat = m6 → av_wp none cd_174 2 [some (.inr (.inr (.inl (some (77))))), some (.inl k1), a2] [] h3 Q := by
    intro m6
    induction m6 using Nat.strongRecOn with
    | _ m6 I8 =>
      intro k1 a2 h3 g10 g11 I4 F5 e9
      have la2 := g10
      refine av_wp_sqF ck_174 2 (pc' := 4) (lv' := [some (.inr (.inr (.inl (some (77))))), some (.inl k1), a2]) (st' := [.inr (.inr (.inl (some (77)))), .inl k1]) (h' := h3) rfl ?_
      refine wq_gi (p' := 7) (ck_174 _ _ rfl) rfl (congrArg Prod.fst (ly_k I4.1.1.1 77 rfl)) rfl (I4.2.1) ?_
      refine wq_k2 (p' := 10) (ck_174 _ _ rfl) rfl ⟨by omega, by omega⟩ ⟨by omega, by omega⟩ (fun c12 => ?_) (fun c13 => ?_)
      · have c12 : n ≤ k1 := c12
        refine av_wp_ret (v := none) (ck_174 _ _ rfl) rfl rfl ?_
        exact hq h3 I4 F5
      · have c13 : k1 < n := c13
        refine av_wp_sqF ck_174 2 (pc' := 12) (lv' := [some (.inr (.inr (.inl (some (77))))), some (.inl k1), a2]) (st' := [.inl k1, .inr (.inr (.inl (some (77))))]) (h' := h3) rfl ?_
        refine wq_cv (p' := 15) (av_qc (.invokevirtual 369) 168 1 0 8) 2 cd_168 [.inl k1] (77) 8 [some (.inr (.inr (.inl (some (77))))), some (.inl k1)] (ck_174 _ _ rfl) rfl rfl pp_168 rfl rfl rfl (congrArg Prod.fst (ly_k I4.1.1.1 77 rfl)) rfl rfl rfl rfl ?_
        refine ct_168 I4 F5 (k1) (by omega) (fun v14 p15 => ?_)
        show av_wp _ cd_174 15 [some (.inr (.inr (.inl (some (77))))), some (.inl k1), a2] [.inl v14] h3 _
        have J21 : ∀ (a16 : Option av_V) (h17 : av_H), av_lg a16 = false → IMF n a m h17 → FM g h17 →  av_wp none cd_174 176 [some (.inr (.inr (.inl (some (77))))), some (.inl k1), a16] [] h17 Q := by
          intro a16 h17 g20 I18 F19
          have la16 := g20
          refine av_wp_sqF ck_174 2 (pc' := 2) (lv' := [some (.inr (.inr (.inl (some (77))))), some (.inl (k1 + (1))), a16]) (st' := []) (h' := h17) rfl ?_
          exact I8 _ (by omega) ((k1 + (1))) (a16) h17 la16 (by omega) I18 F19 rfl
        refine wq_k1 (p' := 18) (ck_174 _ _ rfl) rfl ⟨by omega, by omega⟩ (fun c22 => ?_) (fun c23 => ?_)
        · have c22 : v14 ≠ (0) := c22
          refine av_wp_sqF ck_174 1 (pc' := 22) (lv' := [some (.inr (.inr (.inl (some (77))))), some (.inl k1), a2]) (st' := [.inr (.inr (.inl (some (77))))]) (h' := h3) rfl ?_
          refine wq_gr (p' := 25) (ck_174 _ _ rfl) rfl (congrArg Prod.fst (ly_k I4.1.1.1 77 rfl)) rfl (ly_g I4.1.1.1 77 47 113 rfl) ?_
          refine av_wp_sqF ck_174 2 (pc' := 27) (lv' := [some (.inr (.inr (.inl (some (77))))), some (.inl k1), a2]) (st' := [.inr (.inr (.inl (some (77)))), .inl k1, .inr (.inr (.inl (some (113))))]) (h' := h3) rfl ?_
          refine wq_gr (p' := 30) (ck_174 _ _ rfl) rfl (congrArg Prod.fst (ly_k I4.1.1.1 77 rfl)) rfl (ly_g I4.1.1.1 77 37 103 rfl) ?_
          refine av_wp_sqF ck_174 1 (pc' := 31) (lv' := [some (.inr (.inr (.inl (some (77))))), some (.inl k1), a2]) (st' := [.inl k1, .inr (.inr (.inl (some (103)))), .inl k1, .inr (.inr (.inl (some (113))))]) (h' := h3) rfl ?_
          obtain ⟨v24, e25⟩ : ∃ v, hA h3 103 (Int.toNat (k1)) = v := ⟨_, rfl⟩
          have g26 : 0 ≤ hA h3 103 (Int.toNat (k1)) ∧ hA h3 103 (Int.toNat (k1)) ≤ 1 := im_w I4.1.1 103 (by decide) (by decide) _
          rw [e25] at g26
          refine wq_bl (p' := 32) (n := 12) (ck_174 _ _ rfl) rfl ((Or.inr (ly_k I4.1.1.1 103 rfl))) (by omega) (e25) ?_
          have J28 : ∀ (j27 : Int),  av_wp none cd_174 50 [some (.inr (.inr (.inl (some (77))))), some (.inl k1), a2] [.inl j27, .inl k1, .inr (.inr (.inl (some (113))))] h3 Q := by
            intro j27
            refine im_as (p' := 51) (l := 12) rfl rfl I4 F5 (ly_k I4.1.1.1 113 rfl) (by omega) (by omega) (fun h29 I30 F31 => ?_)
            refine av_wp_sqF ck_174 1 (pc' := 52) (lv' := [some (.inr (.inr (.inl (some (77))))), some (.inl k1), a2]) (st' := [.inr (.inr (.inl (some (77))))]) (h' := h29) rfl ?_
            refine wq_gr (p' := 55) (ck_174 _ _ rfl) rfl (congrArg Prod.fst (ly_k I30.1.1.1 77 rfl)) rfl (ly_g I30.1.1.1 77 48 114 rfl) ?_
            refine av_wp_sqF ck_174 2 (pc' := 59) (lv' := [some (.inr (.inr (.inl (some (77))))), some (.inl k1), a2]) (st' := [.inl (9999), .inl k1, .inr (.inr (.inl (some (114))))]) (h' := h29) rfl ?_
            refine im_as (p' := 60) (l := 12) rfl rfl I30 F31 (ly_k I30.1.1.1 114 rfl) (by omega) (by omega) (fun h32 I33 F34 => ?_)
            refine av_wp_sqF ck_174 1 (pc' := 61) (lv' := [some (.inr (.inr (.inl (some (77))))), some (.inl k1), a2]) (st' := [.inr (.inr (.inl (some (77))))]) (h' := h32) rfl ?_
            refine wq_gr (p' := 64) (ck_174 _ _ rfl) rfl (congrArg Prod.fst (ly_k I33.1.1.1 77 rfl)) rfl (ly_g I33.1.1.1 77 49 115 rfl) ?_
            refine av_wp_sqF ck_174 2 (pc' := 66) (lv' := [some (.inr (.inr (.inl (some (77))))), some (.inl k1), a2]) (st' := [.inl (0), .inl k1, .inr (.inr (.inl (some (115))))]) (h' := h32) rfl ?_
            refine im_as (p' := 67) (l := 12) rfl rfl I33 F34 (ly_k I33.1.1.1 115 rfl) (by omega) (by omega) (fun h35 I36 F37 => ?_)
            refine av_wp_sqF ck_174 4 (pc' := 71) (lv' := [some (.inr (.inr (.inl (some (77))))), some (.inl k1), some (.inl (k1 + (1)))]) (st' := []) (h' := h35) rfl ?_
            have L43 : ∀ (m42 : Nat) (k38 : Int) (h39 : av_H), (0 ≤ k38 ∧ k38 ≤ 12) → IMF n a m h39 → FM g h39 → (12 - k38).toNat = m42 → av_wp none cd_174 71 [some (.inr (.inr (.inl (some (77))))), some (.inl k1), some (.inl k38)] [] h39 Q := by
              intro m42
              induction m42 using Nat.strongRecOn with
              | _ m42 I44 =>
                intro k38 h39 g46 I40 F41 e45
                refine av_wp_sqF ck_174 2 (pc' := 73) (lv' := [some (.inr (.inr (.inl (some (77))))), some (.inl k1), some (.inl k38)]) (st' := [.inr (.inr (.inl (some (77)))), .inl k38]) (h' := h39) rfl ?_
                refine wq_gi (p' := 76) (ck_174 _ _ rfl) rfl (congrArg Prod.fst (ly_k I40.1.1.1 77 rfl)) rfl (I40.2.1) ?_
                refine wq_k2 (p' := 79) (ck_174 _ _ rfl) rfl ⟨by omega, by omega⟩ ⟨by omega, by omega⟩ (fun c47 => ?_) (fun c48 => ?_)
                · have c47 : n ≤ k38 := c47
                  refine av_wp_sqF ck_174 1 (pc' := 110) (lv' := [some (.inr (.inr (.inl (some (77))))), some (.inl k1), some (.inl k38)]) (st' := [.inr (.inr (.inl (some (77))))]) (h' := h39) rfl ?_
                  refine wq_gr (p' := 113) (ck_174 _ _ rfl) rfl (congrArg Prod.fst (ly_k I40.1.1.1 77 rfl)) rfl (ly_g I40.1.1.1 77 33 99 rfl) ?_
                  refine av_wp_sqF ck_174 1 (pc' := 114) (lv' := [some (.inr (.inr (.inl (some (77))))), some (.inl k1), some (.inl k38)]) (st' := [.inl k1, .inr (.inr (.inl (some (99))))]) (h' := h39) rfl ?_
                  obtain ⟨v49, e50⟩ : ∃ v, hA h39 99 (Int.toNat (k1)) = v := ⟨_, rfl⟩
                  have g51 : -1 ≤ hA h39 99 (Int.toNat (k1)) ∧ hA h39 99 (Int.toNat (k1)) ≤ 1999 := im_w I40.1.1 99 (by decide) (by decide) _
                  rw [e50] at g51
                  refine wq_al (p' := 115) (n := 12) (ck_174 _ _ rfl) rfl (ly_k I40.1.1.1 99 rfl) (by omega) (e50) ?_
                  refine wq_k1 (p' := 118) (ck_174 _ _ rfl) rfl ⟨by omega, by omega⟩ (fun c52 => ?_) (fun c53 => ?_)
                  · have c52 : v49 < (0) := c52
                    refine av_wp_sqF ck_174 1 (pc' := 136) (lv' := [some (.inr (.inr (.inl (some (77))))), some (.inl k1), some (.inl k38)]) (st' := [.inr (.inr (.inl (some (77))))]) (h' := h39) rfl ?_
                    refine wq_gr (p' := 139) (ck_174 _ _ rfl) rfl (congrArg Prod.fst (ly_k I40.1.1.1 77 rfl)) rfl (ly_g I40.1.1.1 77 26 95 rfl) ?_
                    refine av_wp_sqF ck_174 1 (pc' := 141) (lv' := [some (.inr (.inr (.inl (some (77))))), some (.inl k1), some (.inl k38)]) (st' := [.inl (7), .inr (.inr (.inl (some (95))))]) (h' := h39) rfl ?_
                    obtain ⟨v54, e55⟩ : ∃ v, hA h39 95 (Int.toNat ((7))) = v := ⟨_, rfl⟩
                    refine wq_al (p' := 142) (n := 13) (ck_174 _ _ rfl) rfl (ly_k I40.1.1.1 95 rfl) (by omega) (e55) ?_
                    refine wq_c1 (p' := 145) (ck_174 _ _ rfl) rfl ?_ ?_
                    · exact J21 (some (.inl k38)) h39 rfl I40 F41
                    · refine av_wp_sqF ck_174 1 (pc' := 146) (lv' := [some (.inr (.inr (.inl (some (77))))), some (.inl k1), some (.inl k38)]) (st' := [.inr (.inr (.inl (some (77))))]) (h' := h39) rfl ?_
                      refine wq_gr (p' := 149) (ck_174 _ _ rfl) rfl (congrArg Prod.fst (ly_k I40.1.1.1 77 rfl)) rfl (ly_g I40.1.1.1 77 44 110 rfl) ?_
                      refine av_wp_sqF ck_174 1 (pc' := 150) (lv' := [some (.inr (.inr (.inl (some (77))))), some (.inl k1), some (.inl k38)]) (st' := [.inl k1, .inr (.inr (.inl (some (110))))]) (h' := h39) rfl ?_
                      obtain ⟨v57, e58⟩ : ∃ v, hA h39 110 (Int.toNat (k1)) = v := ⟨_, rfl⟩
                      refine wq_al (p' := 151) (n := 12) (ck_174 _ _ rfl) rfl (ly_k I40.1.1.1 110 rfl) (by omega) (e58) ?_
                      refine wq_c1 (p' := 154) (ck_174 _ _ rfl) rfl ?_ ?_
                      · exact J21 (some (.inl k38)) h39 rfl I40 F41
                      · refine av_wp_sqF ck_174 3 (pc' := 157) (lv' := [some (.inr (.inr (.inl (some (77))))), some (.inl k1), some (.inl k38)]) (st' := [.inr (.inr (.inl (some (77)))), .inl k1, .inr (.inr (.inl (some (77))))]) (h' := h39) rfl ?_
                        refine wq_gr (p' := 160) (ck_174 _ _ rfl) rfl (congrArg Prod.fst (ly_k I40.1.1.1 77 rfl)) rfl (ly_g I40.1.1.1 77 44 110 rfl) ?_
                        refine av_wp_sqF ck_174 1 (pc' := 161) (lv' := [some (.inr (.inr (.inl (some (77))))), some (.inl k1), some (.inl k38)]) (st' := [.inl k1, .inr (.inr (.inl (some (110)))), .inl k1, .inr (.inr (.inl (some (77))))]) (h' := h39) rfl ?_
                        obtain ⟨v60, e61⟩ : ∃ v, hA h39 110 (Int.toNat (k1)) = v := ⟨_, rfl⟩
                        refine wq_al (p' := 162) (n := 12) (ck_174 _ _ rfl) rfl (ly_k I40.1.1.1 110 rfl) (by omega) (e61) ?_
                        refine av_wp_sqF ck_174 1 (pc' := 163) (lv' := [some (.inr (.inr (.inl (some (77))))), some (.inl k1), some (.inl k38)]) (st' := [.inr (.inr (.inl (some (77)))), .inl v60, .inl k1, .inr (.inr (.inl (some (77))))]) (h' := h39) rfl ?_
                        refine wq_gr (p' := 166) (ck_174 _ _ rfl) rfl (congrArg Prod.fst (ly_k I40.1.1.1 77 rfl)) rfl (ly_g I40.1.1.1 77 26 95 rfl) ?_
                        refine av_wp_sqF ck_174 1 (pc' := 168) (lv' := [some (.inr (.inr (.inl (some (77))))), some (.inl k1), some (.inl k38)]) (st' := [.inl (7), .inr (.inr (.inl (some (95)))), .inl v60, .inl k1, .inr (.inr (.inl (some (77))))]) (h' := h39) rfl ?_
                        obtain ⟨v63, e64⟩ : ∃ v, hA h39 95 (Int.toNat ((7))) = v := ⟨_, rfl⟩
                        refine wq_al (p' := 169) (n := 13) (ck_174 _ _ rfl) rfl (ly_k I40.1.1.1 95 rfl) (by omega) (e64) ?_
                        refine av_wp_sqF ck_174 4 (pc' := 173) (lv' := [some (.inr (.inr (.inl (some (77))))), some (.inl k1), some (.inl k38)]) (st' := [.inl (4), .inl ((v60 + v63) + (1)), .inl k1, .inr (.inr (.inl (some (77))))]) (h' := h39) rfl ?_
                        refine wq_cv (p' := 176) (av_qc (.invokevirtual 375) 173 3 0 8) 4 cd_173 [.inl (4), .inl ((v60 + v63) + (1)), .inl k1] (77) 8 [some (.inr (.inr (.inl (some (77))))), some (.inl k1), some (.inl ((v60 + v63) + (1))), some (.inl (4))] (ck_174 _ _ rfl) rfl rfl pp_173 rfl rfl rfl (congrArg Prod.fst (ly_k I40.1.1.1 77 rfl)) rfl rfl rfl rfl ?_
                        refine ct_173 I40 F41 (k1) (by omega) (((v60 + v63) + (1))) ((4)) (fun h68 I69 F70 => ?_)
                        show av_wp _ cd_174 176 [some (.inr (.inr (.inl (some (77))))), some (.inl k1), some (.inl k38)] [] h68 _
                        exact J21 (some (.inl k38)) h68 rfl I69 F70
                  · have c53 : (0) ≤ v49 := c53
                    refine av_wp_sqF ck_174 3 (pc' := 121) (lv' := [some (.inr (.inr (.inl (some (77))))), some (.inl k1), some (.inl k38)]) (st' := [.inr (.inr (.inl (some (77)))), .inl k1, .inr (.inr (.inl (some (77))))]) (h' := h39) rfl ?_
                    refine wq_gr (p' := 124) (ck_174 _ _ rfl) rfl (congrArg Prod.fst (ly_k I40.1.1.1 77 rfl)) rfl (ly_g I40.1.1.1 77 33 99 rfl) ?_
                    refine av_wp_sqF ck_174 1 (pc' := 125) (lv' := [some (.inr (.inr (.inl (some (77))))), some (.inl k1), some (.inl k38)]) (st' := [.inl k1, .inr (.inr (.inl (some (99)))), .inl k1, .inr (.inr (.inl (some (77))))]) (h' := h39) rfl ?_
                    obtain ⟨v71, e72⟩ : ∃ v, hA h39 99 (Int.toNat (k1)) = v := ⟨_, rfl⟩
                    have g73 : -1 ≤ hA h39 99 (Int.toNat (k1)) ∧ hA h39 99 (Int.toNat (k1)) ≤ 1999 := im_w I40.1.1 99 (by decide) (by decide) _
                    rw [e72] at g73
                    refine wq_al (p' := 126) (n := 12) (ck_174 _ _ rfl) rfl (ly_k I40.1.1.1 99 rfl) (by omega) (e72) ?_
                    refine av_wp_sqF ck_174 3 (pc' := 129) (lv' := [some (.inr (.inr (.inl (some (77))))), some (.inl k1), some (.inl k38)]) (st' := [.inl (3), .inl (v71 + (1)), .inl k1, .inr (.inr (.inl (some (77))))]) (h' := h39) rfl ?_
                    refine wq_cv (p' := 132) (av_qc (.invokevirtual 375) 173 3 0 8) 4 cd_173 [.inl (3), .inl (v71 + (1)), .inl k1] (77) 8 [some (.inr (.inr (.inl (some (77))))), some (.inl k1), some (.inl (v71 + (1))), some (.inl (3))] (ck_174 _ _ rfl) rfl rfl pp_173 rfl rfl rfl (congrArg Prod.fst (ly_k I40.1.1.1 77 rfl)) rfl rfl rfl rfl ?_
                    refine ct_173 I40 F41 (k1) (by omega) ((v71 + (1))) ((3)) (fun h76 I77 F78 => ?_)
                    show av_wp _ cd_174 132 [some (.inr (.inr (.inl (some (77))))), some (.inl k1), some (.inl k38)] [] h76 _
                    refine av_wp_sqF ck_174 1 (pc' := 176) (lv' := [some (.inr (.inr (.inl (some (77))))), some (.inl k1), some (.inl k38)]) (st' := []) (h' := h76) rfl ?_
                    exact J21 (some (.inl k38)) h76 rfl I77 F78
                · have c48 : k38 < n := c48
                  refine av_wp_sqF ck_174 5 (pc' := 84) (lv' := [some (.inr (.inr (.inl (some (77))))), some (.inl k1), some (.inl k38)]) (st' := [.inl k1, .inl k38, .inr (.inr (.inl (some (77)))), .inl k1, .inr (.inr (.inl (some (77))))]) (h' := h39) rfl ?_
                  refine wq_cv (p' := 87) (av_qc (.invokevirtual 372) 171 2 0 8) 4 cd_171 [.inl k1, .inl k38] (77) 8 [some (.inr (.inr (.inl (some (77))))), some (.inl k38), some (.inl k1), none] (ck_174 _ _ rfl) rfl rfl pp_171 rfl rfl rfl (congrArg Prod.fst (ly_k I40.1.1.1 77 rfl)) rfl rfl rfl rfl ?_
                  refine ct_171 I40 F41 (k38) (by omega) (k1) (by omega) (fun v79 => ?_)
                  show av_wp _ cd_174 87 [some (.inr (.inr (.inl (some (77))))), some (.inl k1), some (.inl k38)] [.inl v79, .inl k1, .inr (.inr (.inl (some (77))))] h39 _
                  refine av_wp_sqF ck_174 1 (pc' := 88) (lv' := [some (.inr (.inr (.inl (some (77))))), some (.inl k1), some (.inl k38)]) (st' := [.inl (1), .inl v79, .inl k1, .inr (.inr (.inl (some (77))))]) (h' := h39) rfl ?_
                  refine wq_cv (p' := 91) (av_qc (.invokevirtual 375) 173 3 0 8) 4 cd_173 [.inl (1), .inl v79, .inl k1] (77) 8 [some (.inr (.inr (.inl (some (77))))), some (.inl k1), some (.inl v79), some (.inl (1))] (ck_174 _ _ rfl) rfl rfl pp_173 rfl rfl rfl (congrArg Prod.fst (ly_k I40.1.1.1 77 rfl)) rfl rfl rfl rfl ?_
                  refine ct_173 I40 F41 (k1) (by omega) (v79) ((1)) (fun h83 I84 F85 => ?_)
                  show av_wp _ cd_174 91 [some (.inr (.inr (.inl (some (77))))), some (.inl k1), some (.inl k38)] [] h83 _
                  refine av_wp_sqF ck_174 5 (pc' := 96) (lv' := [some (.inr (.inr (.inl (some (77))))), some (.inl k1), some (.inl k38)]) (st' := [.inl k1, .inl k38, .inr (.inr (.inl (some (77)))), .inl k1, .inr (.inr (.inl (some (77))))]) (h' := h83) rfl ?_
                  refine wq_cv (p' := 99) (av_qc (.invokevirtual 378) 172 2 0 8) 3 cd_172 [.inl k1, .inl k38] (77) 8 [some (.inr (.inr (.inl (some (77))))), some (.inl k38), some (.inl k1)] (ck_174 _ _ rfl) rfl rfl pp_172 rfl rfl rfl (congrArg Prod.fst (ly_k I84.1.1.1 77 rfl)) rfl rfl rfl rfl ?_
                  refine ct_172 I84 F85 (k38) (by omega) (k1) (by omega) (fun v86 => ?_)
                  show av_wp _ cd_174 99 [some (.inr (.inr (.inl (some (77))))), some (.inl k1), some (.inl k38)] [.inl v86, .inl k1, .inr (.inr (.inl (some (77))))] h83 _
                  refine av_wp_sqF ck_174 1 (pc' := 100) (lv' := [some (.inr (.inr (.inl (some (77))))), some (.inl k1), some (.inl k38)]) (st' := [.inl (2), .inl v86, .inl k1, .inr (.inr (.inl (some (77))))]) (h' := h83) rfl ?_
                  refine wq_cv (p' := 103) (av_qc (.invokevirtual 375) 173 3 0 8) 4 cd_173 [.inl (2), .inl v86, .inl k1] (77) 8 [some (.inr (.inr (.inl (some (77))))), some (.inl k1), some (.inl v86), some (.inl (2))] (ck_174 _ _ rfl) rfl rfl pp_173 rfl rfl rfl (congrArg Prod.fst (ly_k I84.1.1.1 77 rfl)) rfl rfl rfl rfl ?_
                  refine ct_173 I84 F85 (k1) (by omega) (v86) ((2)) (fun h90 I91 F92 => ?_)
                  show av_wp _ cd_174 103 [some (.inr (.inr (.inl (some (77))))), some (.inl k1), some (.inl k38)] [] h90 _
                  refine av_wp_sqF ck_174 2 (pc' := 71) (lv' := [some (.inr (.inr (.inl (some (77))))), some (.inl k1), some (.inl (k38 + (1)))]) (st' := []) (h' := h90) rfl ?_
                  exact I44 _ (by omega) ((k38 + (1))) h90 (by omega) I91 F92 rfl
            exact L43 _ ((k1 + (1))) h35 (by omega) I36 F37 rfl
          refine wq_k1 (p' := 35) (ck_174 _ _ rfl) rfl ⟨by omega, by omega⟩ (fun c93 => ?_) (fun c94 => ?_)
          · have c93 : v24 = (0) := c93
            refine av_wp_sqF ck_174 3 (pc' := 42) (lv' := [some (.inr (.inr (.inl (some (77))))), some (.inl k1), a2]) (st' := [.inr (.inr (.inl (some (77)))), .inl k1, .inr (.inr (.inl (some (77)))), .inl k1, .inr (.inr (.inl (some (113))))]) (h' := h3) rfl ?_
            refine wq_gr (p' := 45) (ck_174 _ _ rfl) rfl (congrArg Prod.fst (ly_k I4.1.1.1 77 rfl)) rfl (ly_g I4.1.1.1 77 26 95 rfl) ?_
            refine av_wp_sqF ck_174 1 (pc' := 46) (lv' := [some (.inr (.inr (.inl (some (77))))), some (.inl k1), a2]) (st' := [.inl (3), .inr (.inr (.inl (some (95)))), .inl k1, .inr (.inr (.inl (some (77)))), .inl k1, .inr (.inr (.inl (some (113))))]) (h' := h3) rfl ?_
            obtain ⟨v95, e96⟩ : ∃ v, hA h3 95 (Int.toNat ((3))) = v := ⟨_, rfl⟩
            refine wq_al (p' := 47) (n := 13) (ck_174 _ _ rfl) rfl (ly_k I4.1.1.1 95 rfl) (by omega) (e96) ?_
            refine wq_cv (p' := 50) (av_qc (.invokevirtual 363) 166 2 0 8) 3 cd_166 [.inl v95, .inl k1] (77) 8 [some (.inr (.inr (.inl (some (77))))), some (.inl k1), some (.inl v95)] (ck_174 _ _ rfl) rfl rfl pp_166 rfl rfl rfl (congrArg Prod.fst (ly_k I4.1.1.1 77 rfl)) rfl rfl rfl rfl ?_
            refine ct_166 I4 F5 (k1) (by omega) (v95) (fun v98 => ?_)
            show av_wp _ cd_174 50 [some (.inr (.inr (.inl (some (77))))), some (.inl k1), a2] [.inl v98, .inl k1, .inr (.inr (.inl (some (113))))] h3 _
            exact J28 (v98)
          · have c94 : v24 ≠ (0) := c94
            refine av_wp_sqF ck_174 2 (pc' := 50) (lv' := [some (.inr (.inr (.inl (some (77))))), some (.inl k1), a2]) (st' := [.inl (-1), .inl k1, .inr (.inr (.inl (some (113))))]) (h' := h3) rfl ?_
            exact J28 ((-1))
        · have c23 : v14 = (0) := c23
          refine av_wp_sqF ck_174 1 (pc' := 176) (lv' := [some (.inr (.inr (.inl (some (77))))), some (.inl k1), a2]) (st' := []) (h' := h3) rfl ?_
          exact J21 (a2) h3 la2 I4 F5
  exact L7 _ ((0)) (none) h rfl (by omega) I F rfl

set_option maxRecDepth 100000 in
set_option maxHeartbeats 4000000 in
theorem ct_180 {g h : av_H} {n a m : Int} (I : IMF n a m h) (F : FM g h)  {Q : Option av_V → av_H → Prop} (hq : ∀ h', IMF n a m h' → FM g h' → Q none h') : av_wp none cd_180 0 [some (.inr (.inr (.inl (some (77))))), none, none, none] [] h Q := by
  have gn := im_n I.1.1
  rw [I.2.1] at gn
  have ga := im_a I.1.1
  rw [I.2.2.1] at ga
  have gm := im_cm I.1.1
  rw [I.2.2.2] at gm
  refine av_wp_sqF ck_180 2 (pc' := 2) (lv' := [some (.inr (.inr (.inl (some (77))))), none, none, none]) (st' := [.inl (0), .inr (.inr (.inl (some (77))))]) (h' := h) rfl ?_
  refine im_pb (p' := 5) rfl rfl I F (by omega) (fun h1 I2 F3 => ?_)
  refine av_wp_sqF ck_180 2 (pc' := 7) (lv' := [some (.inr (.inr (.inl (some (77))))), some (.inl (0)), none, none]) (st' := []) (h' := h1) rfl ?_
  have L11 : ∀ (m10 : Nat) (k4 : Int) (a5 : Option av_V) (a6 : Option av_V) (h7 : av_H), av_lg a5 = false → av_lg a6 = false → (0 ≤ k4 ∧ k4 ≤ 12) → IMF n a m h7 → FM g h7 → (12 - k4).toNat = m10 → av_wp none cd_180 7 [some (.inr (.inr (.inl (some (77))))), some (.inl k4), a5, a6] [] h7 Q := by
    intro m10
    induction m10 using Nat.strongRecOn with
    | _ m10 I12 =>
      intro k4 a5 a6 h7 g14 g15 g16 I8 F9 e13
      have la5 := g14
      have la6 := g15
      refine av_wp_sqF ck_180 2 (pc' := 9) (lv' := [some (.inr (.inr (.inl (some (77))))), some (.inl k4), a5, a6]) (st' := [.inr (.inr (.inl (some (77)))), .inl k4]) (h' := h7) rfl ?_
      refine wq_gi (p' := 12) (ck_180 _ _ rfl) rfl (congrArg Prod.fst (ly_k I8.1.1.1 77 rfl)) rfl (I8.2.1) ?_
      refine wq_k2 (p' := 15) (ck_180 _ _ rfl) rfl ⟨by omega, by omega⟩ ⟨by omega, by omega⟩ (fun c17 => ?_) (fun c18 => ?_)
      · have c17 : n ≤ k4 := c17
        refine av_wp_sqF ck_180 1 (pc' := 107) (lv' := [some (.inr (.inr (.inl (some (77))))), some (.inl k4), a5, a6]) (st' := [.inr (.inr (.inl (some (77))))]) (h' := h7) rfl ?_
        refine wq_gr (p' := 110) (ck_180 _ _ rfl) rfl (congrArg Prod.fst (ly_k I8.1.1.1 77 rfl)) rfl (ly_g I8.1.1.1 77 26 95 rfl) ?_
        refine av_wp_sqF ck_180 1 (pc' := 112) (lv' := [some (.inr (.inr (.inl (some (77))))), some (.inl k4), a5, a6]) (st' := [.inl (8), .inr (.inr (.inl (some (95))))]) (h' := h7) rfl ?_
        obtain ⟨v19, e20⟩ : ∃ v, hA h7 95 (Int.toNat ((8))) = v := ⟨_, rfl⟩
        refine wq_al (p' := 113) (n := 13) (ck_180 _ _ rfl) rfl (ly_k I8.1.1.1 95 rfl) (by omega) (e20) ?_
        refine wq_c1 (p' := 116) (ck_180 _ _ rfl) rfl ?_ ?_
        · refine av_wp_sqF ck_180 2 (pc' := 119) (lv' := [some (.inr (.inr (.inl (some (77))))), some (.inl (0)), a5, a6]) (st' := []) (h' := h7) rfl ?_
          have L28 : ∀ (m27 : Nat) (k22 : Int) (a23 : Option av_V) (h24 : av_H), av_lg a23 = false → (0 ≤ k22 ∧ k22 ≤ 12) → IMF n a m h24 → FM g h24 → (12 - k22).toNat = m27 → av_wp none cd_180 119 [some (.inr (.inr (.inl (some (77))))), some (.inl k22), a23, a6] [] h24 Q := by
            intro m27
            induction m27 using Nat.strongRecOn with
            | _ m27 I29 =>
              intro k22 a23 h24 g31 g32 I25 F26 e30
              have la23 := g31
              refine av_wp_sqF ck_180 2 (pc' := 121) (lv' := [some (.inr (.inr (.inl (some (77))))), some (.inl k22), a23, a6]) (st' := [.inr (.inr (.inl (some (77)))), .inl k22]) (h' := h24) rfl ?_
              refine wq_gi (p' := 124) (ck_180 _ _ rfl) rfl (congrArg Prod.fst (ly_k I25.1.1.1 77 rfl)) rfl (I25.2.1) ?_
              refine wq_k2 (p' := 127) (ck_180 _ _ rfl) rfl ⟨by omega, by omega⟩ ⟨by omega, by omega⟩ (fun c33 => ?_) (fun c34 => ?_)
              · have c33 : n ≤ k22 := c33
                refine av_wp_ret (v := none) (ck_180 _ _ rfl) rfl rfl ?_
                exact hq h24 I25 F26
              · have c34 : k22 < n := c34
                refine av_wp_sqF ck_180 2 (pc' := 129) (lv' := [some (.inr (.inr (.inl (some (77))))), some (.inl k22), a23, a6]) (st' := [.inl k22, .inr (.inr (.inl (some (77))))]) (h' := h24) rfl ?_
                refine wq_cv (p' := 132) (av_qc (.invokevirtual 369) 168 1 0 8) 2 cd_168 [.inl k22] (77) 8 [some (.inr (.inr (.inl (some (77))))), some (.inl k22)] (ck_180 _ _ rfl) rfl rfl pp_168 rfl rfl rfl (congrArg Prod.fst (ly_k I25.1.1.1 77 rfl)) rfl rfl rfl rfl ?_
                refine ct_168 I25 F26 (k22) (by omega) (fun v35 p36 => ?_)
                show av_wp _ cd_180 132 [some (.inr (.inr (.inl (some (77))))), some (.inl k22), a23, a6] [.inl v35] h24 _
                refine wq_k1 (p' := 135) (ck_180 _ _ rfl) rfl ⟨by omega, by omega⟩ (fun c37 => ?_) (fun c38 => ?_)
                · have c37 : v35 = (0) := c37
                  refine av_wp_sqF ck_180 2 (pc' := 119) (lv' := [some (.inr (.inr (.inl (some (77))))), some (.inl (k22 + (1))), a23, a6]) (st' := []) (h' := h24) rfl ?_
                  exact I29 _ (by omega) ((k22 + (1))) (a23) h24 la23 (by omega) I25 F26 rfl
                · have c38 : v35 ≠ (0) := c38
                  refine av_wp_sqF ck_180 1 (pc' := 136) (lv' := [some (.inr (.inr (.inl (some (77))))), some (.inl k22), a23, a6]) (st' := [.inr (.inr (.inl (some (77))))]) (h' := h24) rfl ?_
                  refine wq_gr (p' := 139) (ck_180 _ _ rfl) rfl (congrArg Prod.fst (ly_k I25.1.1.1 77 rfl)) rfl (ly_g I25.1.1.1 77 45 111 rfl) ?_
                  refine av_wp_sqF ck_180 1 (pc' := 140) (lv' := [some (.inr (.inr (.inl (some (77))))), some (.inl k22), a23, a6]) (st' := [.inl k22, .inr (.inr (.inl (some (111))))]) (h' := h24) rfl ?_
                  obtain ⟨v39, e40⟩ : ∃ v, hA h24 111 (Int.toNat (k22)) = v := ⟨_, rfl⟩
                  refine wq_al (p' := 141) (n := 12) (ck_180 _ _ rfl) rfl (ly_k I25.1.1.1 111 rfl) (by omega) (e40) ?_
                  refine wq_c1 (p' := 144) (ck_180 _ _ rfl) rfl ?_ ?_
                  · refine av_wp_sqF ck_180 1 (pc' := 148) (lv' := [some (.inr (.inr (.inl (some (77))))), some (.inl k22), a23, a6]) (st' := [.inr (.inr (.inl (some (77))))]) (h' := h24) rfl ?_
                    refine wq_gr (p' := 151) (ck_180 _ _ rfl) rfl (congrArg Prod.fst (ly_k I25.1.1.1 77 rfl)) rfl (ly_g I25.1.1.1 77 45 111 rfl) ?_
                    refine av_wp_sqF ck_180 1 (pc' := 152) (lv' := [some (.inr (.inr (.inl (some (77))))), some (.inl k22), a23, a6]) (st' := [.inl k22, .inr (.inr (.inl (some (111))))]) (h' := h24) rfl ?_
                    obtain ⟨v42, e43⟩ : ∃ v, hA h24 111 (Int.toNat (k22)) = v := ⟨_, rfl⟩
                    refine wq_al (p' := 153) (n := 12) (ck_180 _ _ rfl) rfl (ly_k I25.1.1.1 111 rfl) (by omega) (e43) ?_
                    refine av_wp_sqF ck_180 1 (pc' := 154) (lv' := [some (.inr (.inr (.inl (some (77))))), some (.inl k22), a23, a6]) (st' := [.inr (.inr (.inl (some (77)))), .inl v42]) (h' := h24) rfl ?_
                    refine wq_gr (p' := 157) (ck_180 _ _ rfl) rfl (congrArg Prod.fst (ly_k I25.1.1.1 77 rfl)) rfl (ly_g I25.1.1.1 77 26 95 rfl) ?_
                    refine av_wp_sqF ck_180 1 (pc' := 159) (lv' := [some (.inr (.inr (.inl (some (77))))), some (.inl k22), a23, a6]) (st' := [.inl (8), .inr (.inr (.inl (some (95)))), .inl v42]) (h' := h24) rfl ?_
                    obtain ⟨v45, e46⟩ : ∃ v, hA h24 95 (Int.toNat ((8))) = v := ⟨_, rfl⟩
                    refine wq_al (p' := 160) (n := 13) (ck_180 _ _ rfl) rfl (ly_k I25.1.1.1 95 rfl) (by omega) (e46) ?_
                    refine av_wp_sqF ck_180 5 (pc' := 165) (lv' := [some (.inr (.inr (.inl (some (77))))), some (.inl k22), some (.inl (v42 + v45)), a6]) (st' := [.inl (v42 + v45), .inl k22, .inr (.inr (.inl (some (77))))]) (h' := h24) rfl ?_
                    refine wq_cv (p' := 168) (av_qc (.invokevirtual 403) 175 2 0 8) 3 cd_175 [.inl (v42 + v45), .inl k22] (77) 8 [some (.inr (.inr (.inl (some (77))))), some (.inl k22), some (.inl (v42 + v45))] (ck_180 _ _ rfl) rfl rfl pp_175 rfl rfl rfl (congrArg Prod.fst (ly_k I25.1.1.1 77 rfl)) rfl rfl rfl rfl ?_
                    refine ct_175 I25 F26 (k22) (by omega) ((v42 + v45)) (fun v48 p49 => ?_)
                    show av_wp _ cd_180 168 [some (.inr (.inr (.inl (some (77))))), some (.inl k22), some (.inl (v42 + v45)), a6] [.inl v48] h24 _
                    refine wq_k1 (p' := 171) (ck_180 _ _ rfl) rfl ⟨by omega, by omega⟩ (fun c50 => ?_) (fun c51 => ?_)
                    · have c50 : v48 = (0) := c50
                      refine av_wp_sqF ck_180 2 (pc' := 119) (lv' := [some (.inr (.inr (.inl (some (77))))), some (.inl (k22 + (1))), some (.inl (v42 + v45)), a6]) (st' := []) (h' := h24) rfl ?_
                      exact I29 _ (by omega) ((k22 + (1))) (some (.inl (v42 + v45))) h24 rfl (by omega) I25 F26 rfl
                    · have c51 : v48 ≠ (0) := c51
                      refine av_wp_sqF ck_180 3 (pc' := 174) (lv' := [some (.inr (.inr (.inl (some (77))))), some (.inl k22), some (.inl (v42 + v45)), a6]) (st' := [.inl (v42 + v45), .inl k22, .inr (.inr (.inl (some (77))))]) (h' := h24) rfl ?_
                      refine wq_cv (p' := 177) (av_qc (.invokevirtual 409) 179 2 0 8) 5 cd_179 [.inl (v42 + v45), .inl k22] (77) 8 [some (.inr (.inr (.inl (some (77))))), some (.inl k22), some (.inl (v42 + v45)), none, none] (ck_180 _ _ rfl) rfl rfl pp_179 rfl rfl rfl (congrArg Prod.fst (ly_k I25.1.1.1 77 rfl)) rfl rfl rfl rfl ?_
                      refine ct_179 I25 F26 (k22) (by omega) ((v42 + v45)) (fun v52 p53 => ?_)
                      show av_wp _ cd_180 177 [some (.inr (.inr (.inl (some (77))))), some (.inl k22), some (.inl (v42 + v45)), a6] [.inl v52] h24 _
                      refine wq_k1 (p' := 180) (ck_180 _ _ rfl) rfl ⟨by omega, by omega⟩ (fun c54 => ?_) (fun c55 => ?_)
                      · have c54 : v52 ≠ (0) := c54
                        refine av_wp_sqF ck_180 2 (pc' := 119) (lv' := [some (.inr (.inr (.inl (some (77))))), some (.inl (k22 + (1))), some (.inl (v42 + v45)), a6]) (st' := []) (h' := h24) rfl ?_
                        exact I29 _ (by omega) ((k22 + (1))) (some (.inl (v42 + v45))) h24 rfl (by omega) I25 F26 rfl
                      · have c55 : v52 = (0) := c55
                        refine av_wp_sqF ck_180 4 (pc' := 184) (lv' := [some (.inr (.inr (.inl (some (77))))), some (.inl k22), some (.inl (v42 + v45)), a6]) (st' := [.inl (v42 + v45), .inl k22, .inl (-1), .inr (.inr (.inl (some (77))))]) (h' := h24) rfl ?_
                        refine wq_cv (p' := 187) (av_qc (.invokevirtual 406) 178 3 0 8) 4 cd_178 [.inl (v42 + v45), .inl k22, .inl (-1)] (77) 8 [some (.inr (.inr (.inl (some (77))))), some (.inl (-1)), some (.inl k22), some (.inl (v42 + v45))] (ck_180 _ _ rfl) rfl rfl pp_178 rfl rfl rfl (congrArg Prod.fst (ly_k I25.1.1.1 77 rfl)) rfl rfl rfl rfl ?_
                        refine ct_178 I25 F26 ((-1)) (by omega) (k22) (by omega) ((v42 + v45)) (fun h58 I59 F60 => ?_)
                        show av_wp _ cd_180 187 [some (.inr (.inr (.inl (some (77))))), some (.inl k22), some (.inl (v42 + v45)), a6] [] h58 _
                        refine av_wp_sqF ck_180 2 (pc' := 119) (lv' := [some (.inr (.inr (.inl (some (77))))), some (.inl (k22 + (1))), some (.inl (v42 + v45)), a6]) (st' := []) (h' := h58) rfl ?_
                        exact I29 _ (by omega) ((k22 + (1))) (some (.inl (v42 + v45))) h58 rfl (by omega) I59 F60 rfl
                  · refine av_wp_sqF ck_180 3 (pc' := 119) (lv' := [some (.inr (.inr (.inl (some (77))))), some (.inl (k22 + (1))), a23, a6]) (st' := []) (h' := h24) rfl ?_
                    exact I29 _ (by omega) ((k22 + (1))) (a23) h24 la23 (by omega) I25 F26 rfl
          exact L28 _ ((0)) (a5) h7 la5 (by omega) I8 F9 rfl
        · refine av_wp_ret (v := none) (ck_180 _ _ rfl) rfl rfl ?_
          exact hq h7 I8 F9
      · have c18 : k4 < n := c18
        refine av_wp_sqF ck_180 1 (pc' := 16) (lv' := [some (.inr (.inr (.inl (some (77))))), some (.inl k4), a5, a6]) (st' := [.inr (.inr (.inl (some (77))))]) (h' := h7) rfl ?_
        refine wq_gr (p' := 19) (ck_180 _ _ rfl) rfl (congrArg Prod.fst (ly_k I8.1.1.1 77 rfl)) rfl (ly_g I8.1.1.1 77 34 100 rfl) ?_
        refine av_wp_sqF ck_180 1 (pc' := 20) (lv' := [some (.inr (.inr (.inl (some (77))))), some (.inl k4), a5, a6]) (st' := [.inl k4, .inr (.inr (.inl (some (100))))]) (h' := h7) rfl ?_
        obtain ⟨v61, e62⟩ : ∃ v, hA h7 100 (Int.toNat (k4)) = v := ⟨_, rfl⟩
        have g63 : -1 ≤ hA h7 100 (Int.toNat (k4)) ∧ hA h7 100 (Int.toNat (k4)) ≤ 11 := im_w I8.1.1 100 (by decide) (by decide) _
        rw [e62] at g63
        have w64 := im_wr I8.1 (Int.toNat (k4)) (by omega)
        rw [e62] at w64
        refine wq_al (p' := 21) (n := 12) (ck_180 _ _ rfl) rfl (ly_k I8.1.1.1 100 rfl) (by omega) (e62) ?_
        refine av_wp_sqF ck_180 3 (pc' := 24) (lv' := [some (.inr (.inr (.inl (some (77))))), some (.inl k4), some (.inl v61), a6]) (st' := [.inl k4, .inr (.inr (.inl (some (77))))]) (h' := h7) rfl ?_
        refine wq_cv (p' := 27) (av_qc (.invokevirtual 393) 170 1 0 8) 2 cd_170 [.inl k4] (77) 8 [some (.inr (.inr (.inl (some (77))))), some (.inl k4)] (ck_180 _ _ rfl) rfl rfl pp_170 rfl rfl rfl (congrArg Prod.fst (ly_k I8.1.1.1 77 rfl)) rfl rfl rfl rfl ?_
        refine ct_170 I8 F9 (k4) (by omega) (fun v65 p66 => ?_)
        show av_wp _ cd_180 27 [some (.inr (.inr (.inl (some (77))))), some (.inl k4), some (.inl v61), a6] [.inl v65] h7 _
        refine wq_k1 (p' := 30) (ck_180 _ _ rfl) rfl ⟨by omega, by omega⟩ (fun c67 => ?_) (fun c68 => ?_)
        · have c67 : v65 = (0) := c67
          refine av_wp_sqF ck_180 2 (pc' := 7) (lv' := [some (.inr (.inr (.inl (some (77))))), some (.inl (k4 + (1))), some (.inl v61), a6]) (st' := []) (h' := h7) rfl ?_
          exact I12 _ (by omega) ((k4 + (1))) (some (.inl v61)) (a6) h7 rfl la6 (by omega) I8 F9 rfl
        · have c68 : v65 ≠ (0) := c68
          refine av_wp_sqF ck_180 2 (pc' := 32) (lv' := [some (.inr (.inr (.inl (some (77))))), some (.inl k4), some (.inl v61), a6]) (st' := [.inl v61, .inr (.inr (.inl (some (77))))]) (h' := h7) rfl ?_
          refine wq_cv (p' := 35) (av_qc (.invokevirtual 369) 168 1 0 8) 2 cd_168 [.inl v61] (77) 8 [some (.inr (.inr (.inl (some (77))))), some (.inl v61)] (ck_180 _ _ rfl) rfl rfl pp_168 rfl rfl rfl (congrArg Prod.fst (ly_k I8.1.1.1 77 rfl)) rfl rfl rfl rfl ?_
          refine ct_168 I8 F9 (v61) (by omega) (fun v69 p70 => ?_)
          show av_wp _ cd_180 35 [some (.inr (.inr (.inl (some (77))))), some (.inl k4), some (.inl v61), a6] [.inl v69] h7 _
          refine wq_k1 (p' := 38) (ck_180 _ _ rfl) rfl ⟨by omega, by omega⟩ (fun c71 => ?_) (fun c72 => ?_)
          · have c71 : v69 ≠ (0) := c71
            refine av_wp_sqF ck_180 2 (pc' := 43) (lv' := [some (.inr (.inr (.inl (some (77))))), some (.inl k4), some (.inl v61), a6]) (st' := [.inl k4, .inr (.inr (.inl (some (77))))]) (h' := h7) rfl ?_
            refine wq_cv (p' := 46) (av_qc (.invokevirtual 396) 176 1 0 8) 2 cd_176 [.inl k4] (77) 8 [some (.inr (.inr (.inl (some (77))))), some (.inl k4)] (ck_180 _ _ rfl) rfl rfl pp_176 rfl rfl rfl (congrArg Prod.fst (ly_k I8.1.1.1 77 rfl)) rfl rfl rfl rfl ?_
            refine ct_176 I8 F9 (k4) (by omega) (fun v73 => ?_)
            show av_wp _ cd_180 46 [some (.inr (.inr (.inl (some (77))))), some (.inl k4), some (.inl v61), a6] [.inl v73] h7 _
            refine av_wp_sqF ck_180 2 (pc' := 48) (lv' := [some (.inr (.inr (.inl (some (77))))), some (.inl k4), some (.inl v61), some (.inl v73)]) (st' := [.inl v73]) (h' := h7) rfl ?_
            refine wq_c1 (p' := 51) (ck_180 _ _ rfl) rfl ?_ ?_
            · refine av_wp_sqF ck_180 2 (pc' := 7) (lv' := [some (.inr (.inr (.inl (some (77))))), some (.inl (k4 + (1))), some (.inl v61), some (.inl v73)]) (st' := []) (h' := h7) rfl ?_
              exact I12 _ (by omega) ((k4 + (1))) (some (.inl v61)) (some (.inl v73)) h7 rfl rfl (by omega) I8 F9 rfl
            · refine av_wp_sqF ck_180 1 (pc' := 52) (lv' := [some (.inr (.inr (.inl (some (77))))), some (.inl k4), some (.inl v61), some (.inl v73)]) (st' := [.inr (.inr (.inl (some (77))))]) (h' := h7) rfl ?_
              refine wq_gr (p' := 55) (ck_180 _ _ rfl) rfl (congrArg Prod.fst (ly_k I8.1.1.1 77 rfl)) rfl (ly_g I8.1.1.1 77 44 110 rfl) ?_
              refine av_wp_sqF ck_180 1 (pc' := 56) (lv' := [some (.inr (.inr (.inl (some (77))))), some (.inl k4), some (.inl v61), some (.inl v73)]) (st' := [.inl v61, .inr (.inr (.inl (some (110))))]) (h' := h7) rfl ?_
              obtain ⟨v75, e76⟩ : ∃ v, hA h7 110 (Int.toNat (v61)) = v := ⟨_, rfl⟩
              refine wq_al (p' := 57) (n := 12) (ck_180 _ _ rfl) rfl (ly_k I8.1.1.1 110 rfl) (by omega) (e76) ?_
              refine wq_c1 (p' := 60) (ck_180 _ _ rfl) rfl ?_ ?_
              · refine av_wp_sqF ck_180 2 (pc' := 7) (lv' := [some (.inr (.inr (.inl (some (77))))), some (.inl (k4 + (1))), some (.inl v61), some (.inl v73)]) (st' := []) (h' := h7) rfl ?_
                exact I12 _ (by omega) ((k4 + (1))) (some (.inl v61)) (some (.inl v73)) h7 rfl rfl (by omega) I8 F9 rfl
              · refine av_wp_sqF ck_180 1 (pc' := 61) (lv' := [some (.inr (.inr (.inl (some (77))))), some (.inl k4), some (.inl v61), some (.inl v73)]) (st' := [.inr (.inr (.inl (some (77))))]) (h' := h7) rfl ?_
                refine wq_gr (p' := 64) (ck_180 _ _ rfl) rfl (congrArg Prod.fst (ly_k I8.1.1.1 77 rfl)) rfl (ly_g I8.1.1.1 77 44 110 rfl) ?_
                refine av_wp_sqF ck_180 1 (pc' := 65) (lv' := [some (.inr (.inr (.inl (some (77))))), some (.inl k4), some (.inl v61), some (.inl v73)]) (st' := [.inl v61, .inr (.inr (.inl (some (110))))]) (h' := h7) rfl ?_
                obtain ⟨v78, e79⟩ : ∃ v, hA h7 110 (Int.toNat (v61)) = v := ⟨_, rfl⟩
                refine wq_al (p' := 66) (n := 12) (ck_180 _ _ rfl) rfl (ly_k I8.1.1.1 110 rfl) (by omega) (e79) ?_
                refine av_wp_sqF ck_180 1 (pc' := 67) (lv' := [some (.inr (.inr (.inl (some (77))))), some (.inl k4), some (.inl v61), some (.inl v73)]) (st' := [.inr (.inr (.inl (some (77)))), .inl v78]) (h' := h7) rfl ?_
                refine wq_gr (p' := 70) (ck_180 _ _ rfl) rfl (congrArg Prod.fst (ly_k I8.1.1.1 77 rfl)) rfl (ly_g I8.1.1.1 77 43 109 rfl) ?_
                refine av_wp_sqF ck_180 1 (pc' := 71) (lv' := [some (.inr (.inr (.inl (some (77))))), some (.inl k4), some (.inl v61), some (.inl v73)]) (st' := [.inl k4, .inr (.inr (.inl (some (109)))), .inl v78]) (h' := h7) rfl ?_
                obtain ⟨v81, e82⟩ : ∃ v, hA h7 109 (Int.toNat (k4)) = v := ⟨_, rfl⟩
                refine wq_al (p' := 72) (n := 12) (ck_180 _ _ rfl) rfl (ly_k I8.1.1.1 109 rfl) (by omega) (e82) ?_
                refine wq_c2 (p' := 75) (ck_180 _ _ rfl) rfl ?_ ?_
                · refine av_wp_sqF ck_180 2 (pc' := 7) (lv' := [some (.inr (.inr (.inl (some (77))))), some (.inl (k4 + (1))), some (.inl v61), some (.inl v73)]) (st' := []) (h' := h7) rfl ?_
                  exact I12 _ (by omega) ((k4 + (1))) (some (.inl v61)) (some (.inl v73)) h7 rfl rfl (by omega) I8 F9 rfl
                · refine av_wp_sqF ck_180 3 (pc' := 78) (lv' := [some (.inr (.inr (.inl (some (77))))), some (.inl k4), some (.inl v61), some (.inl v73)]) (st' := [.inl v73, .inl k4, .inr (.inr (.inl (some (77))))]) (h' := h7) rfl ?_
                  refine wq_cv (p' := 81) (av_qc (.invokevirtual 399) 177 2 0 8) 5 cd_177 [.inl v73, .inl k4] (77) 8 [some (.inr (.inr (.inl (some (77))))), some (.inl k4), some (.inl v73), none, none] (ck_180 _ _ rfl) rfl rfl pp_177 rfl rfl rfl (congrArg Prod.fst (ly_k I8.1.1.1 77 rfl)) rfl rfl rfl rfl ?_
                  refine ct_177 I8 F9 (k4) (by omega) (v73) (fun v84 p85 => ?_)
                  show av_wp _ cd_180 81 [some (.inr (.inr (.inl (some (77))))), some (.inl k4), some (.inl v61), some (.inl v73)] [.inl v84] h7 _
                  refine wq_k1 (p' := 84) (ck_180 _ _ rfl) rfl ⟨by omega, by omega⟩ (fun c86 => ?_) (fun c87 => ?_)
                  · have c86 : v84 ≠ (0) := c86
                    refine av_wp_sqF ck_180 2 (pc' := 7) (lv' := [some (.inr (.inr (.inl (some (77))))), some (.inl (k4 + (1))), some (.inl v61), some (.inl v73)]) (st' := []) (h' := h7) rfl ?_
                    exact I12 _ (by omega) ((k4 + (1))) (some (.inl v61)) (some (.inl v73)) h7 rfl rfl (by omega) I8 F9 rfl
                  · have c87 : v84 = (0) := c87
                    refine av_wp_sqF ck_180 3 (pc' := 87) (lv' := [some (.inr (.inr (.inl (some (77))))), some (.inl k4), some (.inl v61), some (.inl v73)]) (st' := [.inl v73, .inl v61, .inr (.inr (.inl (some (77))))]) (h' := h7) rfl ?_
                    refine wq_cv (p' := 90) (av_qc (.invokevirtual 403) 175 2 0 8) 3 cd_175 [.inl v73, .inl v61] (77) 8 [some (.inr (.inr (.inl (some (77))))), some (.inl v61), some (.inl v73)] (ck_180 _ _ rfl) rfl rfl pp_175 rfl rfl rfl (congrArg Prod.fst (ly_k I8.1.1.1 77 rfl)) rfl rfl rfl rfl ?_
                    refine ct_175 I8 F9 (v61) (by omega) (v73) (fun v88 p89 => ?_)
                    show av_wp _ cd_180 90 [some (.inr (.inr (.inl (some (77))))), some (.inl k4), some (.inl v61), some (.inl v73)] [.inl v88] h7 _
                    refine wq_k1 (p' := 93) (ck_180 _ _ rfl) rfl ⟨by omega, by omega⟩ (fun c90 => ?_) (fun c91 => ?_)
                    · have c90 : v88 = (0) := c90
                      refine av_wp_sqF ck_180 2 (pc' := 7) (lv' := [some (.inr (.inr (.inl (some (77))))), some (.inl (k4 + (1))), some (.inl v61), some (.inl v73)]) (st' := []) (h' := h7) rfl ?_
                      exact I12 _ (by omega) ((k4 + (1))) (some (.inl v61)) (some (.inl v73)) h7 rfl rfl (by omega) I8 F9 rfl
                    · have c91 : v88 ≠ (0) := c91
                      refine av_wp_sqF ck_180 4 (pc' := 97) (lv' := [some (.inr (.inr (.inl (some (77))))), some (.inl k4), some (.inl v61), some (.inl v73)]) (st' := [.inl v73, .inl v61, .inl k4, .inr (.inr (.inl (some (77))))]) (h' := h7) rfl ?_
                      refine wq_cv (p' := 100) (av_qc (.invokevirtual 406) 178 3 0 8) 4 cd_178 [.inl v73, .inl v61, .inl k4] (77) 8 [some (.inr (.inr (.inl (some (77))))), some (.inl k4), some (.inl v61), some (.inl v73)] (ck_180 _ _ rfl) rfl rfl pp_178 rfl rfl rfl (congrArg Prod.fst (ly_k I8.1.1.1 77 rfl)) rfl rfl rfl rfl ?_
                      refine ct_178 I8 F9 (k4) (by omega) (v61) (by omega) (v73) (fun h94 I95 F96 => ?_)
                      show av_wp _ cd_180 100 [some (.inr (.inr (.inl (some (77))))), some (.inl k4), some (.inl v61), some (.inl v73)] [] h94 _
                      refine av_wp_sqF ck_180 2 (pc' := 7) (lv' := [some (.inr (.inr (.inl (some (77))))), some (.inl (k4 + (1))), some (.inl v61), some (.inl v73)]) (st' := []) (h' := h94) rfl ?_
                      exact I12 _ (by omega) ((k4 + (1))) (some (.inl v61)) (some (.inl v73)) h94 rfl rfl (by omega) I95 F96 rfl
          · have c72 : v69 = (0) := c72
            refine av_wp_sqF ck_180 3 (pc' := 7) (lv' := [some (.inr (.inr (.inl (some (77))))), some (.inl (k4 + (1))), some (.inl v61), a6]) (st' := []) (h' := h7) rfl ?_
            exact I12 _ (by omega) ((k4 + (1))) (some (.inl v61)) (a6) h7 rfl la6 (by omega) I8 F9 rfl
  exact L11 _ ((0)) (none) (none) h1 rfl rfl (by omega) I2 F3 rfl

