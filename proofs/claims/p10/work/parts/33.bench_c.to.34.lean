section
set_option maxRecDepth 100000 in
set_option maxHeartbeats 4000000 in
theorem ct_14 {g h : av_H} {b t c s r : Nat} {cb : Int} (i : IB b t c s r cb h) (F : Fr1 g h) {Q : Option av_V → av_H → Prop} (hq : ∀ h', IB b t c s r cb h' → Fr1 g h' → Q none h') : av_wp none cd_14 0 [some (.inr (.inr (.inl (some (b))))), none, none, none] [] h Q := by
  have s12 := co_s12 (ib_co i)
  have cbr := co_cbr (ib_co i)
  refine av_wp_sqF ck_14 2 (pc' := 2) (lv' := [some (.inr (.inr (.inl (some (b))))), some (.inl (0)), none, none]) (st' := []) (h' := h) rfl ?_
  have L8 : ∀ (m7 : Nat) (k1 : Int) (a2 : Option av_V) (a3 : Option av_V) (h4 : av_H), av_lg a2 = false → av_lg a3 = false → k1 ≤ (s : Int) → (0 ≤ k1 ∧ k1 ≤ 12) → IB b t c s r cb h4 → Fr1 g h4 → ((s : Int) - k1).toNat = m7 → av_wp none cd_14 2 [some (.inr (.inr (.inl (some (b))))), some (.inl k1), a2, a3] [] h4 Q := by
    intro m7
    induction m7 using Nat.strongRecOn with
    | _ m7 I9 =>
      intro k1 a2 a3 h4 g11 g12 g13 g14 i5 F6 e10
      have la2 := g11
      have la3 := g12
      refine av_wp_sqF ck_14 2 (pc' := 4) (lv' := [some (.inr (.inr (.inl (some (b))))), some (.inl k1), a2, a3]) (st' := [.inr (.inr (.inl (some (b)))), .inl k1]) (h' := h4) rfl ?_
      refine wq_gr (p' := 7) (ck_14 _ _ rfl) rfl (congrArg Prod.fst (ib_k0 i5)) rfl (ib_t i5) ?_
      refine wq_gi (p' := 10) (ck_14 _ _ rfl) rfl (congrArg Prod.fst (co_kt (ib_co i5))) rfl (co_s (ib_co i5)) ?_
      refine wq_k2 (p' := 13) (ck_14 _ _ rfl) rfl ⟨by omega, by omega⟩ ⟨by omega, by omega⟩ (fun c15 => ?_) (fun c16 => ?_)
      · have c15 : (s : Int) ≤ k1 := c15
        refine av_wp_ret (v := none) (ck_14 _ _ rfl) rfl rfl ?_
        exact hq h4 i5 F6
      · have c16 : k1 < (s : Int) := c16
        refine av_wp_sqF ck_14 3 (pc' := 16) (lv' := [some (.inr (.inr (.inl (some (b))))), some (.inl k1), a2, a3]) (st' := [.inl (2), .inl k1, .inr (.inr (.inl (some (b))))]) (h' := h4) rfl ?_
        refine wq_cv (p' := 19) (av_qc (.invokevirtual 115) 6 2 0 0) 3 cd_6 [.inl (2), .inl k1] (b) 0 [some (.inr (.inr (.inl (some (b))))), some (.inl k1), some (.inl (2))] (ck_14 _ _ rfl) rfl rfl pp_6 rfl rfl rfl (congrArg Prod.fst (ib_k0 i5)) rfl rfl rfl rfl ?_
        refine ct_6 i5 F6 (k1) ((2)) (by omega) (by omega) (fun v17 => ?_)
        show av_wp _ cd_14 19 [some (.inr (.inr (.inl (some (b))))), some (.inl k1), a2, a3] [.inl v17] h4 _
        refine av_wp_sqF ck_14 3 (pc' := 22) (lv' := [some (.inr (.inr (.inl (some (b))))), some (.inl k1), some (.inl v17), a3]) (st' := [.inr (.inr (.inl (some (b)))), .inl v17]) (h' := h4) rfl ?_
        refine wq_gr (p' := 25) (ck_14 _ _ rfl) rfl (congrArg Prod.fst (ib_k0 i5)) rfl (ib_r i5) ?_
        refine av_wp_sqF ck_14 1 (pc' := 27) (lv' := [some (.inr (.inr (.inl (some (b))))), some (.inl k1), some (.inl v17), a3]) (st' := [.inl (8), .inr (.inr (.inl (some (r)))), .inl v17]) (h' := h4) rfl ?_
        obtain ⟨v19, e20⟩ : ∃ v, hA h4 (r) (Int.toNat ((8))) = v := ⟨_, rfl⟩
        have g21 := ib_rv i5 (Int.toNat ((8)))
        rw [e20] at g21
        refine wq_al (p' := 28) (n := 14) (ck_14 _ _ rfl) rfl (ib_kr i5) (by omega) (e20) ?_
        refine av_wp_sqF ck_14 3 (pc' := 31) (lv' := [some (.inr (.inr (.inl (some (b))))), some (.inl k1), some (.inl v17), some (.inl (v17 + v19))]) (st' := [.inr (.inr (.inl (some (b))))]) (h' := h4) rfl ?_
        refine wq_gr (p' := 34) (ck_14 _ _ rfl) rfl (congrArg Prod.fst (ib_k0 i5)) rfl (ib_g i5 2 rfl) ?_
        refine av_wp_sqF ck_14 1 (pc' := 35) (lv' := [some (.inr (.inr (.inl (some (b))))), some (.inl k1), some (.inl v17), some (.inl (v17 + v19))]) (st' := [.inl k1, .inr (.inr (.inl (some (b + 1 + 2))))]) (h' := h4) rfl ?_
        obtain ⟨v22, e23⟩ : ∃ v, hA h4 (b + 1 + 2) (Int.toNat (k1)) = v := ⟨_, rfl⟩
        refine wq_bl (p' := 36) (n := 12) (ck_14 _ _ rfl) rfl ((Or.inr (ib_k i5 2 rfl))) (by omega) (e23) ?_
        have J28 : ∀  (h25 : av_H), IB b t c s r cb h25 → Fr1 g h25 →  av_wp none cd_14 86 [some (.inr (.inr (.inl (some (b))))), some (.inl k1), some (.inl v17), some (.inl (v17 + v19))] [] h25 Q := by
          intro h25 i26 F27
          refine av_wp_sqF ck_14 2 (pc' := 2) (lv' := [some (.inr (.inr (.inl (some (b))))), some (.inl (k1 + (1))), some (.inl v17), some (.inl (v17 + v19))]) (st' := []) (h' := h25) rfl ?_
          exact I9 _ (by omega) ((k1 + (1))) (some (.inl v17)) (some (.inl (v17 + v19))) h25 rfl rfl (by omega) (by omega) i26 F27 rfl
        refine wq_c1 (p' := 39) (ck_14 _ _ rfl) rfl ?_ ?_
        · exact J28 h4 i5 F6
        · refine av_wp_sqF ck_14 2 (pc' := 41) (lv' := [some (.inr (.inr (.inl (some (b))))), some (.inl k1), some (.inl v17), some (.inl (v17 + v19))]) (st' := [.inl (-1), .inl v17]) (h' := h4) rfl ?_
          refine wq_c2 (p' := 44) (ck_14 _ _ rfl) rfl ?_ ?_
          · exact J28 h4 i5 F6
          · refine av_wp_sqF ck_14 2 (pc' := 46) (lv' := [some (.inr (.inr (.inl (some (b))))), some (.inl k1), some (.inl v17), some (.inl (v17 + v19))]) (st' := [.inr (.inr (.inl (some (b)))), .inl (v17 + v19)]) (h' := h4) rfl ?_
            obtain ⟨v29, e30⟩ : ∃ v, hF h4 b 15 = v := ⟨_, rfl⟩
            refine wq_gi (p' := 49) (ck_14 _ _ rfl) rfl (congrArg Prod.fst (ib_k0 i5)) rfl (e30) ?_
            refine wq_c2 (p' := 52) (ck_14 _ _ rfl) rfl ?_ ?_
            · exact J28 h4 i5 F6
            · refine av_wp_sqF ck_14 1 (pc' := 53) (lv' := [some (.inr (.inr (.inl (some (b))))), some (.inl k1), some (.inl v17), some (.inl (v17 + v19))]) (st' := [.inr (.inr (.inl (some (b))))]) (h' := h4) rfl ?_
              refine wq_gr (p' := 56) (ck_14 _ _ rfl) rfl (congrArg Prod.fst (ib_k0 i5)) rfl (ib_g i5 10 rfl) ?_
              refine av_wp_sqF ck_14 1 (pc' := 57) (lv' := [some (.inr (.inr (.inl (some (b))))), some (.inl k1), some (.inl v17), some (.inl (v17 + v19))]) (st' := [.inl k1, .inr (.inr (.inl (some (b + 1 + 10))))]) (h' := h4) rfl ?_
              obtain ⟨v31, e32⟩ : ∃ v, hA h4 (b + 1 + 10) (Int.toNat (k1)) = v := ⟨_, rfl⟩
              refine wq_al (p' := 58) (n := 12) (ck_14 _ _ rfl) rfl (ib_k i5 10 rfl) (by omega) (e32) ?_
              refine av_wp_sqF ck_14 1 (pc' := 59) (lv' := [some (.inr (.inr (.inl (some (b))))), some (.inl k1), some (.inl v17), some (.inl (v17 + v19))]) (st' := [.inl (v17 + v19), .inl v31]) (h' := h4) rfl ?_
              refine wq_c2 (p' := 62) (ck_14 _ _ rfl) rfl ?_ ?_
              · exact J28 h4 i5 F6
              · refine av_wp_sqF ck_14 3 (pc' := 65) (lv' := [some (.inr (.inr (.inl (some (b))))), some (.inl k1), some (.inl v17), some (.inl (v17 + v19))]) (st' := [.inl (v17 + v19), .inl k1, .inr (.inr (.inl (some (b))))]) (h' := h4) rfl ?_
                refine wq_cv (p' := 68) (av_qc (.invokevirtual 132) 16 2 0 0) 3 cd_16 [.inl (v17 + v19), .inl k1] (b) 0 [some (.inr (.inr (.inl (some (b))))), some (.inl k1), some (.inl (v17 + v19))] (ck_14 _ _ rfl) rfl rfl pp_16 rfl rfl rfl (congrArg Prod.fst (ib_k0 i5)) rfl rfl rfl rfl ?_
                refine ct_16 i5 F6 (k1) ((v17 + v19)) (by omega) (fun v34 p35 => ?_)
                show av_wp _ cd_14 68 [some (.inr (.inr (.inl (some (b))))), some (.inl k1), some (.inl v17), some (.inl (v17 + v19))] [.inl v34] h4 _
                refine wq_k1 (p' := 71) (ck_14 _ _ rfl) rfl ⟨by omega, by omega⟩ (fun c36 => ?_) (fun c37 => ?_)
                · have c36 : v34 = (0) := c36
                  exact J28 h4 i5 F6
                · have c37 : v34 ≠ (0) := c37
                  refine av_wp_sqF ck_14 2 (pc' := 73) (lv' := [some (.inr (.inr (.inl (some (b))))), some (.inl k1), some (.inl v17), some (.inl (v17 + v19))]) (st' := [.inl (-1), .inr (.inr (.inl (some (b))))]) (h' := h4) rfl ?_
                  refine ib_pi (p' := 76) rfl rfl i5 F6 (by omega) (by omega) (fun h38 i39 F40 => ?_)
                  refine av_wp_sqF ck_14 2 (pc' := 78) (lv' := [some (.inr (.inr (.inl (some (b))))), some (.inl k1), some (.inl v17), some (.inl (v17 + v19))]) (st' := [.inl k1, .inr (.inr (.inl (some (b))))]) (h' := h38) rfl ?_
                  refine ib_pi (p' := 81) rfl rfl i39 F40 (by omega) (by omega) (fun h41 i42 F43 => ?_)
                  refine av_wp_sqF ck_14 2 (pc' := 83) (lv' := [some (.inr (.inr (.inl (some (b))))), some (.inl k1), some (.inl v17), some (.inl (v17 + v19))]) (st' := [.inl (v17 + v19), .inr (.inr (.inl (some (b))))]) (h' := h41) rfl ?_
                  refine ib_pi (p' := 86) rfl rfl i42 F43 (by omega) (by omega) (fun h44 i45 F46 => ?_)
                  exact J28 h44 i45 F46
  exact L8 _ ((0)) (none) (none) h rfl rfl (by omega) (by omega) i F rfl

set_option maxRecDepth 100000 in
set_option maxHeartbeats 4000000 in
theorem ct_2 {g h : av_H} {b t c s r : Nat} {cb : Int} (i : IB b t c s r cb h) (F : Fr1 g h) (x : Int) {Q : Option av_V → av_H → Prop} (hq : ∀ (v : Int) h', (v = 0 ∨ v = 1) → IB b t c s r cb h' → Fr1 g h' → Q (some (.inl v)) h') : av_wp none cd_2 0 [some (.inr (.inr (.inl (some (b))))), some (.inl x)] [] h Q := by
  have s12 := co_s12 (ib_co i)
  have cbr := co_cbr (ib_co i)
  refine av_wp_sqF ck_2 2 (pc' := 2) (lv' := [some (.inr (.inr (.inl (some (b))))), some (.inl x)]) (st' := [.inl x, .inr (.inr (.inl (some (b))))]) (h' := h) rfl ?_
  refine wq_cv (p' := 5) (av_qc (.invokevirtual 84) 4 1 0 0) 6 cd_4 [.inl x] (b) 0 [some (.inr (.inr (.inl (some (b))))), some (.inl x), none, none, none, none] (ck_2 _ _ rfl) rfl rfl pp_4 rfl rfl rfl (congrArg Prod.fst (ib_k0 i)) rfl rfl rfl rfl ?_
  refine ct_4 i F (x)  (fun h1 i2 F3 => ?_)
  show av_wp _ cd_2 5 [some (.inr (.inr (.inl (some (b))))), some (.inl x)] [] h1 _
  refine av_wp_sqF ck_2 1 (pc' := 6) (lv' := [some (.inr (.inr (.inl (some (b))))), some (.inl x)]) (st' := [.inr (.inr (.inl (some (b))))]) (h' := h1) rfl ?_
  refine wq_cv (p' := 9) (av_qc (.invokevirtual 88) 7 0 0 0) 4 cd_7 [] (b) 0 [some (.inr (.inr (.inl (some (b))))), none, none, none] (ck_2 _ _ rfl) rfl rfl pp_7 rfl rfl rfl (congrArg Prod.fst (ib_k0 i2)) rfl rfl rfl rfl ?_
  refine ct_7 i2 F3   (fun h4 i5 F6 => ?_)
  show av_wp _ cd_2 9 [some (.inr (.inr (.inl (some (b))))), some (.inl x)] [] h4 _
  refine av_wp_sqF ck_2 1 (pc' := 10) (lv' := [some (.inr (.inr (.inl (some (b))))), some (.inl x)]) (st' := [.inr (.inr (.inl (some (b))))]) (h' := h4) rfl ?_
  refine wq_cv (p' := 13) (av_qc (.invokevirtual 91) 9 0 0 0) 5 cd_9 [] (b) 0 [some (.inr (.inr (.inl (some (b))))), none, none, none, none] (ck_2 _ _ rfl) rfl rfl pp_9 rfl rfl rfl (congrArg Prod.fst (ib_k0 i5)) rfl rfl rfl rfl ?_
  refine ct_9 i5 F6   (fun h7 i8 F9 => ?_)
  show av_wp _ cd_2 13 [some (.inr (.inr (.inl (some (b))))), some (.inl x)] [] h7 _
  refine av_wp_sqF ck_2 1 (pc' := 14) (lv' := [some (.inr (.inr (.inl (some (b))))), some (.inl x)]) (st' := [.inr (.inr (.inl (some (b))))]) (h' := h7) rfl ?_
  refine wq_cv (p' := 17) (av_qc (.invokevirtual 94) 11 0 0 0) 4 cd_11 [] (b) 0 [some (.inr (.inr (.inl (some (b))))), none, none, none] (ck_2 _ _ rfl) rfl rfl pp_11 rfl rfl rfl (congrArg Prod.fst (ib_k0 i8)) rfl rfl rfl rfl ?_
  refine ct_11 i8 F9   (fun h10 i11 F12 => ?_)
  show av_wp _ cd_2 17 [some (.inr (.inr (.inl (some (b))))), some (.inl x)] [] h10 _
  refine av_wp_sqF ck_2 2 (pc' := 19) (lv' := [some (.inr (.inr (.inl (some (b))))), some (.inl x)]) (st' := [.inl (-1), .inr (.inr (.inl (some (b))))]) (h' := h10) rfl ?_
  refine ib_pi (p' := 22) rfl rfl i11 F12 (by omega) (by omega) (fun h13 i14 F15 => ?_)
  refine av_wp_sqF ck_2 2 (pc' := 24) (lv' := [some (.inr (.inr (.inl (some (b))))), some (.inl x)]) (st' := [.inl (-1), .inr (.inr (.inl (some (b))))]) (h' := h13) rfl ?_
  refine ib_pi (p' := 27) rfl rfl i14 F15 (by omega) (by omega) (fun h16 i17 F18 => ?_)
  refine av_wp_sqF ck_2 2 (pc' := 31) (lv' := [some (.inr (.inr (.inl (some (b))))), some (.inl x)]) (st' := [.inl (9999), .inr (.inr (.inl (some (b))))]) (h' := h16) rfl ?_
  refine ib_pi (p' := 34) rfl rfl i17 F18 (by omega) (by omega) (fun h19 i20 F21 => ?_)
  refine av_wp_sqF ck_2 1 (pc' := 35) (lv' := [some (.inr (.inr (.inl (some (b))))), some (.inl x)]) (st' := [.inr (.inr (.inl (some (b))))]) (h' := h19) rfl ?_
  refine wq_cv (p' := 38) (av_qc (.invokevirtual 97) 12 0 0 0) 6 cd_12 [] (b) 0 [some (.inr (.inr (.inl (some (b))))), none, none, none, none, none] (ck_2 _ _ rfl) rfl rfl pp_12 rfl rfl rfl (congrArg Prod.fst (ib_k0 i20)) rfl rfl rfl rfl ?_
  refine ct_12 i20 F21   (fun h22 i23 F24 => ?_)
  show av_wp _ cd_2 38 [some (.inr (.inr (.inl (some (b))))), some (.inl x)] [] h22 _
  refine av_wp_sqF ck_2 1 (pc' := 39) (lv' := [some (.inr (.inr (.inl (some (b))))), some (.inl x)]) (st' := [.inr (.inr (.inl (some (b))))]) (h' := h22) rfl ?_
  refine wq_gr (p' := 42) (ck_2 _ _ rfl) rfl (congrArg Prod.fst (ib_k0 i23)) rfl (ib_r i23) ?_
  refine av_wp_sqF ck_2 1 (pc' := 44) (lv' := [some (.inr (.inr (.inl (some (b))))), some (.inl x)]) (st' := [.inl (8), .inr (.inr (.inl (some (r))))]) (h' := h22) rfl ?_
  obtain ⟨v25, e26⟩ : ∃ v, hA h22 (r) (Int.toNat ((8))) = v := ⟨_, rfl⟩
  have g27 := ib_rv i23 (Int.toNat ((8)))
  rw [e26] at g27
  refine wq_al (p' := 45) (n := 14) (ck_2 _ _ rfl) rfl (ib_kr i23) (by omega) (e26) ?_
  refine av_wp_sqF ck_2 1 (pc' := 46) (lv' := [some (.inr (.inr (.inl (some (b))))), some (.inl x)]) (st' := [.inl (-1), .inl v25]) (h' := h22) rfl ?_
  have J31 : ∀  (h28 : av_H), IB b t c s r cb h28 → Fr1 g h28 →  av_wp none cd_2 53 [some (.inr (.inr (.inl (some (b))))), some (.inl x)] [] h28 Q := by
    intro h28 i29 F30
    refine av_wp_sqF ck_2 1 (pc' := 54) (lv' := [some (.inr (.inr (.inl (some (b))))), some (.inl x)]) (st' := [.inr (.inr (.inl (some (b))))]) (h' := h28) rfl ?_
    obtain ⟨v32, e33⟩ : ∃ v, hF h28 b 15 = v := ⟨_, rfl⟩
    refine wq_gi (p' := 57) (ck_2 _ _ rfl) rfl (congrArg Prod.fst (ib_k0 i29)) rfl (e33) ?_
    refine av_wp_sqF ck_2 1 (pc' := 60) (lv' := [some (.inr (.inr (.inl (some (b))))), some (.inl x)]) (st' := [.inl (9999), .inl v32]) (h' := h28) rfl ?_
    refine wq_c2 (p' := 63) (ck_2 _ _ rfl) rfl ?_ ?_
    · refine av_wp_sqF ck_2 1 (pc' := 68) (lv' := [some (.inr (.inr (.inl (some (b))))), some (.inl x)]) (st' := [.inl (0)]) (h' := h28) rfl ?_
      refine av_wp_ret (v := some (.inl (0))) (ck_2 _ _ rfl) rfl rfl ?_
      exact hq _ h28 (by omega) i29 F30
    · refine av_wp_sqF ck_2 2 (pc' := 68) (lv' := [some (.inr (.inr (.inl (some (b))))), some (.inl x)]) (st' := [.inl (1)]) (h' := h28) rfl ?_
      refine av_wp_ret (v := some (.inl (1))) (ck_2 _ _ rfl) rfl rfl ?_
      exact hq _ h28 (by omega) i29 F30
  refine wq_k2 (p' := 49) (ck_2 _ _ rfl) rfl ⟨by omega, by omega⟩ ⟨by omega, by omega⟩ (fun c34 => ?_) (fun c35 => ?_)
  · have c34 : v25 = (-1) := c34
    exact J31 h22 i23 F24
  · have c35 : v25 ≠ (-1) := c35
    refine av_wp_sqF ck_2 1 (pc' := 50) (lv' := [some (.inr (.inr (.inl (some (b))))), some (.inl x)]) (st' := [.inr (.inr (.inl (some (b))))]) (h' := h22) rfl ?_
    refine wq_cv (p' := 53) (av_qc (.invokevirtual 100) 14 0 0 0) 4 cd_14 [] (b) 0 [some (.inr (.inr (.inl (some (b))))), none, none, none] (ck_2 _ _ rfl) rfl rfl pp_14 rfl rfl rfl (congrArg Prod.fst (ib_k0 i23)) rfl rfl rfl rfl ?_
    refine ct_14 i23 F24   (fun h36 i37 F38 => ?_)
    show av_wp _ cd_2 53 [some (.inr (.inr (.inl (some (b))))), some (.inl x)] [] h36 _
    exact J31 h36 i37 F38

set_option maxRecDepth 100000 in
set_option maxHeartbeats 4000000 in
theorem ct_17 {g h : av_H} {b t c s r : Nat} {cb : Int} (i : IB b t c s r cb h) (F : Fr1 g h) (w : Int) (q0 : (0 ≤ w ∧ w ≤ 4)) {Q : Option av_V → av_H → Prop} (hq : ∀ v : Int, Q (some (.inl v)) h) : av_wp none cd_17 0 [some (.inr (.inr (.inl (some (b))))), some (.inl w), none, none] [] h Q := by
  have s12 := co_s12 (ib_co i)
  have cbr := co_cbr (ib_co i)
  refine av_wp_sqF ck_17 1 (pc' := 1) (lv' := [some (.inr (.inr (.inl (some (b))))), some (.inl w), none, none]) (st' := [.inr (.inr (.inl (some (b))))]) (h' := h) rfl ?_
  refine wq_gr (p' := 4) (ck_17 _ _ rfl) rfl (congrArg Prod.fst (ib_k0 i)) rfl (ib_t i) ?_
  refine av_wp_sqF ck_17 1 (pc' := 5) (lv' := [some (.inr (.inr (.inl (some (b))))), some (.inl w), none, none]) (st' := [.inr (.inr (.inl (some (b)))), .inr (.inr (.inl (some (t))))]) (h' := h) rfl ?_
  obtain ⟨v1, e2⟩ : ∃ v, hF h b 13 = v := ⟨_, rfl⟩
  have g3 := ib_mb i
  rw [e2] at g3
  refine wq_gi (p' := 8) (ck_17 _ _ rfl) rfl (congrArg Prod.fst (ib_k0 i)) rfl (e2) ?_
  refine av_wp_sqF ck_17 1 (pc' := 9) (lv' := [some (.inr (.inr (.inl (some (b))))), some (.inl w), none, none]) (st' := [.inl (0), .inl v1, .inr (.inr (.inl (some (t))))]) (h' := h) rfl ?_
  refine wq_cv (p' := 12) (av_qc (.invokevirtual 74) 29 2 0 1) 3 cd_29 [.inl (0), .inl v1] (t) 1 [some (.inr (.inr (.inl (some (t))))), some (.inl v1), some (.inl (0))] (ck_17 _ _ rfl) rfl rfl pp_29 rfl rfl rfl (congrArg Prod.fst (co_kt (ib_co i))) rfl rfl rfl rfl ?_
  refine ct_29 (ib_co i) (v1) ((0)) (by omega) (by omega) (fun v4 p5 => ?_)
  show av_wp _ cd_17 12 [some (.inr (.inr (.inl (some (b))))), some (.inl w), none, none] [.inl v4] h _
  refine av_wp_sqF ck_17 1 (pc' := 13) (lv' := [some (.inr (.inr (.inl (some (b))))), some (.inl w), none, none]) (st' := [.inl (3), .inl v4]) (h' := h) rfl ?_
  have J8 : ∀ (j6 : Int), (0 ≤ j6 ∧ j6 ≤ 1) →  av_wp none cd_17 21 [some (.inr (.inr (.inl (some (b))))), some (.inl w), none, none] [.inl j6] h Q := by
    intro j6 g7
    refine av_wp_sqF ck_17 2 (pc' := 23) (lv' := [some (.inr (.inr (.inl (some (b))))), some (.inl w), some (.inl j6), none]) (st' := [.inl j6]) (h' := h) rfl ?_
    have J11 : ∀ (j9 : Int), (-1 ≤ j9 ∧ j9 ≤ 100000) →  av_wp none cd_17 45 [some (.inr (.inr (.inl (some (b))))), some (.inl w), some (.inl j6), none] [.inl j9] h Q := by
      intro j9 g10
      refine av_wp_sqF ck_17 3 (pc' := 48) (lv' := [some (.inr (.inr (.inl (some (b))))), some (.inl w), some (.inl j6), some (.inl j9)]) (st' := [.inl (-1), .inl j9]) (h' := h) rfl ?_
      refine wq_k2 (p' := 51) (ck_17 _ _ rfl) rfl ⟨by omega, by omega⟩ ⟨by omega, by omega⟩ (fun c12 => ?_) (fun c13 => ?_)
      · have c12 : j9 = (-1) := c12
        refine av_wp_sqF ck_17 2 (pc' := 66) (lv' := [some (.inr (.inr (.inl (some (b))))), some (.inl w), some (.inl j6), some (.inl j9)]) (st' := [.inl (-1), .inl j9]) (h' := h) rfl ?_
        refine wq_k2 (p' := 69) (ck_17 _ _ rfl) rfl ⟨by omega, by omega⟩ ⟨by omega, by omega⟩ (fun c14 => ?_) (fun c15 => ?_)
        · have c14 : j9 = (-1) := c14
          refine av_wp_sqF ck_17 1 (pc' := 85) (lv' := [some (.inr (.inr (.inl (some (b))))), some (.inl w), some (.inl j6), some (.inl j9)]) (st' := [.inr (.inr (.inl (some (b))))]) (h' := h) rfl ?_
          refine wq_gr (p' := 88) (ck_17 _ _ rfl) rfl (congrArg Prod.fst (ib_k0 i)) rfl (ib_t i) ?_
          refine av_wp_sqF ck_17 1 (pc' := 89) (lv' := [some (.inr (.inr (.inl (some (b))))), some (.inl w), some (.inl j6), some (.inl j9)]) (st' := [.inr (.inr (.inl (some (b)))), .inr (.inr (.inl (some (t))))]) (h' := h) rfl ?_
          obtain ⟨v16, e17⟩ : ∃ v, hF h b 14 = v := ⟨_, rfl⟩
          have g18 := ib_mo i
          rw [e17] at g18
          refine wq_gi (p' := 92) (ck_17 _ _ rfl) rfl (congrArg Prod.fst (ib_k0 i)) rfl (e17) ?_
          refine av_wp_sqF ck_17 1 (pc' := 93) (lv' := [some (.inr (.inr (.inl (some (b))))), some (.inl w), some (.inl j6), some (.inl j9)]) (st' := [.inl w, .inl v16, .inr (.inr (.inl (some (t))))]) (h' := h) rfl ?_
          refine wq_cv (p' := 96) (av_qc (.invokevirtual 139) 31 2 0 1) 6 cd_31 [.inl w, .inl v16] (t) 1 [some (.inr (.inr (.inl (some (t))))), some (.inl v16), some (.inl w), none, none, none] (ck_17 _ _ rfl) rfl rfl pp_31 rfl rfl rfl (congrArg Prod.fst (co_kt (ib_co i))) rfl rfl rfl rfl ?_
          refine ct_31 (ib_co i) (v16) (w) (by omega) (by omega) (fun v19 => ?_)
          show av_wp _ cd_17 96 [some (.inr (.inr (.inl (some (b))))), some (.inl w), some (.inl j6), some (.inl j9)] [.inl v19] h _
          refine av_wp_ret (v := some (.inl v19)) (ck_17 _ _ rfl) rfl rfl ?_
          exact hq _
        · have c15 : j9 ≠ (-1) := c15
          exfalso; omega
      · have c13 : j9 ≠ (-1) := c13
        refine av_wp_sqF ck_17 1 (pc' := 52) (lv' := [some (.inr (.inr (.inl (some (b))))), some (.inl w), some (.inl j6), some (.inl j9)]) (st' := [.inr (.inr (.inl (some (b))))]) (h' := h) rfl ?_
        refine wq_gr (p' := 55) (ck_17 _ _ rfl) rfl (congrArg Prod.fst (ib_k0 i)) rfl (ib_r i) ?_
        refine av_wp_sqF ck_17 1 (pc' := 57) (lv' := [some (.inr (.inr (.inl (some (b))))), some (.inl w), some (.inl j6), some (.inl j9)]) (st' := [.inl (10), .inr (.inr (.inl (some (r))))]) (h' := h) rfl ?_
        obtain ⟨v21, e22⟩ : ∃ v, hA h (r) (Int.toNat ((10))) = v := ⟨_, rfl⟩
        have g23 := ib_rv i (Int.toNat ((10)))
        rw [e22] at g23
        refine wq_al (p' := 58) (n := 14) (ck_17 _ _ rfl) rfl (ib_kr i) (by omega) (e22) ?_
        refine av_wp_sqF ck_17 1 (pc' := 59) (lv' := [some (.inr (.inr (.inl (some (b))))), some (.inl w), some (.inl j6), some (.inl j9)]) (st' := [.inl (1), .inl v21]) (h' := h) rfl ?_
        refine wq_k2 (p' := 62) (ck_17 _ _ rfl) rfl ⟨by omega, by omega⟩ ⟨by omega, by omega⟩ (fun c24 => ?_) (fun c25 => ?_)
        · have c24 : v21 ≠ (1) := c24
          refine av_wp_sqF ck_17 2 (pc' := 66) (lv' := [some (.inr (.inr (.inl (some (b))))), some (.inl w), some (.inl j6), some (.inl j9)]) (st' := [.inl (-1), .inl j9]) (h' := h) rfl ?_
          refine wq_k2 (p' := 69) (ck_17 _ _ rfl) rfl ⟨by omega, by omega⟩ ⟨by omega, by omega⟩ (fun c26 => ?_) (fun c27 => ?_)
          · have c26 : j9 = (-1) := c26
            exfalso; omega
          · have c27 : j9 ≠ (-1) := c27
            refine av_wp_sqF ck_17 1 (pc' := 70) (lv' := [some (.inr (.inr (.inl (some (b))))), some (.inl w), some (.inl j6), some (.inl j9)]) (st' := [.inr (.inr (.inl (some (b))))]) (h' := h) rfl ?_
            refine wq_gr (p' := 73) (ck_17 _ _ rfl) rfl (congrArg Prod.fst (ib_k0 i)) rfl (ib_r i) ?_
            refine av_wp_sqF ck_17 1 (pc' := 75) (lv' := [some (.inr (.inr (.inl (some (b))))), some (.inl w), some (.inl j6), some (.inl j9)]) (st' := [.inl (10), .inr (.inr (.inl (some (r))))]) (h' := h) rfl ?_
            obtain ⟨v28, e29⟩ : ∃ v, hA h (r) (Int.toNat ((10))) = v := ⟨_, rfl⟩
            have g30 := ib_rv i (Int.toNat ((10)))
            rw [e29] at g30
            refine wq_al (p' := 76) (n := 14) (ck_17 _ _ rfl) rfl (ib_kr i) (by omega) (e29) ?_
            refine av_wp_sqF ck_17 1 (pc' := 77) (lv' := [some (.inr (.inr (.inl (some (b))))), some (.inl w), some (.inl j6), some (.inl j9)]) (st' := [.inl (2), .inl v28]) (h' := h) rfl ?_
            refine wq_k2 (p' := 80) (ck_17 _ _ rfl) rfl ⟨by omega, by omega⟩ ⟨by omega, by omega⟩ (fun c31 => ?_) (fun c32 => ?_)
            · have c31 : v28 ≠ (2) := c31
              refine av_wp_sqF ck_17 1 (pc' := 85) (lv' := [some (.inr (.inr (.inl (some (b))))), some (.inl w), some (.inl j6), some (.inl j9)]) (st' := [.inr (.inr (.inl (some (b))))]) (h' := h) rfl ?_
              refine wq_gr (p' := 88) (ck_17 _ _ rfl) rfl (congrArg Prod.fst (ib_k0 i)) rfl (ib_t i) ?_
              refine av_wp_sqF ck_17 1 (pc' := 89) (lv' := [some (.inr (.inr (.inl (some (b))))), some (.inl w), some (.inl j6), some (.inl j9)]) (st' := [.inr (.inr (.inl (some (b)))), .inr (.inr (.inl (some (t))))]) (h' := h) rfl ?_
              obtain ⟨v33, e34⟩ : ∃ v, hF h b 14 = v := ⟨_, rfl⟩
              have g35 := ib_mo i
              rw [e34] at g35
              refine wq_gi (p' := 92) (ck_17 _ _ rfl) rfl (congrArg Prod.fst (ib_k0 i)) rfl (e34) ?_
              refine av_wp_sqF ck_17 1 (pc' := 93) (lv' := [some (.inr (.inr (.inl (some (b))))), some (.inl w), some (.inl j6), some (.inl j9)]) (st' := [.inl w, .inl v33, .inr (.inr (.inl (some (t))))]) (h' := h) rfl ?_
              refine wq_cv (p' := 96) (av_qc (.invokevirtual 139) 31 2 0 1) 6 cd_31 [.inl w, .inl v33] (t) 1 [some (.inr (.inr (.inl (some (t))))), some (.inl v33), some (.inl w), none, none, none] (ck_17 _ _ rfl) rfl rfl pp_31 rfl rfl rfl (congrArg Prod.fst (co_kt (ib_co i))) rfl rfl rfl rfl ?_
              refine ct_31 (ib_co i) (v33) (w) (by omega) (by omega) (fun v36 => ?_)
              show av_wp _ cd_17 96 [some (.inr (.inr (.inl (some (b))))), some (.inl w), some (.inl j6), some (.inl j9)] [.inl v36] h _
              refine av_wp_ret (v := some (.inl v36)) (ck_17 _ _ rfl) rfl rfl ?_
              exact hq _
            · have c32 : v28 = (2) := c32
              refine av_wp_sqF ck_17 2 (pc' := 96) (lv' := [some (.inr (.inr (.inl (some (b))))), some (.inl w), some (.inl j6), some (.inl j9)]) (st' := [.inl (-1)]) (h' := h) rfl ?_
              refine av_wp_ret (v := some (.inl (-1))) (ck_17 _ _ rfl) rfl rfl ?_
              exact hq _
        · have c25 : v21 = (1) := c25
          refine av_wp_sqF ck_17 1 (pc' := 63) (lv' := [some (.inr (.inr (.inl (some (b))))), some (.inl w), some (.inl j6), some (.inl j9)]) (st' := [.inl j9]) (h' := h) rfl ?_
          refine av_wp_ret (v := some (.inl j9)) (ck_17 _ _ rfl) rfl rfl ?_
          exact hq _
    refine wq_k1 (p' := 26) (ck_17 _ _ rfl) rfl ⟨by omega, by omega⟩ (fun c38 => ?_) (fun c39 => ?_)
    · have c38 : j6 = (0) := c38
      refine av_wp_sqF ck_17 1 (pc' := 45) (lv' := [some (.inr (.inr (.inl (some (b))))), some (.inl w), some (.inl j6), none]) (st' := [.inl (-1)]) (h' := h) rfl ?_
      exact J11 ((-1)) (by omega)
    · have c39 : j6 ≠ (0) := c39
      refine av_wp_sqF ck_17 1 (pc' := 27) (lv' := [some (.inr (.inr (.inl (some (b))))), some (.inl w), some (.inl j6), none]) (st' := [.inr (.inr (.inl (some (b))))]) (h' := h) rfl ?_
      refine wq_gr (p' := 30) (ck_17 _ _ rfl) rfl (congrArg Prod.fst (ib_k0 i)) rfl (ib_t i) ?_
      refine av_wp_sqF ck_17 1 (pc' := 31) (lv' := [some (.inr (.inr (.inl (some (b))))), some (.inl w), some (.inl j6), none]) (st' := [.inr (.inr (.inl (some (b)))), .inr (.inr (.inl (some (t))))]) (h' := h) rfl ?_
      obtain ⟨v40, e41⟩ : ∃ v, hF h b 13 = v := ⟨_, rfl⟩
      have g42 := ib_mb i
      rw [e41] at g42
      refine wq_gi (p' := 34) (ck_17 _ _ rfl) rfl (congrArg Prod.fst (ib_k0 i)) rfl (e41) ?_
      refine av_wp_sqF ck_17 3 (pc' := 38) (lv' := [some (.inr (.inr (.inl (some (b))))), some (.inl w), some (.inl j6), none]) (st' := [.inl ((10) + w), .inl v40, .inr (.inr (.inl (some (t))))]) (h' := h) rfl ?_
      refine wq_cv (p' := 41) (av_qc (.invokevirtual 74) 29 2 0 1) 3 cd_29 [.inl ((10) + w), .inl v40] (t) 1 [some (.inr (.inr (.inl (some (t))))), some (.inl v40), some (.inl ((10) + w))] (ck_17 _ _ rfl) rfl rfl pp_29 rfl rfl rfl (congrArg Prod.fst (co_kt (ib_co i))) rfl rfl rfl rfl ?_
      refine ct_29 (ib_co i) (v40) (((10) + w)) (by omega) (by omega) (fun v43 p44 => ?_)
      show av_wp _ cd_17 41 [some (.inr (.inr (.inl (some (b))))), some (.inl w), some (.inl j6), none] [.inl v43] h _
      refine av_wp_sqF ck_17 1 (pc' := 45) (lv' := [some (.inr (.inr (.inl (some (b))))), some (.inl w), some (.inl j6), none]) (st' := [.inl v43]) (h' := h) rfl ?_
      exact J11 (v43) (by omega)
  refine wq_k2 (p' := 16) (ck_17 _ _ rfl) rfl ⟨by omega, by omega⟩ ⟨by omega, by omega⟩ (fun c45 => ?_) (fun c46 => ?_)
  · have c45 : v4 ≠ (3) := c45
    refine av_wp_sqF ck_17 1 (pc' := 21) (lv' := [some (.inr (.inr (.inl (some (b))))), some (.inl w), none, none]) (st' := [.inl (0)]) (h' := h) rfl ?_
    exact J8 ((0)) (by omega)
  · have c46 : v4 = (3) := c46
    refine av_wp_sqF ck_17 2 (pc' := 21) (lv' := [some (.inr (.inr (.inl (some (b))))), some (.inl w), none, none]) (st' := [.inl (1)]) (h' := h) rfl ?_
    exact J8 ((1)) (by omega)

set_option maxRecDepth 100000 in
set_option maxHeartbeats 4000000 in
theorem ct_18 {g h : av_H} {b t c s r : Nat} {cb : Int} (i : IB b t c s r cb h) (F : Fr1 g h) {Q : Option av_V → av_H → Prop} (hq : ∀ v : Int, Q (some (.inl v)) h) : av_wp none cd_18 0 [some (.inr (.inr (.inl (some (b))))), none, none] [] h Q := by
  have s12 := co_s12 (ib_co i)
  have cbr := co_cbr (ib_co i)
  refine av_wp_sqF ck_18 1 (pc' := 1) (lv' := [some (.inr (.inr (.inl (some (b))))), none, none]) (st' := [.inr (.inr (.inl (some (b))))]) (h' := h) rfl ?_
  refine wq_gr (p' := 4) (ck_18 _ _ rfl) rfl (congrArg Prod.fst (ib_k0 i)) rfl (ib_t i) ?_
  refine av_wp_sqF ck_18 1 (pc' := 5) (lv' := [some (.inr (.inr (.inl (some (b))))), none, none]) (st' := [.inr (.inr (.inl (some (b)))), .inr (.inr (.inl (some (t))))]) (h' := h) rfl ?_
  obtain ⟨v1, e2⟩ : ∃ v, hF h b 14 = v := ⟨_, rfl⟩
  have g3 := ib_mo i
  rw [e2] at g3
  refine wq_gi (p' := 8) (ck_18 _ _ rfl) rfl (congrArg Prod.fst (ib_k0 i)) rfl (e2) ?_
  refine av_wp_sqF ck_18 1 (pc' := 9) (lv' := [some (.inr (.inr (.inl (some (b))))), none, none]) (st' := [.inl (1), .inl v1, .inr (.inr (.inl (some (t))))]) (h' := h) rfl ?_
  refine wq_cv (p' := 12) (av_qc (.invokevirtual 74) 29 2 0 1) 3 cd_29 [.inl (1), .inl v1] (t) 1 [some (.inr (.inr (.inl (some (t))))), some (.inl v1), some (.inl (1))] (ck_18 _ _ rfl) rfl rfl pp_29 rfl rfl rfl (congrArg Prod.fst (co_kt (ib_co i))) rfl rfl rfl rfl ?_
  refine ct_29 (ib_co i) (v1) ((1)) (by omega) (by omega) (fun v4 p5 => ?_)
  show av_wp _ cd_18 12 [some (.inr (.inr (.inl (some (b))))), none, none] [.inl v4] h _
  refine av_wp_sqF ck_18 2 (pc' := 14) (lv' := [some (.inr (.inr (.inl (some (b))))), some (.inl v4), none]) (st' := [.inr (.inr (.inl (some (b))))]) (h' := h) rfl ?_
  refine wq_gr (p' := 17) (ck_18 _ _ rfl) rfl (congrArg Prod.fst (ib_k0 i)) rfl (ib_t i) ?_
  refine av_wp_sqF ck_18 1 (pc' := 18) (lv' := [some (.inr (.inr (.inl (some (b))))), some (.inl v4), none]) (st' := [.inr (.inr (.inl (some (b)))), .inr (.inr (.inl (some (t))))]) (h' := h) rfl ?_
  obtain ⟨v6, e7⟩ : ∃ v, hF h b 14 = v := ⟨_, rfl⟩
  have g8 := ib_mo i
  rw [e7] at g8
  refine wq_gi (p' := 21) (ck_18 _ _ rfl) rfl (congrArg Prod.fst (ib_k0 i)) rfl (e7) ?_
  refine av_wp_sqF ck_18 1 (pc' := 22) (lv' := [some (.inr (.inr (.inl (some (b))))), some (.inl v4), none]) (st' := [.inl (2), .inl v6, .inr (.inr (.inl (some (t))))]) (h' := h) rfl ?_
  refine wq_cv (p' := 25) (av_qc (.invokevirtual 74) 29 2 0 1) 3 cd_29 [.inl (2), .inl v6] (t) 1 [some (.inr (.inr (.inl (some (t))))), some (.inl v6), some (.inl (2))] (ck_18 _ _ rfl) rfl rfl pp_29 rfl rfl rfl (congrArg Prod.fst (co_kt (ib_co i))) rfl rfl rfl rfl ?_
  refine ct_29 (ib_co i) (v6) ((2)) (by omega) (by omega) (fun v9 p10 => ?_)
  show av_wp _ cd_18 25 [some (.inr (.inr (.inl (some (b))))), some (.inl v4), none] [.inl v9] h _
  refine av_wp_sqF ck_18 2 (pc' := 27) (lv' := [some (.inr (.inr (.inl (some (b))))), some (.inl v4), some (.inl v9)]) (st' := [.inl v4]) (h' := h) rfl ?_
  refine wq_k1 (p' := 30) (ck_18 _ _ rfl) rfl ⟨by omega, by omega⟩ (fun c11 => ?_) (fun c12 => ?_)
  · have c11 : v4 < (0) := c11
    refine av_wp_sqF ck_18 2 (pc' := 45) (lv' := [some (.inr (.inr (.inl (some (b))))), some (.inl v4), some (.inl v9)]) (st' := [.inl (0)]) (h' := h) rfl ?_
    refine av_wp_ret (v := some (.inl (0))) (ck_18 _ _ rfl) rfl rfl ?_
    exact hq _
  · have c12 : (0) ≤ v4 := c12
    refine av_wp_sqF ck_18 1 (pc' := 31) (lv' := [some (.inr (.inr (.inl (some (b))))), some (.inl v4), some (.inl v9)]) (st' := [.inl v9]) (h' := h) rfl ?_
    refine wq_k1 (p' := 34) (ck_18 _ _ rfl) rfl ⟨by omega, by omega⟩ (fun c13 => ?_) (fun c14 => ?_)
    · have c13 : (0) ≤ v9 := c13
      refine av_wp_sqF ck_18 7 (pc' := 45) (lv' := [some (.inr (.inr (.inl (some (b))))), some (.inl v4), some (.inl v9)]) (st' := [.inl (av_or (av_shl (1) v4) (av_shl (1) v9))]) (h' := h) rfl ?_
      refine av_wp_ret (v := some (.inl (av_or (av_shl (1) v4) (av_shl (1) v9)))) (ck_18 _ _ rfl) rfl rfl ?_
      exact hq _
    · have c14 : v9 < (0) := c14
      refine av_wp_sqF ck_18 2 (pc' := 45) (lv' := [some (.inr (.inr (.inl (some (b))))), some (.inl v4), some (.inl v9)]) (st' := [.inl (0)]) (h' := h) rfl ?_
      refine av_wp_ret (v := some (.inl (0))) (ck_18 _ _ rfl) rfl rfl ?_
      exact hq _

set_option maxRecDepth 100000 in
set_option maxHeartbeats 4000000 in
theorem ct_20 {g h : av_H} {b t c s r : Nat} {cb : Int} (i : IB b t c s r cb h) (F : Fr1 g h) {Q : Option av_V → av_H → Prop} (hq : ∀ v : Int, Q (some (.inl v)) h) : av_wp none cd_20 0 [some (.inr (.inr (.inl (some (b))))), none, none, none] [] h Q := by
  have s12 := co_s12 (ib_co i)
  have cbr := co_cbr (ib_co i)
  refine av_wp_sqF ck_20 1 (pc' := 1) (lv' := [some (.inr (.inr (.inl (some (b))))), none, none, none]) (st' := [.inr (.inr (.inl (some (b))))]) (h' := h) rfl ?_
  refine wq_gr (p' := 4) (ck_20 _ _ rfl) rfl (congrArg Prod.fst (ib_k0 i)) rfl (ib_r i) ?_
  refine av_wp_sqF ck_20 1 (pc' := 6) (lv' := [some (.inr (.inr (.inl (some (b))))), none, none, none]) (st' := [.inl (12), .inr (.inr (.inl (some (r))))]) (h' := h) rfl ?_
  obtain ⟨v1, e2⟩ : ∃ v, hA h (r) (Int.toNat ((12))) = v := ⟨_, rfl⟩
  have g3 := ib_rv i (Int.toNat ((12)))
  rw [e2] at g3
  refine wq_al (p' := 7) (n := 14) (ck_20 _ _ rfl) rfl (ib_kr i) (by omega) (e2) ?_
  refine wq_k1 (p' := 10) (ck_20 _ _ rfl) rfl ⟨by omega, by omega⟩ (fun c4 => ?_) (fun c5 => ?_)
  · have c4 : v1 ≠ (0) := c4
    refine av_wp_sqF ck_20 4 (pc' := 21) (lv' := [some (.inr (.inr (.inl (some (b))))), some (.inl (9999)), some (.inl (0)), none]) (st' := []) (h' := h) rfl ?_
    have L10 : ∀ (m9 : Nat) (k6 : Int) (k7 : Int) (a8 : Option av_V), av_lg a8 = false → k7 ≤ (s : Int) → (0 ≤ k7 ∧ k7 ≤ 12) → ((s : Int) - k7).toNat = m9 → av_wp none cd_20 21 [some (.inr (.inr (.inl (some (b))))), some (.inl k6), some (.inl k7), a8] [] h Q := by
      intro m9
      induction m9 using Nat.strongRecOn with
      | _ m9 I11 =>
        intro k6 k7 a8 g13 g14 g15 e12
        have la8 := g13
        refine av_wp_sqF ck_20 2 (pc' := 23) (lv' := [some (.inr (.inr (.inl (some (b))))), some (.inl k6), some (.inl k7), a8]) (st' := [.inr (.inr (.inl (some (b)))), .inl k7]) (h' := h) rfl ?_
        refine wq_gr (p' := 26) (ck_20 _ _ rfl) rfl (congrArg Prod.fst (ib_k0 i)) rfl (ib_t i) ?_
        refine wq_gi (p' := 29) (ck_20 _ _ rfl) rfl (congrArg Prod.fst (co_kt (ib_co i))) rfl (co_s (ib_co i)) ?_
        refine wq_k2 (p' := 32) (ck_20 _ _ rfl) rfl ⟨by omega, by omega⟩ ⟨by omega, by omega⟩ (fun c16 => ?_) (fun c17 => ?_)
        · have c16 : (s : Int) ≤ k7 := c16
          refine av_wp_sqF ck_20 1 (pc' := 99) (lv' := [some (.inr (.inr (.inl (some (b))))), some (.inl k6), some (.inl k7), a8]) (st' := [.inl k6]) (h' := h) rfl ?_
          refine av_wp_ret (v := some (.inl k6)) (ck_20 _ _ rfl) rfl rfl ?_
          exact hq _
        · have c17 : k7 < (s : Int) := c17
          refine av_wp_sqF ck_20 1 (pc' := 33) (lv' := [some (.inr (.inr (.inl (some (b))))), some (.inl k6), some (.inl k7), a8]) (st' := [.inr (.inr (.inl (some (b))))]) (h' := h) rfl ?_
          refine wq_gr (p' := 36) (ck_20 _ _ rfl) rfl (congrArg Prod.fst (ib_k0 i)) rfl (ib_t i) ?_
          refine av_wp_sqF ck_20 2 (pc' := 38) (lv' := [some (.inr (.inr (.inl (some (b))))), some (.inl k6), some (.inl k7), a8]) (st' := [.inl (0), .inl k7, .inr (.inr (.inl (some (t))))]) (h' := h) rfl ?_
          refine wq_cv (p' := 41) (av_qc (.invokevirtual 74) 29 2 0 1) 3 cd_29 [.inl (0), .inl k7] (t) 1 [some (.inr (.inr (.inl (some (t))))), some (.inl k7), some (.inl (0))] (ck_20 _ _ rfl) rfl rfl pp_29 rfl rfl rfl (congrArg Prod.fst (co_kt (ib_co i))) rfl rfl rfl rfl ?_
          refine ct_29 (ib_co i) (k7) ((0)) (by omega) (by omega) (fun v18 p19 => ?_)
          show av_wp _ cd_20 41 [some (.inr (.inr (.inl (some (b))))), some (.inl k6), some (.inl k7), a8] [.inl v18] h _
          refine av_wp_sqF ck_20 1 (pc' := 43) (lv' := [some (.inr (.inr (.inl (some (b))))), some (.inl k6), some (.inl k7), a8]) (st' := [.inl (7), .inl v18]) (h' := h) rfl ?_
          have J23 : ∀ (j20 : Int) (a21 : Option av_V), av_lg a21 = false →  av_wp none cd_20 92 [some (.inr (.inr (.inl (some (b))))), some (.inl j20), some (.inl k7), a21] [] h Q := by
            intro j20 a21 g22
            have la21 := g22
            refine av_wp_sqF ck_20 2 (pc' := 21) (lv' := [some (.inr (.inr (.inl (some (b))))), some (.inl j20), some (.inl (k7 + (1))), a21]) (st' := []) (h' := h) rfl ?_
            exact I11 _ (by omega) (j20) ((k7 + (1))) (a21) la21 (by omega) (by omega) rfl
          refine wq_k2 (p' := 46) (ck_20 _ _ rfl) rfl ⟨by omega, by omega⟩ ⟨by omega, by omega⟩ (fun c24 => ?_) (fun c25 => ?_)
          · have c24 : v18 ≠ (7) := c24
            exact J23 (k6) (a8) la8
          · have c25 : v18 = (7) := c25
            refine av_wp_sqF ck_20 1 (pc' := 47) (lv' := [some (.inr (.inr (.inl (some (b))))), some (.inl k6), some (.inl k7), a8]) (st' := [.inr (.inr (.inl (some (b))))]) (h' := h) rfl ?_
            refine wq_gr (p' := 50) (ck_20 _ _ rfl) rfl (congrArg Prod.fst (ib_k0 i)) rfl (ib_t i) ?_
            refine av_wp_sqF ck_20 2 (pc' := 52) (lv' := [some (.inr (.inr (.inl (some (b))))), some (.inl k6), some (.inl k7), a8]) (st' := [.inl (3), .inl k7, .inr (.inr (.inl (some (t))))]) (h' := h) rfl ?_
            refine wq_cv (p' := 55) (av_qc (.invokevirtual 74) 29 2 0 1) 3 cd_29 [.inl (3), .inl k7] (t) 1 [some (.inr (.inr (.inl (some (t))))), some (.inl k7), some (.inl (3))] (ck_20 _ _ rfl) rfl rfl pp_29 rfl rfl rfl (congrArg Prod.fst (co_kt (ib_co i))) rfl rfl rfl rfl ?_
            refine ct_29 (ib_co i) (k7) ((3)) (by omega) (by omega) (fun v26 p27 => ?_)
            show av_wp _ cd_20 55 [some (.inr (.inr (.inl (some (b))))), some (.inl k6), some (.inl k7), a8] [.inl v26] h _
            refine av_wp_sqF ck_20 1 (pc' := 56) (lv' := [some (.inr (.inr (.inl (some (b))))), some (.inl k6), some (.inl k7), a8]) (st' := [.inr (.inr (.inl (some (b)))), .inl v26]) (h' := h) rfl ?_
            obtain ⟨v28, e29⟩ : ∃ v, hF h b 14 = v := ⟨_, rfl⟩
            have g30 := ib_mo i
            rw [e29] at g30
            refine wq_gi (p' := 59) (ck_20 _ _ rfl) rfl (congrArg Prod.fst (ib_k0 i)) rfl (e29) ?_
            refine wq_k2 (p' := 62) (ck_20 _ _ rfl) rfl ⟨by omega, by omega⟩ ⟨by omega, by omega⟩ (fun c31 => ?_) (fun c32 => ?_)
            · have c31 : v26 ≠ v28 := c31
              exact J23 (k6) (a8) la8
            · have c32 : v26 = v28 := c32
              refine av_wp_sqF ck_20 3 (pc' := 65) (lv' := [some (.inr (.inr (.inl (some (b))))), some (.inl k6), some (.inl k7), a8]) (st' := [.inr (.inr (.inl (some (b)))), .inl k7, .inr (.inr (.inl (some (b))))]) (h' := h) rfl ?_
              refine wq_gr (p' := 68) (ck_20 _ _ rfl) rfl (congrArg Prod.fst (ib_k0 i)) rfl (ib_r i) ?_
              refine av_wp_sqF ck_20 1 (pc' := 70) (lv' := [some (.inr (.inr (.inl (some (b))))), some (.inl k6), some (.inl k7), a8]) (st' := [.inl (12), .inr (.inr (.inl (some (r)))), .inl k7, .inr (.inr (.inl (some (b))))]) (h' := h) rfl ?_
              obtain ⟨v33, e34⟩ : ∃ v, hA h (r) (Int.toNat ((12))) = v := ⟨_, rfl⟩
              have g35 := ib_rv i (Int.toNat ((12)))
              rw [e34] at g35
              refine wq_al (p' := 71) (n := 14) (ck_20 _ _ rfl) rfl (ib_kr i) (by omega) (e34) ?_
              refine av_wp_sqF ck_20 2 (pc' := 73) (lv' := [some (.inr (.inr (.inl (some (b))))), some (.inl k6), some (.inl k7), a8]) (st' := [.inl (v33 - (1)), .inl k7, .inr (.inr (.inl (some (b))))]) (h' := h) rfl ?_
              refine wq_cv (p' := 76) (av_qc (.invokevirtual 115) 6 2 0 0) 3 cd_6 [.inl (v33 - (1)), .inl k7] (b) 0 [some (.inr (.inr (.inl (some (b))))), some (.inl k7), some (.inl (v33 - (1)))] (ck_20 _ _ rfl) rfl rfl pp_6 rfl rfl rfl (congrArg Prod.fst (ib_k0 i)) rfl rfl rfl rfl ?_
              refine ct_6 i F (k7) ((v33 - (1))) (by omega) (by omega) (fun v36 => ?_)
              show av_wp _ cd_20 76 [some (.inr (.inr (.inl (some (b))))), some (.inl k6), some (.inl k7), a8] [.inl v36] h _
              refine av_wp_sqF ck_20 3 (pc' := 79) (lv' := [some (.inr (.inr (.inl (some (b))))), some (.inl k6), some (.inl k7), some (.inl v36)]) (st' := [.inl (-1), .inl v36]) (h' := h) rfl ?_
              have J39 : ∀ (j38 : Int),  av_wp none cd_20 91 [some (.inr (.inr (.inl (some (b))))), some (.inl k6), some (.inl k7), some (.inl v36)] [.inl j38] h Q := by
                intro j38
                refine av_wp_sqF ck_20 1 (pc' := 92) (lv' := [some (.inr (.inr (.inl (some (b))))), some (.inl j38), some (.inl k7), some (.inl v36)]) (st' := []) (h' := h) rfl ?_
                exact J23 (j38) (some (.inl v36)) rfl
              refine wq_c2 (p' := 82) (ck_20 _ _ rfl) rfl ?_ ?_
              · refine av_wp_sqF ck_20 2 (pc' := 88) (lv' := [some (.inr (.inr (.inl (some (b))))), some (.inl k6), some (.inl k7), some (.inl v36)]) (st' := [.inl v36, .inl k6]) (h' := h) rfl ?_
                refine wq_mn (p' := 91) (ck_20 _ _ rfl) rfl rfl (fun _ _ => rfl) rfl (fun v40 e41 e42 => ?_)
                exact J39 (v40)
              · refine av_wp_sqF ck_20 2 (pc' := 91) (lv' := [some (.inr (.inr (.inl (some (b))))), some (.inl k6), some (.inl k7), some (.inl v36)]) (st' := [.inl k6]) (h' := h) rfl ?_
                exact J39 (k6)
    exact L10 _ ((9999)) ((0)) (none) rfl (by omega) (by omega) rfl
  · have c5 : v1 = (0) := c5
    refine av_wp_sqF ck_20 1 (pc' := 11) (lv' := [some (.inr (.inr (.inl (some (b))))), none, none, none]) (st' := [.inr (.inr (.inl (some (b))))]) (h' := h) rfl ?_
    obtain ⟨v43, e44⟩ : ∃ v, hF h b 15 = v := ⟨_, rfl⟩
    refine wq_gi (p' := 14) (ck_20 _ _ rfl) rfl (congrArg Prod.fst (ib_k0 i)) rfl (e44) ?_
    refine av_wp_ret (v := some (.inl v43)) (ck_20 _ _ rfl) rfl rfl ?_
    exact hq _

set_option maxRecDepth 100000 in
set_option maxHeartbeats 4000000 in
theorem ct_19 {g h : av_H} {b t c s r : Nat} {cb : Int} (i : IB b t c s r cb h) (F : Fr1 g h) (x : Int) {Q : Option av_V → av_H → Prop} (hq : ∀ v : Int, Q (some (.inl v)) h) : av_wp none cd_19 0 [some (.inr (.inr (.inl (some (b))))), some (.inl x), none, none] [] h Q := by
  have s12 := co_s12 (ib_co i)
  have cbr := co_cbr (ib_co i)
  refine av_wp_sqF ck_19 1 (pc' := 1) (lv' := [some (.inr (.inr (.inl (some (b))))), some (.inl x), none, none]) (st' := [.inr (.inr (.inl (some (b))))]) (h' := h) rfl ?_
  refine wq_cv (p' := 4) (av_qc (.invokevirtual 142) 3 0 0 0) 1 cd_3 [] (b) 0 [some (.inr (.inr (.inl (some (b)))))] (ck_19 _ _ rfl) rfl rfl pp_3 rfl rfl rfl (congrArg Prod.fst (ib_k0 i)) rfl rfl rfl rfl ?_
  refine ct_3 i F   (fun v1 p2 => ?_)
  show av_wp _ cd_19 4 [some (.inr (.inr (.inl (some (b))))), some (.inl x), none, none] [.inl v1] h _
  refine wq_k1 (p' := 7) (ck_19 _ _ rfl) rfl ⟨by omega, by omega⟩ (fun c3 => ?_) (fun c4 => ?_)
  · have c3 : v1 ≠ (0) := c3
    refine av_wp_sqF ck_19 1 (pc' := 10) (lv' := [some (.inr (.inr (.inl (some (b))))), some (.inl x), none, none]) (st' := [.inr (.inr (.inl (some (b))))]) (h' := h) rfl ?_
    refine wq_cv (p' := 13) (av_qc (.invokevirtual 146) 20 0 0 0) 4 cd_20 [] (b) 0 [some (.inr (.inr (.inl (some (b))))), none, none, none] (ck_19 _ _ rfl) rfl rfl pp_20 rfl rfl rfl (congrArg Prod.fst (ib_k0 i)) rfl rfl rfl rfl ?_
    refine ct_20 i F   (fun v5 => ?_)
    show av_wp _ cd_19 13 [some (.inr (.inr (.inl (some (b))))), some (.inl x), none, none] [.inl v5] h _
    refine av_wp_sqF ck_19 3 (pc' := 18) (lv' := [some (.inr (.inr (.inl (some (b))))), some (.inl x), some (.inl v5), none]) (st' := [.inl (9999), .inl v5]) (h' := h) rfl ?_
    have J9 : ∀ (j7 : Int), (0 ≤ j7 ∧ j7 ≤ 1) →  av_wp none cd_19 38 [some (.inr (.inr (.inl (some (b))))), some (.inl x), some (.inl v5), none] [.inl j7] h Q := by
      intro j7 g8
      refine av_wp_sqF ck_19 2 (pc' := 40) (lv' := [some (.inr (.inr (.inl (some (b))))), some (.inl x), some (.inl v5), some (.inl j7)]) (st' := [.inr (.inr (.inl (some (b))))]) (h' := h) rfl ?_
      refine wq_gr (p' := 43) (ck_19 _ _ rfl) rfl (congrArg Prod.fst (ib_k0 i)) rfl (ib_t i) ?_
      refine av_wp_sqF ck_19 1 (pc' := 44) (lv' := [some (.inr (.inr (.inl (some (b))))), some (.inl x), some (.inl v5), some (.inl j7)]) (st' := [.inr (.inr (.inl (some (b)))), .inr (.inr (.inl (some (t))))]) (h' := h) rfl ?_
      obtain ⟨v10, e11⟩ : ∃ v, hF h b 14 = v := ⟨_, rfl⟩
      have g12 := ib_mo i
      rw [e11] at g12
      refine wq_gi (p' := 47) (ck_19 _ _ rfl) rfl (congrArg Prod.fst (ib_k0 i)) rfl (e11) ?_
      refine av_wp_sqF ck_19 1 (pc' := 48) (lv' := [some (.inr (.inr (.inl (some (b))))), some (.inl x), some (.inl v5), some (.inl j7)]) (st' := [.inl j7, .inl v10, .inr (.inr (.inl (some (t))))]) (h' := h) rfl ?_
      have J15 : ∀ (j13 : Int), (1 ≤ j13 ∧ j13 ≤ 2) →  av_wp none cd_19 56 [some (.inr (.inr (.inl (some (b))))), some (.inl x), some (.inl v5), some (.inl j7)] [.inl j13, .inl v10, .inr (.inr (.inl (some (t))))] h Q := by
        intro j13 g14
        refine wq_cv (p' := 59) (av_qc (.invokevirtual 74) 29 2 0 1) 3 cd_29 [.inl j13, .inl v10] (t) 1 [some (.inr (.inr (.inl (some (t))))), some (.inl v10), some (.inl j13)] (ck_19 _ _ rfl) rfl rfl pp_29 rfl rfl rfl (congrArg Prod.fst (co_kt (ib_co i))) rfl rfl rfl rfl ?_
        refine ct_29 (ib_co i) (v10) (j13) (by omega) (by omega) (fun v16 p17 => ?_)
        show av_wp _ cd_19 59 [some (.inr (.inr (.inl (some (b))))), some (.inl x), some (.inl v5), some (.inl j7)] [.inl v16] h _
        refine av_wp_ret (v := some (.inl v16)) (ck_19 _ _ rfl) rfl rfl ?_
        exact hq _
      refine wq_k1 (p' := 51) (ck_19 _ _ rfl) rfl ⟨by omega, by omega⟩ (fun c18 => ?_) (fun c19 => ?_)
      · have c18 : j7 = (0) := c18
        refine av_wp_sqF ck_19 1 (pc' := 56) (lv' := [some (.inr (.inr (.inl (some (b))))), some (.inl x), some (.inl v5), some (.inl j7)]) (st' := [.inl (1), .inl v10, .inr (.inr (.inl (some (t))))]) (h' := h) rfl ?_
        exact J15 ((1)) (by omega)
      · have c19 : j7 ≠ (0) := c19
        refine av_wp_sqF ck_19 2 (pc' := 56) (lv' := [some (.inr (.inr (.inl (some (b))))), some (.inl x), some (.inl v5), some (.inl j7)]) (st' := [.inl (2), .inl v10, .inr (.inr (.inl (some (t))))]) (h' := h) rfl ?_
        exact J15 ((2)) (by omega)
    refine wq_c2 (p' := 21) (ck_19 _ _ rfl) rfl ?_ ?_
    · refine av_wp_sqF ck_19 1 (pc' := 38) (lv' := [some (.inr (.inr (.inl (some (b))))), some (.inl x), some (.inl v5), none]) (st' := [.inl (0)]) (h' := h) rfl ?_
      exact J9 ((0)) (by omega)
    · refine av_wp_sqF ck_19 3 (pc' := 24) (lv' := [some (.inr (.inr (.inl (some (b))))), some (.inl x), some (.inl v5), none]) (st' := [.inr (.inr (.inl (some (b)))), .inl v5, .inl x]) (h' := h) rfl ?_
      obtain ⟨v20, e21⟩ : ∃ v, hF h b 15 = v := ⟨_, rfl⟩
      refine wq_gi (p' := 27) (ck_19 _ _ rfl) rfl (congrArg Prod.fst (ib_k0 i)) rfl (e21) ?_
      refine wq_mx (p' := 30) (ck_19 _ _ rfl) rfl rfl (fun _ _ => rfl) rfl (fun v22 e23 e24 => ?_)
      refine wq_c2 (p' := 33) (ck_19 _ _ rfl) rfl ?_ ?_
      · refine av_wp_sqF ck_19 1 (pc' := 38) (lv' := [some (.inr (.inr (.inl (some (b))))), some (.inl x), some (.inl v5), none]) (st' := [.inl (0)]) (h' := h) rfl ?_
        exact J9 ((0)) (by omega)
      · refine av_wp_sqF ck_19 2 (pc' := 38) (lv' := [some (.inr (.inr (.inl (some (b))))), some (.inl x), some (.inl v5), none]) (st' := [.inl (1)]) (h' := h) rfl ?_
        exact J9 ((1)) (by omega)
  · have c4 : v1 = (0) := c4
    refine av_wp_sqF ck_19 1 (pc' := 8) (lv' := [some (.inr (.inr (.inl (some (b))))), some (.inl x), none, none]) (st' := [.inl (-1)]) (h' := h) rfl ?_
    refine av_wp_ret (v := some (.inl (-1))) (ck_19 _ _ rfl) rfl rfl ?_
    exact hq _

set_option maxRecDepth 100000 in
set_option maxHeartbeats 4000000 in
theorem ct_22 {g h : av_H} {b t c s r : Nat} {cb : Int} (i : IB b t c s r cb h) (F : Fr1 g h) (k : Int) (y : Int) (q0 : (0 ≤ k ∧ k < (s : Int))) (q1 : (-2147483648 ≤ y ∧ y ≤ 2147483647)) {Q : Option av_V → av_H → Prop} (hq : ∀ v : Int, (v = 0 ∨ v = 1) → Q (some (.inl v)) h) : av_wp none cd_22 0 [some (.inr (.inr (.inl (some (b))))), some (.inl k), some (.inl y), none, none] [] h Q := by
  have s12 := co_s12 (ib_co i)
  have cbr := co_cbr (ib_co i)
  refine av_wp_sqF ck_22 1 (pc' := 1) (lv' := [some (.inr (.inr (.inl (some (b))))), some (.inl k), some (.inl y), none, none]) (st' := [.inr (.inr (.inl (some (b))))]) (h' := h) rfl ?_
  refine wq_gr (p' := 4) (ck_22 _ _ rfl) rfl (congrArg Prod.fst (ib_k0 i)) rfl (ib_t i) ?_
  refine av_wp_sqF ck_22 1 (pc' := 5) (lv' := [some (.inr (.inr (.inl (some (b))))), some (.inl k), some (.inl y), none, none]) (st' := [.inl y, .inr (.inr (.inl (some (t))))]) (h' := h) rfl ?_
  refine wq_cv (p' := 8) (av_qc (.invokevirtual 136) 28 1 0 1) 2 cd_28 [.inl y] (t) 1 [some (.inr (.inr (.inl (some (t))))), some (.inl y)] (ck_22 _ _ rfl) rfl rfl pp_28 rfl rfl rfl (congrArg Prod.fst (co_kt (ib_co i))) rfl rfl rfl rfl ?_
  refine ct_28 (ib_co i) (y) (by omega) (fun v1 p2 => ?_)
  show av_wp _ cd_22 8 [some (.inr (.inr (.inl (some (b))))), some (.inl k), some (.inl y), none, none] [.inl v1] h _
  refine wq_k1 (p' := 11) (ck_22 _ _ rfl) rfl ⟨by omega, by omega⟩ (fun c3 => ?_) (fun c4 => ?_)
  · have c3 : v1 = (0) := c3
    refine av_wp_sqF ck_22 1 (pc' := 21) (lv' := [some (.inr (.inr (.inl (some (b))))), some (.inl k), some (.inl y), none, none]) (st' := [.inl (0)]) (h' := h) rfl ?_
    refine av_wp_ret (v := some (.inl (0))) (ck_22 _ _ rfl) rfl rfl ?_
    exact hq _ (by omega)
  · have c4 : v1 ≠ (0) := c4
    refine av_wp_sqF ck_22 1 (pc' := 12) (lv' := [some (.inr (.inr (.inl (some (b))))), some (.inl k), some (.inl y), none, none]) (st' := [.inr (.inr (.inl (some (b))))]) (h' := h) rfl ?_
    refine wq_gr (p' := 15) (ck_22 _ _ rfl) rfl (congrArg Prod.fst (ib_k0 i)) rfl (ib_g i 3 rfl) ?_
    refine av_wp_sqF ck_22 1 (pc' := 16) (lv' := [some (.inr (.inr (.inl (some (b))))), some (.inl k), some (.inl y), none, none]) (st' := [.inl y, .inr (.inr (.inl (some (b + 1 + 3))))]) (h' := h) rfl ?_
    obtain ⟨v5, e6⟩ : ∃ v, hA h (b + 1 + 3) (Int.toNat (y)) = v := ⟨_, rfl⟩
    refine wq_bl (p' := 17) (n := 12) (ck_22 _ _ rfl) rfl ((Or.inr (ib_k i 3 rfl))) (by omega) (e6) ?_
    refine wq_c1 (p' := 20) (ck_22 _ _ rfl) rfl ?_ ?_
    · refine av_wp_sqF ck_22 3 (pc' := 25) (lv' := [some (.inr (.inr (.inl (some (b))))), some (.inl k), some (.inl y), none, none]) (st' := [.inr (.inr (.inl (some (b)))), .inl k, .inr (.inr (.inl (some (b))))]) (h' := h) rfl ?_
      refine wq_gr (p' := 28) (ck_22 _ _ rfl) rfl (congrArg Prod.fst (ib_k0 i)) rfl (ib_r i) ?_
      refine av_wp_sqF ck_22 1 (pc' := 29) (lv' := [some (.inr (.inr (.inl (some (b))))), some (.inl k), some (.inl y), none, none]) (st' := [.inl (4), .inr (.inr (.inl (some (r)))), .inl k, .inr (.inr (.inl (some (b))))]) (h' := h) rfl ?_
      obtain ⟨v8, e9⟩ : ∃ v, hA h (r) (Int.toNat ((4))) = v := ⟨_, rfl⟩
      have g10 := ib_rv i (Int.toNat ((4)))
      rw [e9] at g10
      refine wq_al (p' := 30) (n := 14) (ck_22 _ _ rfl) rfl (ib_kr i) (by omega) (e9) ?_
      refine wq_cv (p' := 33) (av_qc (.invokevirtual 115) 6 2 0 0) 3 cd_6 [.inl v8, .inl k] (b) 0 [some (.inr (.inr (.inl (some (b))))), some (.inl k), some (.inl v8)] (ck_22 _ _ rfl) rfl rfl pp_6 rfl rfl rfl (congrArg Prod.fst (ib_k0 i)) rfl rfl rfl rfl ?_
      refine ct_6 i F (k) (v8) (by omega) (by omega) (fun v11 => ?_)
      show av_wp _ cd_22 33 [some (.inr (.inr (.inl (some (b))))), some (.inl k), some (.inl y), none, none] [.inl v11] h _
      refine av_wp_sqF ck_22 5 (pc' := 38) (lv' := [some (.inr (.inr (.inl (some (b))))), some (.inl k), some (.inl y), some (.inl v11), none]) (st' := [.inl y, .inr (.inr (.inl (some (b)))), .inl y, .inr (.inr (.inl (some (b))))]) (h' := h) rfl ?_
      refine wq_cv (p' := 41) (av_qc (.invokevirtual 129) 13 1 0 0) 3 cd_13 [.inl y] (b) 0 [some (.inr (.inr (.inl (some (b))))), some (.inl y), none] (ck_22 _ _ rfl) rfl rfl pp_13 rfl rfl rfl (congrArg Prod.fst (ib_k0 i)) rfl rfl rfl rfl ?_
      refine ct_13 i F (y) (by omega) (fun v13 p14 => ?_)
      show av_wp _ cd_22 41 [some (.inr (.inr (.inl (some (b))))), some (.inl k), some (.inl y), some (.inl v11), none] [.inl v13, .inl y, .inr (.inr (.inl (some (b))))] h _
      refine wq_cv (p' := 44) (av_qc (.invokevirtual 115) 6 2 0 0) 3 cd_6 [.inl v13, .inl y] (b) 0 [some (.inr (.inr (.inl (some (b))))), some (.inl y), some (.inl v13)] (ck_22 _ _ rfl) rfl rfl pp_6 rfl rfl rfl (congrArg Prod.fst (ib_k0 i)) rfl rfl rfl rfl ?_
      refine ct_6 i F (y) (v13) (by omega) (by omega) (fun v15 => ?_)
      show av_wp _ cd_22 44 [some (.inr (.inr (.inl (some (b))))), some (.inl k), some (.inl y), some (.inl v11), none] [.inl v15] h _
      refine av_wp_sqF ck_22 3 (pc' := 48) (lv' := [some (.inr (.inr (.inl (some (b))))), some (.inl k), some (.inl y), some (.inl v11), some (.inl v15)]) (st' := [.inl (-1), .inl v11]) (h' := h) rfl ?_
      refine wq_c2 (p' := 51) (ck_22 _ _ rfl) rfl ?_ ?_
      · refine av_wp_sqF ck_22 1 (pc' := 68) (lv' := [some (.inr (.inr (.inl (some (b))))), some (.inl k), some (.inl y), some (.inl v11), some (.inl v15)]) (st' := [.inl (0)]) (h' := h) rfl ?_
        refine av_wp_ret (v := some (.inl (0))) (ck_22 _ _ rfl) rfl rfl ?_
        exact hq _ (by omega)
      · refine av_wp_sqF ck_22 2 (pc' := 54) (lv' := [some (.inr (.inr (.inl (some (b))))), some (.inl k), some (.inl y), some (.inl v11), some (.inl v15)]) (st' := [.inl (-1), .inl v15]) (h' := h) rfl ?_
        refine wq_c2 (p' := 57) (ck_22 _ _ rfl) rfl ?_ ?_
        · refine av_wp_sqF ck_22 1 (pc' := 68) (lv' := [some (.inr (.inr (.inl (some (b))))), some (.inl k), some (.inl y), some (.inl v11), some (.inl v15)]) (st' := [.inl (0)]) (h' := h) rfl ?_
          refine av_wp_ret (v := some (.inl (0))) (ck_22 _ _ rfl) rfl rfl ?_
          exact hq _ (by omega)
        · refine av_wp_sqF ck_22 2 (pc' := 60) (lv' := [some (.inr (.inr (.inl (some (b))))), some (.inl k), some (.inl y), some (.inl v11), some (.inl v15)]) (st' := [.inl v15, .inl v11]) (h' := h) rfl ?_
          refine wq_c2 (p' := 63) (ck_22 _ _ rfl) rfl ?_ ?_
          · refine av_wp_sqF ck_22 1 (pc' := 68) (lv' := [some (.inr (.inr (.inl (some (b))))), some (.inl k), some (.inl y), some (.inl v11), some (.inl v15)]) (st' := [.inl (0)]) (h' := h) rfl ?_
            refine av_wp_ret (v := some (.inl (0))) (ck_22 _ _ rfl) rfl rfl ?_
            exact hq _ (by omega)
          · refine av_wp_sqF ck_22 2 (pc' := 68) (lv' := [some (.inr (.inr (.inl (some (b))))), some (.inl k), some (.inl y), some (.inl v11), some (.inl v15)]) (st' := [.inl (1)]) (h' := h) rfl ?_
            refine av_wp_ret (v := some (.inl (1))) (ck_22 _ _ rfl) rfl rfl ?_
            exact hq _ (by omega)
    · refine av_wp_sqF ck_22 1 (pc' := 21) (lv' := [some (.inr (.inr (.inl (some (b))))), some (.inl k), some (.inl y), none, none]) (st' := [.inl (0)]) (h' := h) rfl ?_
      refine av_wp_ret (v := some (.inl (0))) (ck_22 _ _ rfl) rfl rfl ?_
      exact hq _ (by omega)

set_option maxRecDepth 100000 in
set_option maxHeartbeats 4000000 in
theorem ct_21 {g h : av_H} {b t c s r : Nat} {cb : Int} (i : IB b t c s r cb h) (F : Fr1 g h) (k : Int) (q0 : (-2147483648 ≤ k ∧ k ≤ 2147483647)) {Q : Option av_V → av_H → Prop} (hq : ∀ v : Int, Q (some (.inl v)) h) : av_wp none cd_21 0 [some (.inr (.inr (.inl (some (b))))), some (.inl k), none, none] [] h Q := by
  have s12 := co_s12 (ib_co i)
  have cbr := co_cbr (ib_co i)
  refine av_wp_sqF ck_21 1 (pc' := 1) (lv' := [some (.inr (.inr (.inl (some (b))))), some (.inl k), none, none]) (st' := [.inr (.inr (.inl (some (b))))]) (h' := h) rfl ?_
  refine wq_gr (p' := 4) (ck_21 _ _ rfl) rfl (congrArg Prod.fst (ib_k0 i)) rfl (ib_t i) ?_
  refine av_wp_sqF ck_21 1 (pc' := 5) (lv' := [some (.inr (.inr (.inl (some (b))))), some (.inl k), none, none]) (st' := [.inl k, .inr (.inr (.inl (some (t))))]) (h' := h) rfl ?_
  refine wq_cv (p' := 8) (av_qc (.invokevirtual 136) 28 1 0 1) 2 cd_28 [.inl k] (t) 1 [some (.inr (.inr (.inl (some (t))))), some (.inl k)] (ck_21 _ _ rfl) rfl rfl pp_28 rfl rfl rfl (congrArg Prod.fst (co_kt (ib_co i))) rfl rfl rfl rfl ?_
  refine ct_28 (ib_co i) (k) (by omega) (fun v1 p2 => ?_)
  show av_wp _ cd_21 8 [some (.inr (.inr (.inl (some (b))))), some (.inl k), none, none] [.inl v1] h _
  refine wq_k1 (p' := 11) (ck_21 _ _ rfl) rfl ⟨by omega, by omega⟩ (fun c3 => ?_) (fun c4 => ?_)
  · have c3 : v1 ≠ (0) := c3
    refine av_wp_sqF ck_21 1 (pc' := 14) (lv' := [some (.inr (.inr (.inl (some (b))))), some (.inl k), none, none]) (st' := [.inr (.inr (.inl (some (b))))]) (h' := h) rfl ?_
    refine wq_gr (p' := 17) (ck_21 _ _ rfl) rfl (congrArg Prod.fst (ib_k0 i)) rfl (ib_t i) ?_
    refine av_wp_sqF ck_21 2 (pc' := 19) (lv' := [some (.inr (.inr (.inl (some (b))))), some (.inl k), none, none]) (st' := [.inl (3), .inl k, .inr (.inr (.inl (some (t))))]) (h' := h) rfl ?_
    refine wq_cv (p' := 22) (av_qc (.invokevirtual 74) 29 2 0 1) 3 cd_29 [.inl (3), .inl k] (t) 1 [some (.inr (.inr (.inl (some (t))))), some (.inl k), some (.inl (3))] (ck_21 _ _ rfl) rfl rfl pp_29 rfl rfl rfl (congrArg Prod.fst (co_kt (ib_co i))) rfl rfl rfl rfl ?_
    refine ct_29 (ib_co i) (k) ((3)) (by omega) (by omega) (fun v5 p6 => ?_)
    show av_wp _ cd_21 22 [some (.inr (.inr (.inl (some (b))))), some (.inl k), none, none] [.inl v5] h _
    refine av_wp_sqF ck_21 2 (pc' := 24) (lv' := [some (.inr (.inr (.inl (some (b))))), some (.inl k), some (.inl v5), none]) (st' := [.inr (.inr (.inl (some (b))))]) (h' := h) rfl ?_
    refine wq_gr (p' := 27) (ck_21 _ _ rfl) rfl (congrArg Prod.fst (ib_k0 i)) rfl (ib_g i 5 rfl) ?_
    refine av_wp_sqF ck_21 1 (pc' := 28) (lv' := [some (.inr (.inr (.inl (some (b))))), some (.inl k), some (.inl v5), none]) (st' := [.inl k, .inr (.inr (.inl (some (b + 1 + 5))))]) (h' := h) rfl ?_
    obtain ⟨v7, e8⟩ : ∃ v, hA h (b + 1 + 5) (Int.toNat (k)) = v := ⟨_, rfl⟩
    refine wq_al (p' := 29) (n := 12) (ck_21 _ _ rfl) rfl (ib_k i 5 rfl) (by omega) (e8) ?_
    refine av_wp_sqF ck_21 1 (pc' := 30) (lv' := [some (.inr (.inr (.inl (some (b))))), some (.inl k), some (.inl v5), none]) (st' := [.inl (-1), .inl v7]) (h' := h) rfl ?_
    have J12 : ∀ (j10 : Int), (0 ≤ j10 ∧ j10 ≤ 1) →  av_wp none cd_21 38 [some (.inr (.inr (.inl (some (b))))), some (.inl k), some (.inl v5), none] [.inl j10] h Q := by
      intro j10 g11
      refine av_wp_sqF ck_21 2 (pc' := 40) (lv' := [some (.inr (.inr (.inl (some (b))))), some (.inl k), some (.inl v5), some (.inl j10)]) (st' := [.inr (.inr (.inl (some (b))))]) (h' := h) rfl ?_
      refine wq_gr (p' := 43) (ck_21 _ _ rfl) rfl (congrArg Prod.fst (ib_k0 i)) rfl (ib_t i) ?_
      refine av_wp_sqF ck_21 1 (pc' := 44) (lv' := [some (.inr (.inr (.inl (some (b))))), some (.inl k), some (.inl v5), some (.inl j10)]) (st' := [.inl v5, .inr (.inr (.inl (some (t))))]) (h' := h) rfl ?_
      refine wq_cv (p' := 47) (av_qc (.invokevirtual 136) 28 1 0 1) 2 cd_28 [.inl v5] (t) 1 [some (.inr (.inr (.inl (some (t))))), some (.inl v5)] (ck_21 _ _ rfl) rfl rfl pp_28 rfl rfl rfl (congrArg Prod.fst (co_kt (ib_co i))) rfl rfl rfl rfl ?_
      refine ct_28 (ib_co i) (v5) (by omega) (fun v13 p14 => ?_)
      show av_wp _ cd_21 47 [some (.inr (.inr (.inl (some (b))))), some (.inl k), some (.inl v5), some (.inl j10)] [.inl v13] h _
      have J16 : ∀ (j15 : Int),  av_wp none cd_21 64 [some (.inr (.inr (.inl (some (b))))), some (.inl k), some (.inl v5), some (.inl j15)] [] h Q := by
        intro j15
        refine av_wp_sqF ck_21 1 (pc' := 65) (lv' := [some (.inr (.inr (.inl (some (b))))), some (.inl k), some (.inl v5), some (.inl j15)]) (st' := [.inr (.inr (.inl (some (b))))]) (h' := h) rfl ?_
        refine wq_cv (p' := 68) (av_qc (.invokevirtual 142) 3 0 0 0) 1 cd_3 [] (b) 0 [some (.inr (.inr (.inl (some (b)))))] (ck_21 _ _ rfl) rfl rfl pp_3 rfl rfl rfl (congrArg Prod.fst (ib_k0 i)) rfl rfl rfl rfl ?_
        refine ct_3 i F   (fun v17 p18 => ?_)
        show av_wp _ cd_21 68 [some (.inr (.inr (.inl (some (b))))), some (.inl k), some (.inl v5), some (.inl j15)] [.inl v17] h _
        have J20 : ∀ (j19 : Int),  av_wp none cd_21 83 [some (.inr (.inr (.inl (some (b))))), some (.inl k), some (.inl v5), some (.inl j19)] [] h Q := by
          intro j19
          refine av_wp_sqF ck_21 1 (pc' := 84) (lv' := [some (.inr (.inr (.inl (some (b))))), some (.inl k), some (.inl v5), some (.inl j19)]) (st' := [.inr (.inr (.inl (some (b))))]) (h' := h) rfl ?_
          refine wq_gr (p' := 87) (ck_21 _ _ rfl) rfl (congrArg Prod.fst (ib_k0 i)) rfl (ib_t i) ?_
          refine av_wp_sqF ck_21 2 (pc' := 89) (lv' := [some (.inr (.inr (.inl (some (b))))), some (.inl k), some (.inl v5), some (.inl j19)]) (st' := [.inl (0), .inl k, .inr (.inr (.inl (some (t))))]) (h' := h) rfl ?_
          refine wq_cv (p' := 92) (av_qc (.invokevirtual 74) 29 2 0 1) 3 cd_29 [.inl (0), .inl k] (t) 1 [some (.inr (.inr (.inl (some (t))))), some (.inl k), some (.inl (0))] (ck_21 _ _ rfl) rfl rfl pp_29 rfl rfl rfl (congrArg Prod.fst (co_kt (ib_co i))) rfl rfl rfl rfl ?_
          refine ct_29 (ib_co i) (k) ((0)) (by omega) (by omega) (fun v21 p22 => ?_)
          show av_wp _ cd_21 92 [some (.inr (.inr (.inl (some (b))))), some (.inl k), some (.inl v5), some (.inl j19)] [.inl v21] h _
          refine av_wp_sqF ck_21 1 (pc' := 93) (lv' := [some (.inr (.inr (.inl (some (b))))), some (.inl k), some (.inl v5), some (.inl j19)]) (st' := [.inl (5), .inl v21]) (h' := h) rfl ?_
          refine wq_k2 (p' := 96) (ck_21 _ _ rfl) rfl ⟨by omega, by omega⟩ ⟨by omega, by omega⟩ (fun c23 => ?_) (fun c24 => ?_)
          · have c23 : v21 ≠ (5) := c23
            refine av_wp_sqF ck_21 1 (pc' := 113) (lv' := [some (.inr (.inr (.inl (some (b))))), some (.inl k), some (.inl v5), some (.inl j19)]) (st' := [.inl j19]) (h' := h) rfl ?_
            refine av_wp_ret (v := some (.inl j19)) (ck_21 _ _ rfl) rfl rfl ?_
            exact hq _
          · have c24 : v21 = (5) := c24
            refine av_wp_sqF ck_21 3 (pc' := 99) (lv' := [some (.inr (.inr (.inl (some (b))))), some (.inl k), some (.inl v5), some (.inl j19)]) (st' := [.inl v5, .inl k, .inr (.inr (.inl (some (b))))]) (h' := h) rfl ?_
            refine wq_cv (p' := 102) (av_qc (.invokevirtual 150) 22 2 0 0) 5 cd_22 [.inl v5, .inl k] (b) 0 [some (.inr (.inr (.inl (some (b))))), some (.inl k), some (.inl v5), none, none] (ck_21 _ _ rfl) rfl rfl pp_22 rfl rfl rfl (congrArg Prod.fst (ib_k0 i)) rfl rfl rfl rfl ?_
            refine ct_22 i F (k) (v5) (by omega) (by omega) (fun v25 p26 => ?_)
            show av_wp _ cd_21 102 [some (.inr (.inr (.inl (some (b))))), some (.inl k), some (.inl v5), some (.inl j19)] [.inl v25] h _
            refine wq_k1 (p' := 105) (ck_21 _ _ rfl) rfl ⟨by omega, by omega⟩ (fun c27 => ?_) (fun c28 => ?_)
            · have c27 : v25 = (0) := c27
              refine av_wp_sqF ck_21 1 (pc' := 113) (lv' := [some (.inr (.inr (.inl (some (b))))), some (.inl k), some (.inl v5), some (.inl j19)]) (st' := [.inl j19]) (h' := h) rfl ?_
              refine av_wp_ret (v := some (.inl j19)) (ck_21 _ _ rfl) rfl rfl ?_
              exact hq _
            · have c28 : v25 ≠ (0) := c28
              refine av_wp_sqF ck_21 4 (pc' := 113) (lv' := [some (.inr (.inr (.inl (some (b))))), some (.inl k), some (.inl v5), some (.inl j19)]) (st' := [.inl (av_or j19 (8))]) (h' := h) rfl ?_
              refine av_wp_ret (v := some (.inl (av_or j19 (8)))) (ck_21 _ _ rfl) rfl rfl ?_
              exact hq _
        refine wq_k1 (p' := 71) (ck_21 _ _ rfl) rfl ⟨by omega, by omega⟩ (fun c29 => ?_) (fun c30 => ?_)
        · have c29 : v17 = (0) := c29
          exact J20 (j15)
        · have c30 : v17 ≠ (0) := c30
          refine av_wp_sqF ck_21 1 (pc' := 72) (lv' := [some (.inr (.inr (.inl (some (b))))), some (.inl k), some (.inl v5), some (.inl j15)]) (st' := [.inr (.inr (.inl (some (b))))]) (h' := h) rfl ?_
          obtain ⟨v31, e32⟩ : ∃ v, hF h b 13 = v := ⟨_, rfl⟩
          have g33 := ib_mb i
          rw [e32] at g33
          refine wq_gi (p' := 75) (ck_21 _ _ rfl) rfl (congrArg Prod.fst (ib_k0 i)) rfl (e32) ?_
          refine av_wp_sqF ck_21 1 (pc' := 76) (lv' := [some (.inr (.inr (.inl (some (b))))), some (.inl k), some (.inl v5), some (.inl j15)]) (st' := [.inl k, .inl v31]) (h' := h) rfl ?_
          refine wq_k2 (p' := 79) (ck_21 _ _ rfl) rfl ⟨by omega, by omega⟩ ⟨by omega, by omega⟩ (fun c34 => ?_) (fun c35 => ?_)
          · have c34 : v31 ≠ k := c34
            exact J20 (j15)
          · have c35 : v31 = k := c35
            refine av_wp_sqF ck_21 4 (pc' := 83) (lv' := [some (.inr (.inr (.inl (some (b))))), some (.inl k), some (.inl v5), some (.inl (av_or j15 (4)))]) (st' := []) (h' := h) rfl ?_
            exact J20 ((av_or j15 (4)))
      refine wq_k1 (p' := 50) (ck_21 _ _ rfl) rfl ⟨by omega, by omega⟩ (fun c36 => ?_) (fun c37 => ?_)
      · have c36 : v13 = (0) := c36
        exact J16 (j10)
      · have c37 : v13 ≠ (0) := c37
        refine av_wp_sqF ck_21 1 (pc' := 51) (lv' := [some (.inr (.inr (.inl (some (b))))), some (.inl k), some (.inl v5), some (.inl j10)]) (st' := [.inr (.inr (.inl (some (b))))]) (h' := h) rfl ?_
        refine wq_gr (p' := 54) (ck_21 _ _ rfl) rfl (congrArg Prod.fst (ib_k0 i)) rfl (ib_g i 8 rfl) ?_
        refine av_wp_sqF ck_21 1 (pc' := 55) (lv' := [some (.inr (.inr (.inl (some (b))))), some (.inl k), some (.inl v5), some (.inl j10)]) (st' := [.inl v5, .inr (.inr (.inl (some (b + 1 + 8))))]) (h' := h) rfl ?_
        obtain ⟨v38, e39⟩ : ∃ v, hA h (b + 1 + 8) (Int.toNat (v5)) = v := ⟨_, rfl⟩
        refine wq_al (p' := 56) (n := 12) (ck_21 _ _ rfl) rfl (ib_k i 8 rfl) (by omega) (e39) ?_
        refine av_wp_sqF ck_21 1 (pc' := 57) (lv' := [some (.inr (.inr (.inl (some (b))))), some (.inl k), some (.inl v5), some (.inl j10)]) (st' := [.inl k, .inl v38]) (h' := h) rfl ?_
        refine wq_c2 (p' := 60) (ck_21 _ _ rfl) rfl ?_ ?_
        · exact J16 (j10)
        · refine av_wp_sqF ck_21 4 (pc' := 64) (lv' := [some (.inr (.inr (.inl (some (b))))), some (.inl k), some (.inl v5), some (.inl (av_or j10 (2)))]) (st' := []) (h' := h) rfl ?_
          exact J16 ((av_or j10 (2)))
    refine wq_c2 (p' := 33) (ck_21 _ _ rfl) rfl ?_ ?_
    · refine av_wp_sqF ck_21 1 (pc' := 38) (lv' := [some (.inr (.inr (.inl (some (b))))), some (.inl k), some (.inl v5), none]) (st' := [.inl (0)]) (h' := h) rfl ?_
      exact J12 ((0)) (by omega)
    · refine av_wp_sqF ck_21 2 (pc' := 38) (lv' := [some (.inr (.inr (.inl (some (b))))), some (.inl k), some (.inl v5), none]) (st' := [.inl (1)]) (h' := h) rfl ?_
      exact J12 ((1)) (by omega)
  · have c4 : v1 = (0) := c4
    refine av_wp_sqF ck_21 1 (pc' := 12) (lv' := [some (.inr (.inr (.inl (some (b))))), some (.inl k), none, none]) (st' := [.inl (0)]) (h' := h) rfl ?_
    refine av_wp_ret (v := some (.inl (0))) (ck_21 _ _ rfl) rfl rfl ?_
    exact hq _
end
section
set_option maxRecDepth 100000 in
set_option maxHeartbeats 4000000 in
theorem ct_25 {g h : av_H} {b t c s r : Nat} {cb : Int} (i : IB b t c s r cb h) (F : Fr1 g h) (k : Int) (x : Int) (y : Int) (q0 : (0 ≤ k ∧ k < (s : Int))) {Q : Option av_V → av_H → Prop} (hq : ∀ v : Int, Q (some (.inl v)) h) : av_wp none cd_25 0 [some (.inr (.inr (.inl (some (b))))), some (.inl k), some (.inl x), some (.inl y), none] [] h Q := by
  have s12 := co_s12 (ib_co i)
  have cbr := co_cbr (ib_co i)
  refine av_wp_sqF ck_25 2 (pc' := 2) (lv' := [some (.inr (.inr (.inl (some (b))))), some (.inl k), some (.inl x), some (.inl y), none]) (st' := [.inl k, .inr (.inr (.inl (some (b))))]) (h' := h) rfl ?_
  refine wq_cv (p' := 5) (av_qc (.invokevirtual 160) 15 1 0 0) 2 cd_15 [.inl k] (b) 0 [some (.inr (.inr (.inl (some (b))))), some (.inl k)] (ck_25 _ _ rfl) rfl rfl pp_15 rfl rfl rfl (congrArg Prod.fst (ib_k0 i)) rfl rfl rfl rfl ?_
  refine ct_15 i F (k) (by omega) (fun v1 p2 => ?_)
  show av_wp _ cd_25 5 [some (.inr (.inr (.inl (some (b))))), some (.inl k), some (.inl x), some (.inl y), none] [.inl v1] h _
  refine wq_k1 (p' := 8) (ck_25 _ _ rfl) rfl ⟨by omega, by omega⟩ (fun c3 => ?_) (fun c4 => ?_)
  · have c3 : v1 = (0) := c3
    refine av_wp_sqF ck_25 1 (pc' := 43) (lv' := [some (.inr (.inr (.inl (some (b))))), some (.inl k), some (.inl x), some (.inl y), none]) (st' := [.inl (9999)]) (h' := h) rfl ?_
    refine av_wp_ret (v := some (.inl (9999))) (ck_25 _ _ rfl) rfl rfl ?_
    exact hq _
  · have c4 : v1 ≠ (0) := c4
    refine av_wp_sqF ck_25 1 (pc' := 9) (lv' := [some (.inr (.inr (.inl (some (b))))), some (.inl k), some (.inl x), some (.inl y), none]) (st' := [.inr (.inr (.inl (some (b))))]) (h' := h) rfl ?_
    refine wq_gr (p' := 12) (ck_25 _ _ rfl) rfl (congrArg Prod.fst (ib_k0 i)) rfl (ib_g i 5 rfl) ?_
    refine av_wp_sqF ck_25 1 (pc' := 13) (lv' := [some (.inr (.inr (.inl (some (b))))), some (.inl k), some (.inl x), some (.inl y), none]) (st' := [.inl k, .inr (.inr (.inl (some (b + 1 + 5))))]) (h' := h) rfl ?_
    obtain ⟨v5, e6⟩ : ∃ v, hA h (b + 1 + 5) (Int.toNat (k)) = v := ⟨_, rfl⟩
    refine wq_al (p' := 14) (n := 12) (ck_25 _ _ rfl) rfl (ib_k i 5 rfl) (by omega) (e6) ?_
    refine av_wp_sqF ck_25 1 (pc' := 15) (lv' := [some (.inr (.inr (.inl (some (b))))), some (.inl k), some (.inl x), some (.inl y), none]) (st' := [.inl (-1), .inl v5]) (h' := h) rfl ?_
    refine wq_c2 (p' := 18) (ck_25 _ _ rfl) rfl ?_ ?_
    · refine av_wp_sqF ck_25 1 (pc' := 43) (lv' := [some (.inr (.inr (.inl (some (b))))), some (.inl k), some (.inl x), some (.inl y), none]) (st' := [.inl (9999)]) (h' := h) rfl ?_
      refine av_wp_ret (v := some (.inl (9999))) (ck_25 _ _ rfl) rfl rfl ?_
      exact hq _
    · refine av_wp_sqF ck_25 1 (pc' := 19) (lv' := [some (.inr (.inr (.inl (some (b))))), some (.inl k), some (.inl x), some (.inl y), none]) (st' := [.inr (.inr (.inl (some (b))))]) (h' := h) rfl ?_
      refine wq_gr (p' := 22) (ck_25 _ _ rfl) rfl (congrArg Prod.fst (ib_k0 i)) rfl (ib_t i) ?_
      refine av_wp_sqF ck_25 3 (pc' := 25) (lv' := [some (.inr (.inr (.inl (some (b))))), some (.inl k), some (.inl x), some (.inl y), none]) (st' := [.inl (1), .inl y, .inl k, .inr (.inr (.inl (some (t))))]) (h' := h) rfl ?_
      have J10 : ∀ (j8 : Int), (1 ≤ j8 ∧ j8 ≤ 2) →  av_wp none cd_25 33 [some (.inr (.inr (.inl (some (b))))), some (.inl k), some (.inl x), some (.inl y), none] [.inl j8, .inl k, .inr (.inr (.inl (some (t))))] h Q := by
        intro j8 g9
        refine wq_cv (p' := 36) (av_qc (.invokevirtual 74) 29 2 0 1) 3 cd_29 [.inl j8, .inl k] (t) 1 [some (.inr (.inr (.inl (some (t))))), some (.inl k), some (.inl j8)] (ck_25 _ _ rfl) rfl rfl pp_29 rfl rfl rfl (congrArg Prod.fst (co_kt (ib_co i))) rfl rfl rfl rfl ?_
        refine ct_29 (ib_co i) (k) (j8) (by omega) (by omega) (fun v11 p12 => ?_)
        show av_wp _ cd_25 36 [some (.inr (.inr (.inl (some (b))))), some (.inl k), some (.inl x), some (.inl y), none] [.inl v11] h _
        refine av_wp_sqF ck_25 1 (pc' := 37) (lv' := [some (.inr (.inr (.inl (some (b))))), some (.inl k), some (.inl x), some (.inl y), none]) (st' := [.inl x, .inl v11]) (h' := h) rfl ?_
        refine wq_c2 (p' := 40) (ck_25 _ _ rfl) rfl ?_ ?_
        · refine av_wp_sqF ck_25 2 (pc' := 46) (lv' := [some (.inr (.inr (.inl (some (b))))), some (.inl k), some (.inl x), some (.inl y), none]) (st' := [.inl (1), .inl y]) (h' := h) rfl ?_
          refine wq_c2 (p' := 49) (ck_25 _ _ rfl) rfl ?_ ?_
          · refine av_wp_sqF ck_25 3 (pc' := 67) (lv' := [some (.inr (.inr (.inl (some (b))))), some (.inl k), some (.inl x), some (.inl y), none]) (st' := [.inl (1), .inl k, .inr (.inr (.inl (some (b))))]) (h' := h) rfl ?_
            refine wq_cv (p' := 70) (av_qc (.invokevirtual 115) 6 2 0 0) 3 cd_6 [.inl (1), .inl k] (b) 0 [some (.inr (.inr (.inl (some (b))))), some (.inl k), some (.inl (1))] (ck_25 _ _ rfl) rfl rfl pp_6 rfl rfl rfl (congrArg Prod.fst (ib_k0 i)) rfl rfl rfl rfl ?_
            refine ct_6 i F (k) ((1)) (by omega) (by omega) (fun v13 => ?_)
            show av_wp _ cd_25 70 [some (.inr (.inr (.inl (some (b))))), some (.inl k), some (.inl x), some (.inl y), none] [.inl v13] h _
            refine av_wp_sqF ck_25 3 (pc' := 75) (lv' := [some (.inr (.inr (.inl (some (b))))), some (.inl k), some (.inl x), some (.inl y), some (.inl v13)]) (st' := [.inl (-1), .inl v13]) (h' := h) rfl ?_
            refine wq_c2 (p' := 78) (ck_25 _ _ rfl) rfl ?_ ?_
            · refine av_wp_sqF ck_25 1 (pc' := 85) (lv' := [some (.inr (.inr (.inl (some (b))))), some (.inl k), some (.inl x), some (.inl y), some (.inl v13)]) (st' := [.inr (.inr (.inl (some (b))))]) (h' := h) rfl ?_
              refine wq_gr (p' := 88) (ck_25 _ _ rfl) rfl (congrArg Prod.fst (ib_k0 i)) rfl (ib_g i 5 rfl) ?_
              refine av_wp_sqF ck_25 1 (pc' := 89) (lv' := [some (.inr (.inr (.inl (some (b))))), some (.inl k), some (.inl x), some (.inl y), some (.inl v13)]) (st' := [.inl k, .inr (.inr (.inl (some (b + 1 + 5))))]) (h' := h) rfl ?_
              obtain ⟨v15, e16⟩ : ∃ v, hA h (b + 1 + 5) (Int.toNat (k)) = v := ⟨_, rfl⟩
              refine wq_al (p' := 90) (n := 12) (ck_25 _ _ rfl) rfl (ib_k i 5 rfl) (by omega) (e16) ?_
              refine av_wp_sqF ck_25 1 (pc' := 92) (lv' := [some (.inr (.inr (.inl (some (b))))), some (.inl k), some (.inl x), some (.inl y), some (.inl v13)]) (st' := [.inl v13, .inl v15]) (h' := h) rfl ?_
              refine wq_mx (p' := 95) (ck_25 _ _ rfl) rfl rfl (fun _ _ => rfl) rfl (fun v18 e19 e20 => ?_)
              refine av_wp_ret (v := some (.inl v18)) (ck_25 _ _ rfl) rfl rfl ?_
              exact hq _
            · refine av_wp_sqF ck_25 2 (pc' := 95) (lv' := [some (.inr (.inr (.inl (some (b))))), some (.inl k), some (.inl x), some (.inl y), some (.inl v13)]) (st' := [.inl (9999)]) (h' := h) rfl ?_
              refine av_wp_ret (v := some (.inl (9999))) (ck_25 _ _ rfl) rfl rfl ?_
              exact hq _
          · refine av_wp_sqF ck_25 1 (pc' := 50) (lv' := [some (.inr (.inr (.inl (some (b))))), some (.inl k), some (.inl x), some (.inl y), none]) (st' := [.inr (.inr (.inl (some (b))))]) (h' := h) rfl ?_
            refine wq_gr (p' := 53) (ck_25 _ _ rfl) rfl (congrArg Prod.fst (ib_k0 i)) rfl (ib_g i 5 rfl) ?_
            refine av_wp_sqF ck_25 1 (pc' := 54) (lv' := [some (.inr (.inr (.inl (some (b))))), some (.inl k), some (.inl x), some (.inl y), none]) (st' := [.inl k, .inr (.inr (.inl (some (b + 1 + 5))))]) (h' := h) rfl ?_
            obtain ⟨v21, e22⟩ : ∃ v, hA h (b + 1 + 5) (Int.toNat (k)) = v := ⟨_, rfl⟩
            refine wq_al (p' := 55) (n := 12) (ck_25 _ _ rfl) rfl (ib_k i 5 rfl) (by omega) (e22) ?_
            refine av_wp_sqF ck_25 2 (pc' := 57) (lv' := [some (.inr (.inr (.inl (some (b))))), some (.inl k), some (.inl x), some (.inl y), none]) (st' := [.inl k, .inr (.inr (.inl (some (b)))), .inl v21]) (h' := h) rfl ?_
            refine wq_cv (p' := 60) (av_qc (.invokevirtual 125) 10 1 0 0) 3 cd_10 [.inl k] (b) 0 [some (.inr (.inr (.inl (some (b))))), some (.inl k), none] (ck_25 _ _ rfl) rfl rfl pp_10 rfl rfl rfl (congrArg Prod.fst (ib_k0 i)) rfl rfl rfl rfl ?_
            refine ct_10 i F (k) (by omega) (fun v24 p25 => ?_)
            show av_wp _ cd_25 60 [some (.inr (.inr (.inl (some (b))))), some (.inl k), some (.inl x), some (.inl y), none] [.inl v24, .inl v21] h _
            refine wq_mx (p' := 63) (ck_25 _ _ rfl) rfl rfl (fun _ _ => rfl) rfl (fun v26 e27 e28 => ?_)
            refine av_wp_ret (v := some (.inl v26)) (ck_25 _ _ rfl) rfl rfl ?_
            exact hq _
        · refine av_wp_sqF ck_25 1 (pc' := 43) (lv' := [some (.inr (.inr (.inl (some (b))))), some (.inl k), some (.inl x), some (.inl y), none]) (st' := [.inl (9999)]) (h' := h) rfl ?_
          refine av_wp_ret (v := some (.inl (9999))) (ck_25 _ _ rfl) rfl rfl ?_
          exact hq _
      refine wq_c2 (p' := 28) (ck_25 _ _ rfl) rfl ?_ ?_
      · refine av_wp_sqF ck_25 1 (pc' := 33) (lv' := [some (.inr (.inr (.inl (some (b))))), some (.inl k), some (.inl x), some (.inl y), none]) (st' := [.inl (2), .inl k, .inr (.inr (.inl (some (t))))]) (h' := h) rfl ?_
        exact J10 ((2)) (by omega)
      · refine av_wp_sqF ck_25 2 (pc' := 33) (lv' := [some (.inr (.inr (.inl (some (b))))), some (.inl k), some (.inl x), some (.inl y), none]) (st' := [.inl (1), .inl k, .inr (.inr (.inl (some (t))))]) (h' := h) rfl ?_
        exact J10 ((1)) (by omega)

set_option maxRecDepth 100000 in
set_option maxHeartbeats 4000000 in
theorem ct_23 {g h : av_H} {b t c s r : Nat} {cb : Int} (i : IB b t c s r cb h) (F : Fr1 g h) (x : Int) (y : Int) (z : Int) {Q : Option av_V → av_H → Prop} (hq : ∀ v : Int, (v = 0 ∨ v = 1) → Q (some (.inl v)) h) : av_wp none cd_23 0 [some (.inr (.inr (.inl (some (b))))), some (.inl x), some (.inl y), some (.inl z), none] [] h Q := by
  have s12 := co_s12 (ib_co i)
  have cbr := co_cbr (ib_co i)
  refine av_wp_sqF ck_23 2 (pc' := 3) (lv' := [some (.inr (.inr (.inl (some (b))))), some (.inl x), some (.inl y), some (.inl z), some (.inl (0))]) (st' := []) (h' := h) rfl ?_
  have L3 : ∀ (m2 : Nat) (k1 : Int), k1 ≤ (s : Int) → (0 ≤ k1 ∧ k1 ≤ 12) → ((s : Int) - k1).toNat = m2 → av_wp none cd_23 3 [some (.inr (.inr (.inl (some (b))))), some (.inl x), some (.inl y), some (.inl z), some (.inl k1)] [] h Q := by
    intro m2
    induction m2 using Nat.strongRecOn with
    | _ m2 I4 =>
      intro k1 g6 g7 e5
      refine av_wp_sqF ck_23 2 (pc' := 6) (lv' := [some (.inr (.inr (.inl (some (b))))), some (.inl x), some (.inl y), some (.inl z), some (.inl k1)]) (st' := [.inr (.inr (.inl (some (b)))), .inl k1]) (h' := h) rfl ?_
      refine wq_gr (p' := 9) (ck_23 _ _ rfl) rfl (congrArg Prod.fst (ib_k0 i)) rfl (ib_t i) ?_
      refine wq_gi (p' := 12) (ck_23 _ _ rfl) rfl (congrArg Prod.fst (co_kt (ib_co i))) rfl (co_s (ib_co i)) ?_
      refine wq_k2 (p' := 15) (ck_23 _ _ rfl) rfl ⟨by omega, by omega⟩ ⟨by omega, by omega⟩ (fun c8 => ?_) (fun c9 => ?_)
      · have c8 : (s : Int) ≤ k1 := c8
        refine av_wp_sqF ck_23 1 (pc' := 46) (lv' := [some (.inr (.inr (.inl (some (b))))), some (.inl x), some (.inl y), some (.inl z), some (.inl k1)]) (st' := [.inl (0)]) (h' := h) rfl ?_
        refine av_wp_ret (v := some (.inl (0))) (ck_23 _ _ rfl) rfl rfl ?_
        exact hq _ (by omega)
      · have c9 : k1 < (s : Int) := c9
        refine av_wp_sqF ck_23 5 (pc' := 21) (lv' := [some (.inr (.inr (.inl (some (b))))), some (.inl x), some (.inl y), some (.inl z), some (.inl k1)]) (st' := [.inl y, .inl x, .inl k1, .inr (.inr (.inl (some (b)))), .inl z]) (h' := h) rfl ?_
        refine wq_cv (p' := 24) (av_qc (.invokevirtual 153) 25 3 0 0) 5 cd_25 [.inl y, .inl x, .inl k1] (b) 0 [some (.inr (.inr (.inl (some (b))))), some (.inl k1), some (.inl x), some (.inl y), none] (ck_23 _ _ rfl) rfl rfl pp_25 rfl rfl rfl (congrArg Prod.fst (ib_k0 i)) rfl rfl rfl rfl ?_
        refine ct_25 i F (k1) (x) (y) (by omega) (fun v10 => ?_)
        show av_wp _ cd_23 24 [some (.inr (.inr (.inl (some (b))))), some (.inl x), some (.inl y), some (.inl z), some (.inl k1)] [.inl v10, .inl z] h _
        refine wq_c2 (p' := 27) (ck_23 _ _ rfl) rfl ?_ ?_
        · refine av_wp_sqF ck_23 2 (pc' := 3) (lv' := [some (.inr (.inr (.inl (some (b))))), some (.inl x), some (.inl y), some (.inl z), some (.inl (k1 + (1)))]) (st' := []) (h' := h) rfl ?_
          exact I4 _ (by omega) ((k1 + (1))) (by omega) (by omega) rfl
        · refine av_wp_sqF ck_23 3 (pc' := 31) (lv' := [some (.inr (.inr (.inl (some (b))))), some (.inl x), some (.inl y), some (.inl z), some (.inl k1)]) (st' := [.inl k1, .inr (.inr (.inl (some (b)))), .inl z]) (h' := h) rfl ?_
          refine wq_cv (p' := 34) (av_qc (.invokevirtual 157) 26 1 0 0) 2 cd_26 [.inl k1] (b) 0 [some (.inr (.inr (.inl (some (b))))), some (.inl k1)] (ck_23 _ _ rfl) rfl rfl pp_26 rfl rfl rfl (congrArg Prod.fst (ib_k0 i)) rfl rfl rfl rfl ?_
          refine ct_26 i F (k1) (by omega) (fun v12 => ?_)
          show av_wp _ cd_23 34 [some (.inr (.inr (.inl (some (b))))), some (.inl x), some (.inl y), some (.inl z), some (.inl k1)] [.inl v12, .inl z] h _
          refine wq_c2 (p' := 37) (ck_23 _ _ rfl) rfl ?_ ?_
          · refine av_wp_sqF ck_23 2 (pc' := 3) (lv' := [some (.inr (.inr (.inl (some (b))))), some (.inl x), some (.inl y), some (.inl z), some (.inl (k1 + (1)))]) (st' := []) (h' := h) rfl ?_
            exact I4 _ (by omega) ((k1 + (1))) (by omega) (by omega) rfl
          · refine av_wp_sqF ck_23 1 (pc' := 38) (lv' := [some (.inr (.inr (.inl (some (b))))), some (.inl x), some (.inl y), some (.inl z), some (.inl k1)]) (st' := [.inl (1)]) (h' := h) rfl ?_
            refine av_wp_ret (v := some (.inl (1))) (ck_23 _ _ rfl) rfl rfl ?_
            exact hq _ (by omega)
  exact L3 _ ((0)) (by omega) (by omega) rfl

set_option maxRecDepth 100000 in
set_option maxHeartbeats 4000000 in
theorem ct_24 {g h : av_H} {b t c s r : Nat} {cb : Int} (i : IB b t c s r cb h) (F : Fr1 g h) (x : Int) (y : Int) {Q : Option av_V → av_H → Prop} (hq : ∀ v : Int, Q (some (.inl v)) h) : av_wp none cd_24 0 [some (.inr (.inr (.inl (some (b))))), some (.inl x), some (.inl y), none, none] [] h Q := by
  have s12 := co_s12 (ib_co i)
  have cbr := co_cbr (ib_co i)
  refine av_wp_sqF ck_24 4 (pc' := 5) (lv' := [some (.inr (.inr (.inl (some (b))))), some (.inl x), some (.inl y), some (.inl (-1)), some (.inl (0))]) (st' := []) (h' := h) rfl ?_
  have L4 : ∀ (m3 : Nat) (k1 : Int) (k2 : Int), k2 ≤ (s : Int) → (0 ≤ k2 ∧ k2 ≤ 12) → ((s : Int) - k2).toNat = m3 → av_wp none cd_24 5 [some (.inr (.inr (.inl (some (b))))), some (.inl x), some (.inl y), some (.inl k1), some (.inl k2)] [] h Q := by
    intro m3
    induction m3 using Nat.strongRecOn with
    | _ m3 I5 =>
      intro k1 k2 g7 g8 e6
      refine av_wp_sqF ck_24 2 (pc' := 8) (lv' := [some (.inr (.inr (.inl (some (b))))), some (.inl x), some (.inl y), some (.inl k1), some (.inl k2)]) (st' := [.inr (.inr (.inl (some (b)))), .inl k2]) (h' := h) rfl ?_
      refine wq_gr (p' := 11) (ck_24 _ _ rfl) rfl (congrArg Prod.fst (ib_k0 i)) rfl (ib_t i) ?_
      refine wq_gi (p' := 14) (ck_24 _ _ rfl) rfl (congrArg Prod.fst (co_kt (ib_co i))) rfl (co_s (ib_co i)) ?_
      refine wq_k2 (p' := 17) (ck_24 _ _ rfl) rfl ⟨by omega, by omega⟩ ⟨by omega, by omega⟩ (fun c9 => ?_) (fun c10 => ?_)
      · have c9 : (s : Int) ≤ k2 := c9
        refine av_wp_sqF ck_24 1 (pc' := 52) (lv' := [some (.inr (.inr (.inl (some (b))))), some (.inl x), some (.inl y), some (.inl k1), some (.inl k2)]) (st' := [.inl k1]) (h' := h) rfl ?_
        refine av_wp_ret (v := some (.inl k1)) (ck_24 _ _ rfl) rfl rfl ?_
        exact hq _
      · have c10 : k2 < (s : Int) := c10
        refine av_wp_sqF ck_24 4 (pc' := 22) (lv' := [some (.inr (.inr (.inl (some (b))))), some (.inl x), some (.inl y), some (.inl k1), some (.inl k2)]) (st' := [.inl y, .inl x, .inl k2, .inr (.inr (.inl (some (b))))]) (h' := h) rfl ?_
        refine wq_cv (p' := 25) (av_qc (.invokevirtual 153) 25 3 0 0) 5 cd_25 [.inl y, .inl x, .inl k2] (b) 0 [some (.inr (.inr (.inl (some (b))))), some (.inl k2), some (.inl x), some (.inl y), none] (ck_24 _ _ rfl) rfl rfl pp_25 rfl rfl rfl (congrArg Prod.fst (ib_k0 i)) rfl rfl rfl rfl ?_
        refine ct_25 i F (k2) (x) (y) (by omega) (fun v11 => ?_)
        show av_wp _ cd_24 25 [some (.inr (.inr (.inl (some (b))))), some (.inl x), some (.inl y), some (.inl k1), some (.inl k2)] [.inl v11] h _
        refine av_wp_sqF ck_24 2 (pc' := 28) (lv' := [some (.inr (.inr (.inl (some (b))))), some (.inl x), some (.inl y), some (.inl k1), some (.inl k2)]) (st' := [.inl k2, .inr (.inr (.inl (some (b)))), .inl v11]) (h' := h) rfl ?_
        refine wq_cv (p' := 31) (av_qc (.invokevirtual 157) 26 1 0 0) 2 cd_26 [.inl k2] (b) 0 [some (.inr (.inr (.inl (some (b))))), some (.inl k2)] (ck_24 _ _ rfl) rfl rfl pp_26 rfl rfl rfl (congrArg Prod.fst (ib_k0 i)) rfl rfl rfl rfl ?_
        refine ct_26 i F (k2) (by omega) (fun v13 => ?_)
        show av_wp _ cd_24 31 [some (.inr (.inr (.inl (some (b))))), some (.inl x), some (.inl y), some (.inl k1), some (.inl k2)] [.inl v13, .inl v11] h _
        have J16 : ∀ (j15 : Int),  av_wp none cd_24 45 [some (.inr (.inr (.inl (some (b))))), some (.inl x), some (.inl y), some (.inl j15), some (.inl k2)] [] h Q := by
          intro j15
          refine av_wp_sqF ck_24 2 (pc' := 5) (lv' := [some (.inr (.inr (.inl (some (b))))), some (.inl x), some (.inl y), some (.inl j15), some (.inl (k2 + (1)))]) (st' := []) (h' := h) rfl ?_
          exact I5 _ (by omega) (j15) ((k2 + (1))) (by omega) (by omega) rfl
        refine wq_c2 (p' := 34) (ck_24 _ _ rfl) rfl ?_ ?_
        · exact J16 (k1)
        · refine av_wp_sqF ck_24 3 (pc' := 38) (lv' := [some (.inr (.inr (.inl (some (b))))), some (.inl x), some (.inl y), some (.inl k1), some (.inl k2)]) (st' := [.inl k2, .inr (.inr (.inl (some (b)))), .inl k1]) (h' := h) rfl ?_
          refine wq_cv (p' := 41) (av_qc (.invokevirtual 157) 26 1 0 0) 2 cd_26 [.inl k2] (b) 0 [some (.inr (.inr (.inl (some (b))))), some (.inl k2)] (ck_24 _ _ rfl) rfl rfl pp_26 rfl rfl rfl (congrArg Prod.fst (ib_k0 i)) rfl rfl rfl rfl ?_
          refine ct_26 i F (k2) (by omega) (fun v17 => ?_)
          show av_wp _ cd_24 41 [some (.inr (.inr (.inl (some (b))))), some (.inl x), some (.inl y), some (.inl k1), some (.inl k2)] [.inl v17, .inl k1] h _
          refine wq_mx (p' := 44) (ck_24 _ _ rfl) rfl rfl (fun _ _ => rfl) rfl (fun v19 e20 e21 => ?_)
          refine av_wp_sqF ck_24 1 (pc' := 45) (lv' := [some (.inr (.inr (.inl (some (b))))), some (.inl x), some (.inl y), some (.inl v19), some (.inl k2)]) (st' := []) (h' := h) rfl ?_
          exact J16 (v19)
  exact L4 _ ((-1)) ((0)) (by omega) (by omega) rfl
end
section
/-! THE CLASS'S LOOKS: steps that keep IC -/
theorem Fr1_tr {g h k : av_H} (a : Fr1 g h) (b : Fr1 h k) : Fr1 g k := ⟨Fr_tr a.1 b.1, b.2.trans a.2⟩
theorem FX_61 {p : Nat} {g h k : av_H} (a : FX p g h) (b : FX 61 h k) : FX p g k := ⟨Fr_tr a.1 b.1, fun o f e1 e2 => (b.2 o f e2 e2).trans (a.2 o f e1 e2)⟩
section
variable {h : av_H}
theorem ic_cc (I : IC h) : 0 ≤ hF h 3 3 ∧ hF h 3 3 ≤ 16 := I.2.2.2.1.1
theorem ic_lc (I : IC h) : 0 ≤ hF h 3 4 ∧ hF h 3 4 ≤ 8 := I.2.2.2.1.2.1
theorem ic_kc (I : IC h) : 0 ≤ hF h 3 5 ∧ hF h 3 5 ≤ 6 := I.2.2.2.1.2.2
theorem ic_hl (I : IC h) : 0 ≤ hF h 26 9 ∧ hF h 26 9 ≤ 7 := I.2.2.2.2.1.1
theorem ic_hc (I : IC h) : 0 ≤ hF h 26 10 ∧ hF h 26 10 ≤ 1023 := I.2.2.2.2.1.2
theorem ic_mb {b : Nat} (I : IC h) (hb : bn b) : -1 ≤ hF h b 13 ∧ hF h b 13 ≤ 11 := (I.2.2.2.2.2 b hb).1
theorem ic_mo {b : Nat} (I : IC h) (hb : bn b) : -1 ≤ hF h b 14 ∧ hF h b 14 ≤ 11 := (I.2.2.2.2.2 b hb).2.1
theorem ly_l (L : LY h) {i : Nat} (hi : i < 8) : hK h (6 + i) = (20, 14) := by
  have h1 : ∀ i, i < 8 → c_K (6 + i) = (20, 14) := by decide
  rw [← h1 i hi]
  exact L.1 (6 + i) (Nat.ble_eq_true_of_le (by omega))
theorem ly_q (L : LY h) {i : Nat} (hi : i < 6) : hK h (15 + i) = (20, 14) := by
  have h1 : ∀ i, i < 6 → c_K (15 + i) = (20, 14) := by decide
  rw [← h1 i hi]
  exact L.1 (15 + i) (Nat.ble_eq_true_of_le (by omega))
end
theorem rwc_l {i : Nat} (hi : i < 8) : rwc (6 + i) = true := by
  have h1 : ∀ i, i < 8 → rwc (6 + i) = true := by decide
  exact h1 i hi
theorem rwc_q {i : Nat} (hi : i < 6) : rwc (15 + i) = true := by
  have h1 : ∀ i, i < 6 → rwc (15 + i) = true := by decide
  exact h1 i hi
section
variable {sc : av_Sr} {cd : List (Nat × av_E)} {Q : Option av_V → av_H → Prop} {pc p' : Nat} {lv : av_L} {r' : List av_V} {h : av_H}
theorem ic_as {a n : Nat} {x v : Int} (hx : cd.lookup pc = some (av_q (.iastore))) (hp : pc + 1 = p') (I : IC h) (hk : hK h a = (20, n)) (ha : sA a = true) (hr : rwc a = true → -2 ≤ v ∧ v ≤ 999) (hi : 0 ≤ x ∧ x < n ∧ (n : Int) < 2147483648) (hw : ∀ h', IC h' → Fr1 h h' → av_wp sc cd p' lv r' h' Q) : av_wp sc cd pc lv (.inl v :: .inl x :: .inr (.inr (.inl (some a))) :: r') h Q :=
  wq_as hx hp hk hi (hw _ (IC_wA I ha hr) (Fr1_wA (Fr1_rf h) ha))
theorem ic_zs {a n : Nat} {x v : Int} (hx : cd.lookup pc = some (av_q (.bastore))) (hp : pc + 1 = p') (I : IC h) (hk : hK h a = (22, n)) (ha : sA a = true) (hr : rwc a = true → -2 ≤ v ∧ v ≤ 999) (hi : 0 ≤ x ∧ x < n ∧ (n : Int) < 2147483648) (hv : v = 0 ∨ v = 1) (hw : ∀ h', IC h' → Fr1 h h' → av_wp sc cd p' lv r' h' Q) : av_wp sc cd pc lv (.inl v :: .inl x :: .inr (.inr (.inl (some a))) :: r') h Q :=
  wq_zs hx hp hk hi hv (hw _ (IC_wA I ha hr) (Fr1_wA (Fr1_rf h) ha))
theorem ic_ph {idx f : Nat} {v : Int} (hx : cd.lookup pc = some (av_qf (.putfield idx) 3 f 0)) (hp : pc + 3 = p') (I : IC h) (hf : (f = 9 ∧ 0 ≤ v ∧ v ≤ 7) ∨ (f = 10 ∧ 0 ≤ v ∧ v ≤ 1023)) (hw : ∀ h', IC h' → Fr1 h h' → av_wp sc cd p' lv r' h' Q) : av_wp sc cd pc lv (.inl v :: .inr (.inr (.inl (some 26))) :: r') h Q :=
  wq_pi hx hp (congrArg Prod.fst (ly_k I.1 26 rfl)) rfl (hw _ (IC_wH I hf) (Fr1_wF (Fr1_rf h) (by rcases hf with e | e <;> rw [e.1] <;> rfl)))
theorem ic_pt {idx b t c s : Nat} {cb : Int} (hx : cd.lookup pc = some (av_qf (.putfield idx) 0 12 2)) (hp : pc + 3 = p') (I : IC h) (hb : bn b) (o : CO h t c s cb) (hw : ∀ h', IC h' → FX b h h' → hG h' b 12 = some t → av_wp sc cd p' lv r' h' Q) : av_wp sc cd pc lv (.inr (.inr (.inl (some t))) :: .inr (.inr (.inl (some b))) :: r') h Q :=
  wq_pr hx hp (congrArg Prod.fst (bn_k0 I.1 hb)) rfl (hw _ (IC_wT I hb o) ⟨Fr_wG (Fr_rf h) (by simp [sG, sB_bn hb]), fun q f e _ => by
    show av_u2 h.2.2.2.2.2.1 b 12 (some t) q f = _
    rw [av_u2_ne e]⟩ av_u2_self)
theorem ic_pu {idx b t r : Nat} (hx : cd.lookup pc = some (av_qf (.putfield idx) 0 11 2)) (hp : pc + 3 = p') (I : IC h) (hb : bn b) (k : hK h r = (20, 14)) (k2 : rwc r = true) (ht : hG h b 12 = some t) (hw : ∀ h', IC h' → FX b h h' → hG h' b 12 = some t → hG h' b 11 = some r → av_wp sc cd p' lv r' h' Q) : av_wp sc cd pc lv (.inr (.inr (.inl (some r))) :: .inr (.inr (.inl (some b))) :: r') h Q :=
  wq_pr hx hp (congrArg Prod.fst (bn_k0 I.1 hb)) rfl (hw _ (IC_wU I hb k k2) ⟨Fr_wG (Fr_rf h) (by simp [sG, sB_bn hb]), fun q f e _ => by
    show av_u2 h.2.2.2.2.2.1 b 11 (some r) q f = _
    rw [av_u2_ne e]⟩ (by
    show av_u2 h.2.2.2.2.2.1 b 11 (some r) b 12 = _
    rw [av_u2_oth (by decide)]; exact ht) av_u2_self)
end
/-- a row copied -/
def hcp (h : av_H) (d sp dp n : Nat) (f : Nat → Int) : av_H := (h.1, h.2.1, h.2.2.1, av_cpy h.2.2.2.1 d sp dp n f, h.2.2.2.2)
theorem IC_A {h : av_H} {A : Nat → Nat → Int} (I : IC h) (e1 : ∀ a, sA a = false → A a = hA h a) (e2 : ∀ a, rwc a = true → ∀ j, -2 ≤ A a j ∧ A a j ≤ 999) : IC (h.1, h.2.1, h.2.2.1, A, h.2.2.2.2) ∧ Fr1 h (h.1, h.2.1, h.2.2.1, A, h.2.2.2.2) := by
  have F : Fr h (h.1, h.2.1, h.2.2.1, A, h.2.2.2.2) := ⟨rfl, rfl, rfl, rfl, fun _ _ _ => rfl, fun _ _ _ => rfl, e1⟩
  exact ⟨⟨LY_fr I.1 F, e2, SH_fr I.1 I.2.2.1 F, I.2.2.2.1, I.2.2.2.2.1, BB_fr I.1 I.2.2.2.2.2 F rfl (fun _ _ => ⟨rfl, rfl⟩)⟩, F, rfl⟩
theorem wq_ac {sc : av_Sr} {cd : List (Nat × av_E)} {Q : Option av_V → av_H → Prop} {pc p' : Nat} {lv : av_L} {r : List av_V} {h : av_H} {ins : Instr} {d q nd nq : Nat} {n dp sp : Int} (hx : cd.lookup pc = some (av_qa ins 1003)) (hp : pc + 3 = p') (hk : av_kd (av_qa ins 1003) = 0) (hs : ∀ lv st, av_stp sc (av_qa ins 1003) pc lv st h = av_lib 1003 pc lv st h) (hr : Nat.ble (r.map av_cat).sum 8 = true) (kd : hK h d = (20, nd)) (kq : hK h q = (20, nq)) (e0 : 0 ≤ n ∧ 0 ≤ dp ∧ 0 ≤ sp) (e1 : sp + n ≤ nq) (e2 : dp + n ≤ nd) (e3 : (nd : Int) < 2147483648 ∧ (nq : Int) < 2147483648) (hw : av_wp sc cd p' lv r (hcp h d sp.toNat dp.toNat n.toNat (hA h q)) Q) : av_wp sc cd pc lv (.inl n :: .inl dp :: .inr (.inr (.inl (some d))) :: .inl sp :: .inr (.inr (.inl (some q))) :: r) h Q := by
  intro hg
  subst hp
  refine av_wp_st1 hx (pc' := pc + 3) (lv' := lv) (st' := r) (h' := hcp h d sp.toNat dp.toNat n.toNat (hA h q)) hk ?_ hw hg
  rw [hs]
  have kd1 : (h.2.2.1 d).1 = 20 := by rw [show h.2.2.1 d = (20, nd) from kd]
  have kd2 : (h.2.2.1 d).2 = nd := by rw [show h.2.2.1 d = (20, nd) from kd]
  have kq1 : (h.2.2.1 q).1 = 20 := by rw [show h.2.2.1 q = (20, nq) from kq]
  have kq2 : (h.2.2.1 q).2 = nq := by rw [show h.2.2.1 q = (20, nq) from kq]
  simp only [av_lib]
  rw [kd2, kq2, av_rgw (x := n) ⟨by omega, by omega⟩, av_rgw (x := dp) ⟨by omega, by omega⟩, av_rgw (x := sp) ⟨by omega, by omega⟩, if_pos ⟨Nat.le_of_ble_eq_true hr, ⟨av_ltN hg kd1 rfl, kd1⟩, ⟨av_ltN hg kq1 rfl, kq1⟩, e0, e1, e2⟩]
  rfl
theorem ic_cp {sc : av_Sr} {cd : List (Nat × av_E)} {Q : Option av_V → av_H → Prop} {pc p' : Nat} {lv : av_L} {r : List av_V} {h : av_H} {ins : Instr} {q : Nat} (hx : cd.lookup pc = some (av_qa ins 1003)) (hp : pc + 3 = p') (hk : av_kd (av_qa ins 1003) = 0) (hs : ∀ lv st, av_stp sc (av_qa ins 1003) pc lv st h = av_lib 1003 pc lv st h) (hr : Nat.ble (r.map av_cat).sum 8 = true) (I : IC h) (kq : hK h q = (20, 14)) (k2 : rwc q = true) (hw : ∀ h', IC h' → Fr1 h h' → av_wp sc cd p' lv r h' Q) : av_wp sc cd pc lv (.inl (14) :: .inl (0) :: .inr (.inr (.inl (some (30)))) :: .inl (0) :: .inr (.inr (.inl (some q))) :: r) h Q := by
  refine wq_ac hx hp hk hs hr (ly_k I.1 30 rfl) kq (by omega) (by omega) (by omega) (by omega) ?_
  obtain ⟨i1, i2⟩ := IC_A (A := av_cpy h.2.2.2.1 30 (0 : Int).toNat (0 : Int).toNat (14 : Int).toNat (hA h q)) I (fun a ha => by
    have hne : a ≠ 30 := fun z => by rw [z] at ha; cases ha
    funext j
    unfold av_cpy
    rw [if_neg (fun z => hne z.1)]) (fun a ha j => by
    unfold av_cpy
    split
    · exact I.2.1 q k2 _
    · exact I.2.1 a ha j)
  exact hw _ i1 i2
/-- a row filled from lo up to hi -/
def hfil (h : av_H) (a lo hi : Nat) (v : Int) : av_H := (h.1, h.2.1, h.2.2.1, (fun q j => if q = a ∧ lo ≤ j ∧ j < hi then v else h.2.2.2.1 q j), h.2.2.2.2)
theorem hfil_0 (h : av_H) (a lo : Nat) (v : Int) : hfil h a lo lo v = h := by
  unfold hfil
  have : (fun q j => if q = a ∧ lo ≤ j ∧ j < lo then v else h.2.2.2.1 q j) = h.2.2.2.1 := by
    funext q j
    rw [if_neg (by omega)]
  rw [this]
theorem hfil_s (h : av_H) (a lo hi : Nat) (v : Int) (e : lo ≤ hi) : hwA (hfil h a lo hi v) a hi v = hfil h a lo (hi + 1) v := by
  unfold hfil hwA
  have : av_u2 (fun q j => if q = a ∧ lo ≤ j ∧ j < hi then v else h.2.2.2.1 q j) a hi v = (fun q j => if q = a ∧ lo ≤ j ∧ j < hi + 1 then v else h.2.2.2.1 q j) := by
    funext q j
    unfold av_u2
    by_cases e1 : q = a ∧ j = hi
    · rw [if_pos e1, if_pos (by omega)]
    · rw [if_neg e1]
      show (if q = a ∧ lo ≤ j ∧ j < hi then v else h.2.2.2.1 q j) = (if q = a ∧ lo ≤ j ∧ j < hi + 1 then v else h.2.2.2.1 q j)
      by_cases e2 : q = a ∧ lo ≤ j ∧ j < hi
      · rw [if_pos e2, if_pos (by omega)]
      · rw [if_neg e2, if_neg (by omega)]
  exact congrArg (fun A => ((h.1, h.2.1, h.2.2.1, A, h.2.2.2.2) : av_H)) this
theorem IC_fil {h : av_H} {a lo hi : Nat} {v : Int} (I : IC h) (ha : sA a = true) (hr : rwc a = true → -2 ≤ v ∧ v ≤ 999) (e : lo ≤ hi) : IC (hfil h a lo hi v) ∧ Fr1 h (hfil h a lo hi v) := by
  induction hi with
  | zero =>
    have : lo = 0 := by omega
    subst this
    rw [hfil_0]
    exact ⟨I, Fr1_rf h⟩
  | succ n ih =>
    by_cases e1 : lo = n + 1
    · rw [e1, hfil_0]
      exact ⟨I, Fr1_rf h⟩
    · obtain ⟨i1, i2⟩ := ih (by omega)
      rw [← hfil_s h a lo n v (by omega)]
      exact ⟨IC_wA i1 ha hr, Fr1_wA i2 ha⟩
set_option maxRecDepth 100000 in
set_option maxHeartbeats 4000000 in
theorem ct_220 {h : av_H} {a n : Nat} {v : Int} (hk : hK h a = (20, n)) (hn : (n : Int) < 2147483648) {Q : Option av_V → av_H → Prop} (hq : Q none (hfil h a 0 n v)) : av_wp none cd_220 0 [some (.inr (.inr (.inl (some a)))), some (.inl v), none, none] [] h Q := by
  refine av_wp_sqF ck_220 3 (pc' := 3) (lv' := [some (.inr (.inr (.inl (some a)))), some (.inl v), some (.inl (0)), none]) (st' := [.inr (.inr (.inl (some a)))]) (h' := h) rfl ?_
  refine wq_ln (p' := 4) (ck_220 _ _ rfl) rfl hk (by simp) ?_
  refine av_wp_sqF ck_220 1 (pc' := 5) (lv' := [some (.inr (.inr (.inl (some a)))), some (.inl v), some (.inl (0)), some (.inl (n : Int))]) (st' := []) (h' := h) rfl ?_
  have lp : ∀ (m k : Nat), k + m = n → av_wp none cd_220 5 [some (.inr (.inr (.inl (some a)))), some (.inl v), some (.inl (k : Int)), some (.inl (n : Int))] [] (hfil h a 0 k v) Q := by
    intro m
    induction m with
    | zero =>
      intro k e
      have e : k = n := by omega
      subst e
      refine av_wp_sqF ck_220 2 (pc' := 7) (lv' := [some (.inr (.inr (.inl (some a)))), some (.inl v), some (.inl (k : Int)), some (.inl (k : Int))]) (st' := [.inl (k : Int), .inl (k : Int)]) (h' := hfil h a 0 k v) rfl ?_
      refine wq_k2 (p' := 10) (ck_220 _ _ rfl) rfl ⟨by omega, by omega⟩ ⟨by omega, by omega⟩ (fun _ => ?_) (fun c => ?_)
      · exact av_wp_ret (v := none) rfl rfl rfl hq
      · have c : (k : Int) < (k : Int) := c
        omega
    | succ m ih =>
      intro k e
      refine av_wp_sqF ck_220 2 (pc' := 7) (lv' := [some (.inr (.inr (.inl (some a)))), some (.inl v), some (.inl (k : Int)), some (.inl (n : Int))]) (st' := [.inl (n : Int), .inl (k : Int)]) (h' := hfil h a 0 k v) rfl ?_
      refine wq_k2 (p' := 10) (ck_220 _ _ rfl) rfl ⟨by omega, by omega⟩ ⟨by omega, by omega⟩ (fun c => ?_) (fun _ => ?_)
      · have c : (n : Int) ≤ (k : Int) := c
        omega
      · refine av_wp_sqF ck_220 3 (pc' := 13) (lv' := [some (.inr (.inr (.inl (some a)))), some (.inl v), some (.inl (k : Int)), some (.inl (n : Int))]) (st' := [.inl v, .inl (k : Int), .inr (.inr (.inl (some a)))]) (h' := hfil h a 0 k v) rfl ?_
        refine wq_as (p' := 14) (n := n) (ck_220 _ _ rfl) rfl hk (by omega) ?_
        rw [show ((k : Nat) : Int).toNat = k from rfl, hfil_s h a 0 k v (by omega)]
        refine av_wp_sqF ck_220 2 (pc' := 5) (lv' := [some (.inr (.inr (.inl (some a)))), some (.inl v), some (.inl ((k : Int) + 1)), some (.inl (n : Int))]) (st' := []) (h' := hfil h a 0 (k + 1) v) rfl ?_
        exact ih (k + 1) (by omega)
  have := lp n 0 (by omega)
  rw [hfil_0] at this
  exact this
set_option maxRecDepth 100000 in
set_option maxHeartbeats 4000000 in
theorem ct_219 {h : av_H} (a b c : Int) (e : 0 ≤ b ∧ b ≤ c ∧ c ≤ a ∧ a ≤ 2147483647) {Q : Option av_V → av_H → Prop} (hq : Q none h) : av_wp none cd_219 0 [some (.inl a), some (.inl b), some (.inl c)] [] h Q := by
  refine av_wp_sqF ck_219 2 (pc' := 2) (lv' := [some (.inl a), some (.inl b), some (.inl c)]) (st' := [.inl c, .inl b]) (h' := h) rfl ?_
  refine wq_k2 (p' := 5) (ck_219 _ _ rfl) rfl ⟨by omega, by omega⟩ ⟨by omega, by omega⟩ (fun _ => ?_) (fun z => ?_)
  · refine av_wp_sqF ck_219 1 (pc' := 47) (lv' := [some (.inl a), some (.inl b), some (.inl c)]) (st' := [.inl b]) (h' := h) rfl ?_
    refine wq_k1 (p' := 50) (ck_219 _ _ rfl) rfl ⟨by omega, by omega⟩ (fun _ => ?_) (fun z => ?_)
    · refine av_wp_sqF ck_219 2 (pc' := 61) (lv' := [some (.inl a), some (.inl b), some (.inl c)]) (st' := [.inl a, .inl c]) (h' := h) rfl ?_
      refine wq_k2 (p' := 64) (ck_219 _ _ rfl) rfl ⟨by omega, by omega⟩ ⟨by omega, by omega⟩ (fun _ => ?_) (fun z => ?_)
      · exact av_wp_ret (v := none) rfl rfl rfl hq
      · have z : a < c := z
        omega
    · have z : b < 0 := z
      omega
  · have z : c < b := z
    omega
set_option maxRecDepth 100000 in
set_option maxHeartbeats 4000000 in
theorem ct_221 {h : av_H} {a n : Nat} {v : Int} (lo hi : Nat) {x y : Int} (hx : x = (lo : Int)) (hy : y = (hi : Int)) (hk : hK h a = (20, n)) (hn : (n : Int) < 2147483648) (e1 : lo ≤ hi) (e2 : hi ≤ n) {Q : Option av_V → av_H → Prop} (hq : Q none (hfil h a lo hi v)) : av_wp none cd_221 0 [some (.inr (.inr (.inl (some a)))), some (.inl x), some (.inl y), some (.inl v), none] [] h Q := by
  subst hx
  subst hy
  refine av_wp_sqF ck_221 1 (pc' := 1) (lv' := [some (.inr (.inr (.inl (some a)))), some (.inl (lo : Int)), some (.inl (hi : Int)), some (.inl v), none]) (st' := [.inr (.inr (.inl (some a)))]) (h' := h) rfl ?_
  refine wq_ln (p' := 2) (ck_221 _ _ rfl) rfl hk (by simp) ?_
  refine av_wp_sqF ck_221 2 (pc' := 4) (lv' := [some (.inr (.inr (.inl (some a)))), some (.inl (lo : Int)), some (.inl (hi : Int)), some (.inl v), none]) (st' := [.inl (hi : Int), .inl (lo : Int), .inl (n : Int)]) (h' := h) rfl ?_
  refine wq_cs (p' := 7) (av_qc (.invokestatic 13) 219 3 2 10) 3 cd_219 [.inl (n : Int), .inl (lo : Int), .inl (hi : Int)] [.inl (hi : Int), .inl (lo : Int), .inl (n : Int)] [some (.inl (n : Int)), some (.inl (lo : Int)), some (.inl (hi : Int))] (ck_221 _ _ rfl) rfl rfl pp_219 (fun _ => rfl) rfl rfl ?_
  refine ct_219 _ _ _ (by omega) ?_
  show av_wp _ cd_221 7 [some (.inr (.inr (.inl (some a)))), some (.inl (lo : Int)), some (.inl (hi : Int)), some (.inl v), none] [] h _
  refine av_wp_sqF ck_221 2 (pc' := 10) (lv' := [some (.inr (.inr (.inl (some a)))), some (.inl (lo : Int)), some (.inl (hi : Int)), some (.inl v), some (.inl (lo : Int))]) (st' := []) (h' := h) rfl ?_
  have lp : ∀ (m k : Nat), lo ≤ k → k + m = hi → av_wp none cd_221 10 [some (.inr (.inr (.inl (some a)))), some (.inl (lo : Int)), some (.inl (hi : Int)), some (.inl v), some (.inl (k : Int))] [] (hfil h a lo k v) Q := by
    intro m
    induction m with
    | zero =>
      intro k _ e
      have e : k = hi := by omega
      subst e
      refine av_wp_sqF ck_221 2 (pc' := 13) (lv' := [some (.inr (.inr (.inl (some a)))), some (.inl (lo : Int)), some (.inl (k : Int)), some (.inl v), some (.inl (k : Int))]) (st' := [.inl (k : Int), .inl (k : Int)]) (h' := hfil h a lo k v) rfl ?_
      refine wq_k2 (p' := 16) (ck_221 _ _ rfl) rfl ⟨by omega, by omega⟩ ⟨by omega, by omega⟩ (fun _ => ?_) (fun c => ?_)
      · exact av_wp_ret (v := none) rfl rfl rfl hq
      · have c : (k : Int) < (k : Int) := c
        omega
    | succ m ih =>
      intro k e0 e
      refine av_wp_sqF ck_221 2 (pc' := 13) (lv' := [some (.inr (.inr (.inl (some a)))), some (.inl (lo : Int)), some (.inl (hi : Int)), some (.inl v), some (.inl (k : Int))]) (st' := [.inl (hi : Int), .inl (k : Int)]) (h' := hfil h a lo k v) rfl ?_
      refine wq_k2 (p' := 16) (ck_221 _ _ rfl) rfl ⟨by omega, by omega⟩ ⟨by omega, by omega⟩ (fun c => ?_) (fun _ => ?_)
      · have c : (hi : Int) ≤ (k : Int) := c
        omega
      · refine av_wp_sqF ck_221 3 (pc' := 20) (lv' := [some (.inr (.inr (.inl (some a)))), some (.inl (lo : Int)), some (.inl (hi : Int)), some (.inl v), some (.inl (k : Int))]) (st' := [.inl v, .inl (k : Int), .inr (.inr (.inl (some a)))]) (h' := hfil h a lo k v) rfl ?_
        refine wq_as (p' := 21) (n := n) (ck_221 _ _ rfl) rfl hk (by omega) ?_
        rw [show ((k : Nat) : Int).toNat = k from rfl, hfil_s h a lo k v e0]
        refine av_wp_sqF ck_221 2 (pc' := 10) (lv' := [some (.inr (.inr (.inl (some a)))), some (.inl (lo : Int)), some (.inl (hi : Int)), some (.inl v), some (.inl ((k : Int) + 1))]) (st' := []) (h' := hfil h a lo (k + 1) v) rfl ?_
        exact ih (k + 1) (by omega) (by omega)
  have := lp (hi - lo) lo (by omega) (by omega)
  rw [hfil_0] at this
  exact this
end
