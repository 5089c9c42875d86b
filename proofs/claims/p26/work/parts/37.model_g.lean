set_option maxRecDepth 100000 in
set_option maxHeartbeats 4000000 in
theorem ct_195 {g h : av_H} {n a m : Int} (I : IMF n a m h) (F : FM g h) (hm : 1 ≤ m ∧ m ≤ 1024) (x : Int) (hx : 0 ≤ x ∧ x ≤ 1024) (y : Int) {Q : Option av_V → av_H → Prop} (hq : ∀ v : Int, (0 ≤ v ∧ v ≤ 1023) → Q (some (.inl v)) h) : av_wp none cd_195 0 [some (.inr (.inr (.inl (some (77))))), some (.inl x), some (.inl y), none, none, none, none] [] h Q := by
  have ga := im_a I.1.1
  rw [I.2.2.1] at ga
  obtain ⟨p, p0, p1, p2⟩ := im_p I hm
  refine av_wp_sqF ck_195 8 (pc' := 11) (lv' := [some (.inr (.inr (.inl (some (77))))), some (.inl x), some (.inl y), some (.inl x), some (.inl (0)), some (.inl (1)), some (.inl (0))]) (st' := []) (h' := h) rfl ?_
  have lp : ∀ (w : Nat) (l k u i : Int), 0 ≤ l → l ≤ 1024 → 0 ≤ k → k < u → 0 ≤ i → i ≤ a → u ≤ p i.toNat → (48 - i).toNat = w → av_wp none cd_195 11 [some (.inr (.inr (.inl (some (77))))), some (.inl x), some (.inl y), some (.inl l), some (.inl k), some (.inl u), some (.inl i)] [] h Q := by
    intro w
    induction w using Nat.strongRecOn with
    | _ w ih =>
      intro l k u i g1 g2 g3 g4 g5 g6 g7 ew
      have pi := p2 i.toNat (by omega)
      refine av_wp_sqF ck_195 2 (pc' := 14) (lv' := [some (.inr (.inr (.inl (some (77))))), some (.inl x), some (.inl y), some (.inl l), some (.inl k), some (.inl u), some (.inl i)]) (st' := [.inr (.inr (.inl (some (77)))), .inl i]) (h' := h) rfl ?_
      refine wq_gi (p' := 17) (ck_195 _ _ rfl) rfl (congrArg Prod.fst (ly_k I.1.1.1 77 rfl)) rfl I.2.2.1 ?_
      refine wq_k2 (p' := 20) (ck_195 _ _ rfl) rfl ⟨by omega, by omega⟩ ⟨by omega, by omega⟩ (fun c1 => ?_) (fun c2 => ?_)
      · refine av_wp_sqF ck_195 1 (pc' := 77) (lv' := [some (.inr (.inr (.inl (some (77))))), some (.inl x), some (.inl y), some (.inl l), some (.inl k), some (.inl u), some (.inl i)]) (st' := [.inl k]) (h' := h) rfl ?_
        exact av_wp_ret (v := some (.inl k)) rfl rfl rfl (hq _ (by omega))
      · have c2 : i < a := c2
        obtain ⟨r, er⟩ : ∃ v, hA h 108 (i).toNat = v := ⟨_, rfl⟩
        have gr := im_rx I.1.1 (i).toNat (by rw [I.2.2.1]; omega)
        rw [er] at gr
        have pn := p1 i.toNat (by omega)
        rw [er] at pn
        have pj := p2 (i.toNat + 1) (by omega)
        rw [pn] at pj
        have nxt : ∀ (k' u' : Int), 0 ≤ k' → k' < u' → u' ≤ p i.toNat * r → av_wp none cd_195 59 [some (.inr (.inr (.inl (some (77))))), some (.inl x), some (.inl y), some (.inl l), some (.inl k'), some (.inl u'), some (.inl i)] [] h Q := by
          intro k' u' q1 q2 q3
          refine av_wp_sqF ck_195 2 (pc' := 61) (lv' := [some (.inr (.inr (.inl (some (77))))), some (.inl x), some (.inl y), some (.inl l), some (.inl k'), some (.inl u'), some (.inl i)]) (st' := [.inr (.inr (.inl (some (77)))), .inl l]) (h' := h) rfl ?_
          refine wq_gr (p' := 64) (ck_195 _ _ rfl) rfl (congrArg Prod.fst (ly_k I.1.1.1 77 rfl)) rfl (ly_g I.1.1.1 77 42 108 rfl) ?_
          refine av_wp_sqF ck_195 1 (pc' := 66) (lv' := [some (.inr (.inr (.inl (some (77))))), some (.inl x), some (.inl y), some (.inl l), some (.inl k'), some (.inl u'), some (.inl i)]) (st' := [.inl i, .inr (.inr (.inl (some (108)))), .inl l]) (h' := h) rfl ?_
          refine wq_al (p' := 67) (n := 48) (ck_195 _ _ rfl) rfl (ly_k I.1.1.1 108 rfl) (by omega) er ?_
          refine wq_dv (p' := 68) (ck_195 _ _ rfl) rfl ⟨by omega, by omega⟩ (by omega) (fun v e => ?_)
          have e := e ⟨by omega, by omega⟩
          rw [Int.tdiv_eq_ediv_of_nonneg (by omega)] at e
          have e1 : 0 ≤ l / r := Int.ediv_nonneg (by omega) (by omega)
          have e2 : l / r ≤ l := Int.ediv_le_self _ (by omega)
          refine av_wp_sqF ck_195 3 (pc' := 11) (lv' := [some (.inr (.inr (.inl (some (77))))), some (.inl x), some (.inl y), some (.inl v), some (.inl k'), some (.inl u'), some (.inl (i + (1)))]) (st' := []) (h' := h) rfl ?_
          refine ih _ (by omega) v k' u' (i + (1)) (by omega) (by omega) q1 q2 (by omega) (by omega) ?_ rfl
          rw [show (i + (1)).toNat = i.toNat + 1 by omega, pn]
          exact q3
        refine av_wp_sqF ck_195 6 (pc' := 27) (lv' := [some (.inr (.inr (.inl (some (77))))), some (.inl x), some (.inl y), some (.inl l), some (.inl k), some (.inl u), some (.inl i)]) (st' := [.inl (1), .inl (av_and (av_shr y i) (1))]) (h' := h) rfl ?_
        refine wq_c2 (p' := 30) (ck_195 _ _ rfl) rfl ?_ ?_
        · have q1 : p i.toNat * 1 ≤ p i.toNat * r := Int.mul_le_mul_of_nonneg_left (by omega) (by omega)
          exact nxt k u g3 g4 (by omega)
        · refine av_wp_sqF ck_195 4 (pc' := 36) (lv' := [some (.inr (.inr (.inl (some (77))))), some (.inl x), some (.inl y), some (.inl l), some (.inl k), some (.inl u), some (.inl i)]) (st' := [.inr (.inr (.inl (some (77)))), .inl l, .inl u, .inl k]) (h' := h) rfl ?_
          refine wq_gr (p' := 39) (ck_195 _ _ rfl) rfl (congrArg Prod.fst (ly_k I.1.1.1 77 rfl)) rfl (ly_g I.1.1.1 77 42 108 rfl) ?_
          refine av_wp_sqF ck_195 1 (pc' := 41) (lv' := [some (.inr (.inr (.inl (some (77))))), some (.inl x), some (.inl y), some (.inl l), some (.inl k), some (.inl u), some (.inl i)]) (st' := [.inl i, .inr (.inr (.inl (some (108)))), .inl l, .inl u, .inl k]) (h' := h) rfl ?_
          refine wq_al (p' := 42) (n := 48) (ck_195 _ _ rfl) rfl (ly_k I.1.1.1 108 rfl) (by omega) er ?_
          refine wq_rm (p' := 43) (ck_195 _ _ rfl) rfl ⟨by omega, by omega⟩ (by omega) (fun v e => ?_)
          have e := e ⟨by omega, by omega⟩
          rw [Int.tmod_eq_emod_of_nonneg (by omega)] at e
          have e1 : 0 ≤ l % r := Int.emod_nonneg _ (by omega)
          have e2 : l % r < r := Int.emod_lt_of_pos _ (by omega)
          have f1 : 0 ≤ u * v := Int.mul_nonneg (by omega) (by omega)
          have f2 : u * v ≤ u * (r - 1) := Int.mul_le_mul_of_nonneg_left (by omega) (by omega)
          have f3 : u * (r - 1) = u * r - u * 1 := Int.mul_sub u r 1
          have f4 : u * r ≤ p i.toNat * r := Int.mul_le_mul_of_nonneg_right g7 (by omega)
          refine av_wp_sqF ck_195 5 (pc' := 50) (lv' := [some (.inr (.inr (.inl (some (77))))), some (.inl x), some (.inl y), some (.inl l), some (.inl (k + (u * v))), some (.inl u), some (.inl i)]) (st' := [.inr (.inr (.inl (some (77)))), .inl u]) (h' := h) rfl ?_
          refine wq_gr (p' := 53) (ck_195 _ _ rfl) rfl (congrArg Prod.fst (ly_k I.1.1.1 77 rfl)) rfl (ly_g I.1.1.1 77 42 108 rfl) ?_
          refine av_wp_sqF ck_195 1 (pc' := 55) (lv' := [some (.inr (.inr (.inl (some (77))))), some (.inl x), some (.inl y), some (.inl l), some (.inl (k + (u * v))), some (.inl u), some (.inl i)]) (st' := [.inl i, .inr (.inr (.inl (some (108)))), .inl u]) (h' := h) rfl ?_
          refine wq_al (p' := 56) (n := 48) (ck_195 _ _ rfl) rfl (ly_k I.1.1.1 108 rfl) (by omega) er ?_
          refine av_wp_sqF ck_195 2 (pc' := 59) (lv' := [some (.inr (.inr (.inl (some (77))))), some (.inl x), some (.inl y), some (.inl l), some (.inl (k + (u * v))), some (.inl (u * r)), some (.inl i)]) (st' := []) (h' := h) rfl ?_
          exact nxt (k + (u * v)) (u * r) (by omega) (by omega) f4
  exact lp _ x (0) (1) (0) (by omega) (by omega) (by omega) (by omega) (by omega) (by omega) (by rw [show ((0 : Int)).toNat = 0 from rfl, p0]; omega) rfl

set_option maxRecDepth 100000 in
set_option maxHeartbeats 4000000 in
theorem ct_196 {g h : av_H} {n a m : Int} (I : IMF n a m h) (F : FM g h) (gm1 : 1 ≤ m ∧ m ≤ 1024) (x : Int) {Q : Option av_V → av_H → Prop} (hq : ∀ (v : Int) h', (v = 0 ∨ v = 1) → IMF n a m h' → FM g h' → Q (some (.inl v)) h') : av_wp none cd_196 0 [some (.inr (.inr (.inl (some (77))))), some (.inl x), none, none, none] [] h Q := by
  have gn := im_n I.1.1
  rw [I.2.1] at gn
  have ga := im_a I.1.1
  rw [I.2.2.1] at ga
  have gm := im_cm I.1.1
  rw [I.2.2.2] at gm
  refine av_wp_sqF ck_196 2 (pc' := 2) (lv' := [some (.inr (.inr (.inl (some (77))))), some (.inl x), some (.inl (0)), none, none]) (st' := []) (h' := h) rfl ?_
  have L6 : ∀ (m5 : Nat) (k1 : Int) (h2 : av_H), (0 ≤ k1 ∧ k1 ≤ 1024) → IMF n a m h2 → FM g h2 → (1024 - k1).toNat = m5 → av_wp none cd_196 2 [some (.inr (.inr (.inl (some (77))))), some (.inl x), some (.inl k1), none, none] [] h2 Q := by
    intro m5
    induction m5 using Nat.strongRecOn with
    | _ m5 I7 =>
      intro k1 h2 g9 I3 F4 e8
      refine av_wp_sqF ck_196 2 (pc' := 6) (lv' := [some (.inr (.inr (.inl (some (77))))), some (.inl x), some (.inl k1), none, none]) (st' := [.inl (1024), .inl k1]) (h' := h2) rfl ?_
      refine wq_k2 (p' := 9) (ck_196 _ _ rfl) rfl ⟨by omega, by omega⟩ ⟨by omega, by omega⟩ (fun c10 => ?_) (fun c11 => ?_)
      · have c10 : (1024) ≤ k1 := c10
        refine av_wp_sqF ck_196 2 (pc' := 24) (lv' := [some (.inr (.inr (.inl (some (77))))), some (.inl x), some (.inl (0)), none, none]) (st' := []) (h' := h2) rfl ?_
        have L19 : ∀ (m18 : Nat) (k12 : Int) (a13 : Option av_V) (a14 : Option av_V) (h15 : av_H), av_lg a13 = false → av_lg a14 = false → (0 ≤ k12 ∧ k12 ≤ 1025) → IMF n a m h15 → FM g h15 → (1025 - k12).toNat = m18 → av_wp none cd_196 24 [some (.inr (.inr (.inl (some (77))))), some (.inl x), some (.inl k12), a13, a14] [] h15 Q := by
          intro m18
          induction m18 using Nat.strongRecOn with
          | _ m18 I20 =>
            intro k12 a13 a14 h15 g22 g23 g24 I16 F17 e21
            have la13 := g22
            have la14 := g23
            refine av_wp_sqF ck_196 2 (pc' := 26) (lv' := [some (.inr (.inr (.inl (some (77))))), some (.inl x), some (.inl k12), a13, a14]) (st' := [.inr (.inr (.inl (some (77)))), .inl k12]) (h' := h15) rfl ?_
            refine wq_gi (p' := 29) (ck_196 _ _ rfl) rfl (congrArg Prod.fst (ly_k I16.1.1.1 77 rfl)) rfl (I16.2.2.2) ?_
            refine wq_k2 (p' := 32) (ck_196 _ _ rfl) rfl ⟨by omega, by omega⟩ ⟨by omega, by omega⟩ (fun c25 => ?_) (fun c26 => ?_)
            · have c25 : m ≤ k12 := c25
              refine av_wp_sqF ck_196 1 (pc' := 92) (lv' := [some (.inr (.inr (.inl (some (77))))), some (.inl x), some (.inl k12), a13, a14]) (st' := [.inl (1)]) (h' := h15) rfl ?_
              refine av_wp_ret (v := some (.inl (1))) (ck_196 _ _ rfl) rfl rfl ?_
              exact hq _ h15 (by omega) I16 F17
            · have c26 : k12 < m := c26
              refine av_wp_sqF ck_196 3 (pc' := 35) (lv' := [some (.inr (.inr (.inl (some (77))))), some (.inl x), some (.inl k12), a13, a14]) (st' := [.inl x, .inl k12, .inr (.inr (.inl (some (77))))]) (h' := h15) rfl ?_
              refine wq_cv (p' := 38) (av_qc (.invokevirtual 452) 195 2 0 8) 7 cd_195 [.inl x, .inl k12] (77) 8 [some (.inr (.inr (.inl (some (77))))), some (.inl k12), some (.inl x), none, none, none, none] (ck_196 _ _ rfl) rfl rfl pp_195 rfl rfl rfl (congrArg Prod.fst (ly_k I16.1.1.1 77 rfl)) rfl rfl rfl rfl ?_
              refine ct_195 I16 F17 (by omega) (k12) (by omega) (x) (fun v27 p28 => ?_)
              show av_wp _ cd_196 38 [some (.inr (.inr (.inl (some (77))))), some (.inl x), some (.inl k12), a13, a14] [.inl v27] h15 _
              refine av_wp_sqF ck_196 2 (pc' := 40) (lv' := [some (.inr (.inr (.inl (some (77))))), some (.inl x), some (.inl k12), some (.inl v27), a14]) (st' := [.inr (.inr (.inl (some (77))))]) (h' := h15) rfl ?_
              refine wq_gr (p' := 43) (ck_196 _ _ rfl) rfl (congrArg Prod.fst (ly_k I16.1.1.1 77 rfl)) rfl (ly_g I16.1.1.1 77 56 118 rfl) ?_
              refine av_wp_sqF ck_196 1 (pc' := 44) (lv' := [some (.inr (.inr (.inl (some (77))))), some (.inl x), some (.inl k12), some (.inl v27), a14]) (st' := [.inl k12, .inr (.inr (.inl (some (118))))]) (h' := h15) rfl ?_
              obtain ⟨v29, e30⟩ : ∃ v, hA h15 118 (Int.toNat (k12)) = v := ⟨_, rfl⟩
              refine wq_bl (p' := 45) (n := 1024) (ck_196 _ _ rfl) rfl ((Or.inr (ly_k I16.1.1.1 118 rfl))) (by omega) (e30) ?_
              have J34 : ∀ (j32 : Int), (1 ≤ j32 ∧ j32 ≤ 2) →  av_wp none cd_196 53 [some (.inr (.inr (.inl (some (77))))), some (.inl x), some (.inl k12), some (.inl v27), a14] [.inl j32] h15 Q := by
                intro j32 g33
                refine av_wp_sqF ck_196 2 (pc' := 56) (lv' := [some (.inr (.inr (.inl (some (77))))), some (.inl x), some (.inl k12), some (.inl v27), some (.inl j32)]) (st' := [.inr (.inr (.inl (some (77))))]) (h' := h15) rfl ?_
                refine wq_gr (p' := 59) (ck_196 _ _ rfl) rfl (congrArg Prod.fst (ly_k I16.1.1.1 77 rfl)) rfl (ly_g I16.1.1.1 77 57 119 rfl) ?_
                refine av_wp_sqF ck_196 1 (pc' := 60) (lv' := [some (.inr (.inr (.inl (some (77))))), some (.inl x), some (.inl k12), some (.inl v27), some (.inl j32)]) (st' := [.inl v27, .inr (.inr (.inl (some (119))))]) (h' := h15) rfl ?_
                obtain ⟨v35, e36⟩ : ∃ v, hA h15 119 (Int.toNat (v27)) = v := ⟨_, rfl⟩
                refine wq_al (p' := 61) (n := 1024) (ck_196 _ _ rfl) rfl (ly_k I16.1.1.1 119 rfl) (by omega) (e36) ?_
                refine wq_c1 (p' := 64) (ck_196 _ _ rfl) rfl ?_ ?_
                · refine av_wp_sqF ck_196 1 (pc' := 78) (lv' := [some (.inr (.inr (.inl (some (77))))), some (.inl x), some (.inl k12), some (.inl v27), some (.inl j32)]) (st' := [.inr (.inr (.inl (some (77))))]) (h' := h15) rfl ?_
                  refine wq_gr (p' := 81) (ck_196 _ _ rfl) rfl (congrArg Prod.fst (ly_k I16.1.1.1 77 rfl)) rfl (ly_g I16.1.1.1 77 57 119 rfl) ?_
                  refine av_wp_sqF ck_196 2 (pc' := 84) (lv' := [some (.inr (.inr (.inl (some (77))))), some (.inl x), some (.inl k12), some (.inl v27), some (.inl j32)]) (st' := [.inl j32, .inl v27, .inr (.inr (.inl (some (119))))]) (h' := h15) rfl ?_
                  refine im_as (p' := 85) (l := 1024) rfl rfl I16 F17 (ly_k I16.1.1.1 119 rfl) (by omega) (by omega) (fun h38 I39 F40 => ?_)
                  refine av_wp_sqF ck_196 2 (pc' := 24) (lv' := [some (.inr (.inr (.inl (some (77))))), some (.inl x), some (.inl (k12 + (1))), some (.inl v27), some (.inl j32)]) (st' := []) (h' := h38) rfl ?_
                  exact I20 _ (by omega) ((k12 + (1))) (some (.inl v27)) (some (.inl j32)) h38 rfl rfl (by omega) I39 F40 rfl
                · refine av_wp_sqF ck_196 1 (pc' := 65) (lv' := [some (.inr (.inr (.inl (some (77))))), some (.inl x), some (.inl k12), some (.inl v27), some (.inl j32)]) (st' := [.inr (.inr (.inl (some (77))))]) (h' := h15) rfl ?_
                  refine wq_gr (p' := 68) (ck_196 _ _ rfl) rfl (congrArg Prod.fst (ly_k I16.1.1.1 77 rfl)) rfl (ly_g I16.1.1.1 77 57 119 rfl) ?_
                  refine av_wp_sqF ck_196 1 (pc' := 69) (lv' := [some (.inr (.inr (.inl (some (77))))), some (.inl x), some (.inl k12), some (.inl v27), some (.inl j32)]) (st' := [.inl v27, .inr (.inr (.inl (some (119))))]) (h' := h15) rfl ?_
                  obtain ⟨v41, e42⟩ : ∃ v, hA h15 119 (Int.toNat (v27)) = v := ⟨_, rfl⟩
                  refine wq_al (p' := 70) (n := 1024) (ck_196 _ _ rfl) rfl (ly_k I16.1.1.1 119 rfl) (by omega) (e42) ?_
                  refine av_wp_sqF ck_196 1 (pc' := 72) (lv' := [some (.inr (.inr (.inl (some (77))))), some (.inl x), some (.inl k12), some (.inl v27), some (.inl j32)]) (st' := [.inl j32, .inl v41]) (h' := h15) rfl ?_
                  refine wq_c2 (p' := 75) (ck_196 _ _ rfl) rfl ?_ ?_
                  · refine av_wp_sqF ck_196 1 (pc' := 78) (lv' := [some (.inr (.inr (.inl (some (77))))), some (.inl x), some (.inl k12), some (.inl v27), some (.inl j32)]) (st' := [.inr (.inr (.inl (some (77))))]) (h' := h15) rfl ?_
                    refine wq_gr (p' := 81) (ck_196 _ _ rfl) rfl (congrArg Prod.fst (ly_k I16.1.1.1 77 rfl)) rfl (ly_g I16.1.1.1 77 57 119 rfl) ?_
                    refine av_wp_sqF ck_196 2 (pc' := 84) (lv' := [some (.inr (.inr (.inl (some (77))))), some (.inl x), some (.inl k12), some (.inl v27), some (.inl j32)]) (st' := [.inl j32, .inl v27, .inr (.inr (.inl (some (119))))]) (h' := h15) rfl ?_
                    refine im_as (p' := 85) (l := 1024) rfl rfl I16 F17 (ly_k I16.1.1.1 119 rfl) (by omega) (by omega) (fun h44 I45 F46 => ?_)
                    refine av_wp_sqF ck_196 2 (pc' := 24) (lv' := [some (.inr (.inr (.inl (some (77))))), some (.inl x), some (.inl (k12 + (1))), some (.inl v27), some (.inl j32)]) (st' := []) (h' := h44) rfl ?_
                    exact I20 _ (by omega) ((k12 + (1))) (some (.inl v27)) (some (.inl j32)) h44 rfl rfl (by omega) I45 F46 rfl
                  · refine av_wp_sqF ck_196 1 (pc' := 76) (lv' := [some (.inr (.inr (.inl (some (77))))), some (.inl x), some (.inl k12), some (.inl v27), some (.inl j32)]) (st' := [.inl (0)]) (h' := h15) rfl ?_
                    refine av_wp_ret (v := some (.inl (0))) (ck_196 _ _ rfl) rfl rfl ?_
                    exact hq _ h15 (by omega) I16 F17
              refine wq_c1 (p' := 48) (ck_196 _ _ rfl) rfl ?_ ?_
              · refine av_wp_sqF ck_196 1 (pc' := 53) (lv' := [some (.inr (.inr (.inl (some (77))))), some (.inl x), some (.inl k12), some (.inl v27), a14]) (st' := [.inl (1)]) (h' := h15) rfl ?_
                exact J34 ((1)) (by omega)
              · refine av_wp_sqF ck_196 2 (pc' := 53) (lv' := [some (.inr (.inr (.inl (some (77))))), some (.inl x), some (.inl k12), some (.inl v27), a14]) (st' := [.inl (2)]) (h' := h15) rfl ?_
                exact J34 ((2)) (by omega)
        exact L19 _ ((0)) (none) (none) h2 rfl rfl (by omega) I3 F4 rfl
      · have c11 : k1 < (1024) := c11
        refine av_wp_sqF ck_196 1 (pc' := 10) (lv' := [some (.inr (.inr (.inl (some (77))))), some (.inl x), some (.inl k1), none, none]) (st' := [.inr (.inr (.inl (some (77))))]) (h' := h2) rfl ?_
        refine wq_gr (p' := 13) (ck_196 _ _ rfl) rfl (congrArg Prod.fst (ly_k I3.1.1.1 77 rfl)) rfl (ly_g I3.1.1.1 77 57 119 rfl) ?_
        refine av_wp_sqF ck_196 2 (pc' := 15) (lv' := [some (.inr (.inr (.inl (some (77))))), some (.inl x), some (.inl k1), none, none]) (st' := [.inl (0), .inl k1, .inr (.inr (.inl (some (119))))]) (h' := h2) rfl ?_
        refine im_as (p' := 16) (l := 1024) rfl rfl I3 F4 (ly_k I3.1.1.1 119 rfl) (by omega) (by omega) (fun h47 I48 F49 => ?_)
        refine av_wp_sqF ck_196 2 (pc' := 2) (lv' := [some (.inr (.inr (.inl (some (77))))), some (.inl x), some (.inl (k1 + (1))), none, none]) (st' := []) (h' := h47) rfl ?_
        exact I7 _ (by omega) ((k1 + (1))) h47 (by omega) I48 F49 rfl
  exact L6 _ ((0)) h (by omega) I F rfl

set_option maxRecDepth 100000 in
set_option maxHeartbeats 4000000 in
theorem ct_197 {g h : av_H} {n a m : Int} (I : IMF n a m h) (F : FM g h) (x : Int) (qx : -2147483648 ≤ x ∧ x ≤ 2147483647) (l : Int) (ql : -2147483648 ≤ l ∧ l ≤ 2147483647) {Q : Option av_V → av_H → Prop} (hq : ∀ (v : Int) n' a' m' h', IMF n' a' m' h' → FM g h' → Q (some (.inl v)) h') : av_wp none cd_197 0 [some (.inr (.inr (.inl (some (77))))), some (.inl x), some (.inl l), none, none] [] h Q := by
  have gn := im_n I.1.1
  rw [I.2.1] at gn
  have ga := im_a I.1.1
  rw [I.2.2.1] at ga
  have gm := im_cm I.1.1
  rw [I.2.2.2] at gm
  refine av_wp_sqF ck_197 4 (pc' := 4) (lv' := [some (.inr (.inr (.inl (some (77))))), some (.inl x), some (.inl l), none, none]) (st' := [.inl (0), .inl l, .inl x, .inr (.inr (.inl (some (77))))]) (h' := h) rfl ?_
  refine wq_cv (p' := 7) (av_qc (.invokevirtual 446) 186 3 0 8) 4 cd_186 [.inl (0), .inl l, .inl x] (77) 8 [some (.inr (.inr (.inl (some (77))))), some (.inl x), some (.inl l), some (.inl (0))] (ck_197 _ _ rfl) rfl rfl pp_186 rfl rfl rfl (congrArg Prod.fst (ly_k I.1.1.1 77 rfl)) rfl rfl rfl rfl ?_
  refine ct_186 I F (x) (by omega) (l) (by omega) ((0)) (by omega) (fun n5 a6 m7 h1 I2 F3 => ?_) (fun n5 a6 m7 h1 p4 I2 F3 => ?_)
  · have g8 := im_n I2.1.1
    rw [I2.2.1] at g8
    have g9 := im_a I2.1.1
    rw [I2.2.2.1] at g9
    have g10 := im_cm I2.1.1
    rw [I2.2.2.2] at g10
    show av_wp _ cd_197 7 [some (.inr (.inr (.inl (some (77))))), some (.inl x), some (.inl l), none, none] [.inl (0)] h1 _
    refine av_wp_sqF ck_197 2 (pc' := 21) (lv' := [some (.inr (.inr (.inl (some (77))))), some (.inl x), some (.inl l), none, none]) (st' := [.inl (-2)]) (h' := h1) rfl ?_
    refine av_wp_ret (v := some (.inl (-2))) (ck_197 _ _ rfl) rfl rfl ?_
    exact hq _ _ _ _ h1 I2 F3
  · have g11 := im_n I2.1.1
    rw [I2.2.1] at g11
    have g12 := im_a I2.1.1
    rw [I2.2.2.1] at g12
    have g13 := im_cm I2.1.1
    rw [I2.2.2.2] at g13
    show av_wp _ cd_197 7 [some (.inr (.inr (.inl (some (77))))), some (.inl x), some (.inl l), none, none] [.inl (1)] h1 _
    refine av_wp_sqF ck_197 2 (pc' := 11) (lv' := [some (.inr (.inr (.inl (some (77))))), some (.inl x), some (.inl l), none, none]) (st' := [.inr (.inr (.inl (some (77))))]) (h' := h1) rfl ?_
    refine wq_gi (p' := 14) (ck_197 _ _ rfl) rfl (congrArg Prod.fst (ly_k I2.1.1.1 77 rfl)) rfl (I2.2.2.1) ?_
    refine av_wp_sqF ck_197 1 (pc' := 16) (lv' := [some (.inr (.inr (.inl (some (77))))), some (.inl x), some (.inl l), none, none]) (st' := [.inl (12), .inl a6]) (h' := h1) rfl ?_
    refine wq_k2 (p' := 19) (ck_197 _ _ rfl) rfl ⟨by omega, by omega⟩ ⟨by omega, by omega⟩ (fun c14 => ?_) (fun c15 => ?_)
    · have c14 : a6 ≤ (12) := c14
      refine av_wp_sqF ck_197 2 (pc' := 24) (lv' := [some (.inr (.inr (.inl (some (77))))), some (.inl x), some (.inl l), some (.inl (0)), none]) (st' := []) (h' := h1) rfl ?_
      have L21 : ∀ (m20 : Nat) (k16 : Int) (h17 : av_H), (0 ≤ k16 ∧ k16 ≤ 1025) → IMF n5 a6 m7 h17 → FM g h17 → (1025 - k16).toNat = m20 → av_wp none cd_197 24 [some (.inr (.inr (.inl (some (77))))), some (.inl x), some (.inl l), some (.inl k16), none] [] h17 Q := by
        intro m20
        induction m20 using Nat.strongRecOn with
        | _ m20 I22 =>
          intro k16 h17 g24 I18 F19 e23
          refine av_wp_sqF ck_197 2 (pc' := 26) (lv' := [some (.inr (.inr (.inl (some (77))))), some (.inl x), some (.inl l), some (.inl k16), none]) (st' := [.inr (.inr (.inl (some (77)))), .inl k16]) (h' := h17) rfl ?_
          refine wq_gi (p' := 29) (ck_197 _ _ rfl) rfl (congrArg Prod.fst (ly_k I18.1.1.1 77 rfl)) rfl (I18.2.2.2) ?_
          refine wq_k2 (p' := 32) (ck_197 _ _ rfl) rfl ⟨by omega, by omega⟩ ⟨by omega, by omega⟩ (fun c25 => ?_) (fun c26 => ?_)
          · have c25 : m7 ≤ k16 := c25
            refine av_wp_sqF ck_197 4 (pc' := 58) (lv' := [some (.inr (.inr (.inl (some (77))))), some (.inl x), some (.inl l), some (.inl (-1)), some (.inl (0))]) (st' := []) (h' := h17) rfl ?_
            have L33 : ∀ (m32 : Nat) (k27 : Int) (k28 : Int) (h29 : av_H), (0 ≤ k28 ∧ k28 ≤ 4096) → IMF n5 a6 m7 h29 → FM g h29 → (4096 - k28).toNat = m32 → av_wp none cd_197 58 [some (.inr (.inr (.inl (some (77))))), some (.inl x), some (.inl l), some (.inl k27), some (.inl k28)] [] h29 Q := by
              intro m32
              induction m32 using Nat.strongRecOn with
              | _ m32 I34 =>
                intro k27 k28 h29 g36 I30 F31 e35
                refine av_wp_sqF ck_197 3 (pc' := 62) (lv' := [some (.inr (.inr (.inl (some (77))))), some (.inl x), some (.inl l), some (.inl k27), some (.inl k28)]) (st' := [.inr (.inr (.inl (some (77)))), .inl (1), .inl k28]) (h' := h29) rfl ?_
                refine wq_gi (p' := 65) (ck_197 _ _ rfl) rfl (congrArg Prod.fst (ly_k I30.1.1.1 77 rfl)) rfl (I30.2.2.1) ?_
                refine av_wp_sqF ck_197 1 (pc' := 66) (lv' := [some (.inr (.inr (.inl (some (77))))), some (.inl x), some (.inl l), some (.inl k27), some (.inl k28)]) (st' := [.inl (av_shl (1) a6), .inl k28]) (h' := h29) rfl ?_
                have g39 := shl_le (n := a6) (by omega)
                generalize av_shl (1) a6 = v37 at g39 ⊢
                refine wq_k2 (p' := 69) (ck_197 _ _ rfl) rfl ⟨by omega, by omega⟩ ⟨by omega, by omega⟩ (fun c40 => ?_) (fun c41 => ?_)
                · have c40 : v37 ≤ k28 := c40
                  refine av_wp_sqF ck_197 1 (pc' := 104) (lv' := [some (.inr (.inr (.inl (some (77))))), some (.inl x), some (.inl l), some (.inl k27), some (.inl k28)]) (st' := [.inl k27]) (h' := h29) rfl ?_
                  refine av_wp_ret (v := some (.inl k27)) (ck_197 _ _ rfl) rfl rfl ?_
                  exact hq _ _ _ _ h29 I30 F31
                · have c41 : k28 < v37 := c41
                  refine av_wp_sqF ck_197 1 (pc' := 70) (lv' := [some (.inr (.inr (.inl (some (77))))), some (.inl x), some (.inl l), some (.inl k27), some (.inl k28)]) (st' := [.inl k27]) (h' := h29) rfl ?_
                  refine wq_c1 (p' := 73) (ck_197 _ _ rfl) rfl ?_ ?_
                  · refine av_wp_sqF ck_197 2 (pc' := 88) (lv' := [some (.inr (.inr (.inl (some (77))))), some (.inl x), some (.inl l), some (.inl k27), some (.inl k28)]) (st' := [.inl k28, .inr (.inr (.inl (some (77))))]) (h' := h29) rfl ?_
                    refine wq_cv (p' := 91) (av_qc (.invokevirtual 458) 196 1 0 8) 5 cd_196 [.inl k28] (77) 8 [some (.inr (.inr (.inl (some (77))))), some (.inl k28), none, none, none] (ck_197 _ _ rfl) rfl rfl pp_196 rfl rfl rfl (congrArg Prod.fst (ly_k I30.1.1.1 77 rfl)) rfl rfl rfl rfl ?_
                    refine ct_196 I30 F31 (by omega) (k28) (fun v42 h44 p43 I45 F46 => ?_)
                    show av_wp _ cd_197 91 [some (.inr (.inr (.inl (some (77))))), some (.inl x), some (.inl l), some (.inl k27), some (.inl k28)] [.inl v42] h44 _
                    refine wq_k1 (p' := 94) (ck_197 _ _ rfl) rfl ⟨by omega, by omega⟩ (fun c47 => ?_) (fun c48 => ?_)
                    · have c47 : v42 = (0) := c47
                      refine av_wp_sqF ck_197 2 (pc' := 58) (lv' := [some (.inr (.inr (.inl (some (77))))), some (.inl x), some (.inl l), some (.inl k27), some (.inl (k28 + (1)))]) (st' := []) (h' := h44) rfl ?_
                      exact I34 _ (by omega) (k27) ((k28 + (1))) h44 (by omega) I45 F46 rfl
                    · have c48 : v42 ≠ (0) := c48
                      refine av_wp_sqF ck_197 4 (pc' := 58) (lv' := [some (.inr (.inr (.inl (some (77))))), some (.inl x), some (.inl l), some (.inl k28), some (.inl (k28 + (1)))]) (st' := []) (h' := h44) rfl ?_
                      exact I34 _ (by omega) (k28) ((k28 + (1))) h44 (by omega) I45 F46 rfl
                  · refine av_wp_sqF ck_197 1 (pc' := 75) (lv' := [some (.inr (.inr (.inl (some (77))))), some (.inl x), some (.inl l), some (.inl k27), some (.inl k28)]) (st' := [.inl k28]) (h' := h29) rfl ?_
                    refine wq_cs (p' := 78) (av_qc (.invokestatic 455) 194 1 2 8) 3 cd_194 [.inl k28] [.inl k28] [some (.inl k28), none, none] (ck_197 _ _ rfl) rfl rfl pp_194 (fun _ => rfl) rfl rfl ?_
                    refine ct_194 (g := h) (k28) (fun v49 => ?_)
                    show av_wp _ cd_197 78 [some (.inr (.inr (.inl (some (77))))), some (.inl x), some (.inl l), some (.inl k27), some (.inl k28)] [.inl v49] h29 _
                    refine av_wp_sqF ck_197 1 (pc' := 79) (lv' := [some (.inr (.inr (.inl (some (77))))), some (.inl x), some (.inl l), some (.inl k27), some (.inl k28)]) (st' := [.inl k27, .inl v49]) (h' := h29) rfl ?_
                    refine wq_cs (p' := 82) (av_qc (.invokestatic 455) 194 1 2 8) 3 cd_194 [.inl k27] [.inl k27, .inl v49] [some (.inl k27), none, none] (ck_197 _ _ rfl) rfl rfl pp_194 (fun _ => rfl) rfl rfl ?_
                    refine ct_194 (g := h) (k27) (fun v50 => ?_)
                    show av_wp _ cd_197 82 [some (.inr (.inr (.inl (some (77))))), some (.inl x), some (.inl l), some (.inl k27), some (.inl k28)] [.inl v50, .inl v49] h29 _
                    refine wq_c2 (p' := 85) (ck_197 _ _ rfl) rfl ?_ ?_
                    · refine av_wp_sqF ck_197 2 (pc' := 58) (lv' := [some (.inr (.inr (.inl (some (77))))), some (.inl x), some (.inl l), some (.inl k27), some (.inl (k28 + (1)))]) (st' := []) (h' := h29) rfl ?_
                      exact I34 _ (by omega) (k27) ((k28 + (1))) h29 (by omega) I30 F31 rfl
                    · refine av_wp_sqF ck_197 2 (pc' := 88) (lv' := [some (.inr (.inr (.inl (some (77))))), some (.inl x), some (.inl l), some (.inl k27), some (.inl k28)]) (st' := [.inl k28, .inr (.inr (.inl (some (77))))]) (h' := h29) rfl ?_
                      refine wq_cv (p' := 91) (av_qc (.invokevirtual 458) 196 1 0 8) 5 cd_196 [.inl k28] (77) 8 [some (.inr (.inr (.inl (some (77))))), some (.inl k28), none, none, none] (ck_197 _ _ rfl) rfl rfl pp_196 rfl rfl rfl (congrArg Prod.fst (ly_k I30.1.1.1 77 rfl)) rfl rfl rfl rfl ?_
                      refine ct_196 I30 F31 (by omega) (k28) (fun v51 h53 p52 I54 F55 => ?_)
                      show av_wp _ cd_197 91 [some (.inr (.inr (.inl (some (77))))), some (.inl x), some (.inl l), some (.inl k27), some (.inl k28)] [.inl v51] h53 _
                      refine wq_k1 (p' := 94) (ck_197 _ _ rfl) rfl ⟨by omega, by omega⟩ (fun c56 => ?_) (fun c57 => ?_)
                      · have c56 : v51 = (0) := c56
                        refine av_wp_sqF ck_197 2 (pc' := 58) (lv' := [some (.inr (.inr (.inl (some (77))))), some (.inl x), some (.inl l), some (.inl k27), some (.inl (k28 + (1)))]) (st' := []) (h' := h53) rfl ?_
                        exact I34 _ (by omega) (k27) ((k28 + (1))) h53 (by omega) I54 F55 rfl
                      · have c57 : v51 ≠ (0) := c57
                        refine av_wp_sqF ck_197 4 (pc' := 58) (lv' := [some (.inr (.inr (.inl (some (77))))), some (.inl x), some (.inl l), some (.inl k28), some (.inl (k28 + (1)))]) (st' := []) (h' := h53) rfl ?_
                        exact I34 _ (by omega) (k28) ((k28 + (1))) h53 (by omega) I54 F55 rfl
            exact L33 _ ((-1)) ((0)) h17 (by omega) I18 F19 rfl
          · have c26 : k16 < m7 := c26
            refine av_wp_sqF ck_197 2 (pc' := 34) (lv' := [some (.inr (.inr (.inl (some (77))))), some (.inl x), some (.inl l), some (.inl k16), none]) (st' := [.inl k16, .inr (.inr (.inl (some (77))))]) (h' := h17) rfl ?_
            refine wq_cv (p' := 37) (av_qc (.invokevirtual 431) 181 1 0 8) 2 cd_181 [.inl k16] (77) 8 [some (.inr (.inr (.inl (some (77))))), some (.inl k16)] (ck_197 _ _ rfl) rfl rfl pp_181 rfl rfl rfl (congrArg Prod.fst (ly_k I18.1.1.1 77 rfl)) rfl rfl rfl rfl ?_
            refine ct_181 I18 F19 (k16) (fun h60 I61 F62 => ?_)
            show av_wp _ cd_197 37 [some (.inr (.inr (.inl (some (77))))), some (.inl x), some (.inl l), some (.inl k16), none] [] h60 _
            refine av_wp_sqF ck_197 1 (pc' := 38) (lv' := [some (.inr (.inr (.inl (some (77))))), some (.inl x), some (.inl l), some (.inl k16), none]) (st' := [.inr (.inr (.inl (some (77))))]) (h' := h60) rfl ?_
            refine wq_gr (p' := 41) (ck_197 _ _ rfl) rfl (congrArg Prod.fst (ly_k I61.1.1.1 77 rfl)) rfl (ly_g I61.1.1.1 77 56 118 rfl) ?_
            refine av_wp_sqF ck_197 2 (pc' := 43) (lv' := [some (.inr (.inr (.inl (some (77))))), some (.inl x), some (.inl l), some (.inl k16), none]) (st' := [.inr (.inr (.inl (some (77)))), .inl k16, .inr (.inr (.inl (some (118))))]) (h' := h60) rfl ?_
            obtain ⟨v63, e64⟩ : ∃ v, hF h60 77 50 = v := ⟨_, rfl⟩
            have g65 := im_has I61.1.1
            rw [e64] at g65
            refine wq_gb (p' := 46) (ck_197 _ _ rfl) rfl (congrArg Prod.fst (ly_k I61.1.1.1 77 rfl)) rfl (e64) ?_
            refine im_zs (p' := 47) (l := 1024) rfl rfl I61 F62 (ly_k I61.1.1.1 118 rfl) (by omega) (by omega) (by omega) (fun h66 I67 F68 => ?_)
            refine av_wp_sqF ck_197 2 (pc' := 24) (lv' := [some (.inr (.inr (.inl (some (77))))), some (.inl x), some (.inl l), some (.inl (k16 + (1))), none]) (st' := []) (h' := h66) rfl ?_
            exact I22 _ (by omega) ((k16 + (1))) h66 (by omega) I67 F68 rfl
      exact L21 _ ((0)) h1 (by omega) I2 F3 rfl
    · have c15 : (12) < a6 := c15
      refine av_wp_sqF ck_197 1 (pc' := 21) (lv' := [some (.inr (.inr (.inl (some (77))))), some (.inl x), some (.inl l), none, none]) (st' := [.inl (-2)]) (h' := h1) rfl ?_
      refine av_wp_ret (v := some (.inl (-2))) (ck_197 _ _ rfl) rfl rfl ?_
      exact hq _ _ _ _ h1 I2 F3

set_option maxRecDepth 100000 in
set_option maxHeartbeats 4000000 in
theorem ct_200 {g h : av_H} {n a m : Int} (I : IMF n a m h) (F : FM g h) (x : Int) (qx : -2147483648 ≤ x ∧ x ≤ 2147483647) (l : Int) (ql : -2147483648 ≤ l ∧ l ≤ 2147483647) (y : Int) (qy : 0 ≤ y ∧ y ≤ 7) {Q : Option av_V → av_H → Prop} (hq : ∀ (v : Int) n' a' m' h', (v = 0 ∨ v = 1) → IMF n' a' m' h' → FM g h' → Q (some (.inl v)) h') : av_wp none cd_200 0 [some (.inr (.inr (.inl (some (77))))), some (.inl x), some (.inl l), some (.inl y), none, none, none] [] h Q := by
  have gn := im_n I.1.1
  rw [I.2.1] at gn
  have ga := im_a I.1.1
  rw [I.2.2.1] at ga
  have gm := im_cm I.1.1
  rw [I.2.2.2] at gm
  refine av_wp_sqF ck_200 4 (pc' := 4) (lv' := [some (.inr (.inr (.inl (some (77))))), some (.inl x), some (.inl l), some (.inl y), none, none, none]) (st' := [.inl (0), .inl l, .inl x, .inr (.inr (.inl (some (77))))]) (h' := h) rfl ?_
  refine wq_cv (p' := 7) (av_qc (.invokevirtual 446) 186 3 0 8) 4 cd_186 [.inl (0), .inl l, .inl x] (77) 8 [some (.inr (.inr (.inl (some (77))))), some (.inl x), some (.inl l), some (.inl (0))] (ck_200 _ _ rfl) rfl rfl pp_186 rfl rfl rfl (congrArg Prod.fst (ly_k I.1.1.1 77 rfl)) rfl rfl rfl rfl ?_
  refine ct_186 I F (x) (by omega) (l) (by omega) ((0)) (by omega) (fun n5 a6 m7 h1 I2 F3 => ?_) (fun n5 a6 m7 h1 p4 I2 F3 => ?_)
  · have g8 := im_n I2.1.1
    rw [I2.2.1] at g8
    have g9 := im_a I2.1.1
    rw [I2.2.2.1] at g9
    have g10 := im_cm I2.1.1
    rw [I2.2.2.2] at g10
    show av_wp _ cd_200 7 [some (.inr (.inr (.inl (some (77))))), some (.inl x), some (.inl l), some (.inl y), none, none, none] [.inl (0)] h1 _
    refine av_wp_sqF ck_200 2 (pc' := 11) (lv' := [some (.inr (.inr (.inl (some (77))))), some (.inl x), some (.inl l), some (.inl y), none, none, none]) (st' := [.inl (0)]) (h' := h1) rfl ?_
    refine av_wp_ret (v := some (.inl (0))) (ck_200 _ _ rfl) rfl rfl ?_
    exact hq _ _ _ _ h1 (by omega) I2 F3
  · have g11 := im_n I2.1.1
    rw [I2.2.1] at g11
    have g12 := im_a I2.1.1
    rw [I2.2.2.1] at g12
    have g13 := im_cm I2.1.1
    rw [I2.2.2.2] at g13
    show av_wp _ cd_200 7 [some (.inr (.inr (.inl (some (77))))), some (.inl x), some (.inl l), some (.inl y), none, none, none] [.inl (1)] h1 _
    refine av_wp_sqF ck_200 3 (pc' := 14) (lv' := [some (.inr (.inr (.inl (some (77))))), some (.inl x), some (.inl l), some (.inl y), none, none, none]) (st' := [.inl (0), .inr (.inr (.inl (some (77))))]) (h' := h1) rfl ?_
    refine im_pf (p' := 17) rfl rfl I2 F3 (by omega) rfl (fun h14 I15 F16 => ?_)
    refine av_wp_sqF ck_200 2 (pc' := 19) (lv' := [some (.inr (.inr (.inl (some (77))))), some (.inl x), some (.inl l), some (.inl y), none, none, none]) (st' := [.inl (-1), .inr (.inr (.inl (some (77))))]) (h' := h14) rfl ?_
    refine im_pf (p' := 22) rfl rfl I15 F16 (by omega) rfl (fun h17 I18 F19 => ?_)
    refine av_wp_sqF ck_200 2 (pc' := 25) (lv' := [some (.inr (.inr (.inl (some (77))))), some (.inl x), some (.inl l), some (.inl y), some (.inl (0)), none, none]) (st' := []) (h' := h17) rfl ?_
    have L26 : ∀ (m25 : Nat) (k20 : Int) (a21 : Option av_V) (h22 : av_H), av_lg a21 = false → (0 ≤ k20 ∧ k20 ≤ 1025) → IMF n5 a6 m7 h22 → FM g h22 → (1025 - k20).toNat = m25 → av_wp none cd_200 25 [some (.inr (.inr (.inl (some (77))))), some (.inl x), some (.inl l), some (.inl y), some (.inl k20), a21, none] [] h22 Q := by
      intro m25
      induction m25 using Nat.strongRecOn with
      | _ m25 I27 =>
        intro k20 a21 h22 g29 g30 I23 F24 e28
        have la21 := g29
        refine av_wp_sqF ck_200 2 (pc' := 28) (lv' := [some (.inr (.inr (.inl (some (77))))), some (.inl x), some (.inl l), some (.inl y), some (.inl k20), a21, none]) (st' := [.inr (.inr (.inl (some (77)))), .inl k20]) (h' := h22) rfl ?_
        refine wq_gi (p' := 31) (ck_200 _ _ rfl) rfl (congrArg Prod.fst (ly_k I23.1.1.1 77 rfl)) rfl (I23.2.2.2) ?_
        refine wq_k2 (p' := 34) (ck_200 _ _ rfl) rfl ⟨by omega, by omega⟩ ⟨by omega, by omega⟩ (fun c31 => ?_) (fun c32 => ?_)
        · have c31 : m7 ≤ k20 := c31
          refine av_wp_sqF ck_200 3 (pc' := 115) (lv' := [some (.inr (.inr (.inl (some (77))))), some (.inl x), some (.inl l), some (.inl y), some (.inl k20), a21, none]) (st' := [.inl (0), .inl y, .inr (.inr (.inl (some (77))))]) (h' := h22) rfl ?_
          refine wq_cv (p' := 118) (av_qc (.invokevirtual 348) 159 2 0 8) 5 cd_159 [.inl (0), .inl y] (77) 8 [some (.inr (.inr (.inl (some (77))))), some (.inl y), some (.inl (0)), none, none] (ck_200 _ _ rfl) rfl rfl pp_159 rfl rfl rfl (congrArg Prod.fst (ly_k I23.1.1.1 77 rfl)) rfl rfl rfl rfl ?_
          refine ct_159 I23 F24 (y) (by omega) ((0)) (fun h35 I36 F37 => ?_)
          show av_wp _ cd_200 118 [some (.inr (.inr (.inl (some (77))))), some (.inl x), some (.inl l), some (.inl y), some (.inl k20), a21, none] [] h35 _
          refine av_wp_sqF ck_200 2 (pc' := 120) (lv' := [some (.inr (.inr (.inl (some (77))))), some (.inl x), some (.inl l), some (.inl y), some (.inl k20), a21, none]) (st' := [.inl x, .inr (.inr (.inl (some (77))))]) (h' := h35) rfl ?_
          refine wq_cv (p' := 123) (av_qc (.invokevirtual 440) 185 1 0 8) 4 cd_185 [.inl x] (77) 8 [some (.inr (.inr (.inl (some (77))))), some (.inl x), none, none] (ck_200 _ _ rfl) rfl rfl pp_185 rfl rfl rfl (congrArg Prod.fst (ly_k I36.1.1.1 77 rfl)) rfl rfl rfl rfl ?_
          refine ct_185 I36 F37 (x) (by omega) (by have z1 := congrFun (F.2.2.2.2.2.2 78 rfl) 0; omega) (fun n43 a44 m45 h40 p39 I41 F42 => ?_)
          have g46 := im_n I41.1.1
          rw [I41.2.1] at g46
          have g47 := im_a I41.1.1
          rw [I41.2.2.1] at g47
          have g48 := im_cm I41.1.1
          rw [I41.2.2.2] at g48
          show av_wp _ cd_200 123 [some (.inr (.inr (.inl (some (77))))), some (.inl x), some (.inl l), some (.inl y), some (.inl k20), a21, none] [] h40 _
          refine av_wp_sqF ck_200 2 (pc' := 126) (lv' := [some (.inr (.inr (.inl (some (77))))), some (.inl x), some (.inl l), some (.inl y), some (.inl (0)), a21, none]) (st' := []) (h' := h40) rfl ?_
          have L56 : ∀ (m55 : Nat) (k49 : Int) (a50 : Option av_V) (a51 : Option av_V) (h52 : av_H), av_lg a50 = false → av_lg a51 = false → (0 ≤ k49 ∧ k49 ≤ 1025) → IMF n43 a44 m45 h52 → FM g h52 → (1025 - k49).toNat = m55 → av_wp none cd_200 126 [some (.inr (.inr (.inl (some (77))))), some (.inl x), some (.inl l), some (.inl y), some (.inl k49), a50, a51] [] h52 Q := by
            intro m55
            induction m55 using Nat.strongRecOn with
            | _ m55 I57 =>
              intro k49 a50 a51 h52 g59 g60 g61 I53 F54 e58
              have la50 := g59
              have la51 := g60
              refine av_wp_sqF ck_200 2 (pc' := 129) (lv' := [some (.inr (.inr (.inl (some (77))))), some (.inl x), some (.inl l), some (.inl y), some (.inl k49), a50, a51]) (st' := [.inr (.inr (.inl (some (77)))), .inl k49]) (h' := h52) rfl ?_
              refine wq_gi (p' := 132) (ck_200 _ _ rfl) rfl (congrArg Prod.fst (ly_k I53.1.1.1 77 rfl)) rfl (I53.2.2.2) ?_
              refine wq_k2 (p' := 135) (ck_200 _ _ rfl) rfl ⟨by omega, by omega⟩ ⟨by omega, by omega⟩ (fun c62 => ?_) (fun c63 => ?_)
              · have c62 : m45 ≤ k49 := c62
                refine av_wp_sqF ck_200 1 (pc' := 266) (lv' := [some (.inr (.inr (.inl (some (77))))), some (.inl x), some (.inl l), some (.inl y), some (.inl k49), a50, a51]) (st' := [.inl (1)]) (h' := h52) rfl ?_
                refine av_wp_ret (v := some (.inl (1))) (ck_200 _ _ rfl) rfl rfl ?_
                exact hq _ _ _ _ h52 (by omega) I53 F54
              · have c63 : k49 < m45 := c63
                refine av_wp_sqF ck_200 2 (pc' := 138) (lv' := [some (.inr (.inr (.inl (some (77))))), some (.inl x), some (.inl l), some (.inl y), some (.inl k49), a50, a51]) (st' := [.inl k49, .inr (.inr (.inl (some (77))))]) (h' := h52) rfl ?_
                refine wq_cv (p' := 141) (av_qc (.invokevirtual 431) 181 1 0 8) 2 cd_181 [.inl k49] (77) 8 [some (.inr (.inr (.inl (some (77))))), some (.inl k49)] (ck_200 _ _ rfl) rfl rfl pp_181 rfl rfl rfl (congrArg Prod.fst (ly_k I53.1.1.1 77 rfl)) rfl rfl rfl rfl ?_
                refine ct_181 I53 F54 (k49) (fun h66 I67 F68 => ?_)
                show av_wp _ cd_200 141 [some (.inr (.inr (.inl (some (77))))), some (.inl x), some (.inl l), some (.inl y), some (.inl k49), a50, a51] [] h66 _
                refine av_wp_sqF ck_200 1 (pc' := 142) (lv' := [some (.inr (.inr (.inl (some (77))))), some (.inl x), some (.inl l), some (.inl y), some (.inl k49), a50, a51]) (st' := [.inr (.inr (.inl (some (77))))]) (h' := h66) rfl ?_
                refine wq_gr (p' := 145) (ck_200 _ _ rfl) rfl (congrArg Prod.fst (ly_k I67.1.1.1 77 rfl)) rfl (ly_g I67.1.1.1 77 58 120 rfl) ?_
                refine av_wp_sqF ck_200 1 (pc' := 147) (lv' := [some (.inr (.inr (.inl (some (77))))), some (.inl x), some (.inl l), some (.inl y), some (.inl k49), a50, a51]) (st' := [.inl k49, .inr (.inr (.inl (some (120))))]) (h' := h66) rfl ?_
                obtain ⟨v69, e70⟩ : ∃ v, hA h66 120 (Int.toNat (k49)) = v := ⟨_, rfl⟩
                refine wq_al (p' := 148) (n := 1024) (ck_200 _ _ rfl) rfl (ly_k I67.1.1.1 120 rfl) (by omega) (e70) ?_
                refine av_wp_sqF ck_200 1 (pc' := 149) (lv' := [some (.inr (.inr (.inl (some (77))))), some (.inl x), some (.inl l), some (.inl y), some (.inl k49), a50, a51]) (st' := [.inr (.inr (.inl (some (77)))), .inl v69]) (h' := h66) rfl ?_
                obtain ⟨v72, e73⟩ : ∃ v, hF h66 77 50 = v := ⟨_, rfl⟩
                have g74 := im_has I67.1.1
                rw [e73] at g74
                refine wq_gb (p' := 152) (ck_200 _ _ rfl) rfl (congrArg Prod.fst (ly_k I67.1.1.1 77 rfl)) rfl (e73) ?_
                have J76 : ∀ (j75 : Int),  av_wp none cd_200 163 [some (.inr (.inr (.inl (some (77))))), some (.inl x), some (.inl l), some (.inl y), some (.inl k49), a50, a51] [.inl j75, .inl v69] h66 Q := by
                  intro j75
                  have J79 : ∀ (j77 : Int), (0 ≤ j77 ∧ j77 ≤ 1) →  av_wp none cd_200 171 [some (.inr (.inr (.inl (some (77))))), some (.inl x), some (.inl l), some (.inl y), some (.inl k49), a50, a51] [.inl j77] h66 Q := by
                    intro j77 g78
                    refine av_wp_sqF ck_200 3 (pc' := 176) (lv' := [some (.inr (.inr (.inl (some (77))))), some (.inl x), some (.inl l), some (.inl y), some (.inl k49), some (.inl j77), some (.inl (0))]) (st' := []) (h' := h66) rfl ?_
                    have L86 : ∀ (m85 : Nat) (k80 : Int) (k81 : Int) (h82 : av_H), (0 ≤ k81 ∧ k81 ≤ 5) → IMF n43 a44 m45 h82 → FM g h82 → (5 - k81).toNat = m85 → av_wp none cd_200 176 [some (.inr (.inr (.inl (some (77))))), some (.inl x), some (.inl l), some (.inl y), some (.inl k49), some (.inl k80), some (.inl k81)] [] h82 Q := by
                      intro m85
                      induction m85 using Nat.strongRecOn with
                      | _ m85 I87 =>
                        intro k80 k81 h82 g89 I83 F84 e88
                        refine av_wp_sqF ck_200 2 (pc' := 179) (lv' := [some (.inr (.inr (.inl (some (77))))), some (.inl x), some (.inl l), some (.inl y), some (.inl k49), some (.inl k80), some (.inl k81)]) (st' := [.inl (5), .inl k81]) (h' := h82) rfl ?_
                        have J90 : av_wp none cd_200 228 [some (.inr (.inr (.inl (some (77))))), some (.inl x), some (.inl l), some (.inl y), some (.inl k49), some (.inl k80), some (.inl k81)] [] h82 Q := by
                          refine av_wp_sqF ck_200 1 (pc' := 230) (lv' := [some (.inr (.inr (.inl (some (77))))), some (.inl x), some (.inl l), some (.inl y), some (.inl k49), some (.inl k80), some (.inl k81)]) (st' := [.inl k80]) (h' := h82) rfl ?_
                          have J94 : ∀  (h91 : av_H), IMF n43 a44 m45 h91 → FM g h91 →  av_wp none cd_200 259 [some (.inr (.inr (.inl (some (77))))), some (.inl x), some (.inl l), some (.inl y), some (.inl k49), some (.inl k80), some (.inl k81)] [] h91 Q := by
                            intro h91 I92 F93
                            refine av_wp_sqF ck_200 2 (pc' := 126) (lv' := [some (.inr (.inr (.inl (some (77))))), some (.inl x), some (.inl l), some (.inl y), some (.inl (k49 + (1))), some (.inl k80), some (.inl k81)]) (st' := []) (h' := h91) rfl ?_
                            exact I57 _ (by omega) ((k49 + (1))) (some (.inl k80)) (some (.inl k81)) h91 rfl rfl (by omega) I92 F93 rfl
                          refine wq_c1 (p' := 233) (ck_200 _ _ rfl) rfl ?_ ?_
                          · refine av_wp_sqF ck_200 2 (pc' := 238) (lv' := [some (.inr (.inr (.inl (some (77))))), some (.inl x), some (.inl l), some (.inl y), some (.inl k49), some (.inl k80), some (.inl k81)]) (st' := [.inr (.inr (.inl (some (77)))), .inr (.inr (.inl (some (77))))]) (h' := h82) rfl ?_
                            obtain ⟨v95, e96⟩ : ∃ v, hF h82 77 60 = v := ⟨_, rfl⟩
                            refine wq_gi (p' := 241) (ck_200 _ _ rfl) rfl (congrArg Prod.fst (ly_k I83.1.1.1 77 rfl)) rfl (e96) ?_
                            refine av_wp_sqF ck_200 2 (pc' := 243) (lv' := [some (.inr (.inr (.inl (some (77))))), some (.inl x), some (.inl l), some (.inl y), some (.inl k49), some (.inl k80), some (.inl k81)]) (st' := [.inl (v95 + (1)), .inr (.inr (.inl (some (77))))]) (h' := h82) rfl ?_
                            refine im_pf (p' := 246) rfl rfl I83 F84 (by omega) rfl (fun h97 I98 F99 => ?_)
                            refine av_wp_sqF ck_200 1 (pc' := 247) (lv' := [some (.inr (.inr (.inl (some (77))))), some (.inl x), some (.inl l), some (.inl y), some (.inl k49), some (.inl k80), some (.inl k81)]) (st' := [.inr (.inr (.inl (some (77))))]) (h' := h97) rfl ?_
                            obtain ⟨v100, e101⟩ : ∃ v, hF h97 77 61 = v := ⟨_, rfl⟩
                            refine wq_gi (p' := 250) (ck_200 _ _ rfl) rfl (congrArg Prod.fst (ly_k I98.1.1.1 77 rfl)) rfl (e101) ?_
                            refine wq_c1 (p' := 253) (ck_200 _ _ rfl) rfl ?_ ?_
                            · exact J94 h97 I98 F99
                            · refine av_wp_sqF ck_200 2 (pc' := 256) (lv' := [some (.inr (.inr (.inl (some (77))))), some (.inl x), some (.inl l), some (.inl y), some (.inl k49), some (.inl k80), some (.inl k81)]) (st' := [.inl k49, .inr (.inr (.inl (some (77))))]) (h' := h97) rfl ?_
                              refine im_pf (p' := 259) rfl rfl I98 F99 (by omega) rfl (fun h102 I103 F104 => ?_)
                              exact J94 h102 I103 F104
                          · refine av_wp_sqF ck_200 1 (pc' := 259) (lv' := [some (.inr (.inr (.inl (some (77))))), some (.inl x), some (.inl l), some (.inl y), some (.inl k49), some (.inl k80), some (.inl k81)]) (st' := []) (h' := h82) rfl ?_
                            exact J94 h82 I83 F84
                        refine wq_k2 (p' := 182) (ck_200 _ _ rfl) rfl ⟨by omega, by omega⟩ ⟨by omega, by omega⟩ (fun c105 => ?_) (fun c106 => ?_)
                        · have c105 : (5) ≤ k81 := c105
                          exact J90 
                        · have c106 : k81 < (5) := c106
                          refine av_wp_sqF ck_200 1 (pc' := 183) (lv' := [some (.inr (.inr (.inl (some (77))))), some (.inl x), some (.inl l), some (.inl y), some (.inl k49), some (.inl k80), some (.inl k81)]) (st' := [.inr (.inr (.inl (some (77))))]) (h' := h82) rfl ?_
                          obtain ⟨v107, e108⟩ : ∃ v, hF h82 77 50 = v := ⟨_, rfl⟩
                          have g109 := im_has I83.1.1
                          rw [e108] at g109
                          refine wq_gb (p' := 186) (ck_200 _ _ rfl) rfl (congrArg Prod.fst (ly_k I83.1.1.1 77 rfl)) rfl (e108) ?_
                          refine wq_k1 (p' := 189) (ck_200 _ _ rfl) rfl ⟨by omega, by omega⟩ (fun c110 => ?_) (fun c111 => ?_)
                          · have c110 : v107 = (0) := c110
                            exact J90 
                          · have c111 : v107 ≠ (0) := c111
                            refine av_wp_sqF ck_200 1 (pc' := 191) (lv' := [some (.inr (.inr (.inl (some (77))))), some (.inl x), some (.inl l), some (.inl y), some (.inl k49), some (.inl k80), some (.inl k81)]) (st' := [.inl k80]) (h' := h82) rfl ?_
                            have J114 : ∀ (j112 : Int), (0 ≤ j112 ∧ j112 ≤ 1) →  av_wp none cd_200 220 [some (.inr (.inr (.inl (some (77))))), some (.inl x), some (.inl l), some (.inl y), some (.inl k49), some (.inl k80), some (.inl k81)] [.inl j112] h82 Q := by
                              intro j112 g113
                              refine av_wp_sqF ck_200 3 (pc' := 176) (lv' := [some (.inr (.inr (.inl (some (77))))), some (.inl x), some (.inl l), some (.inl y), some (.inl k49), some (.inl j112), some (.inl (k81 + (1)))]) (st' := []) (h' := h82) rfl ?_
                              exact I87 _ (by omega) (j112) ((k81 + (1))) h82 (by omega) I83 F84 rfl
                            refine wq_c1 (p' := 194) (ck_200 _ _ rfl) rfl ?_ ?_
                            · refine av_wp_sqF ck_200 2 (pc' := 220) (lv' := [some (.inr (.inr (.inl (some (77))))), some (.inl x), some (.inl l), some (.inl y), some (.inl k49), some (.inl k80), some (.inl k81)]) (st' := [.inl (1)]) (h' := h82) rfl ?_
                              exact J114 ((1)) (by omega)
                            · refine av_wp_sqF ck_200 1 (pc' := 195) (lv' := [some (.inr (.inr (.inl (some (77))))), some (.inl x), some (.inl l), some (.inl y), some (.inl k49), some (.inl k80), some (.inl k81)]) (st' := [.inr (.inr (.inl (some (77))))]) (h' := h82) rfl ?_
                              refine wq_gr (p' := 198) (ck_200 _ _ rfl) rfl (congrArg Prod.fst (ly_k I83.1.1.1 77 rfl)) rfl (ly_g I83.1.1.1 77 59 121 rfl) ?_
                              refine av_wp_sqF ck_200 5 (pc' := 205) (lv' := [some (.inr (.inr (.inl (some (77))))), some (.inl x), some (.inl l), some (.inl y), some (.inl k49), some (.inl k80), some (.inl k81)]) (st' := [.inl (((5) * k49) + k81), .inr (.inr (.inl (some (121))))]) (h' := h82) rfl ?_
                              obtain ⟨v115, e116⟩ : ∃ v, hA h82 121 (Int.toNat ((((5) * k49) + k81))) = v := ⟨_, rfl⟩
                              refine wq_al (p' := 206) (n := 5120) (ck_200 _ _ rfl) rfl (ly_k I83.1.1.1 121 rfl) (by omega) (e116) ?_
                              refine av_wp_sqF ck_200 2 (pc' := 209) (lv' := [some (.inr (.inr (.inl (some (77))))), some (.inl x), some (.inl l), some (.inl y), some (.inl k49), some (.inl k80), some (.inl k81)]) (st' := [.inl k81, .inr (.inr (.inl (some (77)))), .inl v115]) (h' := h82) rfl ?_
                              refine wq_cv (p' := 212) (av_qc (.invokevirtual 449) 183 1 0 8) 3 cd_183 [.inl k81] (77) 8 [some (.inr (.inr (.inl (some (77))))), some (.inl k81), none] (ck_200 _ _ rfl) rfl rfl pp_183 rfl rfl rfl (congrArg Prod.fst (ly_k I83.1.1.1 77 rfl)) rfl rfl rfl rfl ?_
                              refine ct_183 I83 F84 (k81) (by omega) (fun v118 => ?_)
                              show av_wp _ cd_200 212 [some (.inr (.inr (.inl (some (77))))), some (.inl x), some (.inl l), some (.inl y), some (.inl k49), some (.inl k80), some (.inl k81)] [.inl v118, .inl v115] h82 _
                              refine wq_c2 (p' := 215) (ck_200 _ _ rfl) rfl ?_ ?_
                              · refine av_wp_sqF ck_200 1 (pc' := 220) (lv' := [some (.inr (.inr (.inl (some (77))))), some (.inl x), some (.inl l), some (.inl y), some (.inl k49), some (.inl k80), some (.inl k81)]) (st' := [.inl (0)]) (h' := h82) rfl ?_
                                exact J114 ((0)) (by omega)
                              · refine av_wp_sqF ck_200 2 (pc' := 220) (lv' := [some (.inr (.inr (.inl (some (77))))), some (.inl x), some (.inl l), some (.inl y), some (.inl k49), some (.inl k80), some (.inl k81)]) (st' := [.inl (1)]) (h' := h82) rfl ?_
                                exact J114 ((1)) (by omega)
                    exact L86 _ (j77) ((0)) h66 (by omega) I67 F68 rfl
                  refine wq_c2 (p' := 166) (ck_200 _ _ rfl) rfl ?_ ?_
                  · refine av_wp_sqF ck_200 1 (pc' := 171) (lv' := [some (.inr (.inr (.inl (some (77))))), some (.inl x), some (.inl l), some (.inl y), some (.inl k49), a50, a51]) (st' := [.inl (0)]) (h' := h66) rfl ?_
                    exact J79 ((0)) (by omega)
                  · refine av_wp_sqF ck_200 2 (pc' := 171) (lv' := [some (.inr (.inr (.inl (some (77))))), some (.inl x), some (.inl l), some (.inl y), some (.inl k49), a50, a51]) (st' := [.inl (1)]) (h' := h66) rfl ?_
                    exact J79 ((1)) (by omega)
                refine wq_k1 (p' := 155) (ck_200 _ _ rfl) rfl ⟨by omega, by omega⟩ (fun c120 => ?_) (fun c121 => ?_)
                · have c120 : v72 = (0) := c120
                  refine av_wp_sqF ck_200 1 (pc' := 163) (lv' := [some (.inr (.inr (.inl (some (77))))), some (.inl x), some (.inl l), some (.inl y), some (.inl k49), a50, a51]) (st' := [.inl (-1), .inl v69]) (h' := h66) rfl ?_
                  exact J76 ((-1))
                · have c121 : v72 ≠ (0) := c121
                  refine av_wp_sqF ck_200 1 (pc' := 156) (lv' := [some (.inr (.inr (.inl (some (77))))), some (.inl x), some (.inl l), some (.inl y), some (.inl k49), a50, a51]) (st' := [.inr (.inr (.inl (some (77)))), .inl v69]) (h' := h66) rfl ?_
                  obtain ⟨v122, e123⟩ : ∃ v, hF h66 77 53 = v := ⟨_, rfl⟩
                  refine wq_gi (p' := 159) (ck_200 _ _ rfl) rfl (congrArg Prod.fst (ly_k I67.1.1.1 77 rfl)) rfl (e123) ?_
                  refine av_wp_sqF ck_200 1 (pc' := 163) (lv' := [some (.inr (.inr (.inl (some (77))))), some (.inl x), some (.inl l), some (.inl y), some (.inl k49), a50, a51]) (st' := [.inl v122, .inl v69]) (h' := h66) rfl ?_
                  exact J76 (v122)
          exact L56 _ ((0)) (a21) (none) h40 la21 rfl (by omega) I41 F42 rfl
        · have c32 : k20 < m7 := c32
          refine av_wp_sqF ck_200 2 (pc' := 37) (lv' := [some (.inr (.inr (.inl (some (77))))), some (.inl x), some (.inl l), some (.inl y), some (.inl k20), a21, none]) (st' := [.inl k20, .inr (.inr (.inl (some (77))))]) (h' := h22) rfl ?_
          refine wq_cv (p' := 40) (av_qc (.invokevirtual 431) 181 1 0 8) 2 cd_181 [.inl k20] (77) 8 [some (.inr (.inr (.inl (some (77))))), some (.inl k20)] (ck_200 _ _ rfl) rfl rfl pp_181 rfl rfl rfl (congrArg Prod.fst (ly_k I23.1.1.1 77 rfl)) rfl rfl rfl rfl ?_
          refine ct_181 I23 F24 (k20) (fun h126 I127 F128 => ?_)
          show av_wp _ cd_200 40 [some (.inr (.inr (.inl (some (77))))), some (.inl x), some (.inl l), some (.inl y), some (.inl k20), a21, none] [] h126 _
          refine av_wp_sqF ck_200 1 (pc' := 41) (lv' := [some (.inr (.inr (.inl (some (77))))), some (.inl x), some (.inl l), some (.inl y), some (.inl k20), a21, none]) (st' := [.inr (.inr (.inl (some (77))))]) (h' := h126) rfl ?_
          refine wq_gr (p' := 44) (ck_200 _ _ rfl) rfl (congrArg Prod.fst (ly_k I127.1.1.1 77 rfl)) rfl (ly_g I127.1.1.1 77 58 120 rfl) ?_
          refine av_wp_sqF ck_200 2 (pc' := 47) (lv' := [some (.inr (.inr (.inl (some (77))))), some (.inl x), some (.inl l), some (.inl y), some (.inl k20), a21, none]) (st' := [.inr (.inr (.inl (some (77)))), .inl k20, .inr (.inr (.inl (some (120))))]) (h' := h126) rfl ?_
          obtain ⟨v129, e130⟩ : ∃ v, hF h126 77 50 = v := ⟨_, rfl⟩
          have g131 := im_has I127.1.1
          rw [e130] at g131
          refine wq_gb (p' := 50) (ck_200 _ _ rfl) rfl (congrArg Prod.fst (ly_k I127.1.1.1 77 rfl)) rfl (e130) ?_
          have J133 : ∀ (j132 : Int),  av_wp none cd_200 61 [some (.inr (.inr (.inl (some (77))))), some (.inl x), some (.inl l), some (.inl y), some (.inl k20), a21, none] [.inl j132, .inl k20, .inr (.inr (.inl (some (120))))] h126 Q := by
            intro j132
            refine im_as (p' := 62) (l := 1024) rfl rfl I127 F128 (ly_k I127.1.1.1 120 rfl) (by omega) (by omega) (fun h134 I135 F136 => ?_)
            refine av_wp_sqF ck_200 2 (pc' := 65) (lv' := [some (.inr (.inr (.inl (some (77))))), some (.inl x), some (.inl l), some (.inl y), some (.inl k20), some (.inl (0)), none]) (st' := []) (h' := h134) rfl ?_
            have L142 : ∀ (m141 : Nat) (k137 : Int) (h138 : av_H), (0 ≤ k137 ∧ k137 ≤ 5) → IMF n5 a6 m7 h138 → FM g h138 → (5 - k137).toNat = m141 → av_wp none cd_200 65 [some (.inr (.inr (.inl (some (77))))), some (.inl x), some (.inl l), some (.inl y), some (.inl k20), some (.inl k137), none] [] h138 Q := by
              intro m141
              induction m141 using Nat.strongRecOn with
              | _ m141 I143 =>
                intro k137 h138 g145 I139 F140 e144
                refine av_wp_sqF ck_200 2 (pc' := 68) (lv' := [some (.inr (.inr (.inl (some (77))))), some (.inl x), some (.inl l), some (.inl y), some (.inl k20), some (.inl k137), none]) (st' := [.inl (5), .inl k137]) (h' := h138) rfl ?_
                refine wq_k2 (p' := 71) (ck_200 _ _ rfl) rfl ⟨by omega, by omega⟩ ⟨by omega, by omega⟩ (fun c146 => ?_) (fun c147 => ?_)
                · have c146 : (5) ≤ k137 := c146
                  refine av_wp_sqF ck_200 2 (pc' := 25) (lv' := [some (.inr (.inr (.inl (some (77))))), some (.inl x), some (.inl l), some (.inl y), some (.inl (k20 + (1))), some (.inl k137), none]) (st' := []) (h' := h138) rfl ?_
                  exact I27 _ (by omega) ((k20 + (1))) (some (.inl k137)) h138 rfl (by omega) I139 F140 rfl
                · have c147 : k137 < (5) := c147
                  refine av_wp_sqF ck_200 1 (pc' := 72) (lv' := [some (.inr (.inr (.inl (some (77))))), some (.inl x), some (.inl l), some (.inl y), some (.inl k20), some (.inl k137), none]) (st' := [.inr (.inr (.inl (some (77))))]) (h' := h138) rfl ?_
                  refine wq_gr (p' := 75) (ck_200 _ _ rfl) rfl (congrArg Prod.fst (ly_k I139.1.1.1 77 rfl)) rfl (ly_g I139.1.1.1 77 59 121 rfl) ?_
                  refine av_wp_sqF ck_200 6 (pc' := 83) (lv' := [some (.inr (.inr (.inl (some (77))))), some (.inl x), some (.inl l), some (.inl y), some (.inl k20), some (.inl k137), none]) (st' := [.inr (.inr (.inl (some (77)))), .inl (((5) * k20) + k137), .inr (.inr (.inl (some (121))))]) (h' := h138) rfl ?_
                  obtain ⟨v148, e149⟩ : ∃ v, hF h138 77 50 = v := ⟨_, rfl⟩
                  have g150 := im_has I139.1.1
                  rw [e149] at g150
                  refine wq_gb (p' := 86) (ck_200 _ _ rfl) rfl (congrArg Prod.fst (ly_k I139.1.1.1 77 rfl)) rfl (e149) ?_
                  have J152 : ∀ (j151 : Int),  av_wp none cd_200 99 [some (.inr (.inr (.inl (some (77))))), some (.inl x), some (.inl l), some (.inl y), some (.inl k20), some (.inl k137), none] [.inl j151, .inl (((5) * k20) + k137), .inr (.inr (.inl (some (121))))] h138 Q := by
                    intro j151
                    refine im_as (p' := 100) (l := 5120) rfl rfl I139 F140 (ly_k I139.1.1.1 121 rfl) (by omega) (by omega) (fun h153 I154 F155 => ?_)
                    refine av_wp_sqF ck_200 2 (pc' := 65) (lv' := [some (.inr (.inr (.inl (some (77))))), some (.inl x), some (.inl l), some (.inl y), some (.inl k20), some (.inl (k137 + (1))), none]) (st' := []) (h' := h153) rfl ?_
                    exact I143 _ (by omega) ((k137 + (1))) h153 (by omega) I154 F155 rfl
                  refine wq_k1 (p' := 89) (ck_200 _ _ rfl) rfl ⟨by omega, by omega⟩ (fun c156 => ?_) (fun c157 => ?_)
                  · have c156 : v148 = (0) := c156
                    refine av_wp_sqF ck_200 1 (pc' := 99) (lv' := [some (.inr (.inr (.inl (some (77))))), some (.inl x), some (.inl l), some (.inl y), some (.inl k20), some (.inl k137), none]) (st' := [.inl (-1), .inl (((5) * k20) + k137), .inr (.inr (.inl (some (121))))]) (h' := h138) rfl ?_
                    exact J152 ((-1))
                  · have c157 : v148 ≠ (0) := c157
                    refine av_wp_sqF ck_200 2 (pc' := 92) (lv' := [some (.inr (.inr (.inl (some (77))))), some (.inl x), some (.inl l), some (.inl y), some (.inl k20), some (.inl k137), none]) (st' := [.inl k137, .inr (.inr (.inl (some (77)))), .inl (((5) * k20) + k137), .inr (.inr (.inl (some (121))))]) (h' := h138) rfl ?_
                    refine wq_cv (p' := 95) (av_qc (.invokevirtual 449) 183 1 0 8) 3 cd_183 [.inl k137] (77) 8 [some (.inr (.inr (.inl (some (77))))), some (.inl k137), none] (ck_200 _ _ rfl) rfl rfl pp_183 rfl rfl rfl (congrArg Prod.fst (ly_k I139.1.1.1 77 rfl)) rfl rfl rfl rfl ?_
                    refine ct_183 I139 F140 (k137) (by omega) (fun v158 => ?_)
                    show av_wp _ cd_200 95 [some (.inr (.inr (.inl (some (77))))), some (.inl x), some (.inl l), some (.inl y), some (.inl k20), some (.inl k137), none] [.inl v158, .inl (((5) * k20) + k137), .inr (.inr (.inl (some (121))))] h138 _
                    refine av_wp_sqF ck_200 1 (pc' := 99) (lv' := [some (.inr (.inr (.inl (some (77))))), some (.inl x), some (.inl l), some (.inl y), some (.inl k20), some (.inl k137), none]) (st' := [.inl v158, .inl (((5) * k20) + k137), .inr (.inr (.inl (some (121))))]) (h' := h138) rfl ?_
                    exact J152 (v158)
            exact L142 _ ((0)) h134 (by omega) I135 F136 rfl
          refine wq_k1 (p' := 53) (ck_200 _ _ rfl) rfl ⟨by omega, by omega⟩ (fun c160 => ?_) (fun c161 => ?_)
          · have c160 : v129 = (0) := c160
            refine av_wp_sqF ck_200 1 (pc' := 61) (lv' := [some (.inr (.inr (.inl (some (77))))), some (.inl x), some (.inl l), some (.inl y), some (.inl k20), a21, none]) (st' := [.inl (-1), .inl k20, .inr (.inr (.inl (some (120))))]) (h' := h126) rfl ?_
            exact J133 ((-1))
          · have c161 : v129 ≠ (0) := c161
            refine av_wp_sqF ck_200 1 (pc' := 54) (lv' := [some (.inr (.inr (.inl (some (77))))), some (.inl x), some (.inl l), some (.inl y), some (.inl k20), a21, none]) (st' := [.inr (.inr (.inl (some (77)))), .inl k20, .inr (.inr (.inl (some (120))))]) (h' := h126) rfl ?_
            obtain ⟨v162, e163⟩ : ∃ v, hF h126 77 53 = v := ⟨_, rfl⟩
            refine wq_gi (p' := 57) (ck_200 _ _ rfl) rfl (congrArg Prod.fst (ly_k I127.1.1.1 77 rfl)) rfl (e163) ?_
            refine av_wp_sqF ck_200 1 (pc' := 61) (lv' := [some (.inr (.inr (.inl (some (77))))), some (.inl x), some (.inl l), some (.inl y), some (.inl k20), a21, none]) (st' := [.inl v162, .inl k20, .inr (.inr (.inl (some (120))))]) (h' := h126) rfl ?_
            exact J133 (v162)
    exact L26 _ ((0)) (none) h17 rfl (by omega) I18 F19 rfl

set_option maxRecDepth 100000 in
set_option maxHeartbeats 4000000 in
theorem ct_201 {g h : av_H} {n a m : Int} (I : IMF n a m h) (F : FM g h) (x : Int) (qx : -2147483648 ≤ x ∧ x ≤ 2147483647) (l : Int) (ql : -2147483648 ≤ l ∧ l ≤ 2147483647) (y : Int) (qy : -2147483648 ≤ y ∧ y ≤ 2147483647) (w : Int) (qw : -2147483648 ≤ w ∧ w ≤ 2147483647) {Q : Option av_V → av_H → Prop} (hq : ∀ (v : Int) n' a' m' h', IMF n' a' m' h' → FM g h' → Q (some (.inl v)) h') : av_wp none cd_201 0 [some (.inr (.inr (.inl (some (77))))), some (.inl x), some (.inl l), some (.inl y), some (.inl w)] [] h Q := by
  have gn := im_n I.1.1
  rw [I.2.1] at gn
  have ga := im_a I.1.1
  rw [I.2.2.1] at ga
  have gm := im_cm I.1.1
  rw [I.2.2.2] at gm
  refine av_wp_sqF ck_201 2 (pc' := 2) (lv' := [some (.inr (.inr (.inl (some (77))))), some (.inl x), some (.inl l), some (.inl y), some (.inl w)]) (st' := [.inl y, .inr (.inr (.inl (some (77))))]) (h' := h) rfl ?_
  refine wq_cv (p' := 5) (av_qc (.invokevirtual 345) 150 1 0 8) 2 cd_150 [.inl y] (77) 8 [some (.inr (.inr (.inl (some (77))))), some (.inl y)] (ck_201 _ _ rfl) rfl rfl pp_150 rfl rfl rfl (congrArg Prod.fst (ly_k I.1.1.1 77 rfl)) rfl rfl rfl rfl ?_
  refine ct_150 I.1 F (y) (by omega) (fun v1 p2 => ?_)
  show av_wp _ cd_201 5 [some (.inr (.inr (.inl (some (77))))), some (.inl x), some (.inl l), some (.inl y), some (.inl w)] [.inl v1] h _
  refine wq_k1 (p' := 8) (ck_201 _ _ rfl) rfl ⟨by omega, by omega⟩ (fun c3 => ?_) (fun c4 => ?_)
  · have c3 : v1 = (0) := c3
    refine av_wp_sqF ck_201 1 (pc' := 30) (lv' := [some (.inr (.inr (.inl (some (77))))), some (.inl x), some (.inl l), some (.inl y), some (.inl w)]) (st' := [.inl (-2)]) (h' := h) rfl ?_
    refine av_wp_ret (v := some (.inl (-2))) (ck_201 _ _ rfl) rfl rfl ?_
    exact hq _ _ _ _ h I F
  · have c4 : v1 ≠ (0) := c4
    refine av_wp_sqF ck_201 3 (pc' := 12) (lv' := [some (.inr (.inr (.inl (some (77))))), some (.inl x), some (.inl l), some (.inl y), some (.inl w)]) (st' := [.inl (1), .inl (0), .inl w]) (h' := h) rfl ?_
    refine wq_cs (p' := 15) (av_qc (.invokestatic 176) 127 3 2 8) 3 cd_127 [.inl w, .inl (0), .inl (1)] [.inl (1), .inl (0), .inl w] [some (.inl w), some (.inl (0)), some (.inl (1))] (ck_201 _ _ rfl) rfl rfl pp_127 (fun _ => rfl) rfl rfl ?_
    refine ct_127 (g := h) (w) (by omega) ((0)) (by omega) ((1)) (by omega) (fun v5 p6 => ?_)
    show av_wp _ cd_201 15 [some (.inr (.inr (.inl (some (77))))), some (.inl x), some (.inl l), some (.inl y), some (.inl w)] [.inl v5] h _
    refine wq_k1 (p' := 18) (ck_201 _ _ rfl) rfl ⟨by omega, by omega⟩ (fun c7 => ?_) (fun c8 => ?_)
    · have c7 : v5 = (0) := c7
      refine av_wp_sqF ck_201 1 (pc' := 30) (lv' := [some (.inr (.inr (.inl (some (77))))), some (.inl x), some (.inl l), some (.inl y), some (.inl w)]) (st' := [.inl (-2)]) (h' := h) rfl ?_
      refine av_wp_ret (v := some (.inl (-2))) (ck_201 _ _ rfl) rfl rfl ?_
      exact hq _ _ _ _ h I F
    · have c8 : v5 ≠ (0) := c8
      refine av_wp_sqF ck_201 4 (pc' := 22) (lv' := [some (.inr (.inr (.inl (some (77))))), some (.inl x), some (.inl l), some (.inl y), some (.inl w)]) (st' := [.inl y, .inl l, .inl x, .inr (.inr (.inl (some (77))))]) (h' := h) rfl ?_
      refine wq_cv (p' := 25) (av_qc (.invokevirtual 467) 200 3 0 8) 7 cd_200 [.inl y, .inl l, .inl x] (77) 8 [some (.inr (.inr (.inl (some (77))))), some (.inl x), some (.inl l), some (.inl y), none, none, none] (ck_201 _ _ rfl) rfl rfl pp_200 rfl rfl rfl (congrArg Prod.fst (ly_k I.1.1.1 77 rfl)) rfl rfl rfl rfl ?_
      refine ct_200 I F (x) (by omega) (l) (by omega) (y) (by omega) (fun v9 n14 a15 m16 h11 p10 I12 F13 => ?_)
      have g17 := im_n I12.1.1
      rw [I12.2.1] at g17
      have g18 := im_a I12.1.1
      rw [I12.2.2.1] at g18
      have g19 := im_cm I12.1.1
      rw [I12.2.2.2] at g19
      show av_wp _ cd_201 25 [some (.inr (.inr (.inl (some (77))))), some (.inl x), some (.inl l), some (.inl y), some (.inl w)] [.inl v9] h11 _
      refine wq_k1 (p' := 28) (ck_201 _ _ rfl) rfl ⟨by omega, by omega⟩ (fun c20 => ?_) (fun c21 => ?_)
      · have c20 : v9 ≠ (0) := c20
        refine av_wp_sqF ck_201 1 (pc' := 33) (lv' := [some (.inr (.inr (.inl (some (77))))), some (.inl x), some (.inl l), some (.inl y), some (.inl w)]) (st' := [.inl w]) (h' := h11) rfl ?_
        refine wq_k1 (p' := 36) (ck_201 _ _ rfl) rfl ⟨by omega, by omega⟩ (fun c22 => ?_) (fun c23 => ?_)
        · have c22 : w ≠ (0) := c22
          refine av_wp_sqF ck_201 1 (pc' := 44) (lv' := [some (.inr (.inr (.inl (some (77))))), some (.inl x), some (.inl l), some (.inl y), some (.inl w)]) (st' := [.inr (.inr (.inl (some (77))))]) (h' := h11) rfl ?_
          obtain ⟨v24, e25⟩ : ∃ v, hF h11 77 61 = v := ⟨_, rfl⟩
          refine wq_gi (p' := 47) (ck_201 _ _ rfl) rfl (congrArg Prod.fst (ly_k I12.1.1.1 77 rfl)) rfl (e25) ?_
          refine av_wp_ret (v := some (.inl v24)) (ck_201 _ _ rfl) rfl rfl ?_
          exact hq _ _ _ _ h11 I12 F13
        · have c23 : w = (0) := c23
          refine av_wp_sqF ck_201 1 (pc' := 37) (lv' := [some (.inr (.inr (.inl (some (77))))), some (.inl x), some (.inl l), some (.inl y), some (.inl w)]) (st' := [.inr (.inr (.inl (some (77))))]) (h' := h11) rfl ?_
          obtain ⟨v26, e27⟩ : ∃ v, hF h11 77 60 = v := ⟨_, rfl⟩
          refine wq_gi (p' := 40) (ck_201 _ _ rfl) rfl (congrArg Prod.fst (ly_k I12.1.1.1 77 rfl)) rfl (e27) ?_
          refine av_wp_sqF ck_201 1 (pc' := 47) (lv' := [some (.inr (.inr (.inl (some (77))))), some (.inl x), some (.inl l), some (.inl y), some (.inl w)]) (st' := [.inl v26]) (h' := h11) rfl ?_
          refine av_wp_ret (v := some (.inl v26)) (ck_201 _ _ rfl) rfl rfl ?_
          exact hq _ _ _ _ h11 I12 F13
      · have c21 : v9 = (0) := c21
        refine av_wp_sqF ck_201 1 (pc' := 30) (lv' := [some (.inr (.inr (.inl (some (77))))), some (.inl x), some (.inl l), some (.inl y), some (.inl w)]) (st' := [.inl (-2)]) (h' := h11) rfl ?_
        refine av_wp_ret (v := some (.inl (-2))) (ck_201 _ _ rfl) rfl rfl ?_
        exact hq _ _ _ _ h11 I12 F13

