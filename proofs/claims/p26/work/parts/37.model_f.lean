set_option maxRecDepth 100000 in
set_option maxHeartbeats 4000000 in
theorem ct_191 {g h : av_H} {n a m : Int} (I : IMF n a m h) (F : FM g h) (x : Int) (qx : -2147483648 ≤ x ∧ x ≤ 2147483647) (l : Int) (ql : -2147483648 ≤ l ∧ l ≤ 2147483647) (y : Int) (qy : -2147483648 ≤ y ∧ y ≤ 2147483647) (k : Int) (qk : -2147483648 ≤ k ∧ k ≤ 2147483647) (w : Int) (qw : -2147483648 ≤ w ∧ w ≤ 2147483647) {Q : Option av_V → av_H → Prop} (hq : ∀ (v : Int) n' a' m' h', IMF n' a' m' h' → FM g h' → Q (some (.inl v)) h') : av_wp none cd_191 0 [some (.inr (.inr (.inl (some (77))))), some (.inl x), some (.inl l), some (.inl y), some (.inl k), some (.inl w)] [] h Q := by
  have gn := im_n I.1.1
  rw [I.2.1] at gn
  have ga := im_a I.1.1
  rw [I.2.2.1] at ga
  have gm := im_cm I.1.1
  rw [I.2.2.2] at gm
  refine av_wp_sqF ck_191 3 (pc' := 4) (lv' := [some (.inr (.inr (.inl (some (77))))), some (.inl x), some (.inl l), some (.inl y), some (.inl k), some (.inl w)]) (st' := [.inl (2), .inl (0), .inl w]) (h' := h) rfl ?_
  refine wq_cs (p' := 7) (av_qc (.invokestatic 176) 127 3 2 8) 3 cd_127 [.inl w, .inl (0), .inl (2)] [.inl (2), .inl (0), .inl w] [some (.inl w), some (.inl (0)), some (.inl (2))] (ck_191 _ _ rfl) rfl rfl pp_127 (fun _ => rfl) rfl rfl ?_
  refine ct_127 (g := h) (w) (by omega) ((0)) (by omega) ((2)) (by omega) (fun v1 p2 => ?_)
  show av_wp _ cd_191 7 [some (.inr (.inr (.inl (some (77))))), some (.inl x), some (.inl l), some (.inl y), some (.inl k), some (.inl w)] [.inl v1] h _
  refine wq_k1 (p' := 10) (ck_191 _ _ rfl) rfl ⟨by omega, by omega⟩ (fun c3 => ?_) (fun c4 => ?_)
  · have c3 : v1 = (0) := c3
    refine av_wp_sqF ck_191 1 (pc' := 45) (lv' := [some (.inr (.inr (.inl (some (77))))), some (.inl x), some (.inl l), some (.inl y), some (.inl k), some (.inl w)]) (st' := [.inl (-2)]) (h' := h) rfl ?_
    refine av_wp_ret (v := some (.inl (-2))) (ck_191 _ _ rfl) rfl rfl ?_
    exact hq _ _ _ _ h I F
  · have c4 : v1 ≠ (0) := c4
    refine av_wp_sqF ck_191 4 (pc' := 14) (lv' := [some (.inr (.inr (.inl (some (77))))), some (.inl x), some (.inl l), some (.inl y), some (.inl k), some (.inl w)]) (st' := [.inl y, .inl l, .inl x, .inr (.inr (.inl (some (77))))]) (h' := h) rfl ?_
    refine wq_cv (p' := 17) (av_qc (.invokevirtual 446) 186 3 0 8) 4 cd_186 [.inl y, .inl l, .inl x] (77) 8 [some (.inr (.inr (.inl (some (77))))), some (.inl x), some (.inl l), some (.inl y)] (ck_191 _ _ rfl) rfl rfl pp_186 rfl rfl rfl (congrArg Prod.fst (ly_k I.1.1.1 77 rfl)) rfl rfl rfl rfl ?_
    refine ct_186 I F (x) (by omega) (l) (by omega) (y) (by omega) (fun n9 a10 m11 h5 I6 F7 => ?_) (fun n9 a10 m11 h5 p8 I6 F7 => ?_)
    · have g12 := im_n I6.1.1
      rw [I6.2.1] at g12
      have g13 := im_a I6.1.1
      rw [I6.2.2.1] at g13
      have g14 := im_cm I6.1.1
      rw [I6.2.2.2] at g14
      show av_wp _ cd_191 17 [some (.inr (.inr (.inl (some (77))))), some (.inl x), some (.inl l), some (.inl y), some (.inl k), some (.inl w)] [.inl (0)] h5 _
      refine av_wp_sqF ck_191 2 (pc' := 45) (lv' := [some (.inr (.inr (.inl (some (77))))), some (.inl x), some (.inl l), some (.inl y), some (.inl k), some (.inl w)]) (st' := [.inl (-2)]) (h' := h5) rfl ?_
      refine av_wp_ret (v := some (.inl (-2))) (ck_191 _ _ rfl) rfl rfl ?_
      exact hq _ _ _ _ h5 I6 F7
    · have g15 := im_n I6.1.1
      rw [I6.2.1] at g15
      have g16 := im_a I6.1.1
      rw [I6.2.2.1] at g16
      have g17 := im_cm I6.1.1
      rw [I6.2.2.2] at g17
      show av_wp _ cd_191 17 [some (.inr (.inr (.inl (some (77))))), some (.inl x), some (.inl l), some (.inl y), some (.inl k), some (.inl w)] [.inl (1)] h5 _
      refine av_wp_sqF ck_191 2 (pc' := 22) (lv' := [some (.inr (.inr (.inl (some (77))))), some (.inl x), some (.inl l), some (.inl y), some (.inl k), some (.inl w)]) (st' := [.inl k]) (h' := h5) rfl ?_
      refine wq_k1 (p' := 25) (ck_191 _ _ rfl) rfl ⟨by omega, by omega⟩ (fun c18 => ?_) (fun c19 => ?_)
      · have c18 : k < (0) := c18
        refine av_wp_sqF ck_191 1 (pc' := 45) (lv' := [some (.inr (.inr (.inl (some (77))))), some (.inl x), some (.inl l), some (.inl y), some (.inl k), some (.inl w)]) (st' := [.inl (-2)]) (h' := h5) rfl ?_
        refine av_wp_ret (v := some (.inl (-2))) (ck_191 _ _ rfl) rfl rfl ?_
        exact hq _ _ _ _ h5 I6 F7
      · have c19 : (0) ≤ k := c19
        refine av_wp_sqF ck_191 2 (pc' := 28) (lv' := [some (.inr (.inr (.inl (some (77))))), some (.inl x), some (.inl l), some (.inl y), some (.inl k), some (.inl w)]) (st' := [.inr (.inr (.inl (some (77)))), .inl k]) (h' := h5) rfl ?_
        refine wq_gi (p' := 31) (ck_191 _ _ rfl) rfl (congrArg Prod.fst (ly_k I6.1.1.1 77 rfl)) rfl (I6.2.1) ?_
        refine wq_k2 (p' := 34) (ck_191 _ _ rfl) rfl ⟨by omega, by omega⟩ ⟨by omega, by omega⟩ (fun c20 => ?_) (fun c21 => ?_)
        · have c20 : n9 ≤ k := c20
          refine av_wp_sqF ck_191 1 (pc' := 45) (lv' := [some (.inr (.inr (.inl (some (77))))), some (.inl x), some (.inl l), some (.inl y), some (.inl k), some (.inl w)]) (st' := [.inl (-2)]) (h' := h5) rfl ?_
          refine av_wp_ret (v := some (.inl (-2))) (ck_191 _ _ rfl) rfl rfl ?_
          exact hq _ _ _ _ h5 I6 F7
        · have c21 : k < n9 := c21
          refine av_wp_sqF ck_191 2 (pc' := 37) (lv' := [some (.inr (.inr (.inl (some (77))))), some (.inl x), some (.inl l), some (.inl y), some (.inl k), some (.inl w)]) (st' := [.inl k, .inr (.inr (.inl (some (77))))]) (h' := h5) rfl ?_
          refine wq_cv (p' := 40) (av_qc (.invokevirtual 369) 168 1 0 8) 2 cd_168 [.inl k] (77) 8 [some (.inr (.inr (.inl (some (77))))), some (.inl k)] (ck_191 _ _ rfl) rfl rfl pp_168 rfl rfl rfl (congrArg Prod.fst (ly_k I6.1.1.1 77 rfl)) rfl rfl rfl rfl ?_
          refine ct_168 I6 F7 (k) (by omega) (fun v22 p23 => ?_)
          show av_wp _ cd_191 40 [some (.inr (.inr (.inl (some (77))))), some (.inl x), some (.inl l), some (.inl y), some (.inl k), some (.inl w)] [.inl v22] h5 _
          refine wq_k1 (p' := 43) (ck_191 _ _ rfl) rfl ⟨by omega, by omega⟩ (fun c24 => ?_) (fun c25 => ?_)
          · have c24 : v22 ≠ (0) := c24
            refine av_wp_sqF ck_191 1 (pc' := 48) (lv' := [some (.inr (.inr (.inl (some (77))))), some (.inl x), some (.inl l), some (.inl y), some (.inl k), some (.inl w)]) (st' := [.inl w]) (h' := h5) rfl ?_
            refine wq_k1 (p' := 51) (ck_191 _ _ rfl) rfl ⟨by omega, by omega⟩ (fun c26 => ?_) (fun c27 => ?_)
            · have c26 : w ≠ (0) := c26
              refine av_wp_sqF ck_191 2 (pc' := 64) (lv' := [some (.inr (.inr (.inl (some (77))))), some (.inl x), some (.inl l), some (.inl y), some (.inl k), some (.inl w)]) (st' := [.inl (1), .inl w]) (h' := h5) rfl ?_
              refine wq_k2 (p' := 67) (ck_191 _ _ rfl) rfl ⟨by omega, by omega⟩ ⟨by omega, by omega⟩ (fun c28 => ?_) (fun c29 => ?_)
              · have c28 : w ≠ (1) := c28
                refine av_wp_sqF ck_191 1 (pc' := 78) (lv' := [some (.inr (.inr (.inl (some (77))))), some (.inl x), some (.inl l), some (.inl y), some (.inl k), some (.inl w)]) (st' := [.inr (.inr (.inl (some (77))))]) (h' := h5) rfl ?_
                refine wq_gr (p' := 81) (ck_191 _ _ rfl) rfl (congrArg Prod.fst (ly_k I6.1.1.1 77 rfl)) rfl (ly_g I6.1.1.1 77 49 115 rfl) ?_
                refine av_wp_sqF ck_191 1 (pc' := 83) (lv' := [some (.inr (.inr (.inl (some (77))))), some (.inl x), some (.inl l), some (.inl y), some (.inl k), some (.inl w)]) (st' := [.inl k, .inr (.inr (.inl (some (115))))]) (h' := h5) rfl ?_
                obtain ⟨v30, e31⟩ : ∃ v, hA h5 115 (Int.toNat (k)) = v := ⟨_, rfl⟩
                refine wq_al (p' := 84) (n := 12) (ck_191 _ _ rfl) rfl (ly_k I6.1.1.1 115 rfl) (by omega) (e31) ?_
                refine av_wp_ret (v := some (.inl v30)) (ck_191 _ _ rfl) rfl rfl ?_
                exact hq _ _ _ _ h5 I6 F7
              · have c29 : w = (1) := c29
                refine av_wp_sqF ck_191 1 (pc' := 68) (lv' := [some (.inr (.inr (.inl (some (77))))), some (.inl x), some (.inl l), some (.inl y), some (.inl k), some (.inl w)]) (st' := [.inr (.inr (.inl (some (77))))]) (h' := h5) rfl ?_
                refine wq_gr (p' := 71) (ck_191 _ _ rfl) rfl (congrArg Prod.fst (ly_k I6.1.1.1 77 rfl)) rfl (ly_g I6.1.1.1 77 48 114 rfl) ?_
                refine av_wp_sqF ck_191 1 (pc' := 73) (lv' := [some (.inr (.inr (.inl (some (77))))), some (.inl x), some (.inl l), some (.inl y), some (.inl k), some (.inl w)]) (st' := [.inl k, .inr (.inr (.inl (some (114))))]) (h' := h5) rfl ?_
                obtain ⟨v33, e34⟩ : ∃ v, hA h5 114 (Int.toNat (k)) = v := ⟨_, rfl⟩
                refine wq_al (p' := 74) (n := 12) (ck_191 _ _ rfl) rfl (ly_k I6.1.1.1 114 rfl) (by omega) (e34) ?_
                refine av_wp_sqF ck_191 1 (pc' := 84) (lv' := [some (.inr (.inr (.inl (some (77))))), some (.inl x), some (.inl l), some (.inl y), some (.inl k), some (.inl w)]) (st' := [.inl v33]) (h' := h5) rfl ?_
                refine av_wp_ret (v := some (.inl v33)) (ck_191 _ _ rfl) rfl rfl ?_
                exact hq _ _ _ _ h5 I6 F7
            · have c27 : w = (0) := c27
              refine av_wp_sqF ck_191 1 (pc' := 52) (lv' := [some (.inr (.inr (.inl (some (77))))), some (.inl x), some (.inl l), some (.inl y), some (.inl k), some (.inl w)]) (st' := [.inr (.inr (.inl (some (77))))]) (h' := h5) rfl ?_
              refine wq_gr (p' := 55) (ck_191 _ _ rfl) rfl (congrArg Prod.fst (ly_k I6.1.1.1 77 rfl)) rfl (ly_g I6.1.1.1 77 47 113 rfl) ?_
              refine av_wp_sqF ck_191 1 (pc' := 57) (lv' := [some (.inr (.inr (.inl (some (77))))), some (.inl x), some (.inl l), some (.inl y), some (.inl k), some (.inl w)]) (st' := [.inl k, .inr (.inr (.inl (some (113))))]) (h' := h5) rfl ?_
              obtain ⟨v36, e37⟩ : ∃ v, hA h5 113 (Int.toNat (k)) = v := ⟨_, rfl⟩
              refine wq_al (p' := 58) (n := 12) (ck_191 _ _ rfl) rfl (ly_k I6.1.1.1 113 rfl) (by omega) (e37) ?_
              refine av_wp_sqF ck_191 1 (pc' := 84) (lv' := [some (.inr (.inr (.inl (some (77))))), some (.inl x), some (.inl l), some (.inl y), some (.inl k), some (.inl w)]) (st' := [.inl v36]) (h' := h5) rfl ?_
              refine av_wp_ret (v := some (.inl v36)) (ck_191 _ _ rfl) rfl rfl ?_
              exact hq _ _ _ _ h5 I6 F7
          · have c25 : v22 = (0) := c25
            refine av_wp_sqF ck_191 1 (pc' := 45) (lv' := [some (.inr (.inr (.inl (some (77))))), some (.inl x), some (.inl l), some (.inl y), some (.inl k), some (.inl w)]) (st' := [.inl (-2)]) (h' := h5) rfl ?_
            refine av_wp_ret (v := some (.inl (-2))) (ck_191 _ _ rfl) rfl rfl ?_
            exact hq _ _ _ _ h5 I6 F7

set_option maxRecDepth 100000 in
set_option maxHeartbeats 4000000 in
theorem ct_192 {g h : av_H} {n a m : Int} (I : IMF n a m h) (F : FM g h) (x : Int) (qx : -2147483648 ≤ x ∧ x ≤ 2147483647) (l : Int) (ql : -2147483648 ≤ l ∧ l ≤ 2147483647) (y : Int) (qy : -2147483648 ≤ y ∧ y ≤ 2147483647) {Q : Option av_V → av_H → Prop} (hq : ∀ (v : Int) n' a' m' h', IMF n' a' m' h' → FM g h' → Q (some (.inl v)) h') : av_wp none cd_192 0 [some (.inr (.inr (.inl (some (77))))), some (.inl x), some (.inl l), some (.inl y)] [] h Q := by
  have gn := im_n I.1.1
  rw [I.2.1] at gn
  have ga := im_a I.1.1
  rw [I.2.2.1] at ga
  have gm := im_cm I.1.1
  rw [I.2.2.2] at gm
  refine av_wp_sqF ck_192 4 (pc' := 4) (lv' := [some (.inr (.inr (.inl (some (77))))), some (.inl x), some (.inl l), some (.inl y)]) (st' := [.inl y, .inl l, .inl x, .inr (.inr (.inl (some (77))))]) (h' := h) rfl ?_
  refine wq_cv (p' := 7) (av_qc (.invokevirtual 446) 186 3 0 8) 4 cd_186 [.inl y, .inl l, .inl x] (77) 8 [some (.inr (.inr (.inl (some (77))))), some (.inl x), some (.inl l), some (.inl y)] (ck_192 _ _ rfl) rfl rfl pp_186 rfl rfl rfl (congrArg Prod.fst (ly_k I.1.1.1 77 rfl)) rfl rfl rfl rfl ?_
  refine ct_186 I F (x) (by omega) (l) (by omega) (y) (by omega) (fun n5 a6 m7 h1 I2 F3 => ?_) (fun n5 a6 m7 h1 p4 I2 F3 => ?_)
  · have g8 := im_n I2.1.1
    rw [I2.2.1] at g8
    have g9 := im_a I2.1.1
    rw [I2.2.2.1] at g9
    have g10 := im_cm I2.1.1
    rw [I2.2.2.2] at g10
    show av_wp _ cd_192 7 [some (.inr (.inr (.inl (some (77))))), some (.inl x), some (.inl l), some (.inl y)] [.inl (0)] h1 _
    refine av_wp_sqF ck_192 2 (pc' := 12) (lv' := [some (.inr (.inr (.inl (some (77))))), some (.inl x), some (.inl l), some (.inl y)]) (st' := [.inl (-2)]) (h' := h1) rfl ?_
    refine av_wp_ret (v := some (.inl (-2))) (ck_192 _ _ rfl) rfl rfl ?_
    exact hq _ _ _ _ h1 I2 F3
  · have g11 := im_n I2.1.1
    rw [I2.2.1] at g11
    have g12 := im_a I2.1.1
    rw [I2.2.2.1] at g12
    have g13 := im_cm I2.1.1
    rw [I2.2.2.2] at g13
    show av_wp _ cd_192 7 [some (.inr (.inr (.inl (some (77))))), some (.inl x), some (.inl l), some (.inl y)] [.inl (1)] h1 _
    refine av_wp_sqF ck_192 2 (pc' := 14) (lv' := [some (.inr (.inr (.inl (some (77))))), some (.inl x), some (.inl l), some (.inl y)]) (st' := [.inr (.inr (.inl (some (77))))]) (h' := h1) rfl ?_
    obtain ⟨v14, e15⟩ : ∃ v, hF h1 77 50 = v := ⟨_, rfl⟩
    have g16 := im_has I2.1.1
    rw [e15] at g16
    refine wq_gb (p' := 17) (ck_192 _ _ rfl) rfl (congrArg Prod.fst (ly_k I2.1.1.1 77 rfl)) rfl (e15) ?_
    refine wq_k1 (p' := 20) (ck_192 _ _ rfl) rfl ⟨by omega, by omega⟩ (fun c17 => ?_) (fun c18 => ?_)
    · have c17 : v14 = (0) := c17
      refine av_wp_sqF ck_192 1 (pc' := 47) (lv' := [some (.inr (.inr (.inl (some (77))))), some (.inl x), some (.inl l), some (.inl y)]) (st' := [.inl (0)]) (h' := h1) rfl ?_
      refine av_wp_ret (v := some (.inl (0))) (ck_192 _ _ rfl) rfl rfl ?_
      exact hq _ _ _ _ h1 I2 F3
    · have c18 : v14 ≠ (0) := c18
      refine av_wp_sqF ck_192 2 (pc' := 22) (lv' := [some (.inr (.inr (.inl (some (77))))), some (.inl x), some (.inl l), some (.inl y)]) (st' := [.inr (.inr (.inl (some (77)))), .inl (1)]) (h' := h1) rfl ?_
      refine wq_gr (p' := 25) (ck_192 _ _ rfl) rfl (congrArg Prod.fst (ly_k I2.1.1.1 77 rfl)) rfl (ly_g I2.1.1.1 77 35 101 rfl) ?_
      refine av_wp_sqF ck_192 1 (pc' := 26) (lv' := [some (.inr (.inr (.inl (some (77))))), some (.inl x), some (.inl l), some (.inl y)]) (st' := [.inr (.inr (.inl (some (77)))), .inr (.inr (.inl (some (101)))), .inl (1)]) (h' := h1) rfl ?_
      obtain ⟨v19, e20⟩ : ∃ v, hF h1 77 52 = v := ⟨_, rfl⟩
      have g21 := im_of I2.1.1
      rw [e20] at g21
      refine wq_gi (p' := 29) (ck_192 _ _ rfl) rfl (congrArg Prod.fst (ly_k I2.1.1.1 77 rfl)) rfl (e20) ?_
      obtain ⟨v22, e23⟩ : ∃ v, hA h1 101 (Int.toNat (v19)) = v := ⟨_, rfl⟩
      have g24 : 0 ≤ hA h1 101 (Int.toNat (v19)) ∧ hA h1 101 (Int.toNat (v19)) ≤ 2 := im_w I2.1.1 101 (by decide) (by decide) _
      rw [e23] at g24
      refine wq_al (p' := 30) (n := 12) (ck_192 _ _ rfl) rfl (ly_k I2.1.1.1 101 rfl) (by omega) (e23) ?_
      refine av_wp_sqF ck_192 1 (pc' := 31) (lv' := [some (.inr (.inr (.inl (some (77))))), some (.inl x), some (.inl l), some (.inl y)]) (st' := [.inl (av_shl (1) v22)]) (h' := h1) rfl ?_
      have g27 := shl_le (n := v22) (by omega)
      generalize av_shl (1) v22 = v25 at g27 ⊢
      refine av_wp_sqF ck_192 2 (pc' := 33) (lv' := [some (.inr (.inr (.inl (some (77))))), some (.inl x), some (.inl l), some (.inl y)]) (st' := [.inr (.inr (.inl (some (77)))), .inl (1), .inl v25]) (h' := h1) rfl ?_
      refine wq_gr (p' := 36) (ck_192 _ _ rfl) rfl (congrArg Prod.fst (ly_k I2.1.1.1 77 rfl)) rfl (ly_g I2.1.1.1 77 36 102 rfl) ?_
      refine av_wp_sqF ck_192 1 (pc' := 37) (lv' := [some (.inr (.inr (.inl (some (77))))), some (.inl x), some (.inl l), some (.inl y)]) (st' := [.inr (.inr (.inl (some (77)))), .inr (.inr (.inl (some (102)))), .inl (1), .inl v25]) (h' := h1) rfl ?_
      obtain ⟨v28, e29⟩ : ∃ v, hF h1 77 52 = v := ⟨_, rfl⟩
      have g30 := im_of I2.1.1
      rw [e29] at g30
      refine wq_gi (p' := 40) (ck_192 _ _ rfl) rfl (congrArg Prod.fst (ly_k I2.1.1.1 77 rfl)) rfl (e29) ?_
      obtain ⟨v31, e32⟩ : ∃ v, hA h1 102 (Int.toNat (v28)) = v := ⟨_, rfl⟩
      have g33 : -1 ≤ hA h1 102 (Int.toNat (v28)) ∧ hA h1 102 (Int.toNat (v28)) ≤ 2 := im_w I2.1.1 102 (by decide) (by decide) _
      rw [e32] at g33
      refine wq_al (p' := 41) (n := 12) (ck_192 _ _ rfl) rfl (ly_k I2.1.1.1 102 rfl) (by omega) (e32) ?_
      refine av_wp_sqF ck_192 3 (pc' := 47) (lv' := [some (.inr (.inr (.inl (some (77))))), some (.inl x), some (.inl l), some (.inl y)]) (st' := [.inl (av_or v25 (av_shl (1) v31))]) (h' := h1) rfl ?_
      refine av_wp_ret (v := some (.inl (av_or v25 (av_shl (1) v31)))) (ck_192 _ _ rfl) rfl rfl ?_
      exact hq _ _ _ _ h1 I2 F3

set_option maxRecDepth 100000 in
set_option maxHeartbeats 4000000 in
theorem ct_193 {g h : av_H} {n a m : Int} (I : IMF n a m h) (F : FM g h) (x : Int) (qx : -2147483648 ≤ x ∧ x ≤ 2147483647) (l : Int) (ql : -2147483648 ≤ l ∧ l ≤ 2147483647) (w : Int) (qw : -2147483648 ≤ w ∧ w ≤ 2147483647) {Q : Option av_V → av_H → Prop} (hq : ∀ (v : Int) n' a' m' h', IMF n' a' m' h' → FM g h' → Q (some (.inl v)) h') : av_wp none cd_193 0 [some (.inr (.inr (.inl (some (77))))), some (.inl x), some (.inl l), some (.inl w), none, none, none, none, none, none] [] h Q := by
  have gn := im_n I.1.1
  rw [I.2.1] at gn
  have ga := im_a I.1.1
  rw [I.2.2.1] at ga
  have gm := im_cm I.1.1
  rw [I.2.2.2] at gm
  refine av_wp_sqF ck_193 3 (pc' := 3) (lv' := [some (.inr (.inr (.inl (some (77))))), some (.inl x), some (.inl l), some (.inl w), none, none, none, none, none, none]) (st' := [.inl (4), .inl (0), .inl w]) (h' := h) rfl ?_
  refine wq_cs (p' := 6) (av_qc (.invokestatic 176) 127 3 2 8) 3 cd_127 [.inl w, .inl (0), .inl (4)] [.inl (4), .inl (0), .inl w] [some (.inl w), some (.inl (0)), some (.inl (4))] (ck_193 _ _ rfl) rfl rfl pp_127 (fun _ => rfl) rfl rfl ?_
  refine ct_127 (g := h) (w) (by omega) ((0)) (by omega) ((4)) (by omega) (fun v1 p2 => ?_)
  show av_wp _ cd_193 6 [some (.inr (.inr (.inl (some (77))))), some (.inl x), some (.inl l), some (.inl w), none, none, none, none, none, none] [.inl v1] h _
  refine wq_k1 (p' := 9) (ck_193 _ _ rfl) rfl ⟨by omega, by omega⟩ (fun c3 => ?_) (fun c4 => ?_)
  · have c3 : v1 = (0) := c3
    refine av_wp_sqF ck_193 1 (pc' := 21) (lv' := [some (.inr (.inr (.inl (some (77))))), some (.inl x), some (.inl l), some (.inl w), none, none, none, none, none, none]) (st' := [.inl (-2)]) (h' := h) rfl ?_
    refine av_wp_ret (v := some (.inl (-2))) (ck_193 _ _ rfl) rfl rfl ?_
    exact hq _ _ _ _ h I F
  · have c4 : v1 ≠ (0) := c4
    refine av_wp_sqF ck_193 4 (pc' := 13) (lv' := [some (.inr (.inr (.inl (some (77))))), some (.inl x), some (.inl l), some (.inl w), none, none, none, none, none, none]) (st' := [.inl (0), .inl l, .inl x, .inr (.inr (.inl (some (77))))]) (h' := h) rfl ?_
    refine wq_cv (p' := 16) (av_qc (.invokevirtual 446) 186 3 0 8) 4 cd_186 [.inl (0), .inl l, .inl x] (77) 8 [some (.inr (.inr (.inl (some (77))))), some (.inl x), some (.inl l), some (.inl (0))] (ck_193 _ _ rfl) rfl rfl pp_186 rfl rfl rfl (congrArg Prod.fst (ly_k I.1.1.1 77 rfl)) rfl rfl rfl rfl ?_
    refine ct_186 I F (x) (by omega) (l) (by omega) ((0)) (by omega) (fun n9 a10 m11 h5 I6 F7 => ?_) (fun n9 a10 m11 h5 p8 I6 F7 => ?_)
    · have g12 := im_n I6.1.1
      rw [I6.2.1] at g12
      have g13 := im_a I6.1.1
      rw [I6.2.2.1] at g13
      have g14 := im_cm I6.1.1
      rw [I6.2.2.2] at g14
      show av_wp _ cd_193 16 [some (.inr (.inr (.inl (some (77))))), some (.inl x), some (.inl l), some (.inl w), none, none, none, none, none, none] [.inl (0)] h5 _
      refine av_wp_sqF ck_193 2 (pc' := 21) (lv' := [some (.inr (.inr (.inl (some (77))))), some (.inl x), some (.inl l), some (.inl w), none, none, none, none, none, none]) (st' := [.inl (-2)]) (h' := h5) rfl ?_
      refine av_wp_ret (v := some (.inl (-2))) (ck_193 _ _ rfl) rfl rfl ?_
      exact hq _ _ _ _ h5 I6 F7
    · have g15 := im_n I6.1.1
      rw [I6.2.1] at g15
      have g16 := im_a I6.1.1
      rw [I6.2.2.1] at g16
      have g17 := im_cm I6.1.1
      rw [I6.2.2.2] at g17
      show av_wp _ cd_193 16 [some (.inr (.inr (.inl (some (77))))), some (.inl x), some (.inl l), some (.inl w), none, none, none, none, none, none] [.inl (1)] h5 _
      refine av_wp_sqF ck_193 12 (pc' := 38) (lv' := [some (.inr (.inr (.inl (some (77))))), some (.inl x), some (.inl l), some (.inl w), some (.inl (0)), some (.inl (-1)), some (.inl (-1)), some (.inl (-1)), some (.inl (-1)), none]) (st' := [.inl (0)]) (h' := h5) rfl ?_
      refine av_wp_sqF ck_193 1 (pc' := 40) (lv' := [some (.inr (.inr (.inl (some (77))))), some (.inl x), some (.inl l), some (.inl w), some (.inl (0)), some (.inl (-1)), some (.inl (-1)), some (.inl (-1)), some (.inl (-1)), some (.inl (0))]) (st' := []) (h' := h5) rfl ?_
      have L32 : ∀ (m31 : Nat) (k18 : Int) (k19 : Int) (k20 : Int) (k21 : Int) (k22 : Int) (k23 : Int) (n27 : Int) (a28 : Int) (m29 : Int) (h24 : av_H), (0 ≤ k23 ∧ k23 ≤ 1025) → (0 ≤ n27 ∧ n27 ≤ 12) ∧ (0 ≤ a28 ∧ a28 ≤ 48) ∧ (0 ≤ m29 ∧ m29 ≤ 1025) → IMF n27 a28 m29 h24 → FM g h24 → (1025 - k23).toNat = m31 → av_wp none cd_193 40 [some (.inr (.inr (.inl (some (77))))), some (.inl x), some (.inl l), some (.inl w), some (.inl k18), some (.inl k19), some (.inl k20), some (.inl k21), some (.inl k22), some (.inl k23)] [] h24 Q := by
        intro m31
        induction m31 using Nat.strongRecOn with
        | _ m31 I33 =>
          intro k18 k19 k20 k21 k22 k23 n27 a28 m29 h24 g35 g30 I25 F26 e34
          refine av_wp_sqF ck_193 2 (pc' := 43) (lv' := [some (.inr (.inr (.inl (some (77))))), some (.inl x), some (.inl l), some (.inl w), some (.inl k18), some (.inl k19), some (.inl k20), some (.inl k21), some (.inl k22), some (.inl k23)]) (st' := [.inr (.inr (.inl (some (77)))), .inl k23]) (h' := h24) rfl ?_
          refine wq_gi (p' := 46) (ck_193 _ _ rfl) rfl (congrArg Prod.fst (ly_k I25.1.1.1 77 rfl)) rfl (I25.2.2.2) ?_
          refine wq_k2 (p' := 49) (ck_193 _ _ rfl) rfl ⟨by omega, by omega⟩ ⟨by omega, by omega⟩ (fun c36 => ?_) (fun c37 => ?_)
          · have c36 : m29 ≤ k23 := c36
            refine av_wp_sqF ck_193 1 (pc' := 128) (lv' := [some (.inr (.inr (.inl (some (77))))), some (.inl x), some (.inl l), some (.inl w), some (.inl k18), some (.inl k19), some (.inl k20), some (.inl k21), some (.inl k22), some (.inl k23)]) (st' := [.inl w]) (h' := h24) rfl ?_
            refine wq_k1 (p' := 131) (ck_193 _ _ rfl) rfl ⟨by omega, by omega⟩ (fun c38 => ?_) (fun c39 => ?_)
            · have c38 : w ≠ (0) := c38
              refine av_wp_sqF ck_193 2 (pc' := 138) (lv' := [some (.inr (.inr (.inl (some (77))))), some (.inl x), some (.inl l), some (.inl w), some (.inl k18), some (.inl k19), some (.inl k20), some (.inl k21), some (.inl k22), some (.inl k23)]) (st' := [.inl (1), .inl w]) (h' := h24) rfl ?_
              refine wq_k2 (p' := 141) (ck_193 _ _ rfl) rfl ⟨by omega, by omega⟩ ⟨by omega, by omega⟩ (fun c40 => ?_) (fun c41 => ?_)
              · have c40 : w ≠ (1) := c40
                refine av_wp_sqF ck_193 2 (pc' := 148) (lv' := [some (.inr (.inr (.inl (some (77))))), some (.inl x), some (.inl l), some (.inl w), some (.inl k18), some (.inl k19), some (.inl k20), some (.inl k21), some (.inl k22), some (.inl k23)]) (st' := [.inl (2), .inl w]) (h' := h24) rfl ?_
                refine wq_k2 (p' := 151) (ck_193 _ _ rfl) rfl ⟨by omega, by omega⟩ ⟨by omega, by omega⟩ (fun c42 => ?_) (fun c43 => ?_)
                · have c42 : w ≠ (2) := c42
                  refine av_wp_sqF ck_193 2 (pc' := 158) (lv' := [some (.inr (.inr (.inl (some (77))))), some (.inl x), some (.inl l), some (.inl w), some (.inl k18), some (.inl k19), some (.inl k20), some (.inl k21), some (.inl k22), some (.inl k23)]) (st' := [.inl (3), .inl w]) (h' := h24) rfl ?_
                  refine wq_k2 (p' := 161) (ck_193 _ _ rfl) rfl ⟨by omega, by omega⟩ ⟨by omega, by omega⟩ (fun c44 => ?_) (fun c45 => ?_)
                  · have c44 : w ≠ (3) := c44
                    refine av_wp_sqF ck_193 1 (pc' := 168) (lv' := [some (.inr (.inr (.inl (some (77))))), some (.inl x), some (.inl l), some (.inl w), some (.inl k18), some (.inl k19), some (.inl k20), some (.inl k21), some (.inl k22), some (.inl k23)]) (st' := [.inl k22]) (h' := h24) rfl ?_
                    refine av_wp_ret (v := some (.inl k22)) (ck_193 _ _ rfl) rfl rfl ?_
                    exact hq _ _ _ _ h24 I25 F26
                  · have c45 : w = (3) := c45
                    refine av_wp_sqF ck_193 2 (pc' := 168) (lv' := [some (.inr (.inr (.inl (some (77))))), some (.inl x), some (.inl l), some (.inl w), some (.inl k18), some (.inl k19), some (.inl k20), some (.inl k21), some (.inl k22), some (.inl k23)]) (st' := [.inl k21]) (h' := h24) rfl ?_
                    refine av_wp_ret (v := some (.inl k21)) (ck_193 _ _ rfl) rfl rfl ?_
                    exact hq _ _ _ _ h24 I25 F26
                · have c43 : w = (2) := c43
                  refine av_wp_sqF ck_193 2 (pc' := 168) (lv' := [some (.inr (.inr (.inl (some (77))))), some (.inl x), some (.inl l), some (.inl w), some (.inl k18), some (.inl k19), some (.inl k20), some (.inl k21), some (.inl k22), some (.inl k23)]) (st' := [.inl k20]) (h' := h24) rfl ?_
                  refine av_wp_ret (v := some (.inl k20)) (ck_193 _ _ rfl) rfl rfl ?_
                  exact hq _ _ _ _ h24 I25 F26
              · have c41 : w = (1) := c41
                refine av_wp_sqF ck_193 2 (pc' := 168) (lv' := [some (.inr (.inr (.inl (some (77))))), some (.inl x), some (.inl l), some (.inl w), some (.inl k18), some (.inl k19), some (.inl k20), some (.inl k21), some (.inl k22), some (.inl k23)]) (st' := [.inl k19]) (h' := h24) rfl ?_
                refine av_wp_ret (v := some (.inl k19)) (ck_193 _ _ rfl) rfl rfl ?_
                exact hq _ _ _ _ h24 I25 F26
            · have c39 : w = (0) := c39
              refine av_wp_sqF ck_193 2 (pc' := 168) (lv' := [some (.inr (.inr (.inl (some (77))))), some (.inl x), some (.inl l), some (.inl w), some (.inl k18), some (.inl k19), some (.inl k20), some (.inl k21), some (.inl k22), some (.inl k23)]) (st' := [.inl k18]) (h' := h24) rfl ?_
              refine av_wp_ret (v := some (.inl k18)) (ck_193 _ _ rfl) rfl rfl ?_
              exact hq _ _ _ _ h24 I25 F26
          · have c37 : k23 < m29 := c37
            refine av_wp_sqF ck_193 2 (pc' := 52) (lv' := [some (.inr (.inr (.inl (some (77))))), some (.inl x), some (.inl l), some (.inl w), some (.inl k18), some (.inl k19), some (.inl k20), some (.inl k21), some (.inl k22), some (.inl k23)]) (st' := [.inl k23, .inr (.inr (.inl (some (77))))]) (h' := h24) rfl ?_
            refine wq_cv (p' := 55) (av_qc (.invokevirtual 431) 181 1 0 8) 2 cd_181 [.inl k23] (77) 8 [some (.inr (.inr (.inl (some (77))))), some (.inl k23)] (ck_193 _ _ rfl) rfl rfl pp_181 rfl rfl rfl (congrArg Prod.fst (ly_k I25.1.1.1 77 rfl)) rfl rfl rfl rfl ?_
            refine ct_181 I25 F26 (k23) (fun h48 I49 F50 => ?_)
            show av_wp _ cd_193 55 [some (.inr (.inr (.inl (some (77))))), some (.inl x), some (.inl l), some (.inl w), some (.inl k18), some (.inl k19), some (.inl k20), some (.inl k21), some (.inl k22), some (.inl k23)] [] h48 _
            refine av_wp_sqF ck_193 1 (pc' := 56) (lv' := [some (.inr (.inr (.inl (some (77))))), some (.inl x), some (.inl l), some (.inl w), some (.inl k18), some (.inl k19), some (.inl k20), some (.inl k21), some (.inl k22), some (.inl k23)]) (st' := [.inr (.inr (.inl (some (77))))]) (h' := h48) rfl ?_
            obtain ⟨v51, e52⟩ : ∃ v, hF h48 77 50 = v := ⟨_, rfl⟩
            have g53 := im_has I49.1.1
            rw [e52] at g53
            refine wq_gb (p' := 59) (ck_193 _ _ rfl) rfl (congrArg Prod.fst (ly_k I49.1.1.1 77 rfl)) rfl (e52) ?_
            have J59 : ∀ (j54 : Int) (j55 : Int) (j56 : Int) (j57 : Int) (j58 : Int),  av_wp none cd_193 121 [some (.inr (.inr (.inl (some (77))))), some (.inl x), some (.inl l), some (.inl w), some (.inl j54), some (.inl j55), some (.inl j56), some (.inl j57), some (.inl j58), some (.inl k23)] [] h48 Q := by
              intro j54 j55 j56 j57 j58
              refine av_wp_sqF ck_193 2 (pc' := 40) (lv' := [some (.inr (.inr (.inl (some (77))))), some (.inl x), some (.inl l), some (.inl w), some (.inl j54), some (.inl j55), some (.inl j56), some (.inl j57), some (.inl j58), some (.inl (k23 + (1)))]) (st' := []) (h' := h48) rfl ?_
              exact I33 _ (by omega) (j54) (j55) (j56) (j57) (j58) ((k23 + (1))) (n27) (a28) (m29) h48 (by omega) (by omega) I49 F50 rfl
            refine wq_k1 (p' := 62) (ck_193 _ _ rfl) rfl ⟨by omega, by omega⟩ (fun c60 => ?_) (fun c61 => ?_)
            · have c60 : v51 ≠ (0) := c60
              refine av_wp_sqF ck_193 2 (pc' := 79) (lv' := [some (.inr (.inr (.inl (some (77))))), some (.inl x), some (.inl l), some (.inl w), some (.inl (k18 + (1))), some (.inl k19), some (.inl k20), some (.inl k21), some (.inl k22), some (.inl k23)]) (st' := [.inl k19]) (h' := h48) rfl ?_
              have J63 : ∀ (j62 : Int),  av_wp none cd_193 86 [some (.inr (.inr (.inl (some (77))))), some (.inl x), some (.inl l), some (.inl w), some (.inl (k18 + (1))), some (.inl j62), some (.inl k20), some (.inl k21), some (.inl k22), some (.inl k23)] [] h48 Q := by
                intro j62
                refine av_wp_sqF ck_193 1 (pc' := 88) (lv' := [some (.inr (.inr (.inl (some (77))))), some (.inl x), some (.inl l), some (.inl w), some (.inl (k18 + (1))), some (.inl j62), some (.inl k20), some (.inl k21), some (.inl k22), some (.inl k23)]) (st' := [.inl k21]) (h' := h48) rfl ?_
                have J65 : ∀ (j64 : Int),  av_wp none cd_193 106 [some (.inr (.inr (.inl (some (77))))), some (.inl x), some (.inl l), some (.inl w), some (.inl (k18 + (1))), some (.inl j62), some (.inl k20), some (.inl j64), some (.inl k22), some (.inl k23)] [] h48 Q := by
                  intro j64
                  refine av_wp_sqF ck_193 1 (pc' := 107) (lv' := [some (.inr (.inr (.inl (some (77))))), some (.inl x), some (.inl l), some (.inl w), some (.inl (k18 + (1))), some (.inl j62), some (.inl k20), some (.inl j64), some (.inl k22), some (.inl k23)]) (st' := [.inr (.inr (.inl (some (77))))]) (h' := h48) rfl ?_
                  obtain ⟨v66, e67⟩ : ∃ v, hF h48 77 53 = v := ⟨_, rfl⟩
                  refine wq_gi (p' := 110) (ck_193 _ _ rfl) rfl (congrArg Prod.fst (ly_k I49.1.1.1 77 rfl)) rfl (e67) ?_
                  refine av_wp_sqF ck_193 1 (pc' := 112) (lv' := [some (.inr (.inr (.inl (some (77))))), some (.inl x), some (.inl l), some (.inl w), some (.inl (k18 + (1))), some (.inl j62), some (.inl k20), some (.inl j64), some (.inl k22), some (.inl k23)]) (st' := [.inl k22, .inl v66]) (h' := h48) rfl ?_
                  refine wq_c2 (p' := 115) (ck_193 _ _ rfl) rfl ?_ ?_
                  · exact J59 ((k18 + (1))) (j62) (k20) (j64) (k22)
                  · refine av_wp_sqF ck_193 1 (pc' := 116) (lv' := [some (.inr (.inr (.inl (some (77))))), some (.inl x), some (.inl l), some (.inl w), some (.inl (k18 + (1))), some (.inl j62), some (.inl k20), some (.inl j64), some (.inl k22), some (.inl k23)]) (st' := [.inr (.inr (.inl (some (77))))]) (h' := h48) rfl ?_
                    obtain ⟨v68, e69⟩ : ∃ v, hF h48 77 53 = v := ⟨_, rfl⟩
                    refine wq_gi (p' := 119) (ck_193 _ _ rfl) rfl (congrArg Prod.fst (ly_k I49.1.1.1 77 rfl)) rfl (e69) ?_
                    refine av_wp_sqF ck_193 1 (pc' := 121) (lv' := [some (.inr (.inr (.inl (some (77))))), some (.inl x), some (.inl l), some (.inl w), some (.inl (k18 + (1))), some (.inl j62), some (.inl k20), some (.inl j64), some (.inl v68), some (.inl k23)]) (st' := []) (h' := h48) rfl ?_
                    exact J59 ((k18 + (1))) (j62) (k20) (j64) (v68)
                refine wq_c1 (p' := 91) (ck_193 _ _ rfl) rfl ?_ ?_
                · refine av_wp_sqF ck_193 1 (pc' := 101) (lv' := [some (.inr (.inr (.inl (some (77))))), some (.inl x), some (.inl l), some (.inl w), some (.inl (k18 + (1))), some (.inl j62), some (.inl k20), some (.inl k21), some (.inl k22), some (.inl k23)]) (st' := [.inr (.inr (.inl (some (77))))]) (h' := h48) rfl ?_
                  obtain ⟨v70, e71⟩ : ∃ v, hF h48 77 53 = v := ⟨_, rfl⟩
                  refine wq_gi (p' := 104) (ck_193 _ _ rfl) rfl (congrArg Prod.fst (ly_k I49.1.1.1 77 rfl)) rfl (e71) ?_
                  refine av_wp_sqF ck_193 1 (pc' := 106) (lv' := [some (.inr (.inr (.inl (some (77))))), some (.inl x), some (.inl l), some (.inl w), some (.inl (k18 + (1))), some (.inl j62), some (.inl k20), some (.inl v70), some (.inl k22), some (.inl k23)]) (st' := []) (h' := h48) rfl ?_
                  exact J65 (v70)
                · refine av_wp_sqF ck_193 1 (pc' := 92) (lv' := [some (.inr (.inr (.inl (some (77))))), some (.inl x), some (.inl l), some (.inl w), some (.inl (k18 + (1))), some (.inl j62), some (.inl k20), some (.inl k21), some (.inl k22), some (.inl k23)]) (st' := [.inr (.inr (.inl (some (77))))]) (h' := h48) rfl ?_
                  obtain ⟨v72, e73⟩ : ∃ v, hF h48 77 53 = v := ⟨_, rfl⟩
                  refine wq_gi (p' := 95) (ck_193 _ _ rfl) rfl (congrArg Prod.fst (ly_k I49.1.1.1 77 rfl)) rfl (e73) ?_
                  refine av_wp_sqF ck_193 1 (pc' := 97) (lv' := [some (.inr (.inr (.inl (some (77))))), some (.inl x), some (.inl l), some (.inl w), some (.inl (k18 + (1))), some (.inl j62), some (.inl k20), some (.inl k21), some (.inl k22), some (.inl k23)]) (st' := [.inl k21, .inl v72]) (h' := h48) rfl ?_
                  refine wq_c2 (p' := 100) (ck_193 _ _ rfl) rfl ?_ ?_
                  · exact J65 (k21)
                  · refine av_wp_sqF ck_193 1 (pc' := 101) (lv' := [some (.inr (.inr (.inl (some (77))))), some (.inl x), some (.inl l), some (.inl w), some (.inl (k18 + (1))), some (.inl j62), some (.inl k20), some (.inl k21), some (.inl k22), some (.inl k23)]) (st' := [.inr (.inr (.inl (some (77))))]) (h' := h48) rfl ?_
                    obtain ⟨v74, e75⟩ : ∃ v, hF h48 77 53 = v := ⟨_, rfl⟩
                    refine wq_gi (p' := 104) (ck_193 _ _ rfl) rfl (congrArg Prod.fst (ly_k I49.1.1.1 77 rfl)) rfl (e75) ?_
                    refine av_wp_sqF ck_193 1 (pc' := 106) (lv' := [some (.inr (.inr (.inl (some (77))))), some (.inl x), some (.inl l), some (.inl w), some (.inl (k18 + (1))), some (.inl j62), some (.inl k20), some (.inl v74), some (.inl k22), some (.inl k23)]) (st' := []) (h' := h48) rfl ?_
                    exact J65 (v74)
              refine wq_c1 (p' := 82) (ck_193 _ _ rfl) rfl ?_ ?_
              · exact J63 (k19)
              · refine av_wp_sqF ck_193 2 (pc' := 86) (lv' := [some (.inr (.inr (.inl (some (77))))), some (.inl x), some (.inl l), some (.inl w), some (.inl (k18 + (1))), some (.inl k23), some (.inl k20), some (.inl k21), some (.inl k22), some (.inl k23)]) (st' := []) (h' := h48) rfl ?_
                exact J63 (k23)
            · have c61 : v51 = (0) := c61
              refine av_wp_sqF ck_193 1 (pc' := 64) (lv' := [some (.inr (.inr (.inl (some (77))))), some (.inl x), some (.inl l), some (.inl w), some (.inl k18), some (.inl k19), some (.inl k20), some (.inl k21), some (.inl k22), some (.inl k23)]) (st' := [.inl k20]) (h' := h48) rfl ?_
              refine wq_c1 (p' := 67) (ck_193 _ _ rfl) rfl ?_ ?_
              · exact J59 (k18) (k19) (k20) (k21) (k22)
              · refine av_wp_sqF ck_193 3 (pc' := 121) (lv' := [some (.inr (.inr (.inl (some (77))))), some (.inl x), some (.inl l), some (.inl w), some (.inl k18), some (.inl k19), some (.inl k23), some (.inl k21), some (.inl k22), some (.inl k23)]) (st' := []) (h' := h48) rfl ?_
                exact J59 (k18) (k19) (k23) (k21) (k22)
      exact L32 _ ((0)) ((-1)) ((-1)) ((-1)) ((-1)) ((0)) (n9) (a10) (m11) h5 (by omega) (by omega) I6 F7 rfl

set_option maxRecDepth 100000 in
set_option maxHeartbeats 4000000 in
theorem ct_194 {g h : av_H}  (x : Int) {Q : Option av_V → av_H → Prop} (hq : ∀ v : Int, Q (some (.inl v)) h) : av_wp none cd_194 0 [some (.inl x), none, none] [] h Q := by
  refine av_wp_sqF ck_194 4 (pc' := 4) (lv' := [some (.inl x), some (.inl (0)), some (.inl (0))]) (st' := []) (h' := h) rfl ?_
  have L4 : ∀ (m3 : Nat) (k1 : Int) (k2 : Int), (0 ≤ k2 ∧ k2 ≤ 16) → (16 - k2).toNat = m3 → av_wp none cd_194 4 [some (.inl x), some (.inl k1), some (.inl k2)] [] h Q := by
    intro m3
    induction m3 using Nat.strongRecOn with
    | _ m3 I5 =>
      intro k1 k2 g7 e6
      refine av_wp_sqF ck_194 2 (pc' := 7) (lv' := [some (.inl x), some (.inl k1), some (.inl k2)]) (st' := [.inl (16), .inl k2]) (h' := h) rfl ?_
      refine wq_k2 (p' := 10) (ck_194 _ _ rfl) rfl ⟨by omega, by omega⟩ ⟨by omega, by omega⟩ (fun c8 => ?_) (fun c9 => ?_)
      · have c8 : (16) ≤ k2 := c8
        refine av_wp_sqF ck_194 1 (pc' := 25) (lv' := [some (.inl x), some (.inl k1), some (.inl k2)]) (st' := [.inl k1]) (h' := h) rfl ?_
        refine av_wp_ret (v := some (.inl k1)) (ck_194 _ _ rfl) rfl rfl ?_
        exact hq _
      · have c9 : k2 < (16) := c9
        refine av_wp_sqF ck_194 10 (pc' := 4) (lv' := [some (.inl x), some (.inl (k1 + (av_and (av_shr x k2) (1)))), some (.inl (k2 + (1)))]) (st' := []) (h' := h) rfl ?_
        exact I5 _ (by omega) ((k1 + (av_and (av_shr x k2) (1)))) ((k2 + (1))) (by omega) rfl
  exact L4 _ ((0)) ((0)) (by omega) rfl

set_option maxRecDepth 100000 in
set_option maxHeartbeats 4000000 in
theorem ct_198 {g h : av_H} {n a m : Int} (I : IMF n a m h) (F : FM g h) (x : Int) (qx : -2147483648 ≤ x ∧ x ≤ 2147483647) (l : Int) (ql : -2147483648 ≤ l ∧ l ≤ 2147483647) (y : Int) (qy : -2147483648 ≤ y ∧ y ≤ 2147483647) (z : Int) (qz : -2147483648 ≤ z ∧ z ≤ 2147483647) {Q : Option av_V → av_H → Prop} (hq : ∀ (v : Int) n' a' m' h', IMF n' a' m' h' → FM g h' → Q (some (.inl v)) h') : av_wp none cd_198 0 [some (.inr (.inr (.inl (some (77))))), some (.inl x), some (.inl l), some (.inl y), some (.inl z), none, none, none] [] h Q := by
  have gn := im_n I.1.1
  rw [I.2.1] at gn
  have ga := im_a I.1.1
  rw [I.2.2.1] at ga
  have gm := im_cm I.1.1
  rw [I.2.2.2] at gm
  refine av_wp_sqF ck_198 1 (pc' := 2) (lv' := [some (.inr (.inr (.inl (some (77))))), some (.inl x), some (.inl l), some (.inl y), some (.inl z), none, none, none]) (st' := [.inl z]) (h' := h) rfl ?_
  refine wq_k1 (p' := 5) (ck_198 _ _ rfl) rfl ⟨by omega, by omega⟩ (fun c1 => ?_) (fun c2 => ?_)
  · have c1 : z < (0) := c1
    refine av_wp_sqF ck_198 1 (pc' := 17) (lv' := [some (.inr (.inr (.inl (some (77))))), some (.inl x), some (.inl l), some (.inl y), some (.inl z), none, none, none]) (st' := [.inl (-2)]) (h' := h) rfl ?_
    refine av_wp_ret (v := some (.inl (-2))) (ck_198 _ _ rfl) rfl rfl ?_
    exact hq _ _ _ _ h I F
  · have c2 : (0) ≤ z := c2
    refine av_wp_sqF ck_198 4 (pc' := 9) (lv' := [some (.inr (.inr (.inl (some (77))))), some (.inl x), some (.inl l), some (.inl y), some (.inl z), none, none, none]) (st' := [.inl y, .inl l, .inl x, .inr (.inr (.inl (some (77))))]) (h' := h) rfl ?_
    refine wq_cv (p' := 12) (av_qc (.invokevirtual 446) 186 3 0 8) 4 cd_186 [.inl y, .inl l, .inl x] (77) 8 [some (.inr (.inr (.inl (some (77))))), some (.inl x), some (.inl l), some (.inl y)] (ck_198 _ _ rfl) rfl rfl pp_186 rfl rfl rfl (congrArg Prod.fst (ly_k I.1.1.1 77 rfl)) rfl rfl rfl rfl ?_
    refine ct_186 I F (x) (by omega) (l) (by omega) (y) (by omega) (fun n7 a8 m9 h3 I4 F5 => ?_) (fun n7 a8 m9 h3 p6 I4 F5 => ?_)
    · have g10 := im_n I4.1.1
      rw [I4.2.1] at g10
      have g11 := im_a I4.1.1
      rw [I4.2.2.1] at g11
      have g12 := im_cm I4.1.1
      rw [I4.2.2.2] at g12
      show av_wp _ cd_198 12 [some (.inr (.inr (.inl (some (77))))), some (.inl x), some (.inl l), some (.inl y), some (.inl z), none, none, none] [.inl (0)] h3 _
      refine av_wp_sqF ck_198 2 (pc' := 17) (lv' := [some (.inr (.inr (.inl (some (77))))), some (.inl x), some (.inl l), some (.inl y), some (.inl z), none, none, none]) (st' := [.inl (-2)]) (h' := h3) rfl ?_
      refine av_wp_ret (v := some (.inl (-2))) (ck_198 _ _ rfl) rfl rfl ?_
      exact hq _ _ _ _ h3 I4 F5
    · have g13 := im_n I4.1.1
      rw [I4.2.1] at g13
      have g14 := im_a I4.1.1
      rw [I4.2.2.1] at g14
      have g15 := im_cm I4.1.1
      rw [I4.2.2.2] at g15
      show av_wp _ cd_198 12 [some (.inr (.inr (.inl (some (77))))), some (.inl x), some (.inl l), some (.inl y), some (.inl z), none, none, none] [.inl (1)] h3 _
      refine av_wp_sqF ck_198 2 (pc' := 19) (lv' := [some (.inr (.inr (.inl (some (77))))), some (.inl x), some (.inl l), some (.inl y), some (.inl z), none, none, none]) (st' := [.inr (.inr (.inl (some (77))))]) (h' := h3) rfl ?_
      obtain ⟨v16, e17⟩ : ∃ v, hF h3 77 50 = v := ⟨_, rfl⟩
      have g18 := im_has I4.1.1
      rw [e17] at g18
      refine wq_gb (p' := 22) (ck_198 _ _ rfl) rfl (congrArg Prod.fst (ly_k I4.1.1.1 77 rfl)) rfl (e17) ?_
      refine wq_k1 (p' := 25) (ck_198 _ _ rfl) rfl ⟨by omega, by omega⟩ (fun c19 => ?_) (fun c20 => ?_)
      · have c19 : v16 ≠ (0) := c19
        refine av_wp_sqF ck_198 1 (pc' := 28) (lv' := [some (.inr (.inr (.inl (some (77))))), some (.inl x), some (.inl l), some (.inl y), some (.inl z), none, none, none]) (st' := [.inr (.inr (.inl (some (77))))]) (h' := h3) rfl ?_
        refine wq_gr (p' := 31) (ck_198 _ _ rfl) rfl (congrArg Prod.fst (ly_k I4.1.1.1 77 rfl)) rfl (ly_g I4.1.1.1 77 26 95 rfl) ?_
        refine av_wp_sqF ck_198 1 (pc' := 33) (lv' := [some (.inr (.inr (.inl (some (77))))), some (.inl x), some (.inl l), some (.inl y), some (.inl z), none, none, none]) (st' := [.inl (12), .inr (.inr (.inl (some (95))))]) (h' := h3) rfl ?_
        obtain ⟨v21, e22⟩ : ∃ v, hA h3 95 (Int.toNat ((12))) = v := ⟨_, rfl⟩
        refine wq_al (p' := 34) (n := 13) (ck_198 _ _ rfl) rfl (ly_k I4.1.1.1 95 rfl) (by omega) (e22) ?_
        have J25 : ∀ (j24 : Int),  av_wp none cd_198 45 [some (.inr (.inr (.inl (some (77))))), some (.inl x), some (.inl l), some (.inl y), some (.inl z), none, none, none] [.inl j24] h3 Q := by
          intro j24
          refine av_wp_sqF ck_198 3 (pc' := 50) (lv' := [some (.inr (.inr (.inl (some (77))))), some (.inl x), some (.inl l), some (.inl y), some (.inl z), some (.inl j24), some (.inl (0)), none]) (st' := []) (h' := h3) rfl ?_
          have L30 : ∀ (m29 : Nat) (k26 : Int) (k27 : Int) (a28 : Option av_V), av_lg a28 = false → (0 ≤ k27 ∧ k27 ≤ 12) → (12 - k27).toNat = m29 → av_wp none cd_198 50 [some (.inr (.inr (.inl (some (77))))), some (.inl x), some (.inl l), some (.inl y), some (.inl z), some (.inl k26), some (.inl k27), a28] [] h3 Q := by
            intro m29
            induction m29 using Nat.strongRecOn with
            | _ m29 I31 =>
              intro k26 k27 a28 g33 g34 e32
              have la28 := g33
              refine av_wp_sqF ck_198 2 (pc' := 53) (lv' := [some (.inr (.inr (.inl (some (77))))), some (.inl x), some (.inl l), some (.inl y), some (.inl z), some (.inl k26), some (.inl k27), a28]) (st' := [.inr (.inr (.inl (some (77)))), .inl k27]) (h' := h3) rfl ?_
              refine wq_gi (p' := 56) (ck_198 _ _ rfl) rfl (congrArg Prod.fst (ly_k I4.1.1.1 77 rfl)) rfl (I4.2.1) ?_
              have J35 : av_wp none cd_198 143 [some (.inr (.inr (.inl (some (77))))), some (.inl x), some (.inl l), some (.inl y), some (.inl z), some (.inl k26), some (.inl k27), a28] [] h3 Q := by
                refine av_wp_sqF ck_198 1 (pc' := 145) (lv' := [some (.inr (.inr (.inl (some (77))))), some (.inl x), some (.inl l), some (.inl y), some (.inl z), some (.inl k26), some (.inl k27), a28]) (st' := [.inl k26]) (h' := h3) rfl ?_
                have J37 : ∀ (j36 : Int),  av_wp none cd_198 163 [some (.inr (.inr (.inl (some (77))))), some (.inl x), some (.inl l), some (.inl y), some (.inl z), some (.inl j36), some (.inl k27), a28] [] h3 Q := by
                  intro j36
                  refine av_wp_sqF ck_198 1 (pc' := 165) (lv' := [some (.inr (.inr (.inl (some (77))))), some (.inl x), some (.inl l), some (.inl y), some (.inl z), some (.inl j36), some (.inl k27), a28]) (st' := [.inl j36]) (h' := h3) rfl ?_
                  refine wq_c1 (p' := 168) (ck_198 _ _ rfl) rfl ?_ ?_
                  · refine av_wp_sqF ck_198 1 (pc' := 188) (lv' := [some (.inr (.inr (.inl (some (77))))), some (.inl x), some (.inl l), some (.inl y), some (.inl z), some (.inl j36), some (.inl k27), a28]) (st' := [.inr (.inr (.inl (some (77))))]) (h' := h3) rfl ?_
                    refine wq_gr (p' := 191) (ck_198 _ _ rfl) rfl (congrArg Prod.fst (ly_k I4.1.1.1 77 rfl)) rfl (ly_g I4.1.1.1 77 35 101 rfl) ?_
                    refine av_wp_sqF ck_198 1 (pc' := 192) (lv' := [some (.inr (.inr (.inl (some (77))))), some (.inl x), some (.inl l), some (.inl y), some (.inl z), some (.inl j36), some (.inl k27), a28]) (st' := [.inr (.inr (.inl (some (77)))), .inr (.inr (.inl (some (101))))]) (h' := h3) rfl ?_
                    obtain ⟨v38, e39⟩ : ∃ v, hF h3 77 52 = v := ⟨_, rfl⟩
                    have g40 := im_of I4.1.1
                    rw [e39] at g40
                    refine wq_gi (p' := 195) (ck_198 _ _ rfl) rfl (congrArg Prod.fst (ly_k I4.1.1.1 77 rfl)) rfl (e39) ?_
                    obtain ⟨v41, e42⟩ : ∃ v, hA h3 101 (Int.toNat (v38)) = v := ⟨_, rfl⟩
                    have g43 : 0 ≤ hA h3 101 (Int.toNat (v38)) ∧ hA h3 101 (Int.toNat (v38)) ≤ 2 := im_w I4.1.1 101 (by decide) (by decide) _
                    rw [e42] at g43
                    refine wq_al (p' := 196) (n := 12) (ck_198 _ _ rfl) rfl (ly_k I4.1.1.1 101 rfl) (by omega) (e42) ?_
                    refine av_wp_ret (v := some (.inl v41)) (ck_198 _ _ rfl) rfl rfl ?_
                    exact hq _ _ _ _ h3 I4 F5
                  · refine av_wp_sqF ck_198 2 (pc' := 172) (lv' := [some (.inr (.inr (.inl (some (77))))), some (.inl x), some (.inl l), some (.inl y), some (.inl z), some (.inl j36), some (.inl k27), a28]) (st' := [.inl j36, .inl z]) (h' := h3) rfl ?_
                    refine wq_c2 (p' := 175) (ck_198 _ _ rfl) rfl ?_ ?_
                    · refine av_wp_sqF ck_198 1 (pc' := 188) (lv' := [some (.inr (.inr (.inl (some (77))))), some (.inl x), some (.inl l), some (.inl y), some (.inl z), some (.inl j36), some (.inl k27), a28]) (st' := [.inr (.inr (.inl (some (77))))]) (h' := h3) rfl ?_
                      refine wq_gr (p' := 191) (ck_198 _ _ rfl) rfl (congrArg Prod.fst (ly_k I4.1.1.1 77 rfl)) rfl (ly_g I4.1.1.1 77 35 101 rfl) ?_
                      refine av_wp_sqF ck_198 1 (pc' := 192) (lv' := [some (.inr (.inr (.inl (some (77))))), some (.inl x), some (.inl l), some (.inl y), some (.inl z), some (.inl j36), some (.inl k27), a28]) (st' := [.inr (.inr (.inl (some (77)))), .inr (.inr (.inl (some (101))))]) (h' := h3) rfl ?_
                      obtain ⟨v44, e45⟩ : ∃ v, hF h3 77 52 = v := ⟨_, rfl⟩
                      have g46 := im_of I4.1.1
                      rw [e45] at g46
                      refine wq_gi (p' := 195) (ck_198 _ _ rfl) rfl (congrArg Prod.fst (ly_k I4.1.1.1 77 rfl)) rfl (e45) ?_
                      obtain ⟨v47, e48⟩ : ∃ v, hA h3 101 (Int.toNat (v44)) = v := ⟨_, rfl⟩
                      have g49 : 0 ≤ hA h3 101 (Int.toNat (v44)) ∧ hA h3 101 (Int.toNat (v44)) ≤ 2 := im_w I4.1.1 101 (by decide) (by decide) _
                      rw [e48] at g49
                      refine wq_al (p' := 196) (n := 12) (ck_198 _ _ rfl) rfl (ly_k I4.1.1.1 101 rfl) (by omega) (e48) ?_
                      refine av_wp_ret (v := some (.inl v47)) (ck_198 _ _ rfl) rfl rfl ?_
                      exact hq _ _ _ _ h3 I4 F5
                    · refine av_wp_sqF ck_198 1 (pc' := 176) (lv' := [some (.inr (.inr (.inl (some (77))))), some (.inl x), some (.inl l), some (.inl y), some (.inl z), some (.inl j36), some (.inl k27), a28]) (st' := [.inr (.inr (.inl (some (77))))]) (h' := h3) rfl ?_
                      refine wq_gr (p' := 179) (ck_198 _ _ rfl) rfl (congrArg Prod.fst (ly_k I4.1.1.1 77 rfl)) rfl (ly_g I4.1.1.1 77 36 102 rfl) ?_
                      refine av_wp_sqF ck_198 1 (pc' := 180) (lv' := [some (.inr (.inr (.inl (some (77))))), some (.inl x), some (.inl l), some (.inl y), some (.inl z), some (.inl j36), some (.inl k27), a28]) (st' := [.inr (.inr (.inl (some (77)))), .inr (.inr (.inl (some (102))))]) (h' := h3) rfl ?_
                      obtain ⟨v50, e51⟩ : ∃ v, hF h3 77 52 = v := ⟨_, rfl⟩
                      have g52 := im_of I4.1.1
                      rw [e51] at g52
                      refine wq_gi (p' := 183) (ck_198 _ _ rfl) rfl (congrArg Prod.fst (ly_k I4.1.1.1 77 rfl)) rfl (e51) ?_
                      obtain ⟨v53, e54⟩ : ∃ v, hA h3 102 (Int.toNat (v50)) = v := ⟨_, rfl⟩
                      have g55 : -1 ≤ hA h3 102 (Int.toNat (v50)) ∧ hA h3 102 (Int.toNat (v50)) ≤ 2 := im_w I4.1.1 102 (by decide) (by decide) _
                      rw [e54] at g55
                      refine wq_al (p' := 184) (n := 12) (ck_198 _ _ rfl) rfl (ly_k I4.1.1.1 102 rfl) (by omega) (e54) ?_
                      refine av_wp_sqF ck_198 1 (pc' := 196) (lv' := [some (.inr (.inr (.inl (some (77))))), some (.inl x), some (.inl l), some (.inl y), some (.inl z), some (.inl j36), some (.inl k27), a28]) (st' := [.inl v53]) (h' := h3) rfl ?_
                      refine av_wp_ret (v := some (.inl v53)) (ck_198 _ _ rfl) rfl rfl ?_
                      exact hq _ _ _ _ h3 I4 F5
                refine wq_c1 (p' := 148) (ck_198 _ _ rfl) rfl ?_ ?_
                · exact J37 (k26)
                · refine av_wp_sqF ck_198 2 (pc' := 151) (lv' := [some (.inr (.inr (.inl (some (77))))), some (.inl x), some (.inl l), some (.inl y), some (.inl z), some (.inl k26), some (.inl k27), a28]) (st' := [.inr (.inr (.inl (some (77)))), .inl k26]) (h' := h3) rfl ?_
                  obtain ⟨v56, e57⟩ : ∃ v, hF h3 77 53 = v := ⟨_, rfl⟩
                  refine wq_gi (p' := 154) (ck_198 _ _ rfl) rfl (congrArg Prod.fst (ly_k I4.1.1.1 77 rfl)) rfl (e57) ?_
                  refine wq_c2 (p' := 157) (ck_198 _ _ rfl) rfl ?_ ?_
                  · exact J37 (k26)
                  · refine av_wp_sqF ck_198 1 (pc' := 158) (lv' := [some (.inr (.inr (.inl (some (77))))), some (.inl x), some (.inl l), some (.inl y), some (.inl z), some (.inl k26), some (.inl k27), a28]) (st' := [.inr (.inr (.inl (some (77))))]) (h' := h3) rfl ?_
                    obtain ⟨v58, e59⟩ : ∃ v, hF h3 77 53 = v := ⟨_, rfl⟩
                    refine wq_gi (p' := 161) (ck_198 _ _ rfl) rfl (congrArg Prod.fst (ly_k I4.1.1.1 77 rfl)) rfl (e59) ?_
                    refine av_wp_sqF ck_198 1 (pc' := 163) (lv' := [some (.inr (.inr (.inl (some (77))))), some (.inl x), some (.inl l), some (.inl y), some (.inl z), some (.inl v58), some (.inl k27), a28]) (st' := []) (h' := h3) rfl ?_
                    exact J37 (v58)
              refine wq_k2 (p' := 59) (ck_198 _ _ rfl) rfl ⟨by omega, by omega⟩ ⟨by omega, by omega⟩ (fun c60 => ?_) (fun c61 => ?_)
              · have c60 : n7 ≤ k27 := c60
                exact J35 
              · have c61 : k27 < n7 := c61
                refine av_wp_sqF ck_198 1 (pc' := 60) (lv' := [some (.inr (.inr (.inl (some (77))))), some (.inl x), some (.inl l), some (.inl y), some (.inl z), some (.inl k26), some (.inl k27), a28]) (st' := [.inr (.inr (.inl (some (77))))]) (h' := h3) rfl ?_
                refine wq_gr (p' := 63) (ck_198 _ _ rfl) rfl (congrArg Prod.fst (ly_k I4.1.1.1 77 rfl)) rfl (ly_g I4.1.1.1 77 26 95 rfl) ?_
                refine av_wp_sqF ck_198 1 (pc' := 65) (lv' := [some (.inr (.inr (.inl (some (77))))), some (.inl x), some (.inl l), some (.inl y), some (.inl z), some (.inl k26), some (.inl k27), a28]) (st' := [.inl (12), .inr (.inr (.inl (some (95))))]) (h' := h3) rfl ?_
                obtain ⟨v62, e63⟩ : ∃ v, hA h3 95 (Int.toNat ((12))) = v := ⟨_, rfl⟩
                refine wq_al (p' := 66) (n := 13) (ck_198 _ _ rfl) rfl (ly_k I4.1.1.1 95 rfl) (by omega) (e63) ?_
                refine wq_c1 (p' := 69) (ck_198 _ _ rfl) rfl ?_ ?_
                · exact J35 
                · refine av_wp_sqF ck_198 1 (pc' := 70) (lv' := [some (.inr (.inr (.inl (some (77))))), some (.inl x), some (.inl l), some (.inl y), some (.inl z), some (.inl k26), some (.inl k27), a28]) (st' := [.inr (.inr (.inl (some (77))))]) (h' := h3) rfl ?_
                  refine wq_gr (p' := 73) (ck_198 _ _ rfl) rfl (congrArg Prod.fst (ly_k I4.1.1.1 77 rfl)) rfl (ly_g I4.1.1.1 77 30 96 rfl) ?_
                  refine av_wp_sqF ck_198 1 (pc' := 75) (lv' := [some (.inr (.inr (.inl (some (77))))), some (.inl x), some (.inl l), some (.inl y), some (.inl z), some (.inl k26), some (.inl k27), a28]) (st' := [.inl k27, .inr (.inr (.inl (some (96))))]) (h' := h3) rfl ?_
                  obtain ⟨v65, e66⟩ : ∃ v, hA h3 96 (Int.toNat (k27)) = v := ⟨_, rfl⟩
                  have g67 : 0 ≤ hA h3 96 (Int.toNat (k27)) ∧ hA h3 96 (Int.toNat (k27)) ≤ 7 := im_w I4.1.1 96 (by decide) (by decide) _
                  rw [e66] at g67
                  refine wq_al (p' := 76) (n := 12) (ck_198 _ _ rfl) rfl (ly_k I4.1.1.1 96 rfl) (by omega) (e66) ?_
                  refine av_wp_sqF ck_198 1 (pc' := 78) (lv' := [some (.inr (.inr (.inl (some (77))))), some (.inl x), some (.inl l), some (.inl y), some (.inl z), some (.inl k26), some (.inl k27), a28]) (st' := [.inl (7), .inl v65]) (h' := h3) rfl ?_
                  have J69 : ∀ (j68 : Int),  av_wp none cd_198 114 [some (.inr (.inr (.inl (some (77))))), some (.inl x), some (.inl l), some (.inl y), some (.inl z), some (.inl k26), some (.inl k27), a28] [.inl j68] h3 Q := by
                    intro j68
                    refine av_wp_sqF ck_198 2 (pc' := 118) (lv' := [some (.inr (.inr (.inl (some (77))))), some (.inl x), some (.inl l), some (.inl y), some (.inl z), some (.inl k26), some (.inl k27), some (.inl j68)]) (st' := [.inl j68]) (h' := h3) rfl ?_
                    have J71 : ∀ (j70 : Int),  av_wp none cd_198 137 [some (.inr (.inr (.inl (some (77))))), some (.inl x), some (.inl l), some (.inl y), some (.inl z), some (.inl j70), some (.inl k27), some (.inl j68)] [] h3 Q := by
                      intro j70
                      refine av_wp_sqF ck_198 2 (pc' := 50) (lv' := [some (.inr (.inr (.inl (some (77))))), some (.inl x), some (.inl l), some (.inl y), some (.inl z), some (.inl j70), some (.inl (k27 + (1))), some (.inl j68)]) (st' := []) (h' := h3) rfl ?_
                      exact I31 _ (by omega) (j70) ((k27 + (1))) (some (.inl j68)) rfl (by omega) rfl
                    refine wq_c1 (p' := 121) (ck_198 _ _ rfl) rfl ?_ ?_
                    · exact J71 (k26)
                    · refine av_wp_sqF ck_198 1 (pc' := 123) (lv' := [some (.inr (.inr (.inl (some (77))))), some (.inl x), some (.inl l), some (.inl y), some (.inl z), some (.inl k26), some (.inl k27), some (.inl j68)]) (st' := [.inl k26]) (h' := h3) rfl ?_
                      refine wq_c1 (p' := 126) (ck_198 _ _ rfl) rfl ?_ ?_
                      · refine av_wp_sqF ck_198 2 (pc' := 137) (lv' := [some (.inr (.inr (.inl (some (77))))), some (.inl x), some (.inl l), some (.inl y), some (.inl z), some (.inl j68), some (.inl k27), some (.inl j68)]) (st' := []) (h' := h3) rfl ?_
                        exact J71 (j68)
                      · refine av_wp_sqF ck_198 2 (pc' := 130) (lv' := [some (.inr (.inr (.inl (some (77))))), some (.inl x), some (.inl l), some (.inl y), some (.inl z), some (.inl k26), some (.inl k27), some (.inl j68)]) (st' := [.inl k26, .inl j68]) (h' := h3) rfl ?_
                        refine wq_c2 (p' := 133) (ck_198 _ _ rfl) rfl ?_ ?_
                        · exact J71 (k26)
                        · refine av_wp_sqF ck_198 2 (pc' := 137) (lv' := [some (.inr (.inr (.inl (some (77))))), some (.inl x), some (.inl l), some (.inl y), some (.inl z), some (.inl j68), some (.inl k27), some (.inl j68)]) (st' := []) (h' := h3) rfl ?_
                          exact J71 (j68)
                  refine wq_k2 (p' := 81) (ck_198 _ _ rfl) rfl ⟨by omega, by omega⟩ ⟨by omega, by omega⟩ (fun c72 => ?_) (fun c73 => ?_)
                  · have c72 : v65 ≠ (7) := c72
                    refine av_wp_sqF ck_198 1 (pc' := 114) (lv' := [some (.inr (.inr (.inl (some (77))))), some (.inl x), some (.inl l), some (.inl y), some (.inl z), some (.inl k26), some (.inl k27), a28]) (st' := [.inl (-1)]) (h' := h3) rfl ?_
                    exact J69 ((-1))
                  · have c73 : v65 = (7) := c73
                    refine av_wp_sqF ck_198 1 (pc' := 82) (lv' := [some (.inr (.inr (.inl (some (77))))), some (.inl x), some (.inl l), some (.inl y), some (.inl z), some (.inl k26), some (.inl k27), a28]) (st' := [.inr (.inr (.inl (some (77))))]) (h' := h3) rfl ?_
                    refine wq_gr (p' := 85) (ck_198 _ _ rfl) rfl (congrArg Prod.fst (ly_k I4.1.1.1 77 rfl)) rfl (ly_g I4.1.1.1 77 34 100 rfl) ?_
                    refine av_wp_sqF ck_198 1 (pc' := 87) (lv' := [some (.inr (.inr (.inl (some (77))))), some (.inl x), some (.inl l), some (.inl y), some (.inl z), some (.inl k26), some (.inl k27), a28]) (st' := [.inl k27, .inr (.inr (.inl (some (100))))]) (h' := h3) rfl ?_
                    obtain ⟨v74, e75⟩ : ∃ v, hA h3 100 (Int.toNat (k27)) = v := ⟨_, rfl⟩
                    have g76 : -1 ≤ hA h3 100 (Int.toNat (k27)) ∧ hA h3 100 (Int.toNat (k27)) ≤ 11 := im_w I4.1.1 100 (by decide) (by decide) _
                    rw [e75] at g76
                    have w77 := im_wr I4.1 (Int.toNat (k27)) (by omega)
                    rw [e75] at w77
                    refine wq_al (p' := 88) (n := 12) (ck_198 _ _ rfl) rfl (ly_k I4.1.1.1 100 rfl) (by omega) (e75) ?_
                    refine av_wp_sqF ck_198 1 (pc' := 89) (lv' := [some (.inr (.inr (.inl (some (77))))), some (.inl x), some (.inl l), some (.inl y), some (.inl z), some (.inl k26), some (.inl k27), a28]) (st' := [.inr (.inr (.inl (some (77)))), .inl v74]) (h' := h3) rfl ?_
                    obtain ⟨v78, e79⟩ : ∃ v, hF h3 77 52 = v := ⟨_, rfl⟩
                    have g80 := im_of I4.1.1
                    rw [e79] at g80
                    refine wq_gi (p' := 92) (ck_198 _ _ rfl) rfl (congrArg Prod.fst (ly_k I4.1.1.1 77 rfl)) rfl (e79) ?_
                    refine wq_k2 (p' := 95) (ck_198 _ _ rfl) rfl ⟨by omega, by omega⟩ ⟨by omega, by omega⟩ (fun c81 => ?_) (fun c82 => ?_)
                    · have c81 : v74 ≠ v78 := c81
                      refine av_wp_sqF ck_198 1 (pc' := 114) (lv' := [some (.inr (.inr (.inl (some (77))))), some (.inl x), some (.inl l), some (.inl y), some (.inl z), some (.inl k26), some (.inl k27), a28]) (st' := [.inl (-1)]) (h' := h3) rfl ?_
                      exact J69 ((-1))
                    · have c82 : v74 = v78 := c82
                      refine av_wp_sqF ck_198 3 (pc' := 99) (lv' := [some (.inr (.inr (.inl (some (77))))), some (.inl x), some (.inl l), some (.inl y), some (.inl z), some (.inl k26), some (.inl k27), a28]) (st' := [.inr (.inr (.inl (some (77)))), .inl k27, .inr (.inr (.inl (some (77))))]) (h' := h3) rfl ?_
                      refine wq_gr (p' := 102) (ck_198 _ _ rfl) rfl (congrArg Prod.fst (ly_k I4.1.1.1 77 rfl)) rfl (ly_g I4.1.1.1 77 26 95 rfl) ?_
                      refine av_wp_sqF ck_198 1 (pc' := 104) (lv' := [some (.inr (.inr (.inl (some (77))))), some (.inl x), some (.inl l), some (.inl y), some (.inl z), some (.inl k26), some (.inl k27), a28]) (st' := [.inl (12), .inr (.inr (.inl (some (95)))), .inl k27, .inr (.inr (.inl (some (77))))]) (h' := h3) rfl ?_
                      obtain ⟨v83, e84⟩ : ∃ v, hA h3 95 (Int.toNat ((12))) = v := ⟨_, rfl⟩
                      refine wq_al (p' := 105) (n := 13) (ck_198 _ _ rfl) rfl (ly_k I4.1.1.1 95 rfl) (by omega) (e84) ?_
                      refine av_wp_sqF ck_198 2 (pc' := 107) (lv' := [some (.inr (.inr (.inl (some (77))))), some (.inl x), some (.inl l), some (.inl y), some (.inl z), some (.inl k26), some (.inl k27), a28]) (st' := [.inl (v83 - (1)), .inl k27, .inr (.inr (.inl (some (77))))]) (h' := h3) rfl ?_
                      refine wq_cv (p' := 110) (av_qc (.invokevirtual 363) 166 2 0 8) 3 cd_166 [.inl (v83 - (1)), .inl k27] (77) 8 [some (.inr (.inr (.inl (some (77))))), some (.inl k27), some (.inl (v83 - (1)))] (ck_198 _ _ rfl) rfl rfl pp_166 rfl rfl rfl (congrArg Prod.fst (ly_k I4.1.1.1 77 rfl)) rfl rfl rfl rfl ?_
                      refine ct_166 I4 F5 (k27) (by omega) ((v83 - (1))) (fun v86 => ?_)
                      show av_wp _ cd_198 110 [some (.inr (.inr (.inl (some (77))))), some (.inl x), some (.inl l), some (.inl y), some (.inl z), some (.inl k26), some (.inl k27), a28] [.inl v86] h3 _
                      refine av_wp_sqF ck_198 1 (pc' := 114) (lv' := [some (.inr (.inr (.inl (some (77))))), some (.inl x), some (.inl l), some (.inl y), some (.inl z), some (.inl k26), some (.inl k27), a28]) (st' := [.inl v86]) (h' := h3) rfl ?_
                      exact J69 (v86)
          exact L30 _ (j24) ((0)) (none) rfl (by omega) rfl
        refine wq_c1 (p' := 37) (ck_198 _ _ rfl) rfl ?_ ?_
        · refine av_wp_sqF ck_198 1 (pc' := 45) (lv' := [some (.inr (.inr (.inl (some (77))))), some (.inl x), some (.inl l), some (.inl y), some (.inl z), none, none, none]) (st' := [.inl (-1)]) (h' := h3) rfl ?_
          exact J25 ((-1))
        · refine av_wp_sqF ck_198 1 (pc' := 38) (lv' := [some (.inr (.inr (.inl (some (77))))), some (.inl x), some (.inl l), some (.inl y), some (.inl z), none, none, none]) (st' := [.inr (.inr (.inl (some (77))))]) (h' := h3) rfl ?_
          obtain ⟨v88, e89⟩ : ∃ v, hF h3 77 53 = v := ⟨_, rfl⟩
          refine wq_gi (p' := 41) (ck_198 _ _ rfl) rfl (congrArg Prod.fst (ly_k I4.1.1.1 77 rfl)) rfl (e89) ?_
          refine av_wp_sqF ck_198 1 (pc' := 45) (lv' := [some (.inr (.inr (.inl (some (77))))), some (.inl x), some (.inl l), some (.inl y), some (.inl z), none, none, none]) (st' := [.inl v88]) (h' := h3) rfl ?_
          exact J25 (v88)
      · have c20 : v16 = (0) := c20
        refine av_wp_sqF ck_198 1 (pc' := 26) (lv' := [some (.inr (.inr (.inl (some (77))))), some (.inl x), some (.inl l), some (.inl y), some (.inl z), none, none, none]) (st' := [.inl (-1)]) (h' := h3) rfl ?_
        refine av_wp_ret (v := some (.inl (-1))) (ck_198 _ _ rfl) rfl rfl ?_
        exact hq _ _ _ _ h3 I4 F5

set_option maxRecDepth 100000 in
set_option maxHeartbeats 4000000 in
theorem ct_199 {g h : av_H} {n a m : Int} (I : IMF n a m h) (F : FM g h) (x : Int) (qx : -2147483648 ≤ x ∧ x ≤ 2147483647) (l : Int) (ql : -2147483648 ≤ l ∧ l ≤ 2147483647) (y : Int) (qy : -2147483648 ≤ y ∧ y ≤ 2147483647) (z : Int) (w : Int) {Q : Option av_V → av_H → Prop} (hq : ∀ (v : Int) n' a' m' h', IMF n' a' m' h' → FM g h' → Q (some (.inl v)) h') : av_wp none cd_199 0 [some (.inr (.inr (.inl (some (77))))), some (.inl x), some (.inl l), some (.inl y), some (.inl z), some (.inl w)] [] h Q := by
  have gn := im_n I.1.1
  rw [I.2.1] at gn
  have ga := im_a I.1.1
  rw [I.2.2.1] at ga
  have gm := im_cm I.1.1
  rw [I.2.2.2] at gm
  refine av_wp_sqF ck_199 4 (pc' := 4) (lv' := [some (.inr (.inr (.inl (some (77))))), some (.inl x), some (.inl l), some (.inl y), some (.inl z), some (.inl w)]) (st' := [.inl y, .inl l, .inl x, .inr (.inr (.inl (some (77))))]) (h' := h) rfl ?_
  refine wq_cv (p' := 7) (av_qc (.invokevirtual 446) 186 3 0 8) 4 cd_186 [.inl y, .inl l, .inl x] (77) 8 [some (.inr (.inr (.inl (some (77))))), some (.inl x), some (.inl l), some (.inl y)] (ck_199 _ _ rfl) rfl rfl pp_186 rfl rfl rfl (congrArg Prod.fst (ly_k I.1.1.1 77 rfl)) rfl rfl rfl rfl ?_
  refine ct_186 I F (x) (by omega) (l) (by omega) (y) (by omega) (fun n5 a6 m7 h1 I2 F3 => ?_) (fun n5 a6 m7 h1 p4 I2 F3 => ?_)
  · have g8 := im_n I2.1.1
    rw [I2.2.1] at g8
    have g9 := im_a I2.1.1
    rw [I2.2.2.1] at g9
    have g10 := im_cm I2.1.1
    rw [I2.2.2.2] at g10
    show av_wp _ cd_199 7 [some (.inr (.inr (.inl (some (77))))), some (.inl x), some (.inl l), some (.inl y), some (.inl z), some (.inl w)] [.inl (0)] h1 _
    refine av_wp_sqF ck_199 2 (pc' := 12) (lv' := [some (.inr (.inr (.inl (some (77))))), some (.inl x), some (.inl l), some (.inl y), some (.inl z), some (.inl w)]) (st' := [.inl (-2)]) (h' := h1) rfl ?_
    refine av_wp_ret (v := some (.inl (-2))) (ck_199 _ _ rfl) rfl rfl ?_
    exact hq _ _ _ _ h1 I2 F3
  · have g11 := im_n I2.1.1
    rw [I2.2.1] at g11
    have g12 := im_a I2.1.1
    rw [I2.2.2.1] at g12
    have g13 := im_cm I2.1.1
    rw [I2.2.2.2] at g13
    show av_wp _ cd_199 7 [some (.inr (.inr (.inl (some (77))))), some (.inl x), some (.inl l), some (.inl y), some (.inl z), some (.inl w)] [.inl (1)] h1 _
    refine av_wp_sqF ck_199 3 (pc' := 17) (lv' := [some (.inr (.inr (.inl (some (77))))), some (.inl x), some (.inl l), some (.inl y), some (.inl z), some (.inl w)]) (st' := [.inl (-2), .inl z]) (h' := h1) rfl ?_
    refine wq_c2 (p' := 20) (ck_199 _ _ rfl) rfl ?_ ?_
    · refine av_wp_sqF ck_199 2 (pc' := 26) (lv' := [some (.inr (.inr (.inl (some (77))))), some (.inl x), some (.inl l), some (.inl y), some (.inl z), some (.inl w)]) (st' := [.inr (.inr (.inl (some (77)))), .inl (0)]) (h' := h1) rfl ?_
      obtain ⟨v14, e15⟩ : ∃ v, hF h1 77 50 = v := ⟨_, rfl⟩
      have g16 := im_has I2.1.1
      rw [e15] at g16
      refine wq_gb (p' := 29) (ck_199 _ _ rfl) rfl (congrArg Prod.fst (ly_k I2.1.1.1 77 rfl)) rfl (e15) ?_
      refine wq_k2 (p' := 32) (ck_199 _ _ rfl) rfl ⟨by omega, by omega⟩ ⟨by omega, by omega⟩ (fun c17 => ?_) (fun c18 => ?_)
      · have c17 : (0) = v14 := c17
        refine av_wp_sqF ck_199 1 (pc' := 35) (lv' := [some (.inr (.inr (.inl (some (77))))), some (.inl x), some (.inl l), some (.inl y), some (.inl z), some (.inl w)]) (st' := [.inr (.inr (.inl (some (77))))]) (h' := h1) rfl ?_
        obtain ⟨v19, e20⟩ : ∃ v, hF h1 77 50 = v := ⟨_, rfl⟩
        have g21 := im_has I2.1.1
        rw [e20] at g21
        refine wq_gb (p' := 38) (ck_199 _ _ rfl) rfl (congrArg Prod.fst (ly_k I2.1.1.1 77 rfl)) rfl (e20) ?_
        refine wq_k1 (p' := 41) (ck_199 _ _ rfl) rfl ⟨by omega, by omega⟩ (fun c22 => ?_) (fun c23 => ?_)
        · have c22 : v19 ≠ (0) := c22
          refine av_wp_sqF ck_199 2 (pc' := 46) (lv' := [some (.inr (.inr (.inl (some (77))))), some (.inl x), some (.inl l), some (.inl y), some (.inl z), some (.inl w)]) (st' := [.inr (.inr (.inl (some (77)))), .inl z]) (h' := h1) rfl ?_
          obtain ⟨v24, e25⟩ : ∃ v, hF h1 77 51 = v := ⟨_, rfl⟩
          have g26 := im_by I2.1.1
          rw [e25] at g26
          refine wq_gi (p' := 49) (ck_199 _ _ rfl) rfl (congrArg Prod.fst (ly_k I2.1.1.1 77 rfl)) rfl (e25) ?_
          refine wq_c2 (p' := 52) (ck_199 _ _ rfl) rfl ?_ ?_
          · refine av_wp_sqF ck_199 2 (pc' := 59) (lv' := [some (.inr (.inr (.inl (some (77))))), some (.inl x), some (.inl l), some (.inl y), some (.inl z), some (.inl w)]) (st' := [.inr (.inr (.inl (some (77)))), .inl w]) (h' := h1) rfl ?_
            obtain ⟨v27, e28⟩ : ∃ v, hF h1 77 53 = v := ⟨_, rfl⟩
            refine wq_gi (p' := 62) (ck_199 _ _ rfl) rfl (congrArg Prod.fst (ly_k I2.1.1.1 77 rfl)) rfl (e28) ?_
            refine wq_c2 (p' := 65) (ck_199 _ _ rfl) rfl ?_ ?_
            · refine av_wp_sqF ck_199 1 (pc' := 70) (lv' := [some (.inr (.inr (.inl (some (77))))), some (.inl x), some (.inl l), some (.inl y), some (.inl z), some (.inl w)]) (st' := [.inl (-1)]) (h' := h1) rfl ?_
              refine av_wp_ret (v := some (.inl (-1))) (ck_199 _ _ rfl) rfl rfl ?_
              exact hq _ _ _ _ h1 I2 F3
            · refine av_wp_sqF ck_199 2 (pc' := 70) (lv' := [some (.inr (.inr (.inl (some (77))))), some (.inl x), some (.inl l), some (.inl y), some (.inl z), some (.inl w)]) (st' := [.inl (2)]) (h' := h1) rfl ?_
              refine av_wp_ret (v := some (.inl (2))) (ck_199 _ _ rfl) rfl rfl ?_
              exact hq _ _ _ _ h1 I2 F3
          · refine av_wp_sqF ck_199 2 (pc' := 70) (lv' := [some (.inr (.inr (.inl (some (77))))), some (.inl x), some (.inl l), some (.inl y), some (.inl z), some (.inl w)]) (st' := [.inl (1)]) (h' := h1) rfl ?_
            refine av_wp_ret (v := some (.inl (1))) (ck_199 _ _ rfl) rfl rfl ?_
            exact hq _ _ _ _ h1 I2 F3
        · have c23 : v19 = (0) := c23
          refine av_wp_sqF ck_199 1 (pc' := 42) (lv' := [some (.inr (.inr (.inl (some (77))))), some (.inl x), some (.inl l), some (.inl y), some (.inl z), some (.inl w)]) (st' := [.inl (-1)]) (h' := h1) rfl ?_
          refine av_wp_ret (v := some (.inl (-1))) (ck_199 _ _ rfl) rfl rfl ?_
          exact hq _ _ _ _ h1 I2 F3
      · have c18 : (0) ≠ v14 := c18
        refine av_wp_sqF ck_199 1 (pc' := 33) (lv' := [some (.inr (.inr (.inl (some (77))))), some (.inl x), some (.inl l), some (.inl y), some (.inl z), some (.inl w)]) (st' := [.inl (0)]) (h' := h1) rfl ?_
        refine av_wp_ret (v := some (.inl (0))) (ck_199 _ _ rfl) rfl rfl ?_
        exact hq _ _ _ _ h1 I2 F3
    · refine av_wp_sqF ck_199 3 (pc' := 26) (lv' := [some (.inr (.inr (.inl (some (77))))), some (.inl x), some (.inl l), some (.inl y), some (.inl z), some (.inl w)]) (st' := [.inr (.inr (.inl (some (77)))), .inl (1)]) (h' := h1) rfl ?_
      obtain ⟨v29, e30⟩ : ∃ v, hF h1 77 50 = v := ⟨_, rfl⟩
      have g31 := im_has I2.1.1
      rw [e30] at g31
      refine wq_gb (p' := 29) (ck_199 _ _ rfl) rfl (congrArg Prod.fst (ly_k I2.1.1.1 77 rfl)) rfl (e30) ?_
      refine wq_k2 (p' := 32) (ck_199 _ _ rfl) rfl ⟨by omega, by omega⟩ ⟨by omega, by omega⟩ (fun c32 => ?_) (fun c33 => ?_)
      · have c32 : (1) = v29 := c32
        refine av_wp_sqF ck_199 1 (pc' := 35) (lv' := [some (.inr (.inr (.inl (some (77))))), some (.inl x), some (.inl l), some (.inl y), some (.inl z), some (.inl w)]) (st' := [.inr (.inr (.inl (some (77))))]) (h' := h1) rfl ?_
        obtain ⟨v34, e35⟩ : ∃ v, hF h1 77 50 = v := ⟨_, rfl⟩
        have g36 := im_has I2.1.1
        rw [e35] at g36
        refine wq_gb (p' := 38) (ck_199 _ _ rfl) rfl (congrArg Prod.fst (ly_k I2.1.1.1 77 rfl)) rfl (e35) ?_
        refine wq_k1 (p' := 41) (ck_199 _ _ rfl) rfl ⟨by omega, by omega⟩ (fun c37 => ?_) (fun c38 => ?_)
        · have c37 : v34 ≠ (0) := c37
          refine av_wp_sqF ck_199 2 (pc' := 46) (lv' := [some (.inr (.inr (.inl (some (77))))), some (.inl x), some (.inl l), some (.inl y), some (.inl z), some (.inl w)]) (st' := [.inr (.inr (.inl (some (77)))), .inl z]) (h' := h1) rfl ?_
          obtain ⟨v39, e40⟩ : ∃ v, hF h1 77 51 = v := ⟨_, rfl⟩
          have g41 := im_by I2.1.1
          rw [e40] at g41
          refine wq_gi (p' := 49) (ck_199 _ _ rfl) rfl (congrArg Prod.fst (ly_k I2.1.1.1 77 rfl)) rfl (e40) ?_
          refine wq_c2 (p' := 52) (ck_199 _ _ rfl) rfl ?_ ?_
          · refine av_wp_sqF ck_199 2 (pc' := 59) (lv' := [some (.inr (.inr (.inl (some (77))))), some (.inl x), some (.inl l), some (.inl y), some (.inl z), some (.inl w)]) (st' := [.inr (.inr (.inl (some (77)))), .inl w]) (h' := h1) rfl ?_
            obtain ⟨v42, e43⟩ : ∃ v, hF h1 77 53 = v := ⟨_, rfl⟩
            refine wq_gi (p' := 62) (ck_199 _ _ rfl) rfl (congrArg Prod.fst (ly_k I2.1.1.1 77 rfl)) rfl (e43) ?_
            refine wq_c2 (p' := 65) (ck_199 _ _ rfl) rfl ?_ ?_
            · refine av_wp_sqF ck_199 1 (pc' := 70) (lv' := [some (.inr (.inr (.inl (some (77))))), some (.inl x), some (.inl l), some (.inl y), some (.inl z), some (.inl w)]) (st' := [.inl (-1)]) (h' := h1) rfl ?_
              refine av_wp_ret (v := some (.inl (-1))) (ck_199 _ _ rfl) rfl rfl ?_
              exact hq _ _ _ _ h1 I2 F3
            · refine av_wp_sqF ck_199 2 (pc' := 70) (lv' := [some (.inr (.inr (.inl (some (77))))), some (.inl x), some (.inl l), some (.inl y), some (.inl z), some (.inl w)]) (st' := [.inl (2)]) (h' := h1) rfl ?_
              refine av_wp_ret (v := some (.inl (2))) (ck_199 _ _ rfl) rfl rfl ?_
              exact hq _ _ _ _ h1 I2 F3
          · refine av_wp_sqF ck_199 2 (pc' := 70) (lv' := [some (.inr (.inr (.inl (some (77))))), some (.inl x), some (.inl l), some (.inl y), some (.inl z), some (.inl w)]) (st' := [.inl (1)]) (h' := h1) rfl ?_
            refine av_wp_ret (v := some (.inl (1))) (ck_199 _ _ rfl) rfl rfl ?_
            exact hq _ _ _ _ h1 I2 F3
        · have c38 : v34 = (0) := c38
          refine av_wp_sqF ck_199 1 (pc' := 42) (lv' := [some (.inr (.inr (.inl (some (77))))), some (.inl x), some (.inl l), some (.inl y), some (.inl z), some (.inl w)]) (st' := [.inl (-1)]) (h' := h1) rfl ?_
          refine av_wp_ret (v := some (.inl (-1))) (ck_199 _ _ rfl) rfl rfl ?_
          exact hq _ _ _ _ h1 I2 F3
      · have c33 : (1) ≠ v29 := c33
        refine av_wp_sqF ck_199 1 (pc' := 33) (lv' := [some (.inr (.inr (.inl (some (77))))), some (.inl x), some (.inl l), some (.inl y), some (.inl z), some (.inl w)]) (st' := [.inl (0)]) (h' := h1) rfl ?_
        refine av_wp_ret (v := some (.inl (0))) (ck_199 _ _ rfl) rfl rfl ?_
        exact hq _ _ _ _ h1 I2 F3

