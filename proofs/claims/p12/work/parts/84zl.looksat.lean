/-! THE REFERENCE LOOKS AT A CASE BY A LAW, exactly -/
set_option maxRecDepth 100000 in
set_option maxHeartbeats 4000000 in
theorem cx_186 {g h : av_H} {n a m : Int} (I : IMF n a m h) (F : FM g h) {U : Nat → Nat → Int} {S : Nat → Nat} {ro : Nat → Nat → Int} (RX : RXX g U S ro) (x : Int) (qx : -2147483648 ≤ x ∧ x ≤ 2147483647) (l : Int) (ql : -2147483648 ≤ l ∧ l ≤ 2147483647) (y : Int) (qy : -2147483648 ≤ y ∧ y ≤ 2147483647) {Q : Option av_V → av_H → Prop} (hq0 : ∀ n' a' m' h', (x < 0 ∨ hA g 78 0 ≤ x ∨ y < 0 ∨ l < 0 ∨ hA g 79 0 ≤ l ∨ ((0 ≤ x ∧ x < hA g 78 0) ∧ (0 ≤ l ∧ l < hA g 79 0) ∧ cbv (U (Int.toNat x)) (S (Int.toNat x)) ≤ y)) → IMF n' a' m' h' → FM g h' → Q (some (.inl 0)) h') (hq1 : ∀ n' a' m' h', (0 ≤ x ∧ x < hA g 78 0) → (0 ≤ l ∧ l < hA g 79 0) → (0 ≤ y ∧ y < cbv (U (Int.toNat x)) (S (Int.toNat x))) → n' = (S (Int.toNat x) : Int) → m' = cbv (U (Int.toNat x)) (S (Int.toNat x)) → RBA (U (Int.toNat x)) (ro (Int.toNat l)) (bxx U S (ro (Int.toNat l)) (Int.toNat x)) (S (Int.toNat x)) h' → FOI (U (Int.toNat x)) (ro (Int.toNat l)) (arr (U (Int.toNat x)) (ro (Int.toNat l)) (bxx U S (ro (Int.toNat l)) (Int.toNat x)) y) (S (Int.toNat x)) (S (Int.toNat x)) (hA h') → BRR (bgn (U (Int.toNat x)) (ro (Int.toNat l)) (bxx U S (ro (Int.toNat l)) (Int.toNat x)) (S (Int.toNat x)) y) h' → LR (U (Int.toNat x)) (ro (Int.toNat l)) (arr (U (Int.toNat x)) (ro (Int.toNat l)) (bxx U S (ro (Int.toNat l)) (Int.toNat x)) y) (S (Int.toNat x)) (hA h') → IMF n' a' m' h' → FM g h' → Q (some (.inl 1)) h') : av_wp none cd_186 0 [some (.inr (.inr (.inl (some (77))))), some (.inl x), some (.inl l), some (.inl y)] [] h Q := by
  have gn := im_n I.1.1
  rw [I.2.1] at gn
  have ga := im_a I.1.1
  rw [I.2.2.1] at ga
  have gm := im_cm I.1.1
  rw [I.2.2.2] at gm
  have G0 := I.1.1.2.1
  have G16 : 0 ≤ hA g 78 0 ∧ hA g 78 0 ≤ 16 := by rw [← F.2.2.2.2.2.2 78 rfl]; exact G0.2.1
  have G8 : 0 ≤ hA g 79 0 ∧ hA g 79 0 ≤ 8 := by rw [← F.2.2.2.2.2.2 79 rfl]; exact G0.2.2.1
  have G6 : 0 ≤ hA g 80 0 ∧ hA g 80 0 ≤ 6 := by rw [← F.2.2.2.2.2.2 80 rfl]; exact G0.2.2.2.1
  refine av_wp_seq 2 (pc' := 2) (lv' := [some (.inr (.inr (.inl (some (77))))), some (.inl x), some (.inl l), some (.inl y)]) (st' := [.inl x, .inr (.inr (.inl (some (77))))]) (h' := h) rfl ?_
  refine wq_cv (p' := 5) (av_qc (.invokevirtual 299) 149 1 0 8) 2 cd_149 [.inl x] (77) 8 [some (.inr (.inr (.inl (some (77))))), some (.inl x)] rfl rfl rfl pp_149 rfl rfl rfl (congrArg Prod.fst (ly_k I.1.1.1 77 rfl)) rfl rfl rfl rfl ?_
  refine cx_149 I.1 (x) (by omega) (fun v1 p2 => ?_)
  have g3 := congrFun (F.2.2.2.2.2.2 78 rfl) 0
  show av_wp _ cd_186 5 [some (.inr (.inr (.inl (some (77))))), some (.inl x), some (.inl l), some (.inl y)] [.inl v1] h _
  refine wq_k1 (p' := 8) rfl rfl ⟨by omega, by omega⟩ (fun c4 => ?_) (fun c5 => ?_)
  · have c4 : v1 = (0) := c4
    refine av_wp_seq 1 (pc' := 21) (lv' := [some (.inr (.inr (.inl (some (77))))), some (.inl x), some (.inl l), some (.inl y)]) (st' := [.inl (0)]) (h' := h) rfl ?_
    refine av_wp_ret (v := some (.inl (0))) rfl rfl rfl ?_
    exact hq0 _ _ _ h (by omega) I F
  · have c5 : v1 ≠ (0) := c5
    refine av_wp_seq 2 (pc' := 10) (lv' := [some (.inr (.inr (.inl (some (77))))), some (.inl x), some (.inl l), some (.inl y)]) (st' := [.inl l, .inr (.inr (.inl (some (77))))]) (h' := h) rfl ?_
    refine wq_cv (p' := 13) (av_qc (.invokevirtual 345) 150 1 0 8) 2 cd_150 [.inl l] (77) 8 [some (.inr (.inr (.inl (some (77))))), some (.inl l)] rfl rfl rfl pp_150 rfl rfl rfl (congrArg Prod.fst (ly_k I.1.1.1 77 rfl)) rfl rfl rfl rfl ?_
    refine cx_150 I.1 (l) (by omega) (fun v6 p7 => ?_)
    have g8 := congrFun (F.2.2.2.2.2.2 79 rfl) 0
    show av_wp _ cd_186 13 [some (.inr (.inr (.inl (some (77))))), some (.inl x), some (.inl l), some (.inl y)] [.inl v6] h _
    refine wq_k1 (p' := 16) rfl rfl ⟨by omega, by omega⟩ (fun c9 => ?_) (fun c10 => ?_)
    · have c9 : v6 = (0) := c9
      refine av_wp_seq 1 (pc' := 21) (lv' := [some (.inr (.inr (.inl (some (77))))), some (.inl x), some (.inl l), some (.inl y)]) (st' := [.inl (0)]) (h' := h) rfl ?_
      refine av_wp_ret (v := some (.inl (0))) rfl rfl rfl ?_
      exact hq0 _ _ _ h (by omega) I F
    · have c10 : v6 ≠ (0) := c10
      refine av_wp_seq 1 (pc' := 17) (lv' := [some (.inr (.inr (.inl (some (77))))), some (.inl x), some (.inl l), some (.inl y)]) (st' := [.inl y]) (h' := h) rfl ?_
      refine wq_k1 (p' := 20) rfl rfl ⟨by omega, by omega⟩ (fun c11 => ?_) (fun c12 => ?_)
      · have c11 : (0) ≤ y := c11
        refine av_wp_seq 3 (pc' := 25) (lv' := [some (.inr (.inr (.inl (some (77))))), some (.inl x), some (.inl l), some (.inl y)]) (st' := [.inl (0), .inl l, .inr (.inr (.inl (some (77))))]) (h' := h) rfl ?_
        refine wq_cv (p' := 28) (av_qc (.invokevirtual 348) 159 2 0 8) 5 cd_159 [.inl (0), .inl l] (77) 8 [some (.inr (.inr (.inl (some (77))))), some (.inl l), some (.inl (0)), none, none] rfl rfl rfl pp_159 rfl rfl rfl (congrArg Prod.fst (ly_k I.1.1.1 77 rfl)) rfl rfl rfl rfl ?_
        refine cy_159 I F G8 G6 RX (l) (by omega) (fun h13 I14 F15 y16 Z17 => ?_)
        show av_wp _ cd_186 28 [some (.inr (.inr (.inl (some (77))))), some (.inl x), some (.inl l), some (.inl y)] [] h13 _
        refine av_wp_seq 2 (pc' := 30) (lv' := [some (.inr (.inr (.inl (some (77))))), some (.inl x), some (.inl l), some (.inl y)]) (st' := [.inl x, .inr (.inr (.inl (some (77))))]) (h' := h13) rfl ?_
        refine wq_cv (p' := 33) (av_qc (.invokevirtual 440) 185 1 0 8) 4 cd_185 [.inl x] (77) 8 [some (.inr (.inr (.inl (some (77))))), some (.inl x), none, none] rfl rfl rfl pp_185 rfl rfl rfl (congrArg Prod.fst (ly_k I14.1.1.1 77 rfl)) rfl rfl rfl rfl ?_
        refine cy_185 I14 F15 RX (by omega) (x) (by omega) (l) (by omega) y16 (fun n18 a19 m20 h21 e22 e23 A24 I25 F26 => ?_)
        have d27 := cbv_d (U (Int.toNat (x))) (S (Int.toNat (x)))
        rw [← e23] at d27
        have g28 := im_n I25.1.1
        rw [I25.2.1] at g28
        have g29 := im_a I25.1.1
        rw [I25.2.2.1] at g29
        have g30 := im_cm I25.1.1
        rw [I25.2.2.2] at g30
        show av_wp _ cd_186 33 [some (.inr (.inr (.inl (some (77))))), some (.inl x), some (.inl l), some (.inl y)] [] h21 _
        refine av_wp_seq 1 (pc' := 34) (lv' := [some (.inr (.inr (.inl (some (77))))), some (.inl x), some (.inl l), some (.inl y)]) (st' := [.inr (.inr (.inl (some (77))))]) (h' := h21) rfl ?_
        refine wq_cv (p' := 37) (av_qc (.invokevirtual 427) 164 0 0 8) 1 cd_164 [] (77) 8 [some (.inr (.inr (.inl (some (77)))))] rfl rfl rfl pp_164 rfl rfl rfl (congrArg Prod.fst (ly_k I25.1.1.1 77 rfl)) rfl rfl rfl rfl ?_
        refine ct_164 I25 F26 (fun v31 p32 => ?_)
        show av_wp _ cd_186 37 [some (.inr (.inr (.inl (some (77))))), some (.inl x), some (.inl l), some (.inl y)] [.inl v31] h21 _
        refine wq_k1 (p' := 40) rfl rfl ⟨by omega, by omega⟩ (fun c33 => ?_) (fun c34 => ?_)
        · have c33 : v31 = (0) := c33
          refine av_wp_seq 1 (pc' := 49) (lv' := [some (.inr (.inr (.inl (some (77))))), some (.inl x), some (.inl l), some (.inl y)]) (st' := [.inl (0)]) (h' := h21) rfl ?_
          refine av_wp_ret (v := some (.inl (0))) rfl rfl rfl ?_
          exact hq0 _ _ _ h21 (by omega) I25 F26
        · have c34 : v31 ≠ (0) := c34
          refine av_wp_seq 2 (pc' := 42) (lv' := [some (.inr (.inr (.inl (some (77))))), some (.inl x), some (.inl l), some (.inl y)]) (st' := [.inr (.inr (.inl (some (77)))), .inl y]) (h' := h21) rfl ?_
          refine wq_gi (p' := 45) rfl rfl (congrArg Prod.fst (ly_k I25.1.1.1 77 rfl)) rfl (I25.2.2.2) ?_
          refine wq_k2 (p' := 48) rfl rfl ⟨by omega, by omega⟩ ⟨by omega, by omega⟩ (fun c35 => ?_) (fun c36 => ?_)
          · have c35 : y < m20 := c35
            refine av_wp_seq 2 (pc' := 52) (lv' := [some (.inr (.inr (.inl (some (77))))), some (.inl x), some (.inl l), some (.inl y)]) (st' := [.inl y, .inr (.inr (.inl (some (77))))]) (h' := h21) rfl ?_
            refine wq_cv (p' := 55) (av_qc (.invokevirtual 431) 181 1 0 8) 2 cd_181 [.inl y] (77) 8 [some (.inr (.inr (.inl (some (77))))), some (.inl y)] rfl rfl rfl pp_181 rfl rfl rfl (congrArg Prod.fst (ly_k I25.1.1.1 77 rfl)) rfl rfl rfl rfl ?_
            refine cy_181 I25 F26 e22 A24 (RX.2.1 (Int.toNat (x)) (Int.toNat (l)) (by omega) (by omega)) (y) (by omega) (fun h37 I38 F39 Z40 A41 O42 B43 L44 => ?_)
            show av_wp _ cd_186 55 [some (.inr (.inr (.inl (some (77))))), some (.inl x), some (.inl l), some (.inl y)] [] h37 _
            refine av_wp_seq 1 (pc' := 56) (lv' := [some (.inr (.inr (.inl (some (77))))), some (.inl x), some (.inl l), some (.inl y)]) (st' := [.inl (1)]) (h' := h37) rfl ?_
            refine av_wp_ret (v := some (.inl (1))) rfl rfl rfl ?_
            exact hq1 _ _ _ h37 (by omega) (by omega) (by omega) e22 (by omega) A41 O42 B43 L44 I38 F39
          · have c36 : m20 ≤ y := c36
            refine av_wp_seq 1 (pc' := 49) (lv' := [some (.inr (.inr (.inl (some (77))))), some (.inl x), some (.inl l), some (.inl y)]) (st' := [.inl (0)]) (h' := h21) rfl ?_
            refine av_wp_ret (v := some (.inl (0))) rfl rfl rfl ?_
            exact hq0 _ _ _ h21 (by omega) I25 F26
      · have c12 : y < (0) := c12
        refine av_wp_seq 1 (pc' := 21) (lv' := [some (.inr (.inr (.inl (some (77))))), some (.inl x), some (.inl l), some (.inl y)]) (st' := [.inl (0)]) (h' := h) rfl ?_
        refine av_wp_ret (v := some (.inl (0))) rfl rfl rfl ?_
        exact hq0 _ _ _ h (by omega) I F

