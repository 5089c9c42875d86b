set_option maxRecDepth 100000 in
set_option maxHeartbeats 4000000 in
theorem cx_207 {g h : av_H} {n a m : Int} (I : IMF n a m h) (F : FM g h) {U : Nat → Nat → Int} {S : Nat → Nat} {ro : Nat → Nat → Int} (RX : RXX g U S ro) (x : Int) (qx : -2147483648 ≤ x ∧ x ≤ 2147483647) (l : Int) (ql : -2147483648 ≤ l ∧ l ≤ 2147483647) (y : Int) (qy : -2147483648 ≤ y ∧ y ≤ 2147483647) (q : Int) (qq : -2147483648 ≤ q ∧ q ≤ 2147483647) (w : Int) (qw : -2147483648 ≤ w ∧ w ≤ 2147483647) {Q : Option av_V → av_H → Prop} (hq : ∀ (v : Int) n' a' m' h', RSR (okx U S (hA g 78 0) (hA g 79 0) x l y ∧ (0 ≤ q ∧ q ≤ 2) ∧ 0 ≤ w ∧ w ≤ 9998) (-2) (CNV (U (Int.toNat x)) (ro (Int.toNat l)) (arr (U (Int.toNat x)) (ro (Int.toNat l)) (bxx U S (ro (Int.toNat l)) (Int.toNat x)) y) (S (Int.toNat x)) (bgx U S ro x l y).2.2 q w) v → IMF n' a' m' h' → FM g h' → Q (some (.inl v)) h') : av_wp none cd_207 0 [some (.inr (.inr (.inl (some (77))))), some (.inl x), some (.inl l), some (.inl y), some (.inl q), some (.inl w)] [] h Q := by
  have gn := im_n I.1.1
  rw [I.2.1] at gn
  have ga := im_a I.1.1
  rw [I.2.2.1] at ga
  have gm := im_cm I.1.1
  rw [I.2.2.2] at gm
  have G0 := I.1.1.2.1
  have G16 : 0 ≤ hA g 78 0 ∧ hA g 78 0 ≤ 16 := by rw [← F.2.2.2.2.2.2 78 rfl]; exact G0.2.1
  have G8 : 0 ≤ hA g 79 0 ∧ hA g 79 0 ≤ 8 := by rw [← F.2.2.2.2.2.2 79 rfl]; exact G0.2.2.1
  have G6 : 0 ≤ hA g 80 0 ∧ hA g 80 0 ≤ 6 := by rw [← F.2.2.2.2.2.2 80 rfl]; exact G0.2.2.2.1
  refine av_wp_seq 3 (pc' := 4) (lv' := [some (.inr (.inr (.inl (some (77))))), some (.inl x), some (.inl l), some (.inl y), some (.inl q), some (.inl w)]) (st' := [.inl (2), .inl (0), .inl q]) (h' := h) rfl ?_
  refine wq_cs (p' := 7) (av_qc (.invokestatic 176) 127 3 2 8) 3 cd_127 [.inl q, .inl (0), .inl (2)] [.inl (2), .inl (0), .inl q] [some (.inl q), some (.inl (0)), some (.inl (2))] rfl rfl rfl pp_127 (fun _ => rfl) rfl rfl ?_
  refine ct_127 (g := h) (q) (by omega) ((0)) (by omega) ((2)) (by omega) (fun v1 p2 => ?_)
  show av_wp _ cd_207 7 [some (.inr (.inr (.inl (some (77))))), some (.inl x), some (.inl l), some (.inl y), some (.inl q), some (.inl w)] [.inl v1] h _
  refine wq_k1 (p' := 10) rfl rfl ⟨by omega, by omega⟩ (fun c3 => ?_) (fun c4 => ?_)
  · have c3 : v1 = (0) := c3
    refine av_wp_seq 1 (pc' := 34) (lv' := [some (.inr (.inr (.inl (some (77))))), some (.inl x), some (.inl l), some (.inl y), some (.inl q), some (.inl w)]) (st' := [.inl (-2)]) (h' := h) rfl ?_
    refine av_wp_ret (v := some (.inl (-2))) rfl rfl rfl ?_
    exact hq _ _ _ _ h (Or.inr ⟨by unfold okx; omega, rfl⟩) I F
  · have c4 : v1 ≠ (0) := c4
    refine av_wp_seq 3 (pc' := 16) (lv' := [some (.inr (.inr (.inl (some (77))))), some (.inl x), some (.inl l), some (.inl y), some (.inl q), some (.inl w)]) (st' := [.inl (9998), .inl (0), .inl w]) (h' := h) rfl ?_
    refine wq_cs (p' := 19) (av_qc (.invokestatic 176) 127 3 2 8) 3 cd_127 [.inl w, .inl (0), .inl (9998)] [.inl (9998), .inl (0), .inl w] [some (.inl w), some (.inl (0)), some (.inl (9998))] rfl rfl rfl pp_127 (fun _ => rfl) rfl rfl ?_
    refine ct_127 (g := h) (w) (by omega) ((0)) (by omega) ((9998)) (by omega) (fun v5 p6 => ?_)
    show av_wp _ cd_207 19 [some (.inr (.inr (.inl (some (77))))), some (.inl x), some (.inl l), some (.inl y), some (.inl q), some (.inl w)] [.inl v5] h _
    refine wq_k1 (p' := 22) rfl rfl ⟨by omega, by omega⟩ (fun c7 => ?_) (fun c8 => ?_)
    · have c7 : v5 = (0) := c7
      refine av_wp_seq 1 (pc' := 34) (lv' := [some (.inr (.inr (.inl (some (77))))), some (.inl x), some (.inl l), some (.inl y), some (.inl q), some (.inl w)]) (st' := [.inl (-2)]) (h' := h) rfl ?_
      refine av_wp_ret (v := some (.inl (-2))) rfl rfl rfl ?_
      exact hq _ _ _ _ h (Or.inr ⟨by unfold okx; omega, rfl⟩) I F
    · have c8 : v5 ≠ (0) := c8
      refine av_wp_seq 4 (pc' := 26) (lv' := [some (.inr (.inr (.inl (some (77))))), some (.inl x), some (.inl l), some (.inl y), some (.inl q), some (.inl w)]) (st' := [.inl y, .inl l, .inl x, .inr (.inr (.inl (some (77))))]) (h' := h) rfl ?_
      refine wq_cv (p' := 29) (av_qc (.invokevirtual 446) 186 3 0 8) 4 cd_186 [.inl y, .inl l, .inl x] (77) 8 [some (.inr (.inr (.inl (some (77))))), some (.inl x), some (.inl l), some (.inl y)] rfl rfl rfl pp_186 rfl rfl rfl (congrArg Prod.fst (ly_k I.1.1.1 77 rfl)) rfl rfl rfl rfl ?_
      refine cx_186 I F RX (x) (by omega) (l) (by omega) (y) (by omega) (fun n9 a10 m11 h12 z13 I14 F15 => ?_) (fun n16 a17 m18 h19 z20 z21 z22 e23 e24 A25 O26 B27 L28 I29 F30 => ?_)
      · have g31 := im_n I14.1.1
        rw [I14.2.1] at g31
        have g32 := im_a I14.1.1
        rw [I14.2.2.1] at g32
        have g33 := im_cm I14.1.1
        rw [I14.2.2.2] at g33
        show av_wp _ cd_207 29 [some (.inr (.inr (.inl (some (77))))), some (.inl x), some (.inl l), some (.inl y), some (.inl q), some (.inl w)] [.inl (0)] h12 _
        refine av_wp_seq 2 (pc' := 34) (lv' := [some (.inr (.inr (.inl (some (77))))), some (.inl x), some (.inl l), some (.inl y), some (.inl q), some (.inl w)]) (st' := [.inl (-2)]) (h' := h12) rfl ?_
        refine av_wp_ret (v := some (.inl (-2))) rfl rfl rfl ?_
        exact hq _ _ _ _ h12 (Or.inr ⟨by unfold okx; omega, rfl⟩) I14 F15
      · have g34 := im_n I29.1.1
        rw [I29.2.1] at g34
        have g35 := im_a I29.1.1
        rw [I29.2.2.1] at g35
        have g36 := im_cm I29.1.1
        rw [I29.2.2.2] at g36
        have g37 := (bgn_m (bar := bxx U S (ro (Int.toNat l)) (Int.toNat x)) (RX.2.1 (Int.toNat x) (Int.toNat l) (by omega) (by omega)) z22.1 (by have := cbv_d (U (Int.toNat x)) (S (Int.toNat x)); omega)).2.2
        have g37 : -1 ≤ (bgx U S ro x l y).2.2 ∧ (bgx U S ro x l y).2.2 ≤ 9999 := g37
        have B27 : BRR (bgx U S ro x l y) h19 := B27
        show av_wp _ cd_207 29 [some (.inr (.inr (.inl (some (77))))), some (.inl x), some (.inl l), some (.inl y), some (.inl q), some (.inl w)] [.inl (1)] h19 _
        refine av_wp_seq 4 (pc' := 40) (lv' := [some (.inr (.inr (.inl (some (77))))), some (.inl x), some (.inl l), some (.inl y), some (.inl q), some (.inl w)]) (st' := [.inl w, .inl q, .inr (.inr (.inl (some (77))))]) (h' := h19) rfl ?_
        refine wq_cv (p' := 43) (av_qc (.invokevirtual 473) 206 2 0 8) 5 cd_206 [.inl w, .inl q] (77) 8 [some (.inr (.inr (.inl (some (77))))), some (.inl q), some (.inl w), none, none] rfl rfl rfl pp_206 rfl rfl rfl (congrArg Prod.fst (ly_k I29.1.1.1 77 rfl)) rfl rfl rfl rfl ?_
        have q40m : (hF h19 77 50 = 0 ∧ (bgx U S ro x l y).2.2 = 9999) ∨ (hF h19 77 50 = 1 ∧ hF h19 77 53 = (bgx U S ro x l y).2.2 ∧ (bgx U S ro x l y).2.2 ≠ 9999) := B27.elim (fun z => Or.inl ⟨z.2, z.1⟩) (fun z => Or.inr ⟨z.2.1, z.2.2.2.2, z.1⟩)
        have q40p : ∀ k, k < S (Int.toNat x) → (arr (U (Int.toNat x)) (ro (Int.toNat l)) (bxx U S (ro (Int.toNat l)) (Int.toNat x)) y) 2 k ≠ 0 → hA h19 113 k = o5 (ro (Int.toNat l)) (arr (U (Int.toNat x)) (ro (Int.toNat l)) (bxx U S (ro (Int.toNat l)) (Int.toNat x)) y) k ∧ hA h19 114 k = (eav (U (Int.toNat x)) (ro (Int.toNat l)) (arr (U (Int.toNat x)) (ro (Int.toNat l)) (bxx U S (ro (Int.toNat l)) (Int.toNat x)) y) (S (Int.toNat x)) k (S (Int.toNat x))).1 := fun k hk h2 => ⟨(O26 k hk h2).1, (congrArg Prod.fst (O26 k hk h2).2).trans (end_eq (RX.2.1 (Int.toNat x) (Int.toNat l) (by omega) (by omega)).1 (RX.2.1 (Int.toNat x) (Int.toNat l) (by omega) (by omega)).2.1 (HBd_arr (RX.2.1 (Int.toNat x) (Int.toNat l) (by omega) (by omega)) (by omega) (by have := cbv_d (U (Int.toNat x)) (S (Int.toNat x)); omega)) (fun k hk => arr_2) hk h2).1⟩
        have q40r : ∀ k, k < S (Int.toNat x) → -1 ≤ (eav (U (Int.toNat x)) (ro (Int.toNat l)) (arr (U (Int.toNat x)) (ro (Int.toNat l)) (bxx U S (ro (Int.toNat l)) (Int.toNat x)) y) (S (Int.toNat x)) k (S (Int.toNat x))).1 ∧ (eav (U (Int.toNat x)) (ro (Int.toNat l)) (arr (U (Int.toNat x)) (ro (Int.toNat l)) (bxx U S (ro (Int.toNat l)) (Int.toNat x)) y) (S (Int.toNat x)) k (S (Int.toNat x))).1 ≤ 9999 := fun k hk => by have := (eav_r (show HBd (S (Int.toNat x)) (arr (U (Int.toNat x)) (ro (Int.toNat l)) (bxx U S (ro (Int.toNat l)) (Int.toNat x)) y) from (HBd_arr (RX.2.1 (Int.toNat x) (Int.toNat l) (by omega) (by omega)) (by omega) (by have := cbv_d (U (Int.toNat x)) (S (Int.toNat x)); omega))) (RX.2.1 (Int.toNat x) (Int.toNat l) (by omega) (by omega)).2.2.1 (RX.2.1 (Int.toNat x) (Int.toNat l) (by omega) (by omega)).2.2.2.1 (RX.2.1 (Int.toNat x) (Int.toNat l) (by omega) (by omega)).2.2.2.2.1 (RX.2.1 (Int.toNat x) (Int.toNat l) (by omega) (by omega)).2.2.2.2.2.2 hk (S (Int.toNat x)) (Nat.le_refl _)).1; omega
        have q402 : ∀ k, k < S (Int.toNat x) → 0 ≤ (arr (U (Int.toNat x)) (ro (Int.toNat l)) (bxx U S (ro (Int.toNat l)) (Int.toNat x)) y) 2 k ∧ (arr (U (Int.toNat x)) (ro (Int.toNat l)) (bxx U S (ro (Int.toNat l)) (Int.toNat x)) y) 2 k ≤ 1 := fun k _ => by rw [arr_2]; exact of_b _ _ _
        refine cx_206 I29 F30 e23 L28 (RX.2.1 (Int.toNat x) (Int.toNat l) (by omega) (by omega)).1 (RX.2.1 (Int.toNat x) (Int.toNat l) (by omega) (by omega)).2.1 (HBd_arr (RX.2.1 (Int.toNat x) (Int.toNat l) (by omega) (by omega)) (by omega) (by have := cbv_d (U (Int.toNat x)) (S (Int.toNat x)); omega)) q40m (by omega) q40p q40r q402 (q) (by omega) (w) (by omega) (fun v38 p39 => ?_)
        have g41 := p39.2.2
        show av_wp _ cd_207 43 [some (.inr (.inr (.inl (some (77))))), some (.inl x), some (.inl l), some (.inl y), some (.inl q), some (.inl w)] [.inl v38] h19 _
        refine av_wp_ret (v := some (.inl v38)) rfl rfl rfl ?_
        exact hq _ _ _ _ h19 (Or.inl ⟨by unfold okx; omega, p39⟩) I29 F30

set_option maxRecDepth 100000 in
set_option maxHeartbeats 4000000 in
theorem cx_208 {g h : av_H} {n a m : Int} (I : IMF n a m h) (F : FM g h) {U : Nat → Nat → Int} {S : Nat → Nat} {ro : Nat → Nat → Int} (RX : RXX g U S ro) (x : Int) (qx : -2147483648 ≤ x ∧ x ≤ 2147483647) (l : Int) (ql : -2147483648 ≤ l ∧ l ≤ 2147483647) (y : Int) (qy : -2147483648 ≤ y ∧ y ≤ 2147483647) (q : Int) (qq : -2147483648 ≤ q ∧ q ≤ 2147483647) (w : Int) (qw : -2147483648 ≤ w ∧ w ≤ 2147483647) {Q : Option av_V → av_H → Prop} (hq : ∀ (v : Int) n' a' m' h', RSR (okx U S (hA g 78 0) (hA g 79 0) x l y ∧ (0 ≤ q ∧ q ≤ 2) ∧ 1 ≤ w ∧ w ≤ 2) (-2) (UNV (U (Int.toNat x)) (ro (Int.toNat l)) (arr (U (Int.toNat x)) (ro (Int.toNat l)) (bxx U S (ro (Int.toNat l)) (Int.toNat x)) y) (S (Int.toNat x)) (bgx U S ro x l y).2.2 q w) v → IMF n' a' m' h' → FM g h' → Q (some (.inl v)) h') : av_wp none cd_208 0 [some (.inr (.inr (.inl (some (77))))), some (.inl x), some (.inl l), some (.inl y), some (.inl q), some (.inl w), none] [] h Q := by
  have gn := im_n I.1.1
  rw [I.2.1] at gn
  have ga := im_a I.1.1
  rw [I.2.2.1] at ga
  have gm := im_cm I.1.1
  rw [I.2.2.2] at gm
  have G0 := I.1.1.2.1
  have G16 : 0 ≤ hA g 78 0 ∧ hA g 78 0 ≤ 16 := by rw [← F.2.2.2.2.2.2 78 rfl]; exact G0.2.1
  have G8 : 0 ≤ hA g 79 0 ∧ hA g 79 0 ≤ 8 := by rw [← F.2.2.2.2.2.2 79 rfl]; exact G0.2.2.1
  have G6 : 0 ≤ hA g 80 0 ∧ hA g 80 0 ≤ 6 := by rw [← F.2.2.2.2.2.2 80 rfl]; exact G0.2.2.2.1
  refine av_wp_seq 3 (pc' := 4) (lv' := [some (.inr (.inr (.inl (some (77))))), some (.inl x), some (.inl l), some (.inl y), some (.inl q), some (.inl w), none]) (st' := [.inl (2), .inl (0), .inl q]) (h' := h) rfl ?_
  refine wq_cs (p' := 7) (av_qc (.invokestatic 176) 127 3 2 8) 3 cd_127 [.inl q, .inl (0), .inl (2)] [.inl (2), .inl (0), .inl q] [some (.inl q), some (.inl (0)), some (.inl (2))] rfl rfl rfl pp_127 (fun _ => rfl) rfl rfl ?_
  refine ct_127 (g := h) (q) (by omega) ((0)) (by omega) ((2)) (by omega) (fun v1 p2 => ?_)
  show av_wp _ cd_208 7 [some (.inr (.inr (.inl (some (77))))), some (.inl x), some (.inl l), some (.inl y), some (.inl q), some (.inl w), none] [.inl v1] h _
  refine wq_k1 (p' := 10) rfl rfl ⟨by omega, by omega⟩ (fun c3 => ?_) (fun c4 => ?_)
  · have c3 : v1 = (0) := c3
    refine av_wp_seq 1 (pc' := 32) (lv' := [some (.inr (.inr (.inl (some (77))))), some (.inl x), some (.inl l), some (.inl y), some (.inl q), some (.inl w), none]) (st' := [.inl (-2)]) (h' := h) rfl ?_
    refine av_wp_ret (v := some (.inl (-2))) rfl rfl rfl ?_
    exact hq _ _ _ _ h (Or.inr ⟨by unfold okx; omega, rfl⟩) I F
  · have c4 : v1 ≠ (0) := c4
    refine av_wp_seq 3 (pc' := 14) (lv' := [some (.inr (.inr (.inl (some (77))))), some (.inl x), some (.inl l), some (.inl y), some (.inl q), some (.inl w), none]) (st' := [.inl (2), .inl (1), .inl w]) (h' := h) rfl ?_
    refine wq_cs (p' := 17) (av_qc (.invokestatic 176) 127 3 2 8) 3 cd_127 [.inl w, .inl (1), .inl (2)] [.inl (2), .inl (1), .inl w] [some (.inl w), some (.inl (1)), some (.inl (2))] rfl rfl rfl pp_127 (fun _ => rfl) rfl rfl ?_
    refine ct_127 (g := h) (w) (by omega) ((1)) (by omega) ((2)) (by omega) (fun v5 p6 => ?_)
    show av_wp _ cd_208 17 [some (.inr (.inr (.inl (some (77))))), some (.inl x), some (.inl l), some (.inl y), some (.inl q), some (.inl w), none] [.inl v5] h _
    refine wq_k1 (p' := 20) rfl rfl ⟨by omega, by omega⟩ (fun c7 => ?_) (fun c8 => ?_)
    · have c7 : v5 = (0) := c7
      refine av_wp_seq 1 (pc' := 32) (lv' := [some (.inr (.inr (.inl (some (77))))), some (.inl x), some (.inl l), some (.inl y), some (.inl q), some (.inl w), none]) (st' := [.inl (-2)]) (h' := h) rfl ?_
      refine av_wp_ret (v := some (.inl (-2))) rfl rfl rfl ?_
      exact hq _ _ _ _ h (Or.inr ⟨by unfold okx; omega, rfl⟩) I F
    · have c8 : v5 ≠ (0) := c8
      refine av_wp_seq 4 (pc' := 24) (lv' := [some (.inr (.inr (.inl (some (77))))), some (.inl x), some (.inl l), some (.inl y), some (.inl q), some (.inl w), none]) (st' := [.inl y, .inl l, .inl x, .inr (.inr (.inl (some (77))))]) (h' := h) rfl ?_
      refine wq_cv (p' := 27) (av_qc (.invokevirtual 446) 186 3 0 8) 4 cd_186 [.inl y, .inl l, .inl x] (77) 8 [some (.inr (.inr (.inl (some (77))))), some (.inl x), some (.inl l), some (.inl y)] rfl rfl rfl pp_186 rfl rfl rfl (congrArg Prod.fst (ly_k I.1.1.1 77 rfl)) rfl rfl rfl rfl ?_
      refine cx_186 I F RX (x) (by omega) (l) (by omega) (y) (by omega) (fun n9 a10 m11 h12 z13 I14 F15 => ?_) (fun n16 a17 m18 h19 z20 z21 z22 e23 e24 A25 O26 B27 L28 I29 F30 => ?_)
      · have g31 := im_n I14.1.1
        rw [I14.2.1] at g31
        have g32 := im_a I14.1.1
        rw [I14.2.2.1] at g32
        have g33 := im_cm I14.1.1
        rw [I14.2.2.2] at g33
        show av_wp _ cd_208 27 [some (.inr (.inr (.inl (some (77))))), some (.inl x), some (.inl l), some (.inl y), some (.inl q), some (.inl w), none] [.inl (0)] h12 _
        refine av_wp_seq 2 (pc' := 32) (lv' := [some (.inr (.inr (.inl (some (77))))), some (.inl x), some (.inl l), some (.inl y), some (.inl q), some (.inl w), none]) (st' := [.inl (-2)]) (h' := h12) rfl ?_
        refine av_wp_ret (v := some (.inl (-2))) rfl rfl rfl ?_
        exact hq _ _ _ _ h12 (Or.inr ⟨by unfold okx; omega, rfl⟩) I14 F15
      · have g34 := im_n I29.1.1
        rw [I29.2.1] at g34
        have g35 := im_a I29.1.1
        rw [I29.2.2.1] at g35
        have g36 := im_cm I29.1.1
        rw [I29.2.2.2] at g36
        have g37 := (bgn_m (bar := bxx U S (ro (Int.toNat l)) (Int.toNat x)) (RX.2.1 (Int.toNat x) (Int.toNat l) (by omega) (by omega)) z22.1 (by have := cbv_d (U (Int.toNat x)) (S (Int.toNat x)); omega)).2.2
        have g37 : -1 ≤ (bgx U S ro x l y).2.2 ∧ (bgx U S ro x l y).2.2 ≤ 9999 := g37
        have B27 : BRR (bgx U S ro x l y) h19 := B27
        show av_wp _ cd_208 27 [some (.inr (.inr (.inl (some (77))))), some (.inl x), some (.inl l), some (.inl y), some (.inl q), some (.inl w), none] [.inl (1)] h19 _
        refine av_wp_seq 3 (pc' := 38) (lv' := [some (.inr (.inr (.inl (some (77))))), some (.inl x), some (.inl l), some (.inl y), some (.inl q), some (.inl w), some (.inl (9998))]) (st' := []) (h' := h19) rfl ?_
        have L40 : ∀ (m39 : Nat) (k38 : Int), (∀ t, k38 < t → 0 ≤ t → t ≤ 9998 → ¬ MYE (U (Int.toNat x)) (ro (Int.toNat l)) (arr (U (Int.toNat x)) (ro (Int.toNat l)) (bxx U S (ro (Int.toNat l)) (Int.toNat x)) y) (S (Int.toNat x)) (bgx U S ro x l y).2.2 q w t) → (-1 ≤ k38 ∧ k38 ≤ 9998) → (k38 + 1).toNat = m39 → av_wp none cd_208 38 [some (.inr (.inr (.inl (some (77))))), some (.inl x), some (.inl l), some (.inl y), some (.inl q), some (.inl w), some (.inl k38)] [] h19 Q := by
          intro m39
          induction m39 using Nat.strongRecOn with
          | _ m39 I41 =>
            intro k38 g43 g44 e42
            refine av_wp_seq 1 (pc' := 40) (lv' := [some (.inr (.inr (.inl (some (77))))), some (.inl x), some (.inl l), some (.inl y), some (.inl q), some (.inl w), some (.inl k38)]) (st' := [.inl k38]) (h' := h19) rfl ?_
            refine wq_k1 (p' := 43) rfl rfl ⟨by omega, by omega⟩ (fun c45 => ?_) (fun c46 => ?_)
            · have c45 : k38 < (0) := c45
              refine av_wp_seq 1 (pc' := 65) (lv' := [some (.inr (.inr (.inl (some (77))))), some (.inl x), some (.inl l), some (.inl y), some (.inl q), some (.inl w), some (.inl k38)]) (st' := [.inl k38]) (h' := h19) rfl ?_
              refine av_wp_ret (v := some (.inl k38)) rfl rfl rfl ?_
              exact hq _ _ _ _ h19 (Or.inl ⟨by unfold okx; omega, ⟨by omega, fun z => by exfalso; omega, g43⟩⟩) I29 F30
            · have c46 : (0) ≤ k38 := c46
              refine av_wp_seq 3 (pc' := 48) (lv' := [some (.inr (.inr (.inl (some (77))))), some (.inl x), some (.inl l), some (.inl y), some (.inl q), some (.inl w), some (.inl k38)]) (st' := [.inl k38, .inl q, .inr (.inr (.inl (some (77))))]) (h' := h19) rfl ?_
              refine wq_cv (p' := 51) (av_qc (.invokevirtual 473) 206 2 0 8) 5 cd_206 [.inl k38, .inl q] (77) 8 [some (.inr (.inr (.inl (some (77))))), some (.inl q), some (.inl k38), none, none] rfl rfl rfl pp_206 rfl rfl rfl (congrArg Prod.fst (ly_k I29.1.1.1 77 rfl)) rfl rfl rfl rfl ?_
              have q49m : (hF h19 77 50 = 0 ∧ (bgx U S ro x l y).2.2 = 9999) ∨ (hF h19 77 50 = 1 ∧ hF h19 77 53 = (bgx U S ro x l y).2.2 ∧ (bgx U S ro x l y).2.2 ≠ 9999) := B27.elim (fun z => Or.inl ⟨z.2, z.1⟩) (fun z => Or.inr ⟨z.2.1, z.2.2.2.2, z.1⟩)
              have q49p : ∀ k, k < S (Int.toNat x) → (arr (U (Int.toNat x)) (ro (Int.toNat l)) (bxx U S (ro (Int.toNat l)) (Int.toNat x)) y) 2 k ≠ 0 → hA h19 113 k = o5 (ro (Int.toNat l)) (arr (U (Int.toNat x)) (ro (Int.toNat l)) (bxx U S (ro (Int.toNat l)) (Int.toNat x)) y) k ∧ hA h19 114 k = (eav (U (Int.toNat x)) (ro (Int.toNat l)) (arr (U (Int.toNat x)) (ro (Int.toNat l)) (bxx U S (ro (Int.toNat l)) (Int.toNat x)) y) (S (Int.toNat x)) k (S (Int.toNat x))).1 := fun k hk h2 => ⟨(O26 k hk h2).1, (congrArg Prod.fst (O26 k hk h2).2).trans (end_eq (RX.2.1 (Int.toNat x) (Int.toNat l) (by omega) (by omega)).1 (RX.2.1 (Int.toNat x) (Int.toNat l) (by omega) (by omega)).2.1 (HBd_arr (RX.2.1 (Int.toNat x) (Int.toNat l) (by omega) (by omega)) (by omega) (by have := cbv_d (U (Int.toNat x)) (S (Int.toNat x)); omega)) (fun k hk => arr_2) hk h2).1⟩
              have q49r : ∀ k, k < S (Int.toNat x) → -1 ≤ (eav (U (Int.toNat x)) (ro (Int.toNat l)) (arr (U (Int.toNat x)) (ro (Int.toNat l)) (bxx U S (ro (Int.toNat l)) (Int.toNat x)) y) (S (Int.toNat x)) k (S (Int.toNat x))).1 ∧ (eav (U (Int.toNat x)) (ro (Int.toNat l)) (arr (U (Int.toNat x)) (ro (Int.toNat l)) (bxx U S (ro (Int.toNat l)) (Int.toNat x)) y) (S (Int.toNat x)) k (S (Int.toNat x))).1 ≤ 9999 := fun k hk => by have := (eav_r (show HBd (S (Int.toNat x)) (arr (U (Int.toNat x)) (ro (Int.toNat l)) (bxx U S (ro (Int.toNat l)) (Int.toNat x)) y) from (HBd_arr (RX.2.1 (Int.toNat x) (Int.toNat l) (by omega) (by omega)) (by omega) (by have := cbv_d (U (Int.toNat x)) (S (Int.toNat x)); omega))) (RX.2.1 (Int.toNat x) (Int.toNat l) (by omega) (by omega)).2.2.1 (RX.2.1 (Int.toNat x) (Int.toNat l) (by omega) (by omega)).2.2.2.1 (RX.2.1 (Int.toNat x) (Int.toNat l) (by omega) (by omega)).2.2.2.2.1 (RX.2.1 (Int.toNat x) (Int.toNat l) (by omega) (by omega)).2.2.2.2.2.2 hk (S (Int.toNat x)) (Nat.le_refl _)).1; omega
              have q492 : ∀ k, k < S (Int.toNat x) → 0 ≤ (arr (U (Int.toNat x)) (ro (Int.toNat l)) (bxx U S (ro (Int.toNat l)) (Int.toNat x)) y) 2 k ∧ (arr (U (Int.toNat x)) (ro (Int.toNat l)) (bxx U S (ro (Int.toNat l)) (Int.toNat x)) y) 2 k ≤ 1 := fun k _ => by rw [arr_2]; exact of_b _ _ _
              refine cx_206 I29 F30 e23 L28 (RX.2.1 (Int.toNat x) (Int.toNat l) (by omega) (by omega)).1 (RX.2.1 (Int.toNat x) (Int.toNat l) (by omega) (by omega)).2.1 (HBd_arr (RX.2.1 (Int.toNat x) (Int.toNat l) (by omega) (by omega)) (by omega) (by have := cbv_d (U (Int.toNat x)) (S (Int.toNat x)); omega)) q49m (by omega) q49p q49r q492 (q) (by omega) (k38) (by omega) (fun v47 p48 => ?_)
              have g50 := p48.2.2
              show av_wp _ cd_208 51 [some (.inr (.inr (.inl (some (77))))), some (.inl x), some (.inl l), some (.inl y), some (.inl q), some (.inl w), some (.inl k38)] [.inl v47] h19 _
              refine av_wp_seq 1 (pc' := 53) (lv' := [some (.inr (.inr (.inl (some (77))))), some (.inl x), some (.inl l), some (.inl y), some (.inl q), some (.inl w), some (.inl k38)]) (st' := [.inl w, .inl v47]) (h' := h19) rfl ?_
              refine av_wp_seq 1 (pc' := 54) (lv' := [some (.inr (.inr (.inl (some (77))))), some (.inl x), some (.inl l), some (.inl y), some (.inl q), some (.inl w), some (.inl k38)]) (st' := [.inl (av_and v47 w)]) (h' := h19) rfl ?_
              have g52 := and_w (v := v47) (w := w) (by omega) (by omega)
              generalize av_and v47 w = v51 at g52 ⊢
              refine wq_k1 (p' := 57) rfl rfl ⟨by omega, by omega⟩ (fun c53 => ?_) (fun c54 => ?_)
              · have c53 : v51 ≠ (0) := c53
                refine av_wp_seq 1 (pc' := 65) (lv' := [some (.inr (.inr (.inl (some (77))))), some (.inl x), some (.inl l), some (.inl y), some (.inl q), some (.inl w), some (.inl k38)]) (st' := [.inl k38]) (h' := h19) rfl ?_
                refine av_wp_ret (v := some (.inl k38)) rfl rfl rfl ?_
                exact hq _ _ _ _ h19 (Or.inl ⟨by unfold okx; omega, ⟨by omega, fun _ => cnv_y p48 (by omega), g43⟩⟩) I29 F30
              · have c54 : v51 = (0) := c54
                refine av_wp_seq 2 (pc' := 38) (lv' := [some (.inr (.inr (.inl (some (77))))), some (.inl x), some (.inl l), some (.inl y), some (.inl q), some (.inl w), some (.inl (k38 + (-1)))]) (st' := []) (h' := h19) rfl ?_
                exact I41 _ (by omega) ((k38 + (-1))) (fun t h1 h2 h3 => by by_cases e : t = k38; (· subst e; exact cnv_n p48 (by omega)); exact g43 t (by omega) h2 h3) (by omega) rfl
        exact L40 _ ((9998)) (fun t h1 _ h3 => by exfalso; omega) (by omega) rfl


