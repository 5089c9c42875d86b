/-! JUDGE, exactly -/
set_option maxRecDepth 100000 in
set_option maxHeartbeats 4000000 in
theorem cx_112 {h : av_H} {U : Nat → Nat → Int} {S : Nat → Nat} {n : Int} {sr nd : Nat → Int} (C : CJ U S n sr nd h) (k : Int) (qk : -2147483648 ≤ k ∧ k ≤ 2147483647) (l : Int) (ql : -2147483648 ≤ l ∧ l ≤ 2147483647) (x : Int) (qx : -2147483648 ≤ x ∧ x ≤ 2147483647) (y : Int) (qy : -2147483648 ≤ y ∧ y ≤ 2147483647) (z : Int) (qz : -2147483648 ≤ z ∧ z ≤ 2147483647) (CR : CRT U S n (hF h 3 4) (fun k => hA h (6 + k))) (SU : SUA U S n (hF h 3 4) (fun k => hA h (6 + k)) sr) {Q : Option av_V → av_H → Prop} (hq : ∀ (v : Int) h' sr' nd', CJ U S n sr' nd' h' → FP 35 h h' → SUA U S n (hF h 3 4) (fun k => hA h (6 + k)) sr' → RSP (okx U S n (hF h 3 4) k l x) (-2) (jdv (bgx U S (fun k => hA h (6 + k)) k l x).1 (bgx U S (fun k => hA h (6 + k)) k l x).2.2 y z) v → Q (some (.inl v)) h') : av_wp none cd_112 0 [some (.inr (.inr (.inl (some (0))))), some (.inl k), some (.inl l), some (.inl x), some (.inl y), some (.inl z), none, none] [] h Q := by
  have F := FP_rf 35 h
  have nr := C.2.1.2.1
  refine av_wp_seq 1 (pc' := 1) (lv' := [some (.inr (.inr (.inl (some (0))))), some (.inl k), some (.inl l), some (.inl x), some (.inl y), some (.inl z), none, none]) (st' := [.inr (.inr (.inl (some (0))))]) (h' := h) rfl ?_
  refine wq_gr (p' := 4) rfl rfl (congrArg Prod.fst (ly_k C.1.1 0 rfl)) rfl (ly_g C.1.1 0 5 26 rfl) ?_
  refine av_wp_seq 3 (pc' := 7) (lv' := [some (.inr (.inr (.inl (some (0))))), some (.inl k), some (.inl l), some (.inl x), some (.inl y), some (.inl z), none, none]) (st' := [.inl x, .inl l, .inl k, .inr (.inr (.inl (some (26))))]) (h' := h) rfl ?_
  refine wq_cv (p' := 10) (av_qc (.invokevirtual 160) 48 3 0 3) 5 cd_48 [.inl x, .inl l, .inl k] (26) 3 [some (.inr (.inr (.inl (some (26))))), some (.inl k), some (.inl l), some (.inl x), none] rfl rfl rfl pp_48 rfl rfl rfl (congrArg Prod.fst (ly_k C.1.1 26 rfl)) rfl rfl rfl rfl ?_
  refine cz_48 C (k) (by omega) (l) (by omega) (x) (by omega) CR SU (fun z1 => ?_) (fun z1 z2 z3 h4 r5 n6 t7 c8 a9 m10 m11 m12 C13 F14 U15 E16 Z17 T18 D19 B20 R21 => ?_)
  · show av_wp _ cd_112 10 [some (.inr (.inr (.inl (some (0))))), some (.inl k), some (.inl l), some (.inl x), some (.inl y), some (.inl z), none, none] [.inl (0)] h _
    refine av_wp_seq 2 (pc' := 15) (lv' := [some (.inr (.inr (.inl (some (0))))), some (.inl k), some (.inl l), some (.inl x), some (.inl y), some (.inl z), none, none]) (st' := [.inl (-2)]) (h' := h) rfl ?_
    refine av_wp_ret (v := some (.inl (-2))) rfl rfl rfl ?_
    exact hq _ h _ _ C F SU (Or.inr ⟨by unfold okx; omega, rfl⟩)
  · have g22 : (-1 ≤ m10 ∧ m10 ≤ 11) ∧ (-1 ≤ m11 ∧ m11 ≤ 11) ∧ (-1 ≤ m12 ∧ m12 ≤ 9999) := R21
    have g23 := co_s12 (ib_co E16.1)
    show av_wp _ cd_112 10 [some (.inr (.inr (.inl (some (0))))), some (.inl k), some (.inl l), some (.inl x), some (.inl y), some (.inl z), none, none] [.inl (1)] h4 _
    refine av_wp_seq 2 (pc' := 17) (lv' := [some (.inr (.inr (.inl (some (0))))), some (.inl k), some (.inl l), some (.inl x), some (.inl y), some (.inl z), none, none]) (st' := [.inr (.inr (.inl (some (0))))]) (h' := h4) rfl ?_
    refine wq_gr (p' := 20) rfl rfl (congrArg Prod.fst (ly_k C13.1.1 0 rfl)) rfl (ly_g C13.1.1 0 5 26 rfl) ?_
    refine wq_gr (p' := 23) rfl rfl (congrArg Prod.fst (ly_k C13.1.1 26 rfl)) rfl (ly_g C13.1.1 26 1 35 rfl) ?_
    refine av_wp_seq 3 (pc' := 29) (lv' := [some (.inr (.inr (.inl (some (0))))), some (.inl k), some (.inl l), some (.inl x), some (.inl y), some (.inl z), some (.inr (.inr (.inl (some (35))))), none]) (st' := [.inl (-2), .inl y]) (h' := h4) rfl ?_
    refine wq_k2 (p' := 32) rfl rfl ⟨by omega, by omega⟩ ⟨by omega, by omega⟩ (fun c24 => ?_) (fun c25 => ?_)
    · have c24 : y = (-2) := c24
      refine av_wp_seq 4 (pc' := 43) (lv' := [some (.inr (.inr (.inl (some (0))))), some (.inl k), some (.inl l), some (.inl x), some (.inl y), some (.inl z), some (.inr (.inr (.inl (some (35))))), some (.inl (0))]) (st' := [.inr (.inr (.inl (some (35)))), .inl (0)]) (h' := h4) rfl ?_
      refine wq_cv (p' := 46) (av_qc (.invokevirtual 168) 3 0 0 0) 1 cd_3 [] (35) 0 [some (.inr (.inr (.inl (some (35)))))] rfl rfl rfl pp_3 rfl rfl rfl (congrArg Prod.fst (bn_k0 C13.1.1 (Or.inl rfl))) rfl rfl rfl rfl ?_
      refine cx_3 E16 (FN_rf 35 h4) (by omega) (fun v26 p27 => ?_)
      show av_wp _ cd_112 46 [some (.inr (.inr (.inl (some (0))))), some (.inl k), some (.inl l), some (.inl x), some (.inl y), some (.inl z), some (.inr (.inr (.inl (some (35))))), some (.inl (0))] [.inl v26, .inl (0)] h4 _
      refine wq_k2 (p' := 49) rfl rfl ⟨by omega, by omega⟩ ⟨by omega, by omega⟩ (fun c28 => ?_) (fun c29 => ?_)
      · have c28 : (0) = v26 := c28
        refine av_wp_seq 3 (pc' := 57) (lv' := [some (.inr (.inr (.inl (some (0))))), some (.inl k), some (.inl l), some (.inl x), some (.inl y), some (.inl z), some (.inr (.inr (.inl (some (35))))), some (.inl (0))]) (st' := [.inl (-1)]) (h' := h4) rfl ?_
        refine av_wp_ret (v := some (.inl (-1))) rfl rfl rfl ?_
        exact hq _ h4 _ _ C13 F14 U15 (Or.inl ⟨by unfold okx; omega, by rw [show bgx U S (fun k => hA h (6 + k)) k l x = _ from B20]; show _ = jdv m10 m12 y z; unfold jdv; (repeat' split) <;> omega⟩)
      · have c29 : (0) ≠ v26 := c29
        refine av_wp_seq 1 (pc' := 50) (lv' := [some (.inr (.inr (.inl (some (0))))), some (.inl k), some (.inl l), some (.inl x), some (.inl y), some (.inl z), some (.inr (.inr (.inl (some (35))))), some (.inl (0))]) (st' := [.inl (0)]) (h' := h4) rfl ?_
        refine av_wp_ret (v := some (.inl (0))) rfl rfl rfl ?_
        exact hq _ h4 _ _ C13 F14 U15 (Or.inl ⟨by unfold okx; omega, by rw [show bgx U S (fun k => hA h (6 + k)) k l x = _ from B20]; show _ = jdv m10 m12 y z; unfold jdv; (repeat' split) <;> omega⟩)
    · have c25 : y ≠ (-2) := c25
      refine av_wp_seq 5 (pc' := 43) (lv' := [some (.inr (.inr (.inl (some (0))))), some (.inl k), some (.inl l), some (.inl x), some (.inl y), some (.inl z), some (.inr (.inr (.inl (some (35))))), some (.inl (1))]) (st' := [.inr (.inr (.inl (some (35)))), .inl (1)]) (h' := h4) rfl ?_
      refine wq_cv (p' := 46) (av_qc (.invokevirtual 168) 3 0 0 0) 1 cd_3 [] (35) 0 [some (.inr (.inr (.inl (some (35)))))] rfl rfl rfl pp_3 rfl rfl rfl (congrArg Prod.fst (bn_k0 C13.1.1 (Or.inl rfl))) rfl rfl rfl rfl ?_
      refine cx_3 E16 (FN_rf 35 h4) (by omega) (fun v30 p31 => ?_)
      show av_wp _ cd_112 46 [some (.inr (.inr (.inl (some (0))))), some (.inl k), some (.inl l), some (.inl x), some (.inl y), some (.inl z), some (.inr (.inr (.inl (some (35))))), some (.inl (1))] [.inl v30, .inl (1)] h4 _
      refine wq_k2 (p' := 49) rfl rfl ⟨by omega, by omega⟩ ⟨by omega, by omega⟩ (fun c32 => ?_) (fun c33 => ?_)
      · have c32 : (1) = v30 := c32
        refine av_wp_seq 4 (pc' := 62) (lv' := [some (.inr (.inr (.inl (some (0))))), some (.inl k), some (.inl l), some (.inl x), some (.inl y), some (.inl z), some (.inr (.inr (.inl (some (35))))), some (.inl (1))]) (st' := [.inr (.inr (.inl (some (35)))), .inl y]) (h' := h4) rfl ?_
        refine wq_gi (p' := 65) rfl rfl (congrArg Prod.fst (bn_k0 C13.1.1 (Or.inl rfl))) rfl (E16.2.2.2.2.1) ?_
        refine wq_k2 (p' := 68) rfl rfl ⟨by omega, by omega⟩ ⟨by omega, by omega⟩ (fun c34 => ?_) (fun c35 => ?_)
        · have c34 : y = m10 := c34
          refine av_wp_seq 2 (pc' := 74) (lv' := [some (.inr (.inr (.inl (some (0))))), some (.inl k), some (.inl l), some (.inl x), some (.inl y), some (.inl z), some (.inr (.inr (.inl (some (35))))), some (.inl (1))]) (st' := [.inr (.inr (.inl (some (35)))), .inl z]) (h' := h4) rfl ?_
          refine wq_gi (p' := 77) rfl rfl (congrArg Prod.fst (bn_k0 C13.1.1 (Or.inl rfl))) rfl (E16.2.2.2.2.2.2) ?_
          refine wq_k2 (p' := 80) rfl rfl ⟨by omega, by omega⟩ ⟨by omega, by omega⟩ (fun c36 => ?_) (fun c37 => ?_)
          · have c36 : z ≠ m12 := c36
            refine av_wp_seq 1 (pc' := 85) (lv' := [some (.inr (.inr (.inl (some (0))))), some (.inl k), some (.inl l), some (.inl x), some (.inl y), some (.inl z), some (.inr (.inr (.inl (some (35))))), some (.inl (1))]) (st' := [.inl (2)]) (h' := h4) rfl ?_
            refine av_wp_ret (v := some (.inl (2))) rfl rfl rfl ?_
            exact hq _ h4 _ _ C13 F14 U15 (Or.inl ⟨by unfold okx; omega, by rw [show bgx U S (fun k => hA h (6 + k)) k l x = _ from B20]; show _ = jdv m10 m12 y z; unfold jdv; (repeat' split) <;> omega⟩)
          · have c37 : z = m12 := c37
            refine av_wp_seq 2 (pc' := 85) (lv' := [some (.inr (.inr (.inl (some (0))))), some (.inl k), some (.inl l), some (.inl x), some (.inl y), some (.inl z), some (.inr (.inr (.inl (some (35))))), some (.inl (1))]) (st' := [.inl (-1)]) (h' := h4) rfl ?_
            refine av_wp_ret (v := some (.inl (-1))) rfl rfl rfl ?_
            exact hq _ h4 _ _ C13 F14 U15 (Or.inl ⟨by unfold okx; omega, by rw [show bgx U S (fun k => hA h (6 + k)) k l x = _ from B20]; show _ = jdv m10 m12 y z; unfold jdv; (repeat' split) <;> omega⟩)
        · have c35 : y ≠ m10 := c35
          refine av_wp_seq 1 (pc' := 69) (lv' := [some (.inr (.inr (.inl (some (0))))), some (.inl k), some (.inl l), some (.inl x), some (.inl y), some (.inl z), some (.inr (.inr (.inl (some (35))))), some (.inl (1))]) (st' := [.inl (1)]) (h' := h4) rfl ?_
          refine av_wp_ret (v := some (.inl (1))) rfl rfl rfl ?_
          exact hq _ h4 _ _ C13 F14 U15 (Or.inl ⟨by unfold okx; omega, by rw [show bgx U S (fun k => hA h (6 + k)) k l x = _ from B20]; show _ = jdv m10 m12 y z; unfold jdv; (repeat' split) <;> omega⟩)
      · have c33 : (1) ≠ v30 := c33
        refine av_wp_seq 1 (pc' := 50) (lv' := [some (.inr (.inr (.inl (some (0))))), some (.inl k), some (.inl l), some (.inl x), some (.inl y), some (.inl z), some (.inr (.inr (.inl (some (35))))), some (.inl (1))]) (st' := [.inl (0)]) (h' := h4) rfl ?_
        refine av_wp_ret (v := some (.inl (0))) rfl rfl rfl ?_
        exact hq _ h4 _ _ C13 F14 U15 (Or.inl ⟨by unfold okx; omega, by rw [show bgx U S (fun k => hA h (6 + k)) k l x = _ from B20]; show _ = jdv m10 m12 y z; unfold jdv; (repeat' split) <;> omega⟩)

set_option maxRecDepth 100000 in
set_option maxHeartbeats 4000000 in
theorem cx_199 {g h : av_H} {n a m : Int} (I : IMF n a m h) (F : FM g h) {U : Nat → Nat → Int} {S : Nat → Nat} {ro : Nat → Nat → Int} (RX : RXX g U S ro) (x : Int) (qx : -2147483648 ≤ x ∧ x ≤ 2147483647) (l : Int) (ql : -2147483648 ≤ l ∧ l ≤ 2147483647) (y : Int) (qy : -2147483648 ≤ y ∧ y ≤ 2147483647) (z : Int) (qz : -2147483648 ≤ z ∧ z ≤ 2147483647) (w : Int) (qw : -2147483648 ≤ w ∧ w ≤ 2147483647) {Q : Option av_V → av_H → Prop} (hq : ∀ (v : Int) n' a' m' h', RSP (okx U S (hA g 78 0) (hA g 79 0) x l y) (-2) (jdv (bgx U S ro x l y).1 (bgx U S ro x l y).2.2 z w) v → IMF n' a' m' h' → FM g h' → Q (some (.inl v)) h') : av_wp none cd_199 0 [some (.inr (.inr (.inl (some (77))))), some (.inl x), some (.inl l), some (.inl y), some (.inl z), some (.inl w)] [] h Q := by
  have gn := im_n I.1.1
  rw [I.2.1] at gn
  have ga := im_a I.1.1
  rw [I.2.2.1] at ga
  have gm := im_cm I.1.1
  rw [I.2.2.2] at gm
  have G0 := I.1.1.2.1
  have G16 : 0 ≤ hA g 78 0 ∧ hA g 78 0 ≤ 16 := by rw [← F.2.2.2.2.2.2 78 rfl]; exact G0.2.1
  have G8 : 0 ≤ hA g 79 0 ∧ hA g 79 0 ≤ 8 := by rw [← F.2.2.2.2.2.2 79 rfl]; exact G0.2.2.1
  have G6 : 0 ≤ hA g 80 0 ∧ hA g 80 0 ≤ 6 := by rw [← F.2.2.2.2.2.2 80 rfl]; exact G0.2.2.2.1
  refine av_wp_seq 4 (pc' := 4) (lv' := [some (.inr (.inr (.inl (some (77))))), some (.inl x), some (.inl l), some (.inl y), some (.inl z), some (.inl w)]) (st' := [.inl y, .inl l, .inl x, .inr (.inr (.inl (some (77))))]) (h' := h) rfl ?_
  refine wq_cv (p' := 7) (av_qc (.invokevirtual 446) 186 3 0 8) 4 cd_186 [.inl y, .inl l, .inl x] (77) 8 [some (.inr (.inr (.inl (some (77))))), some (.inl x), some (.inl l), some (.inl y)] rfl rfl rfl pp_186 rfl rfl rfl (congrArg Prod.fst (ly_k I.1.1.1 77 rfl)) rfl rfl rfl rfl ?_
  refine cx_186 I F RX (x) (by omega) (l) (by omega) (y) (by omega) (fun n1 a2 m3 h4 z5 I6 F7 => ?_) (fun n8 a9 m10 h11 z12 z13 z14 e15 e16 A17 O18 B19 L20 I21 F22 => ?_)
  · have g23 := im_n I6.1.1
    rw [I6.2.1] at g23
    have g24 := im_a I6.1.1
    rw [I6.2.2.1] at g24
    have g25 := im_cm I6.1.1
    rw [I6.2.2.2] at g25
    show av_wp _ cd_199 7 [some (.inr (.inr (.inl (some (77))))), some (.inl x), some (.inl l), some (.inl y), some (.inl z), some (.inl w)] [.inl (0)] h4 _
    refine av_wp_seq 2 (pc' := 12) (lv' := [some (.inr (.inr (.inl (some (77))))), some (.inl x), some (.inl l), some (.inl y), some (.inl z), some (.inl w)]) (st' := [.inl (-2)]) (h' := h4) rfl ?_
    refine av_wp_ret (v := some (.inl (-2))) rfl rfl rfl ?_
    exact hq _ _ _ _ h4 (Or.inr ⟨by unfold okx; omega, rfl⟩) I6 F7
  · have g26 := im_n I21.1.1
    rw [I21.2.1] at g26
    have g27 := im_a I21.1.1
    rw [I21.2.2.1] at g27
    have g28 := im_cm I21.1.1
    rw [I21.2.2.2] at g28
    have g29 := (bgn_m (bar := bxx U S (ro (Int.toNat l)) (Int.toNat x)) (RX.2.1 (Int.toNat x) (Int.toNat l) (by omega) (by omega)) z14.1 (by have := cbv_d (U (Int.toNat x)) (S (Int.toNat x)); omega)).2.2
    have g29 : -1 ≤ (bgx U S ro x l y).2.2 ∧ (bgx U S ro x l y).2.2 ≤ 9999 := g29
    have B19 : BRR (bgx U S ro x l y) h11 := B19
    show av_wp _ cd_199 7 [some (.inr (.inr (.inl (some (77))))), some (.inl x), some (.inl l), some (.inl y), some (.inl z), some (.inl w)] [.inl (1)] h11 _
    refine av_wp_seq 3 (pc' := 17) (lv' := [some (.inr (.inr (.inl (some (77))))), some (.inl x), some (.inl l), some (.inl y), some (.inl z), some (.inl w)]) (st' := [.inl (-2), .inl z]) (h' := h11) rfl ?_
    refine wq_k2 (p' := 20) rfl rfl ⟨by omega, by omega⟩ ⟨by omega, by omega⟩ (fun c30 => ?_) (fun c31 => ?_)
    · have c30 : z = (-2) := c30
      refine av_wp_seq 2 (pc' := 26) (lv' := [some (.inr (.inr (.inl (some (77))))), some (.inl x), some (.inl l), some (.inl y), some (.inl z), some (.inl w)]) (st' := [.inr (.inr (.inl (some (77)))), .inl (0)]) (h' := h11) rfl ?_
      obtain ⟨v32, e33⟩ : ∃ v, hF h11 77 50 = v := ⟨_, rfl⟩
      have g34 := im_has I21.1.1
      rw [e33] at g34
      refine wq_gb (p' := 29) rfl rfl (congrArg Prod.fst (ly_k I21.1.1.1 77 rfl)) rfl (e33) ?_
      refine wq_k2 (p' := 32) rfl rfl ⟨by omega, by omega⟩ ⟨by omega, by omega⟩ (fun c35 => ?_) (fun c36 => ?_)
      · have c35 : (0) = v32 := c35
        refine av_wp_seq 1 (pc' := 35) (lv' := [some (.inr (.inr (.inl (some (77))))), some (.inl x), some (.inl l), some (.inl y), some (.inl z), some (.inl w)]) (st' := [.inr (.inr (.inl (some (77))))]) (h' := h11) rfl ?_
        obtain ⟨v37, e38⟩ : ∃ v, hF h11 77 50 = v := ⟨_, rfl⟩
        have g39 := im_has I21.1.1
        rw [e38] at g39
        have y40 : v37 = v32 := e38.symm.trans e33
        refine wq_gb (p' := 38) rfl rfl (congrArg Prod.fst (ly_k I21.1.1.1 77 rfl)) rfl (e38) ?_
        refine wq_k1 (p' := 41) rfl rfl ⟨by omega, by omega⟩ (fun c41 => ?_) (fun c42 => ?_)
        · have c41 : v37 ≠ (0) := c41
          refine av_wp_seq 2 (pc' := 46) (lv' := [some (.inr (.inr (.inl (some (77))))), some (.inl x), some (.inl l), some (.inl y), some (.inl z), some (.inl w)]) (st' := [.inr (.inr (.inl (some (77)))), .inl z]) (h' := h11) rfl ?_
          obtain ⟨v43, e44⟩ : ∃ v, hF h11 77 51 = v := ⟨_, rfl⟩
          have g45 := im_by I21.1.1
          rw [e44] at g45
          have y46 : (bgx U S ro x l y).1 = v43 := (BRR_ye B19 e38 (by omega)).2.1.symm.trans e44
          refine wq_gi (p' := 49) rfl rfl (congrArg Prod.fst (ly_k I21.1.1.1 77 rfl)) rfl (e44) ?_
          refine wq_k2 (p' := 52) rfl rfl ⟨by omega, by omega⟩ ⟨by omega, by omega⟩ (fun c47 => ?_) (fun c48 => ?_)
          · have c47 : z = v43 := c47
            exfalso; omega
          · have c48 : z ≠ v43 := c48
            refine av_wp_seq 2 (pc' := 70) (lv' := [some (.inr (.inr (.inl (some (77))))), some (.inl x), some (.inl l), some (.inl y), some (.inl z), some (.inl w)]) (st' := [.inl (1)]) (h' := h11) rfl ?_
            refine av_wp_ret (v := some (.inl (1))) rfl rfl rfl ?_
            have q49 : (bgx U S ro x l y).2.2 = 9999 ∨ (bgx U S ro x l y).2.2 ≠ 9999 := by omega
            have q49a : (v37 = 0 → (bgx U S ro x l y).2.2 = 9999) ∧ (v37 ≠ 0 → (bgx U S ro x l y).2.2 ≠ 9999) := ⟨fun c => BRR_no B19 e38 c, fun c => (BRR_ye B19 e38 c).1⟩
            exact hq _ _ _ _ h11 (Or.inl ⟨by unfold okx; omega, by unfold jdv; (repeat' split) <;> omega⟩) I21 F22
        · have c42 : v37 = (0) := c42
          refine av_wp_seq 1 (pc' := 42) (lv' := [some (.inr (.inr (.inl (some (77))))), some (.inl x), some (.inl l), some (.inl y), some (.inl z), some (.inl w)]) (st' := [.inl (-1)]) (h' := h11) rfl ?_
          refine av_wp_ret (v := some (.inl (-1))) rfl rfl rfl ?_
          have q50 : (bgx U S ro x l y).2.2 = 9999 ∨ (bgx U S ro x l y).2.2 ≠ 9999 := by omega
          have q50a : (v37 = 0 → (bgx U S ro x l y).2.2 = 9999) ∧ (v37 ≠ 0 → (bgx U S ro x l y).2.2 ≠ 9999) := ⟨fun c => BRR_no B19 e38 c, fun c => (BRR_ye B19 e38 c).1⟩
          exact hq _ _ _ _ h11 (Or.inl ⟨by unfold okx; omega, by unfold jdv; (repeat' split) <;> omega⟩) I21 F22
      · have c36 : (0) ≠ v32 := c36
        refine av_wp_seq 1 (pc' := 33) (lv' := [some (.inr (.inr (.inl (some (77))))), some (.inl x), some (.inl l), some (.inl y), some (.inl z), some (.inl w)]) (st' := [.inl (0)]) (h' := h11) rfl ?_
        refine av_wp_ret (v := some (.inl (0))) rfl rfl rfl ?_
        have q51 : (bgx U S ro x l y).2.2 = 9999 ∨ (bgx U S ro x l y).2.2 ≠ 9999 := by omega
        have q51a : (v32 = 0 → (bgx U S ro x l y).2.2 = 9999) ∧ (v32 ≠ 0 → (bgx U S ro x l y).2.2 ≠ 9999) := ⟨fun c => BRR_no B19 e33 c, fun c => (BRR_ye B19 e33 c).1⟩
        exact hq _ _ _ _ h11 (Or.inl ⟨by unfold okx; omega, by unfold jdv; (repeat' split) <;> omega⟩) I21 F22
    · have c31 : z ≠ (-2) := c31
      refine av_wp_seq 3 (pc' := 26) (lv' := [some (.inr (.inr (.inl (some (77))))), some (.inl x), some (.inl l), some (.inl y), some (.inl z), some (.inl w)]) (st' := [.inr (.inr (.inl (some (77)))), .inl (1)]) (h' := h11) rfl ?_
      obtain ⟨v52, e53⟩ : ∃ v, hF h11 77 50 = v := ⟨_, rfl⟩
      have g54 := im_has I21.1.1
      rw [e53] at g54
      refine wq_gb (p' := 29) rfl rfl (congrArg Prod.fst (ly_k I21.1.1.1 77 rfl)) rfl (e53) ?_
      refine wq_k2 (p' := 32) rfl rfl ⟨by omega, by omega⟩ ⟨by omega, by omega⟩ (fun c55 => ?_) (fun c56 => ?_)
      · have c55 : (1) = v52 := c55
        refine av_wp_seq 1 (pc' := 35) (lv' := [some (.inr (.inr (.inl (some (77))))), some (.inl x), some (.inl l), some (.inl y), some (.inl z), some (.inl w)]) (st' := [.inr (.inr (.inl (some (77))))]) (h' := h11) rfl ?_
        obtain ⟨v57, e58⟩ : ∃ v, hF h11 77 50 = v := ⟨_, rfl⟩
        have g59 := im_has I21.1.1
        rw [e58] at g59
        have y60 : v57 = v52 := e58.symm.trans e53
        refine wq_gb (p' := 38) rfl rfl (congrArg Prod.fst (ly_k I21.1.1.1 77 rfl)) rfl (e58) ?_
        refine wq_k1 (p' := 41) rfl rfl ⟨by omega, by omega⟩ (fun c61 => ?_) (fun c62 => ?_)
        · have c61 : v57 ≠ (0) := c61
          refine av_wp_seq 2 (pc' := 46) (lv' := [some (.inr (.inr (.inl (some (77))))), some (.inl x), some (.inl l), some (.inl y), some (.inl z), some (.inl w)]) (st' := [.inr (.inr (.inl (some (77)))), .inl z]) (h' := h11) rfl ?_
          obtain ⟨v63, e64⟩ : ∃ v, hF h11 77 51 = v := ⟨_, rfl⟩
          have g65 := im_by I21.1.1
          rw [e64] at g65
          have y66 : (bgx U S ro x l y).1 = v63 := (BRR_ye B19 e58 (by omega)).2.1.symm.trans e64
          refine wq_gi (p' := 49) rfl rfl (congrArg Prod.fst (ly_k I21.1.1.1 77 rfl)) rfl (e64) ?_
          refine wq_k2 (p' := 52) rfl rfl ⟨by omega, by omega⟩ ⟨by omega, by omega⟩ (fun c67 => ?_) (fun c68 => ?_)
          · have c67 : z = v63 := c67
            refine av_wp_seq 2 (pc' := 59) (lv' := [some (.inr (.inr (.inl (some (77))))), some (.inl x), some (.inl l), some (.inl y), some (.inl z), some (.inl w)]) (st' := [.inr (.inr (.inl (some (77)))), .inl w]) (h' := h11) rfl ?_
            obtain ⟨v69, e70⟩ : ∃ v, hF h11 77 53 = v := ⟨_, rfl⟩
            have y71 : (bgx U S ro x l y).2.2 = v69 := (BRR_ye B19 e58 (by omega)).2.2.2.symm.trans e70
            have g72 := g29
            rw [y71] at g72
            refine wq_gi (p' := 62) rfl rfl (congrArg Prod.fst (ly_k I21.1.1.1 77 rfl)) rfl (e70) ?_
            refine wq_k2 (p' := 65) rfl rfl ⟨by omega, by omega⟩ ⟨by omega, by omega⟩ (fun c73 => ?_) (fun c74 => ?_)
            · have c73 : w = v69 := c73
              refine av_wp_seq 1 (pc' := 70) (lv' := [some (.inr (.inr (.inl (some (77))))), some (.inl x), some (.inl l), some (.inl y), some (.inl z), some (.inl w)]) (st' := [.inl (-1)]) (h' := h11) rfl ?_
              refine av_wp_ret (v := some (.inl (-1))) rfl rfl rfl ?_
              have q75 : (bgx U S ro x l y).2.2 = 9999 ∨ (bgx U S ro x l y).2.2 ≠ 9999 := by omega
              have q75a : (v57 = 0 → (bgx U S ro x l y).2.2 = 9999) ∧ (v57 ≠ 0 → (bgx U S ro x l y).2.2 ≠ 9999) := ⟨fun c => BRR_no B19 e58 c, fun c => (BRR_ye B19 e58 c).1⟩
              exact hq _ _ _ _ h11 (Or.inl ⟨by unfold okx; omega, by unfold jdv; (repeat' split) <;> omega⟩) I21 F22
            · have c74 : w ≠ v69 := c74
              refine av_wp_seq 2 (pc' := 70) (lv' := [some (.inr (.inr (.inl (some (77))))), some (.inl x), some (.inl l), some (.inl y), some (.inl z), some (.inl w)]) (st' := [.inl (2)]) (h' := h11) rfl ?_
              refine av_wp_ret (v := some (.inl (2))) rfl rfl rfl ?_
              have q76 : (bgx U S ro x l y).2.2 = 9999 ∨ (bgx U S ro x l y).2.2 ≠ 9999 := by omega
              have q76a : (v57 = 0 → (bgx U S ro x l y).2.2 = 9999) ∧ (v57 ≠ 0 → (bgx U S ro x l y).2.2 ≠ 9999) := ⟨fun c => BRR_no B19 e58 c, fun c => (BRR_ye B19 e58 c).1⟩
              exact hq _ _ _ _ h11 (Or.inl ⟨by unfold okx; omega, by unfold jdv; (repeat' split) <;> omega⟩) I21 F22
          · have c68 : z ≠ v63 := c68
            refine av_wp_seq 2 (pc' := 70) (lv' := [some (.inr (.inr (.inl (some (77))))), some (.inl x), some (.inl l), some (.inl y), some (.inl z), some (.inl w)]) (st' := [.inl (1)]) (h' := h11) rfl ?_
            refine av_wp_ret (v := some (.inl (1))) rfl rfl rfl ?_
            have q77 : (bgx U S ro x l y).2.2 = 9999 ∨ (bgx U S ro x l y).2.2 ≠ 9999 := by omega
            have q77a : (v57 = 0 → (bgx U S ro x l y).2.2 = 9999) ∧ (v57 ≠ 0 → (bgx U S ro x l y).2.2 ≠ 9999) := ⟨fun c => BRR_no B19 e58 c, fun c => (BRR_ye B19 e58 c).1⟩
            exact hq _ _ _ _ h11 (Or.inl ⟨by unfold okx; omega, by unfold jdv; (repeat' split) <;> omega⟩) I21 F22
        · have c62 : v57 = (0) := c62
          refine av_wp_seq 1 (pc' := 42) (lv' := [some (.inr (.inr (.inl (some (77))))), some (.inl x), some (.inl l), some (.inl y), some (.inl z), some (.inl w)]) (st' := [.inl (-1)]) (h' := h11) rfl ?_
          refine av_wp_ret (v := some (.inl (-1))) rfl rfl rfl ?_
          have q78 : (bgx U S ro x l y).2.2 = 9999 ∨ (bgx U S ro x l y).2.2 ≠ 9999 := by omega
          have q78a : (v57 = 0 → (bgx U S ro x l y).2.2 = 9999) ∧ (v57 ≠ 0 → (bgx U S ro x l y).2.2 ≠ 9999) := ⟨fun c => BRR_no B19 e58 c, fun c => (BRR_ye B19 e58 c).1⟩
          exact hq _ _ _ _ h11 (Or.inl ⟨by unfold okx; omega, by unfold jdv; (repeat' split) <;> omega⟩) I21 F22
      · have c56 : (1) ≠ v52 := c56
        refine av_wp_seq 1 (pc' := 33) (lv' := [some (.inr (.inr (.inl (some (77))))), some (.inl x), some (.inl l), some (.inl y), some (.inl z), some (.inl w)]) (st' := [.inl (0)]) (h' := h11) rfl ?_
        refine av_wp_ret (v := some (.inl (0))) rfl rfl rfl ?_
        have q79 : (bgx U S ro x l y).2.2 = 9999 ∨ (bgx U S ro x l y).2.2 ≠ 9999 := by omega
        have q79a : (v52 = 0 → (bgx U S ro x l y).2.2 = 9999) ∧ (v52 ≠ 0 → (bgx U S ro x l y).2.2 ≠ 9999) := ⟨fun c => BRR_no B19 e53 c, fun c => (BRR_ye B19 e53 c).1⟩
        exact hq _ _ _ _ h11 (Or.inl ⟨by unfold okx; omega, by unfold jdv; (repeat' split) <;> omega⟩) I21 F22

