set_option maxRecDepth 100000 in
set_option maxHeartbeats 4000000 in
theorem cx_116 {h : av_H} {U : Nat → Nat → Int} {S : Nat → Nat} {n : Int} {sr nd : Nat → Int} (C : CJ U S n sr nd h) (k : Int) (qk : -2147483648 ≤ k ∧ k ≤ 2147483647) (l : Int) (ql : -2147483648 ≤ l ∧ l ≤ 2147483647) (x : Int) (qx : -2147483648 ≤ x ∧ x ≤ 2147483647) (q : Int) (qq : -2147483648 ≤ q ∧ q ≤ 2147483647) (CR : CRT U S n (hF h 3 4) (fun k => hA h (6 + k))) (SU : SUA U S n (hF h 3 4) (fun k => hA h (6 + k)) sr) {Q : Option av_V → av_H → Prop} (hq : ∀ (v : Int) h' sr' nd', CJ U S n sr' nd' h' → FP 35 h h' → SUA U S n (hF h 3 4) (fun k => hA h (6 + k)) sr' → RSR (okx U S n (hF h 3 4) k l x ∧ (0 ≤ q ∧ q < (S (Int.toNat k) : Int))) (-2) (DOV (U (Int.toNat k)) (hA h (6 + Int.toNat l)) (arr (U (Int.toNat k)) (hA h (6 + Int.toNat l)) (bxx U S (hA h (6 + Int.toNat l)) (Int.toNat k)) x) (S (Int.toNat k)) (bgx U S (fun k => hA h (6 + k)) k l x) (Int.toNat q)) v → Q (some (.inl v)) h') : av_wp none cd_116 0 [some (.inr (.inr (.inl (some (0))))), some (.inl k), some (.inl l), some (.inl x), some (.inl q)] [] h Q := by
  have F := FP_rf 35 h
  have nr := C.2.1.2.1
  refine av_wp_seq 1 (pc' := 1) (lv' := [some (.inr (.inr (.inl (some (0))))), some (.inl k), some (.inl l), some (.inl x), some (.inl q)]) (st' := [.inr (.inr (.inl (some (0))))]) (h' := h) rfl ?_
  refine wq_gr (p' := 4) rfl rfl (congrArg Prod.fst (ly_k C.1.1 0 rfl)) rfl (ly_g C.1.1 0 5 26 rfl) ?_
  refine av_wp_seq 3 (pc' := 7) (lv' := [some (.inr (.inr (.inl (some (0))))), some (.inl k), some (.inl l), some (.inl x), some (.inl q)]) (st' := [.inl x, .inl l, .inl k, .inr (.inr (.inl (some (26))))]) (h' := h) rfl ?_
  refine wq_cv (p' := 10) (av_qc (.invokevirtual 160) 48 3 0 3) 5 cd_48 [.inl x, .inl l, .inl k] (26) 3 [some (.inr (.inr (.inl (some (26))))), some (.inl k), some (.inl l), some (.inl x), none] rfl rfl rfl pp_48 rfl rfl rfl (congrArg Prod.fst (ly_k C.1.1 26 rfl)) rfl rfl rfl rfl ?_
  refine cz_48 C (k) (by omega) (l) (by omega) (x) (by omega) CR SU (fun z1 => ?_) (fun z1 z2 z3 h4 r5 n6 t7 c8 a9 m10 m11 m12 C13 F14 U15 E16 Z17 T18 D19 B20 R21 => ?_)
  · show av_wp _ cd_116 10 [some (.inr (.inr (.inl (some (0))))), some (.inl k), some (.inl l), some (.inl x), some (.inl q)] [.inl (0)] h _
    refine av_wp_seq 2 (pc' := 33) (lv' := [some (.inr (.inr (.inl (some (0))))), some (.inl k), some (.inl l), some (.inl x), some (.inl q)]) (st' := [.inl (-2)]) (h' := h) rfl ?_
    refine av_wp_ret (v := some (.inl (-2))) rfl rfl rfl ?_
    exact hq _ h _ _ C F SU (Or.inr ⟨by unfold okx; omega, rfl⟩)
  · have g22 : (-1 ≤ m10 ∧ m10 ≤ 11) ∧ (-1 ≤ m11 ∧ m11 ≤ 11) ∧ (-1 ≤ m12 ∧ m12 ≤ 9999) := R21
    have g23 := co_s12 (ib_co E16.1)
    show av_wp _ cd_116 10 [some (.inr (.inr (.inl (some (0))))), some (.inl k), some (.inl l), some (.inl x), some (.inl q)] [.inl (1)] h4 _
    refine av_wp_seq 2 (pc' := 14) (lv' := [some (.inr (.inr (.inl (some (0))))), some (.inl k), some (.inl l), some (.inl x), some (.inl q)]) (st' := [.inr (.inr (.inl (some (0))))]) (h' := h4) rfl ?_
    refine wq_gr (p' := 17) rfl rfl (congrArg Prod.fst (ly_k C13.1.1 0 rfl)) rfl (ly_g C13.1.1 0 5 26 rfl) ?_
    refine wq_gr (p' := 20) rfl rfl (congrArg Prod.fst (ly_k C13.1.1 26 rfl)) rfl (ly_g C13.1.1 26 1 35 rfl) ?_
    refine wq_gr (p' := 23) rfl rfl (congrArg Prod.fst (bn_k0 C13.1.1 (Or.inl rfl))) rfl (ib_t E16.1) ?_
    refine av_wp_seq 1 (pc' := 25) (lv' := [some (.inr (.inr (.inl (some (0))))), some (.inl k), some (.inl l), some (.inl x), some (.inl q)]) (st' := [.inl q, .inr (.inr (.inl (some (t7))))]) (h' := h4) rfl ?_
    refine wq_cv (p' := 28) (av_qc (.invokevirtual 136) 28 1 0 1) 2 cd_28 [.inl q] (t7) 1 [some (.inr (.inr (.inl (some (t7))))), some (.inl q)] rfl rfl rfl pp_28 rfl rfl rfl (congrArg Prod.fst (co_kt (ib_co E16.1))) rfl rfl rfl rfl ?_
    refine ct_28 (ib_co E16.1) (q) (by omega) (fun v24 p25 => ?_)
    show av_wp _ cd_116 28 [some (.inr (.inr (.inl (some (0))))), some (.inl k), some (.inl l), some (.inl x), some (.inl q)] [.inl v24] h4 _
    refine wq_k1 (p' := 31) rfl rfl ⟨by omega, by omega⟩ (fun c26 => ?_) (fun c27 => ?_)
    · have c26 : v24 ≠ (0) := c26
      refine av_wp_seq 1 (pc' := 35) (lv' := [some (.inr (.inr (.inl (some (0))))), some (.inl k), some (.inl l), some (.inl x), some (.inl q)]) (st' := [.inr (.inr (.inl (some (0))))]) (h' := h4) rfl ?_
      refine wq_gr (p' := 38) rfl rfl (congrArg Prod.fst (ly_k C13.1.1 0 rfl)) rfl (ly_g C13.1.1 0 5 26 rfl) ?_
      refine wq_gr (p' := 41) rfl rfl (congrArg Prod.fst (ly_k C13.1.1 26 rfl)) rfl (ly_g C13.1.1 26 1 35 rfl) ?_
      refine av_wp_seq 1 (pc' := 43) (lv' := [some (.inr (.inr (.inl (some (0))))), some (.inl k), some (.inl l), some (.inl x), some (.inl q)]) (st' := [.inl q, .inr (.inr (.inl (some (35))))]) (h' := h4) rfl ?_
      refine wq_cv (p' := 46) (av_qc (.invokevirtual 240) 21 1 0 0) 4 cd_21 [.inl q] (35) 0 [some (.inr (.inr (.inl (some (35))))), some (.inl q), none, none] rfl rfl rfl pp_21 rfl rfl rfl (congrArg Prod.fst (bn_k0 C13.1.1 (Or.inl rfl))) rfl rfl rfl rfl ?_
      have g28h := HBd_g (CR.1 (Int.toNat k) (by omega)).2.2.2.2.2 D19.1 (by have := cbv_d (U (Int.toNat k)) (S (Int.toNat k)); omega)
      have g28d := DDA_of (u := U (Int.toNat k)) (ro := (hA h (6 + Int.toNat l))) (bar := bxx U S (hA h (6 + Int.toNat l)) (Int.toNat k)) (x := x) (by omega) T18 D19
      have g28H : HBd (S (Int.toNat k)) (arr (U (Int.toNat k)) (hA h (6 + Int.toNat l)) (bxx U S (hA h (6 + Int.toNat l)) (Int.toNat k)) x) := HBd_g (CR.1 (Int.toNat k) (by omega)).2.2.2.2.2 (fun q hq i hi => arr_0 (by omega)) (by have := cbv_d (U (Int.toNat k)) (S (Int.toNat k)); omega)
      have g285 : ∀ q, q < S (Int.toNat k) → -1 ≤ a9 5 q ∧ a9 5 q ≤ 9999 := fun q hq => by rw [(g28d q hq).2.1]; have := o5_r (ro := (hA h (6 + Int.toNat l))) g28H hq; omega
      have g288 : ∀ q, q < S (Int.toNat k) → -1 ≤ a9 8 q ∧ a9 8 q ≤ 11 := fun q hq => by rw [show a9 8 q = _ from congrArg (fun t => t.2.2) (D19.2 q hq).2.1]; exact eav_8 (by omega) q
      have g28w := ((CR.1 (Int.toNat k) (by omega)).1 (Int.toNat q) (by omega)).2.1
      refine cx_21 E16 (FN_rf 35 h4) g28h (CR.2.2.2 l (by omega) (by omega)) (fun q hq => by rw [(T18 q hq).2.1]; exact ys_b _ _ _) g285 g288 (by omega) (q) (by omega) (U (Int.toNat k) (21 * Int.toNat q + 3)) (by omega) rfl (fun v29 p30 => ?_)
      show av_wp _ cd_116 46 [some (.inr (.inr (.inl (some (0))))), some (.inl k), some (.inl l), some (.inl x), some (.inl q)] [.inl v29] h4 _
      refine av_wp_ret (v := some (.inl v29)) rfl rfl rfl ?_
      exact hq _ h4 _ _ C13 F14 U15 (Or.inl ⟨by unfold okx; omega, by rw [show bgx U S (fun k => hA h (6 + k)) k l x = _ from B20]; refine DOV_of (x := x) (by omega) T18 D19 (by omega) rfl ?_; rw [show ((Int.toNat q : Nat) : Int) = q by omega]; exact p30⟩)
    · have c27 : v24 = (0) := c27
      refine av_wp_seq 1 (pc' := 33) (lv' := [some (.inr (.inr (.inl (some (0))))), some (.inl k), some (.inl l), some (.inl x), some (.inl q)]) (st' := [.inl (-2)]) (h' := h4) rfl ?_
      refine av_wp_ret (v := some (.inl (-2))) rfl rfl rfl ?_
      exact hq _ h4 _ _ C13 F14 U15 (Or.inr ⟨by unfold okx; omega, rfl⟩)


