section
/-! JUDGE, exactly -/
set_option maxRecDepth 100000 in
set_option maxHeartbeats 4000000 in
theorem cx_112 {h : av_H} {U : Nat → Nat → Int} {S : Nat → Nat} {n : Int} {sr nd : Nat → Int} (C : CJ U S n sr nd h) (k : Int) (qk : -2147483648 ≤ k ∧ k ≤ 2147483647) (l : Int) (ql : -2147483648 ≤ l ∧ l ≤ 2147483647) (x : Int) (qx : -2147483648 ≤ x ∧ x ≤ 2147483647) (y : Int) (qy : -2147483648 ≤ y ∧ y ≤ 2147483647) (z : Int) (qz : -2147483648 ≤ z ∧ z ≤ 2147483647) (CR : CRT U S n (hF h 3 4) (fun k => hA h (6 + k))) (SU : SUA U S n (hF h 3 4) (fun k => hA h (6 + k)) sr) {Q : Option av_V → av_H → Prop} (hq : ∀ (v : Int) h' sr' nd', CJ U S n sr' nd' h' → FP 35 h h' → SUA U S n (hF h 3 4) (fun k => hA h (6 + k)) sr' → RSP (okx U S n (hF h 3 4) k l x) (-2) (jdv (bgx U S (fun k => hA h (6 + k)) k l x).1 (bgx U S (fun k => hA h (6 + k)) k l x).2.2 y z) v → Q (some (.inl v)) h') : av_wp none cd_112 0 [some (.inr (.inr (.inl (some (0))))), some (.inl k), some (.inl l), some (.inl x), some (.inl y), some (.inl z), none, none] [] h Q := by
  have F := FP_rf 35 h
  have nr := C.2.1.2.1
  refine av_wp_sqF ck_112 1 (pc' := 1) (lv' := [some (.inr (.inr (.inl (some (0))))), some (.inl k), some (.inl l), some (.inl x), some (.inl y), some (.inl z), none, none]) (st' := [.inr (.inr (.inl (some (0))))]) (h' := h) rfl ?_
  refine wq_gr (p' := 4) (ck_112 _ _ rfl) rfl (congrArg Prod.fst (ly_k C.1.1 0 rfl)) rfl (ly_g C.1.1 0 5 26 rfl) ?_
  refine av_wp_sqF ck_112 3 (pc' := 7) (lv' := [some (.inr (.inr (.inl (some (0))))), some (.inl k), some (.inl l), some (.inl x), some (.inl y), some (.inl z), none, none]) (st' := [.inl x, .inl l, .inl k, .inr (.inr (.inl (some (26))))]) (h' := h) rfl ?_
  refine wq_cv (p' := 10) (av_qc (.invokevirtual 160) 48 3 0 3) 5 cd_48 [.inl x, .inl l, .inl k] (26) 3 [some (.inr (.inr (.inl (some (26))))), some (.inl k), some (.inl l), some (.inl x), none] (ck_112 _ _ rfl) rfl rfl pp_48 rfl rfl rfl (congrArg Prod.fst (ly_k C.1.1 26 rfl)) rfl rfl rfl rfl ?_
  refine cz_48 C (k) (by omega) (l) (by omega) (x) (by omega) CR SU (fun z1 => ?_) (fun z1 z2 z3 h4 r5 n6 t7 c8 a9 m10 m11 m12 C13 F14 U15 E16 Z17 T18 D19 B20 R21 => ?_)
  · show av_wp _ cd_112 10 [some (.inr (.inr (.inl (some (0))))), some (.inl k), some (.inl l), some (.inl x), some (.inl y), some (.inl z), none, none] [.inl (0)] h _
    refine av_wp_sqF ck_112 2 (pc' := 15) (lv' := [some (.inr (.inr (.inl (some (0))))), some (.inl k), some (.inl l), some (.inl x), some (.inl y), some (.inl z), none, none]) (st' := [.inl (-2)]) (h' := h) rfl ?_
    refine av_wp_ret (v := some (.inl (-2))) (ck_112 _ _ rfl) rfl rfl ?_
    exact hq _ h _ _ C F SU (Or.inr ⟨by unfold okx; omega, rfl⟩)
  · have g22 : (-1 ≤ m10 ∧ m10 ≤ 11) ∧ (-1 ≤ m11 ∧ m11 ≤ 11) ∧ (-1 ≤ m12 ∧ m12 ≤ 9999) := R21
    have g23 := co_s12 (ib_co E16.1)
    show av_wp _ cd_112 10 [some (.inr (.inr (.inl (some (0))))), some (.inl k), some (.inl l), some (.inl x), some (.inl y), some (.inl z), none, none] [.inl (1)] h4 _
    refine av_wp_sqF ck_112 2 (pc' := 17) (lv' := [some (.inr (.inr (.inl (some (0))))), some (.inl k), some (.inl l), some (.inl x), some (.inl y), some (.inl z), none, none]) (st' := [.inr (.inr (.inl (some (0))))]) (h' := h4) rfl ?_
    refine wq_gr (p' := 20) (ck_112 _ _ rfl) rfl (congrArg Prod.fst (ly_k C13.1.1 0 rfl)) rfl (ly_g C13.1.1 0 5 26 rfl) ?_
    refine wq_gr (p' := 23) (ck_112 _ _ rfl) rfl (congrArg Prod.fst (ly_k C13.1.1 26 rfl)) rfl (ly_g C13.1.1 26 1 35 rfl) ?_
    refine av_wp_sqF ck_112 3 (pc' := 29) (lv' := [some (.inr (.inr (.inl (some (0))))), some (.inl k), some (.inl l), some (.inl x), some (.inl y), some (.inl z), some (.inr (.inr (.inl (some (35))))), none]) (st' := [.inl (-2), .inl y]) (h' := h4) rfl ?_
    refine wq_k2 (p' := 32) (ck_112 _ _ rfl) rfl ⟨by omega, by omega⟩ ⟨by omega, by omega⟩ (fun c24 => ?_) (fun c25 => ?_)
    · have c24 : y = (-2) := c24
      refine av_wp_sqF ck_112 4 (pc' := 43) (lv' := [some (.inr (.inr (.inl (some (0))))), some (.inl k), some (.inl l), some (.inl x), some (.inl y), some (.inl z), some (.inr (.inr (.inl (some (35))))), some (.inl (0))]) (st' := [.inr (.inr (.inl (some (35)))), .inl (0)]) (h' := h4) rfl ?_
      refine wq_cv (p' := 46) (av_qc (.invokevirtual 168) 3 0 0 0) 1 cd_3 [] (35) 0 [some (.inr (.inr (.inl (some (35)))))] (ck_112 _ _ rfl) rfl rfl pp_3 rfl rfl rfl (congrArg Prod.fst (bn_k0 C13.1.1 (Or.inl rfl))) rfl rfl rfl rfl ?_
      refine cx_3 E16 (FN_rf 35 h4) (by omega) (fun v26 p27 => ?_)
      show av_wp _ cd_112 46 [some (.inr (.inr (.inl (some (0))))), some (.inl k), some (.inl l), some (.inl x), some (.inl y), some (.inl z), some (.inr (.inr (.inl (some (35))))), some (.inl (0))] [.inl v26, .inl (0)] h4 _
      refine wq_k2 (p' := 49) (ck_112 _ _ rfl) rfl ⟨by omega, by omega⟩ ⟨by omega, by omega⟩ (fun c28 => ?_) (fun c29 => ?_)
      · have c28 : (0) = v26 := c28
        refine av_wp_sqF ck_112 3 (pc' := 57) (lv' := [some (.inr (.inr (.inl (some (0))))), some (.inl k), some (.inl l), some (.inl x), some (.inl y), some (.inl z), some (.inr (.inr (.inl (some (35))))), some (.inl (0))]) (st' := [.inl (-1)]) (h' := h4) rfl ?_
        refine av_wp_ret (v := some (.inl (-1))) (ck_112 _ _ rfl) rfl rfl ?_
        exact hq _ h4 _ _ C13 F14 U15 (Or.inl ⟨by unfold okx; omega, by rw [show bgx U S (fun k => hA h (6 + k)) k l x = _ from B20]; show _ = jdv m10 m12 y z; unfold jdv; (repeat' split) <;> omega⟩)
      · have c29 : (0) ≠ v26 := c29
        refine av_wp_sqF ck_112 1 (pc' := 50) (lv' := [some (.inr (.inr (.inl (some (0))))), some (.inl k), some (.inl l), some (.inl x), some (.inl y), some (.inl z), some (.inr (.inr (.inl (some (35))))), some (.inl (0))]) (st' := [.inl (0)]) (h' := h4) rfl ?_
        refine av_wp_ret (v := some (.inl (0))) (ck_112 _ _ rfl) rfl rfl ?_
        exact hq _ h4 _ _ C13 F14 U15 (Or.inl ⟨by unfold okx; omega, by rw [show bgx U S (fun k => hA h (6 + k)) k l x = _ from B20]; show _ = jdv m10 m12 y z; unfold jdv; (repeat' split) <;> omega⟩)
    · have c25 : y ≠ (-2) := c25
      refine av_wp_sqF ck_112 5 (pc' := 43) (lv' := [some (.inr (.inr (.inl (some (0))))), some (.inl k), some (.inl l), some (.inl x), some (.inl y), some (.inl z), some (.inr (.inr (.inl (some (35))))), some (.inl (1))]) (st' := [.inr (.inr (.inl (some (35)))), .inl (1)]) (h' := h4) rfl ?_
      refine wq_cv (p' := 46) (av_qc (.invokevirtual 168) 3 0 0 0) 1 cd_3 [] (35) 0 [some (.inr (.inr (.inl (some (35)))))] (ck_112 _ _ rfl) rfl rfl pp_3 rfl rfl rfl (congrArg Prod.fst (bn_k0 C13.1.1 (Or.inl rfl))) rfl rfl rfl rfl ?_
      refine cx_3 E16 (FN_rf 35 h4) (by omega) (fun v30 p31 => ?_)
      show av_wp _ cd_112 46 [some (.inr (.inr (.inl (some (0))))), some (.inl k), some (.inl l), some (.inl x), some (.inl y), some (.inl z), some (.inr (.inr (.inl (some (35))))), some (.inl (1))] [.inl v30, .inl (1)] h4 _
      refine wq_k2 (p' := 49) (ck_112 _ _ rfl) rfl ⟨by omega, by omega⟩ ⟨by omega, by omega⟩ (fun c32 => ?_) (fun c33 => ?_)
      · have c32 : (1) = v30 := c32
        refine av_wp_sqF ck_112 4 (pc' := 62) (lv' := [some (.inr (.inr (.inl (some (0))))), some (.inl k), some (.inl l), some (.inl x), some (.inl y), some (.inl z), some (.inr (.inr (.inl (some (35))))), some (.inl (1))]) (st' := [.inr (.inr (.inl (some (35)))), .inl y]) (h' := h4) rfl ?_
        refine wq_gi (p' := 65) (ck_112 _ _ rfl) rfl (congrArg Prod.fst (bn_k0 C13.1.1 (Or.inl rfl))) rfl (E16.2.2.2.2.1) ?_
        refine wq_k2 (p' := 68) (ck_112 _ _ rfl) rfl ⟨by omega, by omega⟩ ⟨by omega, by omega⟩ (fun c34 => ?_) (fun c35 => ?_)
        · have c34 : y = m10 := c34
          refine av_wp_sqF ck_112 2 (pc' := 74) (lv' := [some (.inr (.inr (.inl (some (0))))), some (.inl k), some (.inl l), some (.inl x), some (.inl y), some (.inl z), some (.inr (.inr (.inl (some (35))))), some (.inl (1))]) (st' := [.inr (.inr (.inl (some (35)))), .inl z]) (h' := h4) rfl ?_
          refine wq_gi (p' := 77) (ck_112 _ _ rfl) rfl (congrArg Prod.fst (bn_k0 C13.1.1 (Or.inl rfl))) rfl (E16.2.2.2.2.2.2) ?_
          refine wq_k2 (p' := 80) (ck_112 _ _ rfl) rfl ⟨by omega, by omega⟩ ⟨by omega, by omega⟩ (fun c36 => ?_) (fun c37 => ?_)
          · have c36 : z ≠ m12 := c36
            refine av_wp_sqF ck_112 1 (pc' := 85) (lv' := [some (.inr (.inr (.inl (some (0))))), some (.inl k), some (.inl l), some (.inl x), some (.inl y), some (.inl z), some (.inr (.inr (.inl (some (35))))), some (.inl (1))]) (st' := [.inl (2)]) (h' := h4) rfl ?_
            refine av_wp_ret (v := some (.inl (2))) (ck_112 _ _ rfl) rfl rfl ?_
            exact hq _ h4 _ _ C13 F14 U15 (Or.inl ⟨by unfold okx; omega, by rw [show bgx U S (fun k => hA h (6 + k)) k l x = _ from B20]; show _ = jdv m10 m12 y z; unfold jdv; (repeat' split) <;> omega⟩)
          · have c37 : z = m12 := c37
            refine av_wp_sqF ck_112 2 (pc' := 85) (lv' := [some (.inr (.inr (.inl (some (0))))), some (.inl k), some (.inl l), some (.inl x), some (.inl y), some (.inl z), some (.inr (.inr (.inl (some (35))))), some (.inl (1))]) (st' := [.inl (-1)]) (h' := h4) rfl ?_
            refine av_wp_ret (v := some (.inl (-1))) (ck_112 _ _ rfl) rfl rfl ?_
            exact hq _ h4 _ _ C13 F14 U15 (Or.inl ⟨by unfold okx; omega, by rw [show bgx U S (fun k => hA h (6 + k)) k l x = _ from B20]; show _ = jdv m10 m12 y z; unfold jdv; (repeat' split) <;> omega⟩)
        · have c35 : y ≠ m10 := c35
          refine av_wp_sqF ck_112 1 (pc' := 69) (lv' := [some (.inr (.inr (.inl (some (0))))), some (.inl k), some (.inl l), some (.inl x), some (.inl y), some (.inl z), some (.inr (.inr (.inl (some (35))))), some (.inl (1))]) (st' := [.inl (1)]) (h' := h4) rfl ?_
          refine av_wp_ret (v := some (.inl (1))) (ck_112 _ _ rfl) rfl rfl ?_
          exact hq _ h4 _ _ C13 F14 U15 (Or.inl ⟨by unfold okx; omega, by rw [show bgx U S (fun k => hA h (6 + k)) k l x = _ from B20]; show _ = jdv m10 m12 y z; unfold jdv; (repeat' split) <;> omega⟩)
      · have c33 : (1) ≠ v30 := c33
        refine av_wp_sqF ck_112 1 (pc' := 50) (lv' := [some (.inr (.inr (.inl (some (0))))), some (.inl k), some (.inl l), some (.inl x), some (.inl y), some (.inl z), some (.inr (.inr (.inl (some (35))))), some (.inl (1))]) (st' := [.inl (0)]) (h' := h4) rfl ?_
        refine av_wp_ret (v := some (.inl (0))) (ck_112 _ _ rfl) rfl rfl ?_
        exact hq _ h4 _ _ C13 F14 U15 (Or.inl ⟨by unfold okx; omega, by rw [show bgx U S (fun k => hA h (6 + k)) k l x = _ from B20]; show _ = jdv m10 m12 y z; unfold jdv; (repeat' split) <;> omega⟩)
end
section
/-! OPEN, exactly -/
set_option maxRecDepth 100000 in
set_option maxHeartbeats 4000000 in
theorem cx_15 {g h : av_H} {b t c s r : Nat} {cb : Int} {u ro : Nat → Int} {a : Nat → Nat → Int} {mb mo ma : Int} (E : EB b t c s r cb u ro a mb mo ma h) (F : FN b g h) (k : Int) (qk : -2147483648 ≤ k ∧ k ≤ 2147483647) (b2 : ∀ q, q < s → 0 ≤ a 2 q ∧ a 2 q ≤ 1) {Q : Option av_V → av_H → Prop} (hq : ∀ v : Int, ((v = 1 ∧ (0 ≤ k ∧ k < (s : Int)) ∧ a 2 (Int.toNat k) = 1) ∨ (v = 0 ∧ ((k < 0 ∨ (s : Int) ≤ k) ∨ a 2 (Int.toNat k) = 0))) → Q (some (.inl v)) h) : av_wp none cd_15 0 [some (.inr (.inr (.inl (some (b))))), some (.inl k)] [] h Q := by
  have s12 := co_s12 (ib_co E.1)
  have cbr := co_cbr (ib_co E.1)
  have mbr := eb_xr E
  have mor := eb_yr E
  refine av_wp_sqF ck_15 1 (pc' := 1) (lv' := [some (.inr (.inr (.inl (some (b))))), some (.inl k)]) (st' := [.inr (.inr (.inl (some (b))))]) (h' := h) rfl ?_
  refine wq_gr (p' := 4) (ck_15 _ _ rfl) rfl (congrArg Prod.fst (ib_k0 E.1)) rfl (ib_t E.1) ?_
  refine av_wp_sqF ck_15 1 (pc' := 5) (lv' := [some (.inr (.inr (.inl (some (b))))), some (.inl k)]) (st' := [.inl k, .inr (.inr (.inl (some (t))))]) (h' := h) rfl ?_
  refine wq_cv (p' := 8) (av_qc (.invokevirtual 136) 28 1 0 1) 2 cd_28 [.inl k] (t) 1 [some (.inr (.inr (.inl (some (t))))), some (.inl k)] (ck_15 _ _ rfl) rfl rfl pp_28 rfl rfl rfl (congrArg Prod.fst (co_kt (ib_co E.1))) rfl rfl rfl rfl ?_
  refine ct_28 (ib_co E.1) (k) (by omega) (fun v1 p2 => ?_)
  show av_wp _ cd_15 8 [some (.inr (.inr (.inl (some (b))))), some (.inl k)] [.inl v1] h _
  refine wq_k1 (p' := 11) (ck_15 _ _ rfl) rfl ⟨by omega, by omega⟩ (fun c3 => ?_) (fun c4 => ?_)
  · have c3 : v1 = (0) := c3
    refine av_wp_sqF ck_15 1 (pc' := 25) (lv' := [some (.inr (.inr (.inl (some (b))))), some (.inl k)]) (st' := [.inl (0)]) (h' := h) rfl ?_
    refine av_wp_ret (v := some (.inl (0))) (ck_15 _ _ rfl) rfl rfl ?_
    exact hq _ (Or.inr ⟨rfl, Or.inl (by omega)⟩)
  · have c4 : v1 ≠ (0) := c4
    refine av_wp_sqF ck_15 1 (pc' := 12) (lv' := [some (.inr (.inr (.inl (some (b))))), some (.inl k)]) (st' := [.inr (.inr (.inl (some (b))))]) (h' := h) rfl ?_
    refine wq_gr (p' := 15) (ck_15 _ _ rfl) rfl (congrArg Prod.fst (ib_k0 E.1)) rfl (ib_g E.1 2 rfl) ?_
    refine av_wp_sqF ck_15 1 (pc' := 16) (lv' := [some (.inr (.inr (.inl (some (b))))), some (.inl k)]) (st' := [.inl k, .inr (.inr (.inl (some (b + 1 + 2))))]) (h' := h) rfl ?_
    obtain ⟨v6, e7⟩ : ∃ v, a 2 (Int.toNat (k)) = v := ⟨_, rfl⟩
    have g8 := b2 (Int.toNat (k)) (by omega)
    rw [e7] at g8
    refine wq_bl (p' := 17) (n := 12) (ck_15 _ _ rfl) rfl ((Or.inr (ib_k E.1 2 rfl))) (by omega) ((congrFun (eb_a E 2 rfl) _).trans e7) ?_
    refine wq_k1 (p' := 20) (ck_15 _ _ rfl) rfl ⟨by omega, by omega⟩ (fun c9 => ?_) (fun c10 => ?_)
    · have c9 : v6 = (0) := c9
      refine av_wp_sqF ck_15 1 (pc' := 25) (lv' := [some (.inr (.inr (.inl (some (b))))), some (.inl k)]) (st' := [.inl (0)]) (h' := h) rfl ?_
      refine av_wp_ret (v := some (.inl (0))) (ck_15 _ _ rfl) rfl rfl ?_
      exact hq _ (Or.inr ⟨rfl, Or.inr (by rw [e7]; omega)⟩)
    · have c10 : v6 ≠ (0) := c10
      refine av_wp_sqF ck_15 2 (pc' := 25) (lv' := [some (.inr (.inr (.inl (some (b))))), some (.inl k)]) (st' := [.inl (1)]) (h' := h) rfl ?_
      refine av_wp_ret (v := some (.inl (1))) (ck_15 _ _ rfl) rfl rfl ?_
      exact hq _ (Or.inl ⟨rfl, by omega, by rw [e7]; omega⟩)

set_option maxRecDepth 100000 in
set_option maxHeartbeats 4000000 in
theorem cx_107 {h : av_H} {U : Nat → Nat → Int} {S : Nat → Nat} {n : Int} {sr nd : Nat → Int} (C : CJ U S n sr nd h) (k : Int) (qk : -2147483648 ≤ k ∧ k ≤ 2147483647) (l : Int) (ql : -2147483648 ≤ l ∧ l ≤ 2147483647) (x : Int) (qx : -2147483648 ≤ x ∧ x ≤ 2147483647) (q : Int) (qq : -2147483648 ≤ q ∧ q ≤ 2147483647) (w : Int) (qw : -2147483648 ≤ w ∧ w ≤ 2147483647) (CR : CRT U S n (hF h 3 4) (fun k => hA h (6 + k))) (SU : SUA U S n (hF h 3 4) (fun k => hA h (6 + k)) sr) {Q : Option av_V → av_H → Prop} (hq : ∀ (v : Int) h' sr' nd', CJ U S n sr' nd' h' → FP 35 h h' → SUA U S n (hF h 3 4) (fun k => hA h (6 + k)) sr' → RSP (okx U S n (hF h 3 4) k l x ∧ (0 ≤ q ∧ q < (S (Int.toNat k) : Int)) ∧ ofv (U (Int.toNat k)) (hA h (6 + Int.toNat l)) (Int.toNat q) = 1 ∧ 0 ≤ w ∧ w ≤ 2) (-2) (opx (U (Int.toNat k)) (hA h (6 + Int.toNat l)) (bxx U S (hA h (6 + Int.toNat l)) (Int.toNat k)) (S (Int.toNat k)) x (Int.toNat q) w) v → Q (some (.inl v)) h') : av_wp none cd_107 0 [some (.inr (.inr (.inl (some (0))))), some (.inl k), some (.inl l), some (.inl x), some (.inl q), some (.inl w)] [] h Q := by
  have F := FP_rf 35 h
  have nr := C.2.1.2.1
  refine av_wp_sqF ck_107 1 (pc' := 2) (lv' := [some (.inr (.inr (.inl (some (0))))), some (.inl k), some (.inl l), some (.inl x), some (.inl q), some (.inl w)]) (st' := [.inl w]) (h' := h) rfl ?_
  refine wq_k1 (p' := 5) (ck_107 _ _ rfl) rfl ⟨by omega, by omega⟩ (fun c1 => ?_) (fun c2 => ?_)
  · have c1 : w < (0) := c1
    refine av_wp_sqF ck_107 1 (pc' := 41) (lv' := [some (.inr (.inr (.inl (some (0))))), some (.inl k), some (.inl l), some (.inl x), some (.inl q), some (.inl w)]) (st' := [.inl (-2)]) (h' := h) rfl ?_
    refine av_wp_ret (v := some (.inl (-2))) (ck_107 _ _ rfl) rfl rfl ?_
    exact hq _ h _ _ C F SU (Or.inr ⟨by unfold okx; omega, rfl⟩)
  · have c2 : (0) ≤ w := c2
    refine av_wp_sqF ck_107 2 (pc' := 8) (lv' := [some (.inr (.inr (.inl (some (0))))), some (.inl k), some (.inl l), some (.inl x), some (.inl q), some (.inl w)]) (st' := [.inl (2), .inl w]) (h' := h) rfl ?_
    refine wq_k2 (p' := 11) (ck_107 _ _ rfl) rfl ⟨by omega, by omega⟩ ⟨by omega, by omega⟩ (fun c3 => ?_) (fun c4 => ?_)
    · have c3 : (2) < w := c3
      refine av_wp_sqF ck_107 1 (pc' := 41) (lv' := [some (.inr (.inr (.inl (some (0))))), some (.inl k), some (.inl l), some (.inl x), some (.inl q), some (.inl w)]) (st' := [.inl (-2)]) (h' := h) rfl ?_
      refine av_wp_ret (v := some (.inl (-2))) (ck_107 _ _ rfl) rfl rfl ?_
      exact hq _ h _ _ C F SU (Or.inr ⟨by unfold okx; omega, rfl⟩)
    · have c4 : w ≤ (2) := c4
      refine av_wp_sqF ck_107 1 (pc' := 12) (lv' := [some (.inr (.inr (.inl (some (0))))), some (.inl k), some (.inl l), some (.inl x), some (.inl q), some (.inl w)]) (st' := [.inr (.inr (.inl (some (0))))]) (h' := h) rfl ?_
      refine wq_gr (p' := 15) (ck_107 _ _ rfl) rfl (congrArg Prod.fst (ly_k C.1.1 0 rfl)) rfl (ly_g C.1.1 0 5 26 rfl) ?_
      refine av_wp_sqF ck_107 3 (pc' := 18) (lv' := [some (.inr (.inr (.inl (some (0))))), some (.inl k), some (.inl l), some (.inl x), some (.inl q), some (.inl w)]) (st' := [.inl x, .inl l, .inl k, .inr (.inr (.inl (some (26))))]) (h' := h) rfl ?_
      refine wq_cv (p' := 21) (av_qc (.invokevirtual 160) 48 3 0 3) 5 cd_48 [.inl x, .inl l, .inl k] (26) 3 [some (.inr (.inr (.inl (some (26))))), some (.inl k), some (.inl l), some (.inl x), none] (ck_107 _ _ rfl) rfl rfl pp_48 rfl rfl rfl (congrArg Prod.fst (ly_k C.1.1 26 rfl)) rfl rfl rfl rfl ?_
      refine cz_48 C (k) (by omega) (l) (by omega) (x) (by omega) CR SU (fun z5 => ?_) (fun z5 z6 z7 h8 r9 n10 t11 c12 a13 m14 m15 m16 C17 F18 U19 E20 Z21 T22 D23 B24 R25 => ?_)
      · show av_wp _ cd_107 21 [some (.inr (.inr (.inl (some (0))))), some (.inl k), some (.inl l), some (.inl x), some (.inl q), some (.inl w)] [.inl (0)] h _
        refine av_wp_sqF ck_107 2 (pc' := 41) (lv' := [some (.inr (.inr (.inl (some (0))))), some (.inl k), some (.inl l), some (.inl x), some (.inl q), some (.inl w)]) (st' := [.inl (-2)]) (h' := h) rfl ?_
        refine av_wp_ret (v := some (.inl (-2))) (ck_107 _ _ rfl) rfl rfl ?_
        exact hq _ h _ _ C F SU (Or.inr ⟨by unfold okx; omega, rfl⟩)
      · have g26 : (-1 ≤ m14 ∧ m14 ≤ 11) ∧ (-1 ≤ m15 ∧ m15 ≤ 11) ∧ (-1 ≤ m16 ∧ m16 ≤ 9999) := R25
        have g27 := co_s12 (ib_co E20.1)
        show av_wp _ cd_107 21 [some (.inr (.inr (.inl (some (0))))), some (.inl k), some (.inl l), some (.inl x), some (.inl q), some (.inl w)] [.inl (1)] h8 _
        refine av_wp_sqF ck_107 2 (pc' := 25) (lv' := [some (.inr (.inr (.inl (some (0))))), some (.inl k), some (.inl l), some (.inl x), some (.inl q), some (.inl w)]) (st' := [.inr (.inr (.inl (some (0))))]) (h' := h8) rfl ?_
        refine wq_gr (p' := 28) (ck_107 _ _ rfl) rfl (congrArg Prod.fst (ly_k C17.1.1 0 rfl)) rfl (ly_g C17.1.1 0 5 26 rfl) ?_
        refine wq_gr (p' := 31) (ck_107 _ _ rfl) rfl (congrArg Prod.fst (ly_k C17.1.1 26 rfl)) rfl (ly_g C17.1.1 26 1 35 rfl) ?_
        refine av_wp_sqF ck_107 1 (pc' := 33) (lv' := [some (.inr (.inr (.inl (some (0))))), some (.inl k), some (.inl l), some (.inl x), some (.inl q), some (.inl w)]) (st' := [.inl q, .inr (.inr (.inl (some (35))))]) (h' := h8) rfl ?_
        refine wq_cv (p' := 36) (av_qc (.invokevirtual 187) 15 1 0 0) 2 cd_15 [.inl q] (35) 0 [some (.inr (.inr (.inl (some (35))))), some (.inl q)] (ck_107 _ _ rfl) rfl rfl pp_15 rfl rfl rfl (congrArg Prod.fst (bn_k0 C17.1.1 (Or.inl rfl))) rfl rfl rfl rfl ?_
        refine cx_15 E20 (FN_rf 35 h8) (q) (by omega) (fun q hq => by rw [(T22 q hq).1]; exact of_b _ _ _) (fun v28 p29 => ?_)
        have y30 : (v28 = 1 ∧ (0 ≤ q ∧ q < (S (Int.toNat k) : Int)) ∧ ofv (U (Int.toNat k)) (hA h (6 + Int.toNat l)) (Int.toNat (q)) = 1) ∨ (v28 = 0 ∧ ¬ ((0 ≤ q ∧ q < (S (Int.toNat k) : Int)) ∧ ofv (U (Int.toNat k)) (hA h (6 + Int.toNat l)) (Int.toNat (q)) = 1)) := by
          rcases p29 with y | y
          · exact Or.inl ⟨y.1, y.2.1, by rw [← (T22 _ (by omega)).1]; exact y.2.2⟩
          · refine Or.inr ⟨y.1, fun z => ?_⟩
            have z1 := z.2
            rw [← (T22 _ (by omega)).1] at z1
            omega
        clear p29
        show av_wp _ cd_107 36 [some (.inr (.inr (.inl (some (0))))), some (.inl k), some (.inl l), some (.inl x), some (.inl q), some (.inl w)] [.inl v28] h8 _
        refine wq_k1 (p' := 39) (ck_107 _ _ rfl) rfl ⟨by omega, by omega⟩ (fun c31 => ?_) (fun c32 => ?_)
        · have c31 : v28 ≠ (0) := c31
          refine av_wp_sqF ck_107 1 (pc' := 44) (lv' := [some (.inr (.inr (.inl (some (0))))), some (.inl k), some (.inl l), some (.inl x), some (.inl q), some (.inl w)]) (st' := [.inl w]) (h' := h8) rfl ?_
          rcases (show w = 0 ∨ w = 1 ∨ (w ≠ 0 ∧ w ≠ 1) by omega) with e33 | e33 | e33
          · refine wq_lc (t := 72) (ck_107 _ _ rfl) e33 rfl ?_
            refine av_wp_sqF ck_107 1 (pc' := 73) (lv' := [some (.inr (.inr (.inl (some (0))))), some (.inl k), some (.inl l), some (.inl x), some (.inl q), some (.inl w)]) (st' := [.inr (.inr (.inl (some (0))))]) (h' := h8) rfl ?_
            refine wq_gr (p' := 76) (ck_107 _ _ rfl) rfl (congrArg Prod.fst (ly_k C17.1.1 0 rfl)) rfl (ly_g C17.1.1 0 5 26 rfl) ?_
            refine wq_gr (p' := 79) (ck_107 _ _ rfl) rfl (congrArg Prod.fst (ly_k C17.1.1 26 rfl)) rfl (ly_g C17.1.1 26 1 35 rfl) ?_
            refine wq_gr (p' := 82) (ck_107 _ _ rfl) rfl (congrArg Prod.fst (bn_k0 C17.1.1 (Or.inl rfl))) rfl (bn_g C17.1.1 (Or.inl rfl) 5 rfl) ?_
            refine av_wp_sqF ck_107 1 (pc' := 84) (lv' := [some (.inr (.inr (.inl (some (0))))), some (.inl k), some (.inl l), some (.inl x), some (.inl q), some (.inl w)]) (st' := [.inl q, .inr (.inr (.inl (some (35 + 1 + 5))))]) (h' := h8) rfl ?_
            obtain ⟨v34, e35⟩ : ∃ v, a13 5 (Int.toNat (q)) = v := ⟨_, rfl⟩
            refine wq_al (p' := 85) (n := 12) (ck_107 _ _ rfl) rfl (bn_k C17.1.1 (Or.inl rfl) 5 rfl) (by omega) ((congrFun (E20.2.2.2.1 5 (by omega)) _).trans e35) ?_
            refine av_wp_ret (v := some (.inl v34)) (ck_107 _ _ rfl) rfl rfl ?_
            exact hq _ h8 _ _ C17 F18 U19 (Or.inl ⟨by unfold okx; omega, by unfold opx; rw [if_pos (by omega)]; exact e35.symm.trans ((D23.2 (Int.toNat q) (by omega)).2.2.1)⟩)
          · refine wq_lc (t := 86) (ck_107 _ _ rfl) e33 rfl ?_
            refine av_wp_sqF ck_107 1 (pc' := 87) (lv' := [some (.inr (.inr (.inl (some (0))))), some (.inl k), some (.inl l), some (.inl x), some (.inl q), some (.inl w)]) (st' := [.inr (.inr (.inl (some (0))))]) (h' := h8) rfl ?_
            refine wq_gr (p' := 90) (ck_107 _ _ rfl) rfl (congrArg Prod.fst (ly_k C17.1.1 0 rfl)) rfl (ly_g C17.1.1 0 5 26 rfl) ?_
            refine wq_gr (p' := 93) (ck_107 _ _ rfl) rfl (congrArg Prod.fst (ly_k C17.1.1 26 rfl)) rfl (ly_g C17.1.1 26 1 35 rfl) ?_
            refine wq_gr (p' := 96) (ck_107 _ _ rfl) rfl (congrArg Prod.fst (bn_k0 C17.1.1 (Or.inl rfl))) rfl (bn_g C17.1.1 (Or.inl rfl) 6 rfl) ?_
            refine av_wp_sqF ck_107 1 (pc' := 98) (lv' := [some (.inr (.inr (.inl (some (0))))), some (.inl k), some (.inl l), some (.inl x), some (.inl q), some (.inl w)]) (st' := [.inl q, .inr (.inr (.inl (some (35 + 1 + 6))))]) (h' := h8) rfl ?_
            obtain ⟨v36, e37⟩ : ∃ v, a13 6 (Int.toNat (q)) = v := ⟨_, rfl⟩
            refine wq_al (p' := 99) (n := 12) (ck_107 _ _ rfl) rfl (bn_k C17.1.1 (Or.inl rfl) 6 rfl) (by omega) ((congrFun (E20.2.2.2.1 6 (by omega)) _).trans e37) ?_
            refine av_wp_ret (v := some (.inl v36)) (ck_107 _ _ rfl) rfl rfl ?_
            exact hq _ h8 _ _ C17 F18 U19 (Or.inl ⟨by unfold okx; omega, by unfold opx; rw [if_neg (by omega), if_pos (by omega)]; exact e37.symm.trans (congrArg Prod.fst (D23.2 (Int.toNat q) (by omega)).2.1)⟩)
          · refine wq_ld (t := 100) (ck_107 _ _ rfl) ⟨by omega, by omega⟩ (by show Op.lookupswitch.offset [(0, 28), (1, 42)] 56 w = 56; rw [Op.lookupswitch.offset_cons, if_neg (by omega), Op.lookupswitch.offset_cons, if_neg (by omega), Op.lookupswitch.offset_nil]) rfl ?_
            refine av_wp_sqF ck_107 1 (pc' := 101) (lv' := [some (.inr (.inr (.inl (some (0))))), some (.inl k), some (.inl l), some (.inl x), some (.inl q), some (.inl w)]) (st' := [.inr (.inr (.inl (some (0))))]) (h' := h8) rfl ?_
            refine wq_gr (p' := 104) (ck_107 _ _ rfl) rfl (congrArg Prod.fst (ly_k C17.1.1 0 rfl)) rfl (ly_g C17.1.1 0 5 26 rfl) ?_
            refine wq_gr (p' := 107) (ck_107 _ _ rfl) rfl (congrArg Prod.fst (ly_k C17.1.1 26 rfl)) rfl (ly_g C17.1.1 26 1 35 rfl) ?_
            refine wq_gr (p' := 110) (ck_107 _ _ rfl) rfl (congrArg Prod.fst (bn_k0 C17.1.1 (Or.inl rfl))) rfl (bn_g C17.1.1 (Or.inl rfl) 7 rfl) ?_
            refine av_wp_sqF ck_107 1 (pc' := 112) (lv' := [some (.inr (.inr (.inl (some (0))))), some (.inl k), some (.inl l), some (.inl x), some (.inl q), some (.inl w)]) (st' := [.inl q, .inr (.inr (.inl (some (35 + 1 + 7))))]) (h' := h8) rfl ?_
            obtain ⟨v38, e39⟩ : ∃ v, a13 7 (Int.toNat (q)) = v := ⟨_, rfl⟩
            refine wq_al (p' := 113) (n := 12) (ck_107 _ _ rfl) rfl (bn_k C17.1.1 (Or.inl rfl) 7 rfl) (by omega) ((congrFun (E20.2.2.2.1 7 (by omega)) _).trans e39) ?_
            refine av_wp_ret (v := some (.inl v38)) (ck_107 _ _ rfl) rfl rfl ?_
            exact hq _ h8 _ _ C17 F18 U19 (Or.inl ⟨by unfold okx; omega, by unfold opx; rw [if_neg (by omega), if_neg (by omega)]; exact e39.symm.trans (congrArg (fun z => z.2.1) (D23.2 (Int.toNat q) (by omega)).2.1)⟩)
        · have c32 : v28 = (0) := c32
          refine av_wp_sqF ck_107 1 (pc' := 41) (lv' := [some (.inr (.inr (.inl (some (0))))), some (.inl k), some (.inl l), some (.inl x), some (.inl q), some (.inl w)]) (st' := [.inl (-2)]) (h' := h8) rfl ?_
          refine av_wp_ret (v := some (.inl (-2))) (ck_107 _ _ rfl) rfl rfl ?_
          exact hq _ h8 _ _ C17 F18 U19 (Or.inr ⟨by unfold okx; omega, rfl⟩)
end
section
/-! WHAT A BARGAIN IS MADE OF -/
def YF (s : Nat) (a : Nat → Nat → Int) (t : T3) : Prop := (t.2.2 = 9999 ∧ t.1 = -1 ∧ t.2.1 = -1) ∨ (t.2.2 < 9999 ∧ (0 ≤ t.2.1 ∧ t.2.1 < (s : Int) ∧ a 2 (Int.toNat t.2.1) ≠ 0) ∧ (t.1 = -1 ∨ (0 ≤ t.1 ∧ t.1 < (s : Int) ∧ a 3 (Int.toNat t.1) ≠ 0)))
theorem YF_9 {s : Nat} {a : Nat → Nat → Int} {t : T3} (x : YF s a t) : t.2.2 ≤ 9999 := by
  rcases x with x | x
  · have := x.1; omega
  · have := x.1; omega
section
variable {u ro : Nat → Int} {a : Nat → Nat → Int} {s : Nat}
theorem yv_f : ∀ k, k ≤ s → YF s a (yv u ro a s k) := by
  intro k
  induction k with
  | zero => intro _; exact Or.inl ⟨rfl, rfl, rfl⟩
  | succ k ih =>
    intro hk
    have i := ih (by omega)
    have i9 := YF_9 i
    show YF s a (if yc u ro a s k (yv u ro a s k).2.2 = 1 then ((k : Int), u (21 * k + 3), hw a k (yw u ro k)) else yv u ro a s k)
    split
    · next z =>
      unfold yc at z
      split at z
      · next y =>
        refine Or.inr ⟨?_, ⟨?_, ?_, ?_⟩, Or.inr ⟨?_, ?_, ?_⟩⟩
        · show hw a k (yw u ro k) < 9999
          omega
        · exact y.2.1
        · show u (21 * k + 3) < (s : Int)
          omega
        · exact y.2.2.2.1
        · show (0 : Int) ≤ (k : Int)
          omega
        · show (k : Int) < (s : Int)
          omega
        · show a 3 (Int.toNat (k : Int)) ≠ 0
          rw [Int.toNat_natCast]
          exact y.1
      · omega
    · exact i
theorem sv_f : ∀ k, k ≤ s → YF s a (sv u ro a s k) := by
  intro k
  induction k with
  | zero => intro _; exact yv_f s (Nat.le_refl s)
  | succ k ih =>
    intro hk
    have i := ih (by omega)
    have i9 := YF_9 i
    show YF s a (if slc u ro a s k (sv u ro a s k).2.2 = 1 then (-1, (k : Int), hw a k 2 + ro 8) else sv u ro a s k)
    split
    · next z =>
      unfold slc at z
      split at z
      · next y =>
        refine Or.inr ⟨?_, ⟨?_, ?_, ?_⟩, Or.inl rfl⟩
        · show hw a k 2 + ro 8 < 9999
          omega
        · show (0 : Int) ≤ (k : Int)
          omega
        · show (k : Int) < (s : Int)
          omega
        · show a 2 (Int.toNat (k : Int)) ≠ 0
          rw [Int.toNat_natCast]
          exact y.1
      · omega
    · exact i
theorem brg_f : YF s a (brg u ro a s) := by
  unfold brg
  split
  · exact sv_f s (Nat.le_refl s)
  · exact yv_f s (Nat.le_refl s)
end
/-- of a seated case's bargain: by a yes, of an offer -/
theorem bgn_f {u ro bar : Nat → Int} {s : Nat} {x : Int} : ((bgn u ro bar s x).2.2 = 9999 ∧ (bgn u ro bar s x).1 = -1 ∧ (bgn u ro bar s x).2.1 = -1) ∨ ((bgn u ro bar s x).2.2 < 9999 ∧ (0 ≤ (bgn u ro bar s x).2.1 ∧ (bgn u ro bar s x).2.1 < (s : Int) ∧ ofv u ro (Int.toNat (bgn u ro bar s x).2.1) ≠ 0) ∧ ((bgn u ro bar s x).1 = -1 ∨ (0 ≤ (bgn u ro bar s x).1 ∧ (bgn u ro bar s x).1 < (s : Int) ∧ ysv u ro (Int.toNat (bgn u ro bar s x).1) ≠ 0))) := brg_f
/-! a word of an offer, as it was told or as another has it -/
def wov (u : Nat → Int) (w : Nat) : Nat → Int → Int
  | 0, _ => -1
  | f + 1, k => if 0 ≤ k then (if u (21 * k.toNat + 10 + w) ≠ -1 then u (21 * k.toNat + 10 + w) else if u (21 * k.toNat + 0) = 3 then wov u w f (u (21 * k.toNat + 3)) else -1) else -1
section
variable {u : Nat → Int} {w f : Nat} {k v : Int}
theorem wov_m (h : k < 0) : wov u w f k = -1 := by
  cases f with
  | zero => rfl
  | succ f => exact if_neg (by omega)
theorem wov_y (h : 0 ≤ k) (e : u (21 * k.toNat + 10 + w) = v) (z : v ≠ -1) : wov u w (f + 1) k = v := by
  show (if 0 ≤ k then (if u (21 * k.toNat + 10 + w) ≠ -1 then u (21 * k.toNat + 10 + w) else _) else _) = v
  rw [if_pos h, e, if_pos z]
theorem wov_s {x q : Int} (h : 0 ≤ k) (e : u (21 * k.toNat + 10 + w) = v) (z : v = -1) (e0 : u (21 * k.toNat + 0) = x) (z0 : x = 3) (e3 : u (21 * k.toNat + 3) = q) : wov u w (f + 1) k = wov u w f q := by
  show (if 0 ≤ k then (if u (21 * k.toNat + 10 + w) ≠ -1 then u (21 * k.toNat + 10 + w) else if u (21 * k.toNat + 0) = 3 then wov u w f (u (21 * k.toNat + 3)) else -1) else -1) = _
  rw [if_pos h, e, if_neg (fun y => y z), e0, if_pos z0, e3]
theorem wov_n {x : Int} (h : 0 ≤ k) (e : u (21 * k.toNat + 10 + w) = v) (z : v = -1) (e0 : u (21 * k.toNat + 0) = x) (z0 : x ≠ 3) : wov u w (f + 1) k = -1 := by
  show (if 0 ≤ k then (if u (21 * k.toNat + 10 + w) ≠ -1 then u (21 * k.toNat + 10 + w) else if u (21 * k.toNat + 0) = 3 then wov u w f (u (21 * k.toNat + 3)) else -1) else -1) = _
  rw [if_pos h, e, if_neg (fun y => y z), e0, if_neg z0]
end
/-- a word of the bargain -/
def bwv (u ro : Nat → Int) (b o : Int) (w : Nat) : Int := if 0 ≤ b ∧ u (21 * b.toNat + 0) = 3 ∧ u (21 * b.toNat + 10 + w) ≠ -1 ∧ ro 10 ≠ 0 then (if ro 10 = 1 then u (21 * b.toNat + 10 + w) else -1) else wov u w 12 o
/-- run -/
def rnv (u ro : Nat → Int) (t : T3) (w : Int) : Int := if t.2.2 = 9999 then -2 else if w = 0 then t.1 else if w = 1 then t.2.1 else if w = 2 then t.2.2 else bwv u ro t.1 t.2.1 (w - 10).toNat
/-- a cell, or there is none such -/
theorem xc_29b {h : av_H} {t c s : Nat} {cb : Int} (o : CO h t c s cb) (k : Int) (qk : -2147483648 ≤ k ∧ k ≤ 2147483647) (w : Nat) (hw : w < 21) {wi : Int} (ew : wi = (w : Int)) {Q : Option av_V → av_H → Prop} (hq0 : (k < 0 ∨ (s : Int) ≤ k) → Q (some (.inl (-1))) h) (hq1 : 0 ≤ k → k < (s : Int) → ∀ v, hA h c (21 * Int.toNat k + w) = v → Q (some (.inl v)) h) : av_wp none cd_29 0 [some (.inr (.inr (.inl (some (t))))), some (.inl k), some (.inl wi)] [] h Q := by
  by_cases z : 0 ≤ k ∧ k < (s : Int)
  · exact xc_29 o k z w hw ew rfl (hq1 z.1 z.2 _ rfl)
  · refine cx_29 o k qk wi (by omega) ?_
    have e : cel (hA h c) s k wi = -1 := if_neg (fun y => z y.1)
    rw [e]
    exact hq0 (by omega)
end
section
/-! WORDS, exactly -/
set_option maxRecDepth 100000 in
set_option maxHeartbeats 4000000 in
theorem cx_31 {g h : av_H} {b t c s r : Nat} {cb : Int} {u ro : Nat → Int} {a : Nat → Nat → Int} {mb mo ma : Int} (E : EB b t c s r cb u ro a mb mo ma h) (F : FN b g h) (W : UW u s) (k : Int) (qk : -1 ≤ k ∧ k < (s : Int)) (w : Int) (qw : 0 ≤ w ∧ w ≤ 4) {Q : Option av_V → av_H → Prop} (hq : ∀ v : Int, v = wov u (Int.toNat w) 12 k → Q (some (.inl v)) h) : av_wp none cd_31 0 [some (.inr (.inr (.inl (some (t))))), some (.inl k), some (.inl w), none, none, none] [] h Q := by
  have s12 := co_s12 (ib_co E.1)
  have cbr := co_cbr (ib_co E.1)
  have mbr := eb_xr E
  have mor := eb_yr E
  refine av_wp_sqF ck_31 4 (pc' := 5) (lv' := [some (.inr (.inr (.inl (some (t))))), some (.inl k), some (.inl w), some (.inl k), some (.inl (0)), none]) (st' := []) (h' := h) rfl ?_
  have L5 : ∀ (m4 : Nat) (k1 : Int) (k2 : Int) (a3 : Option av_V), av_lg a3 = false → wov u (Int.toNat w) 12 k = wov u (Int.toNat w) (Int.toNat (12 - k2)) k1 → k1 < (s : Int) → (-1 ≤ k1 ∧ k1 ≤ 11) → (0 ≤ k2 ∧ k2 ≤ 12) → (12 - k2).toNat = m4 → av_wp none cd_31 5 [some (.inr (.inr (.inl (some (t))))), some (.inl k), some (.inl w), some (.inl k1), some (.inl k2), a3] [] h Q := by
    intro m4
    induction m4 using Nat.strongRecOn with
    | _ m4 I6 =>
      intro k1 k2 a3 g8 g9 g10 g11 g12 e7
      have la3 := g8
      refine av_wp_sqF ck_31 2 (pc' := 9) (lv' := [some (.inr (.inr (.inl (some (t))))), some (.inl k), some (.inl w), some (.inl k1), some (.inl k2), a3]) (st' := [.inl (12), .inl k2]) (h' := h) rfl ?_
      refine wq_k2 (p' := 12) (ck_31 _ _ rfl) rfl ⟨by omega, by omega⟩ ⟨by omega, by omega⟩ (fun c13 => ?_) (fun c14 => ?_)
      · have c13 : (12) ≤ k2 := c13
        refine av_wp_sqF ck_31 1 (pc' := 68) (lv' := [some (.inr (.inr (.inl (some (t))))), some (.inl k), some (.inl w), some (.inl k1), some (.inl k2), a3]) (st' := [.inl (-1)]) (h' := h) rfl ?_
        refine av_wp_ret (v := some (.inl (-1))) (ck_31 _ _ rfl) rfl rfl ?_
        exact hq _ (by rw [g9, show Int.toNat (12 - k2) = 0 by omega]; rfl)
      · have c14 : k2 < (12) := c14
        refine av_wp_sqF ck_31 2 (pc' := 14) (lv' := [some (.inr (.inr (.inl (some (t))))), some (.inl k), some (.inl w), some (.inl k1), some (.inl k2), a3]) (st' := [.inl k1, .inr (.inr (.inl (some (t))))]) (h' := h) rfl ?_
        refine wq_cv (p' := 17) (av_qc (.invokevirtual 40) 28 1 0 1) 2 cd_28 [.inl k1] (t) 1 [some (.inr (.inr (.inl (some (t))))), some (.inl k1)] (ck_31 _ _ rfl) rfl rfl pp_28 rfl rfl rfl (congrArg Prod.fst (co_kt (ib_co E.1))) rfl rfl rfl rfl ?_
        refine ct_28 (ib_co E.1) (k1) (by omega) (fun v15 p16 => ?_)
        show av_wp _ cd_31 17 [some (.inr (.inr (.inl (some (t))))), some (.inl k), some (.inl w), some (.inl k1), some (.inl k2), a3] [.inl v15] h _
        refine wq_k1 (p' := 20) (ck_31 _ _ rfl) rfl ⟨by omega, by omega⟩ (fun c17 => ?_) (fun c18 => ?_)
        · have c17 : v15 = (0) := c17
          refine av_wp_sqF ck_31 1 (pc' := 68) (lv' := [some (.inr (.inr (.inl (some (t))))), some (.inl k), some (.inl w), some (.inl k1), some (.inl k2), a3]) (st' := [.inl (-1)]) (h' := h) rfl ?_
          refine av_wp_ret (v := some (.inl (-1))) (ck_31 _ _ rfl) rfl rfl ?_
          exact hq _ (by rw [g9]; exact (wov_m (by omega)).symm)
        · have c18 : v15 ≠ (0) := c18
          refine av_wp_sqF ck_31 5 (pc' := 26) (lv' := [some (.inr (.inr (.inl (some (t))))), some (.inl k), some (.inl w), some (.inl k1), some (.inl k2), a3]) (st' := [.inl ((10) + w), .inl k1, .inr (.inr (.inl (some (t))))]) (h' := h) rfl ?_
          refine wq_cv (p' := 29) (av_qc (.invokevirtual 44) 29 2 0 1) 3 cd_29 [.inl ((10) + w), .inl k1] (t) 1 [some (.inr (.inr (.inl (some (t))))), some (.inl k1), some (.inl ((10) + w))] (ck_31 _ _ rfl) rfl rfl pp_29 rfl rfl rfl (congrArg Prod.fst (co_kt (ib_co E.1))) rfl rfl rfl rfl ?_
          obtain ⟨v19, e20⟩ : ∃ v, u (21 * Int.toNat (k1) + 10 + Int.toNat w) = v := ⟨_, rfl⟩
          have g21 := eb_uv E (21 * Int.toNat (k1) + 10 + Int.toNat w)
          rw [e20] at g21
          refine xc_29 (ib_co E.1) (k1) (by omega) (10 + Int.toNat w) (by omega) (by omega) ((congrFun (eb_u E) _).trans ((congrArg u (by omega)).trans e20)) ?_
          show av_wp _ cd_31 29 [some (.inr (.inr (.inl (some (t))))), some (.inl k), some (.inl w), some (.inl k1), some (.inl k2), a3] [.inl v19] h _
          refine av_wp_sqF ck_31 3 (pc' := 34) (lv' := [some (.inr (.inr (.inl (some (t))))), some (.inl k), some (.inl w), some (.inl k1), some (.inl k2), some (.inl v19)]) (st' := [.inl (-1), .inl v19]) (h' := h) rfl ?_
          refine wq_k2 (p' := 37) (ck_31 _ _ rfl) rfl ⟨by omega, by omega⟩ ⟨by omega, by omega⟩ (fun c22 => ?_) (fun c23 => ?_)
          · have c22 : v19 = (-1) := c22
            refine av_wp_sqF ck_31 3 (pc' := 43) (lv' := [some (.inr (.inr (.inl (some (t))))), some (.inl k), some (.inl w), some (.inl k1), some (.inl k2), some (.inl v19)]) (st' := [.inl (0), .inl k1, .inr (.inr (.inl (some (t))))]) (h' := h) rfl ?_
            refine wq_cv (p' := 46) (av_qc (.invokevirtual 44) 29 2 0 1) 3 cd_29 [.inl (0), .inl k1] (t) 1 [some (.inr (.inr (.inl (some (t))))), some (.inl k1), some (.inl (0))] (ck_31 _ _ rfl) rfl rfl pp_29 rfl rfl rfl (congrArg Prod.fst (co_kt (ib_co E.1))) rfl rfl rfl rfl ?_
            obtain ⟨v24, e25⟩ : ∃ v, u (21 * Int.toNat (k1) + 0) = v := ⟨_, rfl⟩
            have g26 := eb_uv E (21 * Int.toNat (k1) + 0)
            rw [e25] at g26
            refine xc_29 (ib_co E.1) (k1) (by omega) 0 (by omega) rfl ((congrFun (eb_u E) _).trans e25) ?_
            show av_wp _ cd_31 46 [some (.inr (.inr (.inl (some (t))))), some (.inl k), some (.inl w), some (.inl k1), some (.inl k2), some (.inl v19)] [.inl v24] h _
            refine av_wp_sqF ck_31 1 (pc' := 47) (lv' := [some (.inr (.inr (.inl (some (t))))), some (.inl k), some (.inl w), some (.inl k1), some (.inl k2), some (.inl v19)]) (st' := [.inl (3), .inl v24]) (h' := h) rfl ?_
            refine wq_k2 (p' := 50) (ck_31 _ _ rfl) rfl ⟨by omega, by omega⟩ ⟨by omega, by omega⟩ (fun c27 => ?_) (fun c28 => ?_)
            · have c27 : v24 ≠ (3) := c27
              refine av_wp_sqF ck_31 4 (pc' := 5) (lv' := [some (.inr (.inr (.inl (some (t))))), some (.inl k), some (.inl w), some (.inl (-1)), some (.inl (k2 + (1))), some (.inl v19)]) (st' := []) (h' := h) rfl ?_
              exact I6 _ (by omega) ((-1)) ((k2 + (1))) (some (.inl v19)) rfl (by rw [g9, show Int.toNat (12 - k2) = Int.toNat (12 - (k2 + (1))) + 1 by omega]; exact (wov_n (by omega) e20 (by omega) e25 (by omega)).trans (wov_m (by omega)).symm) (by omega) (by omega) (by omega) rfl
            · have c28 : v24 = (3) := c28
              refine av_wp_sqF ck_31 3 (pc' := 53) (lv' := [some (.inr (.inr (.inl (some (t))))), some (.inl k), some (.inl w), some (.inl k1), some (.inl k2), some (.inl v19)]) (st' := [.inl (3), .inl k1, .inr (.inr (.inl (some (t))))]) (h' := h) rfl ?_
              refine wq_cv (p' := 56) (av_qc (.invokevirtual 44) 29 2 0 1) 3 cd_29 [.inl (3), .inl k1] (t) 1 [some (.inr (.inr (.inl (some (t))))), some (.inl k1), some (.inl (3))] (ck_31 _ _ rfl) rfl rfl pp_29 rfl rfl rfl (congrArg Prod.fst (co_kt (ib_co E.1))) rfl rfl rfl rfl ?_
              obtain ⟨v29, e30⟩ : ∃ v, u (21 * Int.toNat (k1) + 3) = v := ⟨_, rfl⟩
              have g31 := eb_uv E (21 * Int.toNat (k1) + 3)
              rw [e30] at g31
              refine xc_29 (ib_co E.1) (k1) (by omega) 3 (by omega) rfl ((congrFun (eb_u E) _).trans e30) ?_
              have g32 := (W (Int.toNat (k1)) (by omega)).2.1
              rw [e30] at g32
              show av_wp _ cd_31 56 [some (.inr (.inr (.inl (some (t))))), some (.inl k), some (.inl w), some (.inl k1), some (.inl k2), some (.inl v19)] [.inl v29] h _
              refine av_wp_sqF ck_31 4 (pc' := 5) (lv' := [some (.inr (.inr (.inl (some (t))))), some (.inl k), some (.inl w), some (.inl v29), some (.inl (k2 + (1))), some (.inl v19)]) (st' := []) (h' := h) rfl ?_
              exact I6 _ (by omega) (v29) ((k2 + (1))) (some (.inl v19)) rfl (by rw [g9, show Int.toNat (12 - k2) = Int.toNat (12 - (k2 + (1))) + 1 by omega]; exact wov_s (by omega) e20 (by omega) e25 (by omega) e30) (by omega) (by omega) (by omega) rfl
          · have c23 : v19 ≠ (-1) := c23
            refine av_wp_sqF ck_31 1 (pc' := 39) (lv' := [some (.inr (.inr (.inl (some (t))))), some (.inl k), some (.inl w), some (.inl k1), some (.inl k2), some (.inl v19)]) (st' := [.inl v19]) (h' := h) rfl ?_
            refine av_wp_ret (v := some (.inl v19)) (ck_31 _ _ rfl) rfl rfl ?_
            exact hq _ (by rw [g9, show Int.toNat (12 - k2) = Int.toNat (12 - (k2 + 1)) + 1 by omega]; exact (wov_y (by omega) e20 (by omega)).symm)
  exact L5 _ (k) ((0)) (none) rfl rfl (by omega) (by omega) (by omega) rfl

set_option maxRecDepth 100000 in
set_option maxHeartbeats 4000000 in
theorem cx_17 {g h : av_H} {b t c s r : Nat} {cb : Int} {u ro : Nat → Int} {a : Nat → Nat → Int} {mb mo ma : Int} (E : EB b t c s r cb u ro a mb mo ma h) (F : FN b g h) (W : UW u s) (R : RLW ro) (hb : mb < (s : Int)) (ho : mo < (s : Int)) (w : Int) (qw : 0 ≤ w ∧ w ≤ 4) {Q : Option av_V → av_H → Prop} (hq : ∀ v : Int, v = bwv u ro mb mo (Int.toNat w) → Q (some (.inl v)) h) : av_wp none cd_17 0 [some (.inr (.inr (.inl (some (b))))), some (.inl w), none, none] [] h Q := by
  have s12 := co_s12 (ib_co E.1)
  have cbr := co_cbr (ib_co E.1)
  have mbr := eb_xr E
  have mor := eb_yr E
  refine av_wp_sqF ck_17 1 (pc' := 1) (lv' := [some (.inr (.inr (.inl (some (b))))), some (.inl w), none, none]) (st' := [.inr (.inr (.inl (some (b))))]) (h' := h) rfl ?_
  refine wq_gr (p' := 4) (ck_17 _ _ rfl) rfl (congrArg Prod.fst (ib_k0 E.1)) rfl (ib_t E.1) ?_
  refine av_wp_sqF ck_17 1 (pc' := 5) (lv' := [some (.inr (.inr (.inl (some (b))))), some (.inl w), none, none]) (st' := [.inr (.inr (.inl (some (b)))), .inr (.inr (.inl (some (t))))]) (h' := h) rfl ?_
  refine wq_gi (p' := 8) (ck_17 _ _ rfl) rfl (congrArg Prod.fst (ib_k0 E.1)) rfl (eb_x E) ?_
  refine av_wp_sqF ck_17 1 (pc' := 9) (lv' := [some (.inr (.inr (.inl (some (b))))), some (.inl w), none, none]) (st' := [.inl (0), .inl mb, .inr (.inr (.inl (some (t))))]) (h' := h) rfl ?_
  refine wq_cv (p' := 12) (av_qc (.invokevirtual 74) 29 2 0 1) 3 cd_29 [.inl (0), .inl mb] (t) 1 [some (.inr (.inr (.inl (some (t))))), some (.inl mb), some (.inl (0))] (ck_17 _ _ rfl) rfl rfl pp_29 rfl rfl rfl (congrArg Prod.fst (co_kt (ib_co E.1))) rfl rfl rfl rfl ?_
  refine xc_29b (ib_co E.1) (mb) (by omega) 0 (by omega) rfl (fun z1 => ?_) (fun z2 z3 v4 e5 => ?_)
  · show av_wp _ cd_17 12 [some (.inr (.inr (.inl (some (b))))), some (.inl w), none, none] [.inl (-1)] h _
    refine av_wp_sqF ck_17 12 (pc' := 65) (lv' := [some (.inr (.inr (.inl (some (b))))), some (.inl w), some (.inl (0)), some (.inl (-1))]) (st' := [.inl (-1)]) (h' := h) rfl ?_
    refine av_wp_sqF ck_17 3 (pc' := 85) (lv' := [some (.inr (.inr (.inl (some (b))))), some (.inl w), some (.inl (0)), some (.inl (-1))]) (st' := [.inr (.inr (.inl (some (b))))]) (h' := h) rfl ?_
    refine wq_gr (p' := 88) (ck_17 _ _ rfl) rfl (congrArg Prod.fst (ib_k0 E.1)) rfl (ib_t E.1) ?_
    refine av_wp_sqF ck_17 1 (pc' := 89) (lv' := [some (.inr (.inr (.inl (some (b))))), some (.inl w), some (.inl (0)), some (.inl (-1))]) (st' := [.inr (.inr (.inl (some (b)))), .inr (.inr (.inl (some (t))))]) (h' := h) rfl ?_
    refine wq_gi (p' := 92) (ck_17 _ _ rfl) rfl (congrArg Prod.fst (ib_k0 E.1)) rfl (eb_y E) ?_
    refine av_wp_sqF ck_17 1 (pc' := 93) (lv' := [some (.inr (.inr (.inl (some (b))))), some (.inl w), some (.inl (0)), some (.inl (-1))]) (st' := [.inl w, .inl mo, .inr (.inr (.inl (some (t))))]) (h' := h) rfl ?_
    refine wq_cv (p' := 96) (av_qc (.invokevirtual 139) 31 2 0 1) 6 cd_31 [.inl w, .inl mo] (t) 1 [some (.inr (.inr (.inl (some (t))))), some (.inl mo), some (.inl w), none, none, none] (ck_17 _ _ rfl) rfl rfl pp_31 rfl rfl rfl (congrArg Prod.fst (co_kt (ib_co E.1))) rfl rfl rfl rfl ?_
    refine cx_31 E F W (mo) (by omega) (w) (by omega) (fun v7 p8 => ?_)
    show av_wp _ cd_17 96 [some (.inr (.inr (.inl (some (b))))), some (.inl w), some (.inl (0)), some (.inl (-1))] [.inl v7] h _
    refine av_wp_ret (v := some (.inl v7)) (ck_17 _ _ rfl) rfl rfl ?_
    exact hq _ (by unfold bwv; rw [if_neg (fun z => by obtain ⟨z1, z2, z3, z4⟩ := z; omega)]; exact p8)
  · rw [eb_u E] at e5
    have g6 := eb_uv E (21 * Int.toNat (mb) + 0)
    rw [e5] at g6
    show av_wp _ cd_17 12 [some (.inr (.inr (.inl (some (b))))), some (.inl w), none, none] [.inl v4] h _
    refine av_wp_sqF ck_17 1 (pc' := 13) (lv' := [some (.inr (.inr (.inl (some (b))))), some (.inl w), none, none]) (st' := [.inl (3), .inl v4]) (h' := h) rfl ?_
    refine wq_k2 (p' := 16) (ck_17 _ _ rfl) rfl ⟨by omega, by omega⟩ ⟨by omega, by omega⟩ (fun c9 => ?_) (fun c10 => ?_)
    · have c9 : v4 ≠ (3) := c9
      refine av_wp_sqF ck_17 12 (pc' := 84) (lv' := [some (.inr (.inr (.inl (some (b))))), some (.inl w), some (.inl (0)), some (.inl (-1))]) (st' := []) (h' := h) rfl ?_
      refine av_wp_sqF ck_17 1 (pc' := 85) (lv' := [some (.inr (.inr (.inl (some (b))))), some (.inl w), some (.inl (0)), some (.inl (-1))]) (st' := [.inr (.inr (.inl (some (b))))]) (h' := h) rfl ?_
      refine wq_gr (p' := 88) (ck_17 _ _ rfl) rfl (congrArg Prod.fst (ib_k0 E.1)) rfl (ib_t E.1) ?_
      refine av_wp_sqF ck_17 1 (pc' := 89) (lv' := [some (.inr (.inr (.inl (some (b))))), some (.inl w), some (.inl (0)), some (.inl (-1))]) (st' := [.inr (.inr (.inl (some (b)))), .inr (.inr (.inl (some (t))))]) (h' := h) rfl ?_
      refine wq_gi (p' := 92) (ck_17 _ _ rfl) rfl (congrArg Prod.fst (ib_k0 E.1)) rfl (eb_y E) ?_
      refine av_wp_sqF ck_17 1 (pc' := 93) (lv' := [some (.inr (.inr (.inl (some (b))))), some (.inl w), some (.inl (0)), some (.inl (-1))]) (st' := [.inl w, .inl mo, .inr (.inr (.inl (some (t))))]) (h' := h) rfl ?_
      refine wq_cv (p' := 96) (av_qc (.invokevirtual 139) 31 2 0 1) 6 cd_31 [.inl w, .inl mo] (t) 1 [some (.inr (.inr (.inl (some (t))))), some (.inl mo), some (.inl w), none, none, none] (ck_17 _ _ rfl) rfl rfl pp_31 rfl rfl rfl (congrArg Prod.fst (co_kt (ib_co E.1))) rfl rfl rfl rfl ?_
      refine cx_31 E F W (mo) (by omega) (w) (by omega) (fun v11 p12 => ?_)
      show av_wp _ cd_17 96 [some (.inr (.inr (.inl (some (b))))), some (.inl w), some (.inl (0)), some (.inl (-1))] [.inl v11] h _
      refine av_wp_ret (v := some (.inl v11)) (ck_17 _ _ rfl) rfl rfl ?_
      exact hq _ (by unfold bwv; rw [if_neg (fun z => by obtain ⟨z1, z2, z3, z4⟩ := z; rw [e5] at z2; omega)]; exact p12)
    · have c10 : v4 = (3) := c10
      refine av_wp_sqF ck_17 6 (pc' := 27) (lv' := [some (.inr (.inr (.inl (some (b))))), some (.inl w), some (.inl (1)), none]) (st' := [.inr (.inr (.inl (some (b))))]) (h' := h) rfl ?_
      refine wq_gr (p' := 30) (ck_17 _ _ rfl) rfl (congrArg Prod.fst (ib_k0 E.1)) rfl (ib_t E.1) ?_
      refine av_wp_sqF ck_17 1 (pc' := 31) (lv' := [some (.inr (.inr (.inl (some (b))))), some (.inl w), some (.inl (1)), none]) (st' := [.inr (.inr (.inl (some (b)))), .inr (.inr (.inl (some (t))))]) (h' := h) rfl ?_
      refine wq_gi (p' := 34) (ck_17 _ _ rfl) rfl (congrArg Prod.fst (ib_k0 E.1)) rfl (eb_x E) ?_
      refine av_wp_sqF ck_17 3 (pc' := 38) (lv' := [some (.inr (.inr (.inl (some (b))))), some (.inl w), some (.inl (1)), none]) (st' := [.inl ((10) + w), .inl mb, .inr (.inr (.inl (some (t))))]) (h' := h) rfl ?_
      refine wq_cv (p' := 41) (av_qc (.invokevirtual 74) 29 2 0 1) 3 cd_29 [.inl ((10) + w), .inl mb] (t) 1 [some (.inr (.inr (.inl (some (t))))), some (.inl mb), some (.inl ((10) + w))] (ck_17 _ _ rfl) rfl rfl pp_29 rfl rfl rfl (congrArg Prod.fst (co_kt (ib_co E.1))) rfl rfl rfl rfl ?_
      obtain ⟨v13, e14⟩ : ∃ v, u (21 * Int.toNat (mb) + 10 + Int.toNat w) = v := ⟨_, rfl⟩
      have g15 := eb_uv E (21 * Int.toNat (mb) + 10 + Int.toNat w)
      rw [e14] at g15
      refine xc_29 (ib_co E.1) (mb) (by omega) (10 + Int.toNat w) (by omega) (by omega) ((congrFun (eb_u E) _).trans ((congrArg u (by omega)).trans e14)) ?_
      show av_wp _ cd_17 41 [some (.inr (.inr (.inl (some (b))))), some (.inl w), some (.inl (1)), none] [.inl v13] h _
      refine av_wp_sqF ck_17 4 (pc' := 48) (lv' := [some (.inr (.inr (.inl (some (b))))), some (.inl w), some (.inl (1)), some (.inl v13)]) (st' := [.inl (-1), .inl v13]) (h' := h) rfl ?_
      refine wq_k2 (p' := 51) (ck_17 _ _ rfl) rfl ⟨by omega, by omega⟩ ⟨by omega, by omega⟩ (fun c16 => ?_) (fun c17 => ?_)
      · have c16 : v13 = (-1) := c16
        refine av_wp_sqF ck_17 2 (pc' := 66) (lv' := [some (.inr (.inr (.inl (some (b))))), some (.inl w), some (.inl (1)), some (.inl v13)]) (st' := [.inl (-1), .inl v13]) (h' := h) rfl ?_
        refine wq_k2 (p' := 69) (ck_17 _ _ rfl) rfl ⟨by omega, by omega⟩ ⟨by omega, by omega⟩ (fun c18 => ?_) (fun c19 => ?_)
        · have c18 : v13 = (-1) := c18
          refine av_wp_sqF ck_17 1 (pc' := 85) (lv' := [some (.inr (.inr (.inl (some (b))))), some (.inl w), some (.inl (1)), some (.inl v13)]) (st' := [.inr (.inr (.inl (some (b))))]) (h' := h) rfl ?_
          refine wq_gr (p' := 88) (ck_17 _ _ rfl) rfl (congrArg Prod.fst (ib_k0 E.1)) rfl (ib_t E.1) ?_
          refine av_wp_sqF ck_17 1 (pc' := 89) (lv' := [some (.inr (.inr (.inl (some (b))))), some (.inl w), some (.inl (1)), some (.inl v13)]) (st' := [.inr (.inr (.inl (some (b)))), .inr (.inr (.inl (some (t))))]) (h' := h) rfl ?_
          refine wq_gi (p' := 92) (ck_17 _ _ rfl) rfl (congrArg Prod.fst (ib_k0 E.1)) rfl (eb_y E) ?_
          refine av_wp_sqF ck_17 1 (pc' := 93) (lv' := [some (.inr (.inr (.inl (some (b))))), some (.inl w), some (.inl (1)), some (.inl v13)]) (st' := [.inl w, .inl mo, .inr (.inr (.inl (some (t))))]) (h' := h) rfl ?_
          refine wq_cv (p' := 96) (av_qc (.invokevirtual 139) 31 2 0 1) 6 cd_31 [.inl w, .inl mo] (t) 1 [some (.inr (.inr (.inl (some (t))))), some (.inl mo), some (.inl w), none, none, none] (ck_17 _ _ rfl) rfl rfl pp_31 rfl rfl rfl (congrArg Prod.fst (co_kt (ib_co E.1))) rfl rfl rfl rfl ?_
          refine cx_31 E F W (mo) (by omega) (w) (by omega) (fun v20 p21 => ?_)
          show av_wp _ cd_17 96 [some (.inr (.inr (.inl (some (b))))), some (.inl w), some (.inl (1)), some (.inl v13)] [.inl v20] h _
          refine av_wp_ret (v := some (.inl v20)) (ck_17 _ _ rfl) rfl rfl ?_
          exact hq _ (by unfold bwv; rw [if_neg (fun z => by obtain ⟨z1, z2, z3, z4⟩ := z; rw [e5] at z2; rw [e14] at z3; omega)]; exact p21)
        · have c19 : v13 ≠ (-1) := c19
          exfalso; omega
      · have c17 : v13 ≠ (-1) := c17
        refine av_wp_sqF ck_17 1 (pc' := 52) (lv' := [some (.inr (.inr (.inl (some (b))))), some (.inl w), some (.inl (1)), some (.inl v13)]) (st' := [.inr (.inr (.inl (some (b))))]) (h' := h) rfl ?_
        refine wq_gr (p' := 55) (ck_17 _ _ rfl) rfl (congrArg Prod.fst (ib_k0 E.1)) rfl (ib_r E.1) ?_
        refine av_wp_sqF ck_17 1 (pc' := 57) (lv' := [some (.inr (.inr (.inl (some (b))))), some (.inl w), some (.inl (1)), some (.inl v13)]) (st' := [.inl (10), .inr (.inr (.inl (some (r))))]) (h' := h) rfl ?_
        obtain ⟨v23, e24⟩ : ∃ v, ro 10 = v := ⟨_, rfl⟩
        have g22 := eb_rv E 10
        rw [e24] at g22
        have g25 := rl_10 R
        rw [e24] at g25
        refine wq_al (p' := 58) (n := 14) (ck_17 _ _ rfl) rfl (ib_kr E.1) (by omega) ((congrFun (eb_ro E) _).trans e24) ?_
        refine av_wp_sqF ck_17 1 (pc' := 59) (lv' := [some (.inr (.inr (.inl (some (b))))), some (.inl w), some (.inl (1)), some (.inl v13)]) (st' := [.inl (1), .inl v23]) (h' := h) rfl ?_
        refine wq_k2 (p' := 62) (ck_17 _ _ rfl) rfl ⟨by omega, by omega⟩ ⟨by omega, by omega⟩ (fun c26 => ?_) (fun c27 => ?_)
        · have c26 : v23 ≠ (1) := c26
          refine av_wp_sqF ck_17 2 (pc' := 66) (lv' := [some (.inr (.inr (.inl (some (b))))), some (.inl w), some (.inl (1)), some (.inl v13)]) (st' := [.inl (-1), .inl v13]) (h' := h) rfl ?_
          refine wq_k2 (p' := 69) (ck_17 _ _ rfl) rfl ⟨by omega, by omega⟩ ⟨by omega, by omega⟩ (fun c28 => ?_) (fun c29 => ?_)
          · have c28 : v13 = (-1) := c28
            exfalso; omega
          · have c29 : v13 ≠ (-1) := c29
            refine av_wp_sqF ck_17 1 (pc' := 70) (lv' := [some (.inr (.inr (.inl (some (b))))), some (.inl w), some (.inl (1)), some (.inl v13)]) (st' := [.inr (.inr (.inl (some (b))))]) (h' := h) rfl ?_
            refine wq_gr (p' := 73) (ck_17 _ _ rfl) rfl (congrArg Prod.fst (ib_k0 E.1)) rfl (ib_r E.1) ?_
            refine av_wp_sqF ck_17 1 (pc' := 75) (lv' := [some (.inr (.inr (.inl (some (b))))), some (.inl w), some (.inl (1)), some (.inl v13)]) (st' := [.inl (10), .inr (.inr (.inl (some (r))))]) (h' := h) rfl ?_
            obtain ⟨v31, e32⟩ : ∃ v, ro 10 = v := ⟨_, rfl⟩
            have g30 := eb_rv E 10
            rw [e32] at g30
            have g33 := rl_10 R
            rw [e32] at g33
            refine wq_al (p' := 76) (n := 14) (ck_17 _ _ rfl) rfl (ib_kr E.1) (by omega) ((congrFun (eb_ro E) _).trans e32) ?_
            refine av_wp_sqF ck_17 1 (pc' := 77) (lv' := [some (.inr (.inr (.inl (some (b))))), some (.inl w), some (.inl (1)), some (.inl v13)]) (st' := [.inl (2), .inl v31]) (h' := h) rfl ?_
            refine wq_k2 (p' := 80) (ck_17 _ _ rfl) rfl ⟨by omega, by omega⟩ ⟨by omega, by omega⟩ (fun c34 => ?_) (fun c35 => ?_)
            · have c34 : v31 ≠ (2) := c34
              refine av_wp_sqF ck_17 1 (pc' := 85) (lv' := [some (.inr (.inr (.inl (some (b))))), some (.inl w), some (.inl (1)), some (.inl v13)]) (st' := [.inr (.inr (.inl (some (b))))]) (h' := h) rfl ?_
              refine wq_gr (p' := 88) (ck_17 _ _ rfl) rfl (congrArg Prod.fst (ib_k0 E.1)) rfl (ib_t E.1) ?_
              refine av_wp_sqF ck_17 1 (pc' := 89) (lv' := [some (.inr (.inr (.inl (some (b))))), some (.inl w), some (.inl (1)), some (.inl v13)]) (st' := [.inr (.inr (.inl (some (b)))), .inr (.inr (.inl (some (t))))]) (h' := h) rfl ?_
              refine wq_gi (p' := 92) (ck_17 _ _ rfl) rfl (congrArg Prod.fst (ib_k0 E.1)) rfl (eb_y E) ?_
              refine av_wp_sqF ck_17 1 (pc' := 93) (lv' := [some (.inr (.inr (.inl (some (b))))), some (.inl w), some (.inl (1)), some (.inl v13)]) (st' := [.inl w, .inl mo, .inr (.inr (.inl (some (t))))]) (h' := h) rfl ?_
              refine wq_cv (p' := 96) (av_qc (.invokevirtual 139) 31 2 0 1) 6 cd_31 [.inl w, .inl mo] (t) 1 [some (.inr (.inr (.inl (some (t))))), some (.inl mo), some (.inl w), none, none, none] (ck_17 _ _ rfl) rfl rfl pp_31 rfl rfl rfl (congrArg Prod.fst (co_kt (ib_co E.1))) rfl rfl rfl rfl ?_
              refine cx_31 E F W (mo) (by omega) (w) (by omega) (fun v36 p37 => ?_)
              show av_wp _ cd_17 96 [some (.inr (.inr (.inl (some (b))))), some (.inl w), some (.inl (1)), some (.inl v13)] [.inl v36] h _
              refine av_wp_ret (v := some (.inl v36)) (ck_17 _ _ rfl) rfl rfl ?_
              exact hq _ (by unfold bwv; rw [if_neg (fun z => by obtain ⟨z1, z2, z3, z4⟩ := z; rw [e5] at z2; rw [e14] at z3; rw [e32] at z4; omega)]; exact p37)
            · have c35 : v31 = (2) := c35
              refine av_wp_sqF ck_17 2 (pc' := 96) (lv' := [some (.inr (.inr (.inl (some (b))))), some (.inl w), some (.inl (1)), some (.inl v13)]) (st' := [.inl (-1)]) (h' := h) rfl ?_
              refine av_wp_ret (v := some (.inl (-1))) (ck_17 _ _ rfl) rfl rfl ?_
              exact hq _ (by unfold bwv; rw [if_pos ⟨by omega, e5.trans (by omega), by rw [e14]; omega, by rw [e32]; omega⟩, if_neg (by rw [e32]; omega)])
        · have c27 : v23 = (1) := c27
          refine av_wp_sqF ck_17 1 (pc' := 63) (lv' := [some (.inr (.inr (.inl (some (b))))), some (.inl w), some (.inl (1)), some (.inl v13)]) (st' := [.inl v13]) (h' := h) rfl ?_
          refine av_wp_ret (v := some (.inl v13)) (ck_17 _ _ rfl) rfl rfl ?_
          exact hq _ (by unfold bwv; rw [if_pos ⟨by omega, e5.trans (by omega), by rw [e14]; omega, by rw [e24]; omega⟩, if_pos (e24.trans (by omega))]; exact e14.symm)
end
section
/-! RUN, exactly -/
set_option maxRecDepth 100000 in
set_option maxHeartbeats 4000000 in
theorem cx_106 {h : av_H} {U : Nat → Nat → Int} {S : Nat → Nat} {n : Int} {sr nd : Nat → Int} (C : CJ U S n sr nd h) (k : Int) (qk : -2147483648 ≤ k ∧ k ≤ 2147483647) (l : Int) (ql : -2147483648 ≤ l ∧ l ≤ 2147483647) (x : Int) (qx : -2147483648 ≤ x ∧ x ≤ 2147483647) (w : Int) (qw : -2147483648 ≤ w ∧ w ≤ 2147483647) (CR : CRT U S n (hF h 3 4) (fun k => hA h (6 + k))) (SU : SUA U S n (hF h 3 4) (fun k => hA h (6 + k)) sr) {Q : Option av_V → av_H → Prop} (hq : ∀ (v : Int) h' sr' nd', CJ U S n sr' nd' h' → FP 35 h h' → SUA U S n (hF h 3 4) (fun k => hA h (6 + k)) sr' → RSP (okx U S n (hF h 3 4) k l x ∧ ((0 ≤ w ∧ w ≤ 2) ∨ (10 ≤ w ∧ w ≤ 14))) (-3) (rnv (U (Int.toNat k)) (hA h (6 + Int.toNat l)) (bgx U S (fun k => hA h (6 + k)) k l x) w) v → Q (some (.inl v)) h') : av_wp none cd_106 0 [some (.inr (.inr (.inl (some (0))))), some (.inl k), some (.inl l), some (.inl x), some (.inl w), none, none] [] h Q := by
  have F := FP_rf 35 h
  have nr := C.2.1.2.1
  refine av_wp_sqF ck_106 1 (pc' := 2) (lv' := [some (.inr (.inr (.inl (some (0))))), some (.inl k), some (.inl l), some (.inl x), some (.inl w), none, none]) (st' := [.inl w]) (h' := h) rfl ?_
  refine wq_k1 (p' := 5) (ck_106 _ _ rfl) rfl ⟨by omega, by omega⟩ (fun c1 => ?_) (fun c2 => ?_)
  · have c1 : w < (0) := c1
    refine av_wp_sqF ck_106 1 (pc' := 13) (lv' := [some (.inr (.inr (.inl (some (0))))), some (.inl k), some (.inl l), some (.inl x), some (.inl w), none, none]) (st' := [.inl w]) (h' := h) rfl ?_
    refine wq_cs (p' := 16) (av_qc (.invokestatic 133) 102 1 2 7) 1 cd_102 [.inl w] [.inl w] [some (.inl w)] (ck_106 _ _ rfl) rfl rfl pp_102 (fun _ => rfl) rfl rfl ?_
    refine ct_102 (w) (by omega) (fun v3 p4 => ?_)
    show av_wp _ cd_106 16 [some (.inr (.inr (.inl (some (0))))), some (.inl k), some (.inl l), some (.inl x), some (.inl w), none, none] [.inl v3] h _
    refine wq_k1 (p' := 19) (ck_106 _ _ rfl) rfl ⟨by omega, by omega⟩ (fun c5 => ?_) (fun c6 => ?_)
    · have c5 : v3 = (0) := c5
      refine av_wp_sqF ck_106 5 (pc' := 46) (lv' := [some (.inr (.inr (.inl (some (0))))), some (.inl k), some (.inl l), some (.inl x), some (.inl w), some (.inl (0)), none]) (st' := [.inl (-3)]) (h' := h) rfl ?_
      refine av_wp_ret (v := some (.inl (-3))) (ck_106 _ _ rfl) rfl rfl ?_
      exact hq _ h _ _ C F SU (Or.inr ⟨by unfold okx; omega, rfl⟩)
    · have c6 : v3 ≠ (0) := c6
      refine av_wp_sqF ck_106 6 (pc' := 32) (lv' := [some (.inr (.inr (.inl (some (0))))), some (.inl k), some (.inl l), some (.inl x), some (.inl w), some (.inl (1)), none]) (st' := [.inr (.inr (.inl (some (0))))]) (h' := h) rfl ?_
      refine wq_gr (p' := 35) (ck_106 _ _ rfl) rfl (congrArg Prod.fst (ly_k C.1.1 0 rfl)) rfl (ly_g C.1.1 0 5 26 rfl) ?_
      refine av_wp_sqF ck_106 3 (pc' := 38) (lv' := [some (.inr (.inr (.inl (some (0))))), some (.inl k), some (.inl l), some (.inl x), some (.inl w), some (.inl (1)), none]) (st' := [.inl x, .inl l, .inl k, .inr (.inr (.inl (some (26))))]) (h' := h) rfl ?_
      refine wq_cv (p' := 41) (av_qc (.invokevirtual 160) 48 3 0 3) 5 cd_48 [.inl x, .inl l, .inl k] (26) 3 [some (.inr (.inr (.inl (some (26))))), some (.inl k), some (.inl l), some (.inl x), none] (ck_106 _ _ rfl) rfl rfl pp_48 rfl rfl rfl (congrArg Prod.fst (ly_k C.1.1 26 rfl)) rfl rfl rfl rfl ?_
      refine cz_48 C (k) (by omega) (l) (by omega) (x) (by omega) CR SU (fun z7 => ?_) (fun z7 z8 z9 h10 r11 n12 t13 c14 a15 m16 m17 m18 C19 F20 U21 E22 Z23 T24 D25 B26 R27 => ?_)
      · show av_wp _ cd_106 41 [some (.inr (.inr (.inl (some (0))))), some (.inl k), some (.inl l), some (.inl x), some (.inl w), some (.inl (1)), none] [.inl (0)] h _
        refine av_wp_sqF ck_106 2 (pc' := 46) (lv' := [some (.inr (.inr (.inl (some (0))))), some (.inl k), some (.inl l), some (.inl x), some (.inl w), some (.inl (1)), none]) (st' := [.inl (-3)]) (h' := h) rfl ?_
        refine av_wp_ret (v := some (.inl (-3))) (ck_106 _ _ rfl) rfl rfl ?_
        exact hq _ h _ _ C F SU (Or.inr ⟨by unfold okx; omega, rfl⟩)
      · have b30 := bgn_f (u := U (Int.toNat k)) (ro := (hA h (6 + Int.toNat l))) (bar := (brv (U (Int.toNat k)) (srt U S (hA h (6 + Int.toNat l)) (Int.toNat k)))) (s := S (Int.toNat k)) (x := x)
        rw [B26] at b30
        have b30 : (m18 = 9999 ∧ m16 = -1 ∧ m17 = -1) ∨ (m18 < 9999 ∧ (0 ≤ m17 ∧ m17 < (S (Int.toNat k) : Int) ∧ ofv (U (Int.toNat k)) (hA h (6 + Int.toNat l)) (Int.toNat m17) ≠ 0) ∧ (m16 = -1 ∨ (0 ≤ m16 ∧ m16 < (S (Int.toNat k) : Int) ∧ ysv (U (Int.toNat k)) (hA h (6 + Int.toNat l)) (Int.toNat m16) ≠ 0))) := b30
        have g28 : (-1 ≤ m16 ∧ m16 ≤ 11) ∧ (-1 ≤ m17 ∧ m17 ≤ 11) ∧ (-1 ≤ m18 ∧ m18 ≤ 9999) := R27
        have g29 := co_s12 (ib_co E22.1)
        show av_wp _ cd_106 41 [some (.inr (.inr (.inl (some (0))))), some (.inl k), some (.inl l), some (.inl x), some (.inl w), some (.inl (1)), none] [.inl (1)] h10 _
        refine av_wp_sqF ck_106 2 (pc' := 48) (lv' := [some (.inr (.inr (.inl (some (0))))), some (.inl k), some (.inl l), some (.inl x), some (.inl w), some (.inl (1)), none]) (st' := [.inr (.inr (.inl (some (0))))]) (h' := h10) rfl ?_
        refine wq_gr (p' := 51) (ck_106 _ _ rfl) rfl (congrArg Prod.fst (ly_k C19.1.1 0 rfl)) rfl (ly_g C19.1.1 0 5 26 rfl) ?_
        refine wq_gr (p' := 54) (ck_106 _ _ rfl) rfl (congrArg Prod.fst (ly_k C19.1.1 26 rfl)) rfl (ly_g C19.1.1 26 1 35 rfl) ?_
        refine av_wp_sqF ck_106 2 (pc' := 58) (lv' := [some (.inr (.inr (.inl (some (0))))), some (.inl k), some (.inl l), some (.inl x), some (.inl w), some (.inl (1)), some (.inr (.inr (.inl (some (35)))))]) (st' := [.inr (.inr (.inl (some (35))))]) (h' := h10) rfl ?_
        refine wq_cv (p' := 61) (av_qc (.invokevirtual 168) 3 0 0 0) 1 cd_3 [] (35) 0 [some (.inr (.inr (.inl (some (35)))))] (ck_106 _ _ rfl) rfl rfl pp_3 rfl rfl rfl (congrArg Prod.fst (bn_k0 C19.1.1 (Or.inl rfl))) rfl rfl rfl rfl ?_
        refine cx_3 E22 (FN_rf 35 h10) (by omega) (fun v31 p32 => ?_)
        show av_wp _ cd_106 61 [some (.inr (.inr (.inl (some (0))))), some (.inl k), some (.inl l), some (.inl x), some (.inl w), some (.inl (1)), some (.inr (.inr (.inl (some (35)))))] [.inl v31] h10 _
        refine wq_k1 (p' := 64) (ck_106 _ _ rfl) rfl ⟨by omega, by omega⟩ (fun c33 => ?_) (fun c34 => ?_)
        · have c33 : v31 ≠ (0) := c33
          refine av_wp_sqF ck_106 1 (pc' := 69) (lv' := [some (.inr (.inr (.inl (some (0))))), some (.inl k), some (.inl l), some (.inl x), some (.inl w), some (.inl (1)), some (.inr (.inr (.inl (some (35)))))]) (st' := [.inl w]) (h' := h10) rfl ?_
          rcases (show w = 0 ∨ w = 1 ∨ w = 2 ∨ (w < 0 ∨ 2 < w) by omega) with e35 | e35 | e35 | e35
          · exfalso; omega
          · exfalso; omega
          · exfalso; omega
          · refine wq_td (t := 114) (ck_106 _ _ rfl) ⟨by omega, by omega⟩ e35 rfl ?_
            refine av_wp_sqF ck_106 4 (pc' := 121) (lv' := [some (.inr (.inr (.inl (some (0))))), some (.inl k), some (.inl l), some (.inl x), some (.inl w), some (.inl (1)), some (.inr (.inr (.inl (some (35)))))]) (st' := [.inl (w - (10)), .inr (.inr (.inl (some (35))))]) (h' := h10) rfl ?_
            refine wq_cv (p' := 124) (av_qc (.invokevirtual 183) 17 1 0 0) 4 cd_17 [.inl (w - (10))] (35) 0 [some (.inr (.inr (.inl (some (35))))), some (.inl (w - (10))), none, none] (ck_106 _ _ rfl) rfl rfl pp_17 rfl rfl rfl (congrArg Prod.fst (bn_k0 C19.1.1 (Or.inl rfl))) rfl rfl rfl rfl ?_
            refine cx_17 E22 (FN_rf 35 h10) (CR.1 (Int.toNat k) (by omega)).1 (CR.2.2.2 l (by omega) (by omega)) (by omega) (by omega) ((w - (10))) (by omega) (fun v36 p37 => ?_)
            show av_wp _ cd_106 124 [some (.inr (.inr (.inl (some (0))))), some (.inl k), some (.inl l), some (.inl x), some (.inl w), some (.inl (1)), some (.inr (.inr (.inl (some (35)))))] [.inl v36] h10 _
            refine av_wp_ret (v := some (.inl v36)) (ck_106 _ _ rfl) rfl rfl ?_
            exact hq _ h10 _ _ C19 F20 U21 (Or.inl ⟨by unfold okx; omega, by rw [show bgx U S (fun k => hA h (6 + k)) k l x = _ from B26]; show _ = (if m18 = 9999 then -2 else if w = 0 then m16 else if w = 1 then m17 else if w = 2 then m18 else bwv (U (Int.toNat k)) (hA h (6 + Int.toNat l)) m16 m17 (w - 10).toNat); rw [if_neg (by omega), if_neg (by omega), if_neg (by omega), if_neg (by omega)]; exact p37.trans (congrArg (bwv _ _ _ _) (by omega))⟩)
        · have c34 : v31 = (0) := c34
          refine av_wp_sqF ck_106 1 (pc' := 66) (lv' := [some (.inr (.inr (.inl (some (0))))), some (.inl k), some (.inl l), some (.inl x), some (.inl w), some (.inl (1)), some (.inr (.inr (.inl (some (35)))))]) (st' := [.inl (-2)]) (h' := h10) rfl ?_
          refine av_wp_ret (v := some (.inl (-2))) (ck_106 _ _ rfl) rfl rfl ?_
          exact hq _ h10 _ _ C19 F20 U21 (Or.inl ⟨by unfold okx; omega, by rw [show bgx U S (fun k => hA h (6 + k)) k l x = _ from B26]; show _ = (if m18 = 9999 then -2 else if w = 0 then m16 else if w = 1 then m17 else if w = 2 then m18 else bwv (U (Int.toNat k)) (hA h (6 + Int.toNat l)) m16 m17 (w - 10).toNat); rw [if_pos (by omega)]⟩)
  · have c2 : (0) ≤ w := c2
    refine av_wp_sqF ck_106 2 (pc' := 8) (lv' := [some (.inr (.inr (.inl (some (0))))), some (.inl k), some (.inl l), some (.inl x), some (.inl w), none, none]) (st' := [.inl (2), .inl w]) (h' := h) rfl ?_
    refine wq_k2 (p' := 11) (ck_106 _ _ rfl) rfl ⟨by omega, by omega⟩ ⟨by omega, by omega⟩ (fun c38 => ?_) (fun c39 => ?_)
    · have c38 : w ≤ (2) := c38
      refine av_wp_sqF ck_106 6 (pc' := 32) (lv' := [some (.inr (.inr (.inl (some (0))))), some (.inl k), some (.inl l), some (.inl x), some (.inl w), some (.inl (1)), none]) (st' := [.inr (.inr (.inl (some (0))))]) (h' := h) rfl ?_
      refine wq_gr (p' := 35) (ck_106 _ _ rfl) rfl (congrArg Prod.fst (ly_k C.1.1 0 rfl)) rfl (ly_g C.1.1 0 5 26 rfl) ?_
      refine av_wp_sqF ck_106 3 (pc' := 38) (lv' := [some (.inr (.inr (.inl (some (0))))), some (.inl k), some (.inl l), some (.inl x), some (.inl w), some (.inl (1)), none]) (st' := [.inl x, .inl l, .inl k, .inr (.inr (.inl (some (26))))]) (h' := h) rfl ?_
      refine wq_cv (p' := 41) (av_qc (.invokevirtual 160) 48 3 0 3) 5 cd_48 [.inl x, .inl l, .inl k] (26) 3 [some (.inr (.inr (.inl (some (26))))), some (.inl k), some (.inl l), some (.inl x), none] (ck_106 _ _ rfl) rfl rfl pp_48 rfl rfl rfl (congrArg Prod.fst (ly_k C.1.1 26 rfl)) rfl rfl rfl rfl ?_
      refine cz_48 C (k) (by omega) (l) (by omega) (x) (by omega) CR SU (fun z40 => ?_) (fun z40 z41 z42 h43 r44 n45 t46 c47 a48 m49 m50 m51 C52 F53 U54 E55 Z56 T57 D58 B59 R60 => ?_)
      · show av_wp _ cd_106 41 [some (.inr (.inr (.inl (some (0))))), some (.inl k), some (.inl l), some (.inl x), some (.inl w), some (.inl (1)), none] [.inl (0)] h _
        refine av_wp_sqF ck_106 2 (pc' := 46) (lv' := [some (.inr (.inr (.inl (some (0))))), some (.inl k), some (.inl l), some (.inl x), some (.inl w), some (.inl (1)), none]) (st' := [.inl (-3)]) (h' := h) rfl ?_
        refine av_wp_ret (v := some (.inl (-3))) (ck_106 _ _ rfl) rfl rfl ?_
        exact hq _ h _ _ C F SU (Or.inr ⟨by unfold okx; omega, rfl⟩)
      · have b63 := bgn_f (u := U (Int.toNat k)) (ro := (hA h (6 + Int.toNat l))) (bar := (brv (U (Int.toNat k)) (srt U S (hA h (6 + Int.toNat l)) (Int.toNat k)))) (s := S (Int.toNat k)) (x := x)
        rw [B59] at b63
        have b63 : (m51 = 9999 ∧ m49 = -1 ∧ m50 = -1) ∨ (m51 < 9999 ∧ (0 ≤ m50 ∧ m50 < (S (Int.toNat k) : Int) ∧ ofv (U (Int.toNat k)) (hA h (6 + Int.toNat l)) (Int.toNat m50) ≠ 0) ∧ (m49 = -1 ∨ (0 ≤ m49 ∧ m49 < (S (Int.toNat k) : Int) ∧ ysv (U (Int.toNat k)) (hA h (6 + Int.toNat l)) (Int.toNat m49) ≠ 0))) := b63
        have g61 : (-1 ≤ m49 ∧ m49 ≤ 11) ∧ (-1 ≤ m50 ∧ m50 ≤ 11) ∧ (-1 ≤ m51 ∧ m51 ≤ 9999) := R60
        have g62 := co_s12 (ib_co E55.1)
        show av_wp _ cd_106 41 [some (.inr (.inr (.inl (some (0))))), some (.inl k), some (.inl l), some (.inl x), some (.inl w), some (.inl (1)), none] [.inl (1)] h43 _
        refine av_wp_sqF ck_106 2 (pc' := 48) (lv' := [some (.inr (.inr (.inl (some (0))))), some (.inl k), some (.inl l), some (.inl x), some (.inl w), some (.inl (1)), none]) (st' := [.inr (.inr (.inl (some (0))))]) (h' := h43) rfl ?_
        refine wq_gr (p' := 51) (ck_106 _ _ rfl) rfl (congrArg Prod.fst (ly_k C52.1.1 0 rfl)) rfl (ly_g C52.1.1 0 5 26 rfl) ?_
        refine wq_gr (p' := 54) (ck_106 _ _ rfl) rfl (congrArg Prod.fst (ly_k C52.1.1 26 rfl)) rfl (ly_g C52.1.1 26 1 35 rfl) ?_
        refine av_wp_sqF ck_106 2 (pc' := 58) (lv' := [some (.inr (.inr (.inl (some (0))))), some (.inl k), some (.inl l), some (.inl x), some (.inl w), some (.inl (1)), some (.inr (.inr (.inl (some (35)))))]) (st' := [.inr (.inr (.inl (some (35))))]) (h' := h43) rfl ?_
        refine wq_cv (p' := 61) (av_qc (.invokevirtual 168) 3 0 0 0) 1 cd_3 [] (35) 0 [some (.inr (.inr (.inl (some (35)))))] (ck_106 _ _ rfl) rfl rfl pp_3 rfl rfl rfl (congrArg Prod.fst (bn_k0 C52.1.1 (Or.inl rfl))) rfl rfl rfl rfl ?_
        refine cx_3 E55 (FN_rf 35 h43) (by omega) (fun v64 p65 => ?_)
        show av_wp _ cd_106 61 [some (.inr (.inr (.inl (some (0))))), some (.inl k), some (.inl l), some (.inl x), some (.inl w), some (.inl (1)), some (.inr (.inr (.inl (some (35)))))] [.inl v64] h43 _
        refine wq_k1 (p' := 64) (ck_106 _ _ rfl) rfl ⟨by omega, by omega⟩ (fun c66 => ?_) (fun c67 => ?_)
        · have c66 : v64 ≠ (0) := c66
          refine av_wp_sqF ck_106 1 (pc' := 69) (lv' := [some (.inr (.inr (.inl (some (0))))), some (.inl k), some (.inl l), some (.inl x), some (.inl w), some (.inl (1)), some (.inr (.inr (.inl (some (35)))))]) (st' := [.inl w]) (h' := h43) rfl ?_
          rcases (show w = 0 ∨ w = 1 ∨ w = 2 ∨ (w < 0 ∨ 2 < w) by omega) with e68 | e68 | e68 | e68
          · refine wq_tc (t := 96) (ck_106 _ _ rfl) e68 rfl ?_
            refine av_wp_sqF ck_106 1 (pc' := 98) (lv' := [some (.inr (.inr (.inl (some (0))))), some (.inl k), some (.inl l), some (.inl x), some (.inl w), some (.inl (1)), some (.inr (.inr (.inl (some (35)))))]) (st' := [.inr (.inr (.inl (some (35))))]) (h' := h43) rfl ?_
            refine wq_gi (p' := 101) (ck_106 _ _ rfl) rfl (congrArg Prod.fst (bn_k0 C52.1.1 (Or.inl rfl))) rfl (E55.2.2.2.2.1) ?_
            refine av_wp_ret (v := some (.inl m49)) (ck_106 _ _ rfl) rfl rfl ?_
            exact hq _ h43 _ _ C52 F53 U54 (Or.inl ⟨by unfold okx; omega, by rw [show bgx U S (fun k => hA h (6 + k)) k l x = _ from B59]; show _ = (if m51 = 9999 then -2 else if w = 0 then m49 else if w = 1 then m50 else if w = 2 then m51 else bwv (U (Int.toNat k)) (hA h (6 + Int.toNat l)) m49 m50 (w - 10).toNat); rw [if_neg (by omega), if_pos (by omega)]⟩)
          · refine wq_tc (t := 102) (ck_106 _ _ rfl) e68 rfl ?_
            refine av_wp_sqF ck_106 1 (pc' := 104) (lv' := [some (.inr (.inr (.inl (some (0))))), some (.inl k), some (.inl l), some (.inl x), some (.inl w), some (.inl (1)), some (.inr (.inr (.inl (some (35)))))]) (st' := [.inr (.inr (.inl (some (35))))]) (h' := h43) rfl ?_
            refine wq_gi (p' := 107) (ck_106 _ _ rfl) rfl (congrArg Prod.fst (bn_k0 C52.1.1 (Or.inl rfl))) rfl (E55.2.2.2.2.2.1) ?_
            refine av_wp_ret (v := some (.inl m50)) (ck_106 _ _ rfl) rfl rfl ?_
            exact hq _ h43 _ _ C52 F53 U54 (Or.inl ⟨by unfold okx; omega, by rw [show bgx U S (fun k => hA h (6 + k)) k l x = _ from B59]; show _ = (if m51 = 9999 then -2 else if w = 0 then m49 else if w = 1 then m50 else if w = 2 then m51 else bwv (U (Int.toNat k)) (hA h (6 + Int.toNat l)) m49 m50 (w - 10).toNat); rw [if_neg (by omega), if_neg (by omega), if_pos (by omega)]⟩)
          · refine wq_tc (t := 108) (ck_106 _ _ rfl) e68 rfl ?_
            refine av_wp_sqF ck_106 1 (pc' := 110) (lv' := [some (.inr (.inr (.inl (some (0))))), some (.inl k), some (.inl l), some (.inl x), some (.inl w), some (.inl (1)), some (.inr (.inr (.inl (some (35)))))]) (st' := [.inr (.inr (.inl (some (35))))]) (h' := h43) rfl ?_
            refine wq_gi (p' := 113) (ck_106 _ _ rfl) rfl (congrArg Prod.fst (bn_k0 C52.1.1 (Or.inl rfl))) rfl (E55.2.2.2.2.2.2) ?_
            refine av_wp_ret (v := some (.inl m51)) (ck_106 _ _ rfl) rfl rfl ?_
            exact hq _ h43 _ _ C52 F53 U54 (Or.inl ⟨by unfold okx; omega, by rw [show bgx U S (fun k => hA h (6 + k)) k l x = _ from B59]; show _ = (if m51 = 9999 then -2 else if w = 0 then m49 else if w = 1 then m50 else if w = 2 then m51 else bwv (U (Int.toNat k)) (hA h (6 + Int.toNat l)) m49 m50 (w - 10).toNat); rw [if_neg (by omega), if_neg (by omega), if_neg (by omega), if_pos (by omega)]⟩)
          · refine wq_td (t := 114) (ck_106 _ _ rfl) ⟨by omega, by omega⟩ e68 rfl ?_
            refine av_wp_sqF ck_106 4 (pc' := 121) (lv' := [some (.inr (.inr (.inl (some (0))))), some (.inl k), some (.inl l), some (.inl x), some (.inl w), some (.inl (1)), some (.inr (.inr (.inl (some (35)))))]) (st' := [.inl (w - (10)), .inr (.inr (.inl (some (35))))]) (h' := h43) rfl ?_
            refine wq_cv (p' := 124) (av_qc (.invokevirtual 183) 17 1 0 0) 4 cd_17 [.inl (w - (10))] (35) 0 [some (.inr (.inr (.inl (some (35))))), some (.inl (w - (10))), none, none] (ck_106 _ _ rfl) rfl rfl pp_17 rfl rfl rfl (congrArg Prod.fst (bn_k0 C52.1.1 (Or.inl rfl))) rfl rfl rfl rfl ?_
            refine cx_17 E55 (FN_rf 35 h43) (CR.1 (Int.toNat k) (by omega)).1 (CR.2.2.2 l (by omega) (by omega)) (by omega) (by omega) ((w - (10))) (by omega) (fun v69 p70 => ?_)
            show av_wp _ cd_106 124 [some (.inr (.inr (.inl (some (0))))), some (.inl k), some (.inl l), some (.inl x), some (.inl w), some (.inl (1)), some (.inr (.inr (.inl (some (35)))))] [.inl v69] h43 _
            refine av_wp_ret (v := some (.inl v69)) (ck_106 _ _ rfl) rfl rfl ?_
            exact hq _ h43 _ _ C52 F53 U54 (Or.inl ⟨by unfold okx; omega, by rw [show bgx U S (fun k => hA h (6 + k)) k l x = _ from B59]; show _ = (if m51 = 9999 then -2 else if w = 0 then m49 else if w = 1 then m50 else if w = 2 then m51 else bwv (U (Int.toNat k)) (hA h (6 + Int.toNat l)) m49 m50 (w - 10).toNat); rw [if_neg (by omega), if_neg (by omega), if_neg (by omega), if_neg (by omega)]; exact p70.trans (congrArg (bwv _ _ _ _) (by omega))⟩)
        · have c67 : v64 = (0) := c67
          refine av_wp_sqF ck_106 1 (pc' := 66) (lv' := [some (.inr (.inr (.inl (some (0))))), some (.inl k), some (.inl l), some (.inl x), some (.inl w), some (.inl (1)), some (.inr (.inr (.inl (some (35)))))]) (st' := [.inl (-2)]) (h' := h43) rfl ?_
          refine av_wp_ret (v := some (.inl (-2))) (ck_106 _ _ rfl) rfl rfl ?_
          exact hq _ h43 _ _ C52 F53 U54 (Or.inl ⟨by unfold okx; omega, by rw [show bgx U S (fun k => hA h (6 + k)) k l x = _ from B59]; show _ = (if m51 = 9999 then -2 else if w = 0 then m49 else if w = 1 then m50 else if w = 2 then m51 else bwv (U (Int.toNat k)) (hA h (6 + Int.toNat l)) m49 m50 (w - 10).toNat); rw [if_pos (by omega)]⟩)
    · have c39 : (2) < w := c39
      refine av_wp_sqF ck_106 1 (pc' := 13) (lv' := [some (.inr (.inr (.inl (some (0))))), some (.inl k), some (.inl l), some (.inl x), some (.inl w), none, none]) (st' := [.inl w]) (h' := h) rfl ?_
      refine wq_cs (p' := 16) (av_qc (.invokestatic 133) 102 1 2 7) 1 cd_102 [.inl w] [.inl w] [some (.inl w)] (ck_106 _ _ rfl) rfl rfl pp_102 (fun _ => rfl) rfl rfl ?_
      refine ct_102 (w) (by omega) (fun v71 p72 => ?_)
      show av_wp _ cd_106 16 [some (.inr (.inr (.inl (some (0))))), some (.inl k), some (.inl l), some (.inl x), some (.inl w), none, none] [.inl v71] h _
      refine wq_k1 (p' := 19) (ck_106 _ _ rfl) rfl ⟨by omega, by omega⟩ (fun c73 => ?_) (fun c74 => ?_)
      · have c73 : v71 = (0) := c73
        refine av_wp_sqF ck_106 5 (pc' := 46) (lv' := [some (.inr (.inr (.inl (some (0))))), some (.inl k), some (.inl l), some (.inl x), some (.inl w), some (.inl (0)), none]) (st' := [.inl (-3)]) (h' := h) rfl ?_
        refine av_wp_ret (v := some (.inl (-3))) (ck_106 _ _ rfl) rfl rfl ?_
        exact hq _ h _ _ C F SU (Or.inr ⟨by unfold okx; omega, rfl⟩)
      · have c74 : v71 ≠ (0) := c74
        refine av_wp_sqF ck_106 6 (pc' := 32) (lv' := [some (.inr (.inr (.inl (some (0))))), some (.inl k), some (.inl l), some (.inl x), some (.inl w), some (.inl (1)), none]) (st' := [.inr (.inr (.inl (some (0))))]) (h' := h) rfl ?_
        refine wq_gr (p' := 35) (ck_106 _ _ rfl) rfl (congrArg Prod.fst (ly_k C.1.1 0 rfl)) rfl (ly_g C.1.1 0 5 26 rfl) ?_
        refine av_wp_sqF ck_106 3 (pc' := 38) (lv' := [some (.inr (.inr (.inl (some (0))))), some (.inl k), some (.inl l), some (.inl x), some (.inl w), some (.inl (1)), none]) (st' := [.inl x, .inl l, .inl k, .inr (.inr (.inl (some (26))))]) (h' := h) rfl ?_
        refine wq_cv (p' := 41) (av_qc (.invokevirtual 160) 48 3 0 3) 5 cd_48 [.inl x, .inl l, .inl k] (26) 3 [some (.inr (.inr (.inl (some (26))))), some (.inl k), some (.inl l), some (.inl x), none] (ck_106 _ _ rfl) rfl rfl pp_48 rfl rfl rfl (congrArg Prod.fst (ly_k C.1.1 26 rfl)) rfl rfl rfl rfl ?_
        refine cz_48 C (k) (by omega) (l) (by omega) (x) (by omega) CR SU (fun z75 => ?_) (fun z75 z76 z77 h78 r79 n80 t81 c82 a83 m84 m85 m86 C87 F88 U89 E90 Z91 T92 D93 B94 R95 => ?_)
        · show av_wp _ cd_106 41 [some (.inr (.inr (.inl (some (0))))), some (.inl k), some (.inl l), some (.inl x), some (.inl w), some (.inl (1)), none] [.inl (0)] h _
          refine av_wp_sqF ck_106 2 (pc' := 46) (lv' := [some (.inr (.inr (.inl (some (0))))), some (.inl k), some (.inl l), some (.inl x), some (.inl w), some (.inl (1)), none]) (st' := [.inl (-3)]) (h' := h) rfl ?_
          refine av_wp_ret (v := some (.inl (-3))) (ck_106 _ _ rfl) rfl rfl ?_
          exact hq _ h _ _ C F SU (Or.inr ⟨by unfold okx; omega, rfl⟩)
        · have b98 := bgn_f (u := U (Int.toNat k)) (ro := (hA h (6 + Int.toNat l))) (bar := (brv (U (Int.toNat k)) (srt U S (hA h (6 + Int.toNat l)) (Int.toNat k)))) (s := S (Int.toNat k)) (x := x)
          rw [B94] at b98
          have b98 : (m86 = 9999 ∧ m84 = -1 ∧ m85 = -1) ∨ (m86 < 9999 ∧ (0 ≤ m85 ∧ m85 < (S (Int.toNat k) : Int) ∧ ofv (U (Int.toNat k)) (hA h (6 + Int.toNat l)) (Int.toNat m85) ≠ 0) ∧ (m84 = -1 ∨ (0 ≤ m84 ∧ m84 < (S (Int.toNat k) : Int) ∧ ysv (U (Int.toNat k)) (hA h (6 + Int.toNat l)) (Int.toNat m84) ≠ 0))) := b98
          have g96 : (-1 ≤ m84 ∧ m84 ≤ 11) ∧ (-1 ≤ m85 ∧ m85 ≤ 11) ∧ (-1 ≤ m86 ∧ m86 ≤ 9999) := R95
          have g97 := co_s12 (ib_co E90.1)
          show av_wp _ cd_106 41 [some (.inr (.inr (.inl (some (0))))), some (.inl k), some (.inl l), some (.inl x), some (.inl w), some (.inl (1)), none] [.inl (1)] h78 _
          refine av_wp_sqF ck_106 2 (pc' := 48) (lv' := [some (.inr (.inr (.inl (some (0))))), some (.inl k), some (.inl l), some (.inl x), some (.inl w), some (.inl (1)), none]) (st' := [.inr (.inr (.inl (some (0))))]) (h' := h78) rfl ?_
          refine wq_gr (p' := 51) (ck_106 _ _ rfl) rfl (congrArg Prod.fst (ly_k C87.1.1 0 rfl)) rfl (ly_g C87.1.1 0 5 26 rfl) ?_
          refine wq_gr (p' := 54) (ck_106 _ _ rfl) rfl (congrArg Prod.fst (ly_k C87.1.1 26 rfl)) rfl (ly_g C87.1.1 26 1 35 rfl) ?_
          refine av_wp_sqF ck_106 2 (pc' := 58) (lv' := [some (.inr (.inr (.inl (some (0))))), some (.inl k), some (.inl l), some (.inl x), some (.inl w), some (.inl (1)), some (.inr (.inr (.inl (some (35)))))]) (st' := [.inr (.inr (.inl (some (35))))]) (h' := h78) rfl ?_
          refine wq_cv (p' := 61) (av_qc (.invokevirtual 168) 3 0 0 0) 1 cd_3 [] (35) 0 [some (.inr (.inr (.inl (some (35)))))] (ck_106 _ _ rfl) rfl rfl pp_3 rfl rfl rfl (congrArg Prod.fst (bn_k0 C87.1.1 (Or.inl rfl))) rfl rfl rfl rfl ?_
          refine cx_3 E90 (FN_rf 35 h78) (by omega) (fun v99 p100 => ?_)
          show av_wp _ cd_106 61 [some (.inr (.inr (.inl (some (0))))), some (.inl k), some (.inl l), some (.inl x), some (.inl w), some (.inl (1)), some (.inr (.inr (.inl (some (35)))))] [.inl v99] h78 _
          refine wq_k1 (p' := 64) (ck_106 _ _ rfl) rfl ⟨by omega, by omega⟩ (fun c101 => ?_) (fun c102 => ?_)
          · have c101 : v99 ≠ (0) := c101
            refine av_wp_sqF ck_106 1 (pc' := 69) (lv' := [some (.inr (.inr (.inl (some (0))))), some (.inl k), some (.inl l), some (.inl x), some (.inl w), some (.inl (1)), some (.inr (.inr (.inl (some (35)))))]) (st' := [.inl w]) (h' := h78) rfl ?_
            rcases (show w = 0 ∨ w = 1 ∨ w = 2 ∨ (w < 0 ∨ 2 < w) by omega) with e103 | e103 | e103 | e103
            · exfalso; omega
            · exfalso; omega
            · exfalso; omega
            · refine wq_td (t := 114) (ck_106 _ _ rfl) ⟨by omega, by omega⟩ e103 rfl ?_
              refine av_wp_sqF ck_106 4 (pc' := 121) (lv' := [some (.inr (.inr (.inl (some (0))))), some (.inl k), some (.inl l), some (.inl x), some (.inl w), some (.inl (1)), some (.inr (.inr (.inl (some (35)))))]) (st' := [.inl (w - (10)), .inr (.inr (.inl (some (35))))]) (h' := h78) rfl ?_
              refine wq_cv (p' := 124) (av_qc (.invokevirtual 183) 17 1 0 0) 4 cd_17 [.inl (w - (10))] (35) 0 [some (.inr (.inr (.inl (some (35))))), some (.inl (w - (10))), none, none] (ck_106 _ _ rfl) rfl rfl pp_17 rfl rfl rfl (congrArg Prod.fst (bn_k0 C87.1.1 (Or.inl rfl))) rfl rfl rfl rfl ?_
              refine cx_17 E90 (FN_rf 35 h78) (CR.1 (Int.toNat k) (by omega)).1 (CR.2.2.2 l (by omega) (by omega)) (by omega) (by omega) ((w - (10))) (by omega) (fun v104 p105 => ?_)
              show av_wp _ cd_106 124 [some (.inr (.inr (.inl (some (0))))), some (.inl k), some (.inl l), some (.inl x), some (.inl w), some (.inl (1)), some (.inr (.inr (.inl (some (35)))))] [.inl v104] h78 _
              refine av_wp_ret (v := some (.inl v104)) (ck_106 _ _ rfl) rfl rfl ?_
              exact hq _ h78 _ _ C87 F88 U89 (Or.inl ⟨by unfold okx; omega, by rw [show bgx U S (fun k => hA h (6 + k)) k l x = _ from B94]; show _ = (if m86 = 9999 then -2 else if w = 0 then m84 else if w = 1 then m85 else if w = 2 then m86 else bwv (U (Int.toNat k)) (hA h (6 + Int.toNat l)) m84 m85 (w - 10).toNat); rw [if_neg (by omega), if_neg (by omega), if_neg (by omega), if_neg (by omega)]; exact p105.trans (congrArg (bwv _ _ _ _) (by omega))⟩)
          · have c102 : v99 = (0) := c102
            refine av_wp_sqF ck_106 1 (pc' := 66) (lv' := [some (.inr (.inr (.inl (some (0))))), some (.inl k), some (.inl l), some (.inl x), some (.inl w), some (.inl (1)), some (.inr (.inr (.inl (some (35)))))]) (st' := [.inl (-2)]) (h' := h78) rfl ?_
            refine av_wp_ret (v := some (.inl (-2))) (ck_106 _ _ rfl) rfl rfl ?_
            exact hq _ h78 _ _ C87 F88 U89 (Or.inl ⟨by unfold okx; omega, by rw [show bgx U S (fun k => hA h (6 + k)) k l x = _ from B94]; show _ = (if m86 = 9999 then -2 else if w = 0 then m84 else if w = 1 then m85 else if w = 2 then m86 else bwv (U (Int.toNat k)) (hA h (6 + Int.toNat l)) m84 m85 (w - 10).toNat); rw [if_pos (by omega)]⟩)
end
section
/-! WHAT IS READ IS WELL FORMED: the bounds of each cell -/
def vlo (o : Nat) : Int := if o < 7 then -1 else if o < 10 then 0 else if o < 15 then -1 else 0
def vhi (ah : Int) (o : Nat) : Int := if o = 0 then 7 else if o ≤ 2 then 2 else if o = 3 then 11 else if o = 4 then 3 else if o = 5 then 1999 else if o = 6 then ah - 1 else if o = 7 then 1999 else if o < 15 then 999 else if o < 18 then 16 else if o = 18 then 2 else 0
def VB (ah : Int) (t : TT) (r : Nat → Int) (row : Nat) : Prop := t.2.2.2 = -1 → ∀ o, o < 21 → vlo o ≤ r (row + o) ∧ r (row + o) ≤ vhi ah o
section
variable {b : Nat → Int} {lim : Nat} {t t' : TT} {row : Nat} {r : Nat → Int} {ah : Int}
theorem vb_t (V : VB ah t r row) (e : t'.2.2.2 = -1 → t.2.2.2 = -1) : VB ah t' r row := fun z => V (e z)
theorem vb_u {i : Nat} {v : Int} (V : VB ah t r row) (o : Nat) (ei : i = row + o) (e : t.2.2.2 = -1 → vlo o ≤ v ∧ v ≤ vhi ah o) : VB ah t (av_u1 r i v) row := fun z q hq => by
  subst ei
  by_cases eq : q = o
  · subst eq
    rw [u1_eq]
    exact e z
  · rw [u1_ne (by omega)]
    exact V z q hq
theorem vb_O (V : VB ah t r row) : VB ah (rsO b lim row t r).1 (rsO b lim row t r).2 row := by
  unfold rsO
  have g1 := pkv_le (b := b) (t := t) 1 2 rfl
  split
  · exact fun z => absurd ((cho_o z).1) fal_ne
  · exact vb_u (vb_t V (fun z => (cho_o z).1)) 2 rfl (fun _ => by show (-1 : Int) ≤ _ ∧ _ ≤ (2 : Int); omega)
theorem vb_S {k : Nat} {kind : Int} (V : VB ah t r (k * 21)) (hk : k ≤ 11) : VB ah (rsS b lim k kind t r).1 (rsS b lim k kind t r).2 (k * 21) := by
  unfold rsS
  split
  · next c => exact vb_u (vb_t V (fun z => z)) 3 rfl (fun _ => by have := c.1; show (-1 : Int) ≤ _ ∧ _ ≤ (11 : Int); omega)
  · exact fun z => absurd z fal_ne
theorem vb_W : ∀ (n : Nat) (t : TT) (r : Nat → Int), VB ah t r row → VB ah (rsW b lim row n t r).1 (rsW b lim row n t r).2 row := by
  intro n
  induction n with
  | zero => intro t r V; exact V
  | succ n ih =>
    intro t r V
    by_cases e : pkv b t 2 = -1
    · rw [rsW_e e]; exact V
    · rw [rsW_g e]
      have g1 := pkv_le (b := b) (t := t) 2 4 rfl
      refine ih _ _ (vb_u (vb_t V (fun z => (nmt_o z).1)) (10 + (pkv b t 2).toNat) (by omega) (fun z => ?_))
      have := nmv_b z
      unfold vlo vhi
      rw [if_neg (by omega), if_neg (by omega), if_pos (by omega), if_neg (by omega), if_neg (by omega), if_neg (by omega), if_neg (by omega), if_neg (by omega), if_neg (by omega), if_neg (by omega), if_pos (by omega)]
      omega
theorem vb_T (V : VB ah t r row) : VB ah (rsT b lim row ah t r).1 (rsT b lim row ah t r).2 row := by
  have e1 := vb_W (b := b) (lim := lim) (row := row) (ah := ah) 900 t r V
  unfold rsT
  generalize rsW b lim row 900 t r = x at e1 ⊢
  have e2 : VB ah (rsT1 b lim row x).1 (rsT1 b lim row x).2 row := by
    unfold rsT1
    split
    · exact e1
    · exact vb_u (vb_t e1 (fun z => (nmt_o z).1)) 5 rfl (fun z => by have := nmv_b z; show (-1 : Int) ≤ _ ∧ _ ≤ (1999 : Int); omega)
  generalize rsT1 b lim row x = y at e2 ⊢
  unfold rsT2
  split
  · exact e2
  · exact vb_u (vb_t e2 (fun z => (nmt_o z).1)) 6 rfl (fun z => by have := nmv_b z; show (-1 : Int) ≤ _ ∧ _ ≤ ah - 1; omega)
theorem vb_B (V : VB ah t r row) (hr : t.2.2.2 = -1 → 0 ≤ r (row + 3) → r (row + 3) < 12 → (r (row + 3)).toNat * 21 + 1 ≠ row ∧ -1 ≤ r ((r (row + 3)).toNat * 21 + 1) ∧ r ((r (row + 3)).toNat * 21 + 1) ≤ 2) : VB ah (rsB b lim row t r).1 (rsB b lim row t r).2 row := by
  unfold rsB
  refine vb_W 900 _ _ ?_
  have V1 : VB ah t (av_u1 r row 3) row := vb_u V 0 rfl (fun _ => by show (-1 : Int) ≤ 3 ∧ (3 : Int) ≤ 7; omega)
  have V2 : VB ah t (rsB0 row (av_u1 r row 3)) row := by
    unfold rsB0
    rw [u1_ne (show row + 3 ≠ row by omega)]
    split
    · next c =>
      refine vb_u V1 2 rfl (fun z => ?_)
      have h := hr z c.1 c.2
      rw [u1_ne h.1]
      exact h.2
    · exact V1
  split
  · exact fun z => absurd z fal_ne
  · exact V2
theorem vb_P {i : Nat} {most : Int} (hi : i ≤ 2) (hm : most = if i = 0 then 1999 else 999) (V : VB ah t r row) : VB ah (rsP b lim row i most t r).1 (rsP b lim row i most t r).2 row := by
  have V1 : VB ah (nmt b lim t 0 most) (av_u1 r (row + 7 + i) (nmv b t 0 most)) row := vb_u (vb_t V (fun z => (nmt_o z).1)) (7 + i) (by omega) (fun z => by
    have := nmv_b z
    rcases (show i = 0 ∨ i = 1 ∨ i = 2 by omega) with e | e | e <;> subst e
    · show (0 : Int) ≤ _ ∧ _ ≤ (1999 : Int)
      rw [if_pos rfl] at hm
      omega
    · show (0 : Int) ≤ _ ∧ _ ≤ (999 : Int)
      rw [if_neg (by decide)] at hm
      omega
    · show (0 : Int) ≤ _ ∧ _ ≤ (999 : Int)
      rw [if_neg (by decide)] at hm
      omega)
  unfold rsP
  generalize nmt b lim t 0 most = t1 at V1 ⊢
  generalize nmv b t 0 most = v at V1 ⊢
  generalize av_u1 r (row + 7 + i) v = r1 at V1 ⊢
  unfold rsP1
  split
  · exact V1
  · refine vb_u (vb_t V1 (fun z => (nmt_o z).1)) (15 + i) (by omega) (fun z => ?_)
    have h1 := nmv_b z
    have h2 : mn2 most (v + 15) ≤ v + 15 := by unfold mn2; split <;> omega
    rcases (show i = 0 ∨ i = 1 ∨ i = 2 by omega) with e | e | e <;> subst e
    · show (0 : Int) ≤ _ ∧ _ ≤ (16 : Int); omega
    · show (0 : Int) ≤ _ ∧ _ ≤ (16 : Int); omega
    · show (0 : Int) ≤ _ ∧ _ ≤ (16 : Int); omega
theorem vb_M (V : VB ah t r row) : VB ah (rsM b lim row t r).1 (rsM b lim row t r).2 row := by
  have g1 := pkv_le (b := b) (t := t) 6 3 rfl
  have e0 : VB ah (rsM0 b lim row t r).1 (rsM0 b lim row t r).2 row := by
    unfold rsM0
    refine vb_P (by omega) rfl ?_
    exact vb_u (vb_t V (fun z => (cho_o (cho_o z).1).1)) 4 rfl (fun _ => by show (-1 : Int) ≤ _ ∧ _ ≤ (3 : Int); omega)
  have e3 : ∀ x : TT × (Nat → Int), VB ah x.1 x.2 row → VB ah (rsM3 b lim row x).1 (rsM3 b lim row x).2 row := by
    intro x V
    unfold rsM3
    have p1 : VB ah (rsP b lim row 1 999 (cho b lim x.1 9) x.2).1 (rsP b lim row 1 999 (cho b lim x.1 9) x.2).2 row := vb_P (by omega) rfl (vb_t V (fun z => (cho_o z).1))
    generalize rsP b lim row 1 999 (cho b lim x.1 9) x.2 = y at p1 ⊢
    have e1 : VB ah (rsM1 b lim row y).1 (rsM1 b lim row y).2 row := by
      unfold rsM1
      split
      · exact p1
      · exact vb_P (by omega) rfl (vb_t p1 (fun z => z))
    generalize rsM1 b lim row y = u at e1 ⊢
    unfold rsM2
    split
    · exact e1
    · exact vb_u (vb_t e1 (fun z => z)) 18 rfl (fun _ => by show (0 : Int) ≤ 2 ∧ (2 : Int) ≤ 2; omega)
  unfold rsM
  split
  · exact e3 _ e0
  · exact e0
theorem vb_tab : ∀ o : Nat, o < 21 → o ≠ 6 → vlo o ≤ (if (7 ≤ o ∧ o < 10) ∨ 15 ≤ o then (0 : Int) else -1) ∧ (if (7 ≤ o ∧ o < 10) ∨ 15 ≤ o then (0 : Int) else -1) ≤ vhi 0 o := by decide +kernel
theorem vb_0 {k : Nat} (ha : 0 ≤ ah) : VB ah (rs1 b lim k t r).1 (rs1 b lim k t r).2 (k * 21) := by
  have g0 := pkv_le (b := b) (t := t) 0 6 rfl
  have g1 := pkv_le (b := b) (t := cho b lim t 0) 1 2 rfl
  have g2 : -1 ≤ rsK b t ∧ rsK b t ≤ 7 := by unfold rsK; split <;> omega
  refine vb_u (vb_u (fun _ o ho => ?_) 0 rfl (fun _ => by show (-1 : Int) ≤ _ ∧ _ ≤ (7 : Int); omega)) 1 rfl (fun _ => by show (-1 : Int) ≤ _ ∧ _ ≤ (2 : Int); omega)
  rw [rs0_v ho]
  by_cases c6 : o = 6
  · subst c6
    show (-1 : Int) ≤ -1 ∧ (-1 : Int) ≤ ah - 1
    omega
  · rw [show vhi ah o = vhi 0 o by unfold vhi; simp only [if_neg c6]]
    exact vb_tab o ho c6
theorem vb_y {k : Nat} (hk : k ≤ 11) (ha : 0 ≤ ah) (hr : ∀ q : Nat, q < k → -1 ≤ r (q * 21 + 1) ∧ r (q * 21 + 1) ≤ 2) : VB ah (rsy b lim k ah t r).1 (rsy b lim k ah t r).2 (k * 21) := by
  have e1 : VB ah (rs1 b lim k t r).1 (rs1 b lim k t r).2 (k * 21) ∧ ∀ j, j < k * 21 → (rs1 b lim k t r).2 j = r j := by
    refine ⟨vb_0 ha, fun j hj => ?_⟩
    show av_u1 (av_u1 (rs0 k r) (k * 21) (rsK b t)) (k * 21 + 1) _ j = r j
    rw [u1_ne (by omega), u1_ne (by omega), rs0_n (by omega)]
  unfold rsy
  generalize rsK b t = kind
  generalize rs1 b lim k t r = x at e1 ⊢
  have e2 : VB ah (rs2 b lim k kind x).1 (rs2 b lim k kind x).2 (k * 21) ∧ (∀ j, j < k * 21 → (rs2 b lim k kind x).2 j = r j) ∧ (kind = 2 → (rs2 b lim k kind x).1.2.2.2 = -1 → (rs2 b lim k kind x).2 (k * 21 + 3) < k) := by
    unfold rs2
    split
    · next c => exact ⟨vb_O e1.1, fun j hj => (rsO_fr (by omega)).trans (e1.2 j hj), fun h => by omega⟩
    · refine ⟨vb_S e1.1 hk, fun j hj => (rsS_fr (by omega)).trans (e1.2 j hj), fun _ zz => ?_⟩
      have o1 := rsS_o zz
      rw [o1.2.2.2]
      show av_u1 x.2 (k * 21 + 3) (vlv b x.1) (k * 21 + 3) < k
      rw [u1_eq]
      exact o1.2.2.1
  generalize rs2 b lim k kind x = y at e2 ⊢
  have e3 : VB ah (rs3 b lim k ah kind y).1 (rs3 b lim k ah kind y).2 (k * 21) ∧ (∀ j, j < k * 21 → (rs3 b lim k ah kind y).2 j = r j) ∧ (kind = 2 → (rs3 b lim k ah kind y).1.2.2.2 = -1 → (rs3 b lim k ah kind y).2 (k * 21 + 3) < k) := by
    unfold rs3
    split
    · exact ⟨vb_T e2.1, fun j hj => (rsT_fr (by omega)).trans (e2.2.1 j hj), fun h => by omega⟩
    · exact e2
  generalize rs3 b lim k ah kind y = z at e3 ⊢
  have e4 : VB ah (rs4 b lim k kind z).1 (rs4 b lim k kind z).2 (k * 21) := by
    unfold rs4
    split
    · next c =>
      split
      · exact e3.1
      · refine vb_B (vb_t e3.1 (fun z => z)) (fun zz h1 h2 => ?_)
        have h3 := e3.2.2 c zz
        have h4 := e3.2.1 ((z.2 (k * 21 + 3)).toNat * 21 + 1) (by omega)
        have h5 := hr (z.2 (k * 21 + 3)).toNat (by omega)
        rw [h4]
        exact ⟨by omega, h5⟩
    · exact e3.1
  generalize rs4 b lim k kind z = u at e4 ⊢
  unfold rs5
  exact vb_t (vb_M e4) (fun z => sem_o z)
end
end
section
/-! WHAT IS READ IS WELL FORMED: kinds, hands, whom -/
section
variable {b : Nat → Int} {lim row : Nat} {t : TT} {r : Nat → Int}
theorem rsT_in {ah : Int} {j : Nat} (hj : j < row + 5 ∨ row + 15 ≤ j) : (rsT b lim row ah t r).2 j = r j := by
  have w := rsW_in (b := b) (lim := lim) (row := row) (j := j) (by omega) 900 t r
  unfold rsT
  generalize rsW b lim row 900 t r = x at w ⊢
  rw [← w]
  have e1 : (rsT1 b lim row x).2 j = x.2 j := by
    unfold rsT1
    split
    · rfl
    · exact u1_ne (by omega)
  rw [← e1]
  unfold rsT2
  split
  · rfl
  · exact u1_ne (by omega)
theorem rsT_ok {ah : Int} (h : (rsT b lim row ah t r).1.2.2.2 = -1) : t.2.2.2 = -1 := by
  by_cases e : t.2.2.2 = -1
  · exact e
  · rw [rsT_w e] at h
    exact absurd h e
theorem rsP_ok {i : Nat} {most : Int} (h : (rsP b lim row i most t r).1.2.2.2 = -1) : t.2.2.2 = -1 := by
  by_cases e : t.2.2.2 = -1
  · exact e
  · rw [rsP_w e] at h
    exact absurd h e
theorem rsM3_ok {x : TT × (Nat → Int)} (h : (rsM3 b lim row x).1.2.2.2 = -1) : x.1.2.2.2 = -1 := by
  by_cases e : x.1.2.2.2 = -1
  · exact e
  · rw [rsM3_w e] at h
    exact absurd h e
theorem rsM3_in {x : TT × (Nat → Int)} {j : Nat} (hj : j < row + 8) : (rsM3 b lim row x).2 j = x.2 j := by
  unfold rsM3
  have p1 := rsP_in (b := b) (lim := lim) (row := row) (t := cho b lim x.1 9) (r := x.2) (i := 1) (most := 999) (j := j) (by omega) (by omega)
  generalize rsP b lim row 1 999 (cho b lim x.1 9) x.2 = y at p1 ⊢
  rw [← p1]
  have e1 : (rsM1 b lim row y).2 j = y.2 j := by
    unfold rsM1
    split
    · rfl
    · exact rsP_in (by omega) (by omega)
  rw [← e1]
  unfold rsM2
  split
  · rfl
  · exact u1_ne (by omega)
theorem rsM_4 (h : (rsM b lim row t r).1.2.2.2 = -1) : 0 ≤ (rsM b lim row t r).2 (row + 4) := by
  have g1 := pkv_le (b := b) (t := t) 6 3 rfl
  have e0 : (rsM0 b lim row t r).2 (row + 4) = pkv b t 6 := by
    unfold rsM0
    rw [rsP_in (by omega) (by omega)]
    exact u1_eq
  have o0 : (rsM0 b lim row t r).1.2.2.2 = -1 → pkv b t 6 ≠ -1 := fun z => (cho_o (cho_o (rsP_ok z)).1).2.1
  unfold rsM at h ⊢
  split
  · next c =>
    rw [if_pos c] at h
    rw [rsM3_in (by omega), e0]
    have := o0 (rsM3_ok h)
    omega
  · next c =>
    rw [if_neg c] at h
    rw [e0]
    have := o0 h
    omega
theorem rsM_18 : (rsM b lim row t r).2 (row + 18) = r (row + 18) ∨ (rsM b lim row t r).2 (row + 18) = 2 := by
  have e0 : (rsM0 b lim row t r).2 (row + 18) = r (row + 18) := by
    unfold rsM0
    rw [rsP_in (by omega) (by omega)]
    exact u1_ne (by omega)
  have e3 : ∀ x : TT × (Nat → Int), (rsM3 b lim row x).2 (row + 18) = x.2 (row + 18) ∨ (rsM3 b lim row x).2 (row + 18) = 2 := by
    intro x
    unfold rsM3
    have p1 := rsP_in (b := b) (lim := lim) (row := row) (t := cho b lim x.1 9) (r := x.2) (i := 1) (most := 999) (j := row + 18) (by omega) (by omega)
    generalize rsP b lim row 1 999 (cho b lim x.1 9) x.2 = y at p1 ⊢
    rw [← p1]
    have e1 : (rsM1 b lim row y).2 (row + 18) = y.2 (row + 18) := by
      unfold rsM1
      split
      · rfl
      · exact rsP_in (by omega) (by omega)
    rw [← e1]
    unfold rsM2
    split
    · exact Or.inl rfl
    · exact Or.inr u1_eq
  unfold rsM
  split
  · rcases e3 (rsM0 b lim row t r) with z | z
    · exact Or.inl (z.trans e0)
    · exact Or.inr z
  · exact Or.inl e0
theorem rsB_3 : (rsB b lim row t r).2 row = 3 := by
  unfold rsB
  rw [rsW_in (by omega)]
  unfold rsB0
  split
  · exact (u1_ne (by omega)).trans u1_eq
  · exact u1_eq
theorem rsB_1 : (rsB b lim row t r).2 (row + 1) = r (row + 1) := by
  unfold rsB
  rw [rsW_in (by omega)]
  unfold rsB0
  split
  · exact (u1_ne (by omega)).trans (u1_ne (by omega))
  · exact u1_ne (by omega)
theorem rsB_18 : (rsB b lim row t r).2 (row + 18) = r (row + 18) := by
  unfold rsB
  rw [rsW_in (by omega)]
  unfold rsB0
  split
  · exact (u1_ne (by omega)).trans (u1_ne (by omega))
  · exact u1_ne (by omega)
theorem rsB_2 {q : Nat} (e : r (row + 3) = (q : Int)) (hq : q < 12) (hn : q * 21 + 1 ≠ row) : (rsB b lim row t r).2 (row + 2) = r (q * 21 + 1) := by
  unfold rsB
  rw [rsW_in (by omega)]
  unfold rsB0
  rw [u1_ne (show row + 3 ≠ row by omega), e, if_pos (by omega), u1_eq, Int.toNat_natCast, u1_ne hn]
end
/-- of one saying -/
def WRD (k : Nat) (R : Nat → Int) : Prop := 0 ≤ R (k * 21) ∧ 0 ≤ R (k * 21 + 1) ∧ (R (k * 21) < 2 → R (k * 21 + 3) = -1) ∧ ((R (k * 21) = 0 ∨ R (k * 21) = 1 ∨ R (k * 21) = 3) → 0 ≤ R (k * 21 + 2)) ∧ 0 ≤ R (k * 21 + 4) ∧ (R (k * 21 + 18) = 0 ∨ R (k * 21 + 18) = 2)
theorem rsy_wd {b : Nat → Int} {lim k : Nat} {ah : Int} {t : TT} {r : Nat → Int} (hk : k ≤ 11) (hr : ∀ q : Nat, q < k → 0 ≤ r (q * 21 + 1)) (h : (rsy b lim k ah t r).1.2.2.2 = -1) : WRD k (rsy b lim k ah t r).2 := by
  have g0 := pkv_le (b := b) (t := t) 0 6 rfl
  have g1 := pkv_le (b := b) (t := cho b lim t 0) 1 2 rfl
  have e0 : (rs1 b lim k t r).2 (k * 21) = rsK b t := by
    show av_u1 (av_u1 (rs0 k r) (k * 21) (rsK b t)) (k * 21 + 1) _ (k * 21) = _
    rw [u1_ne (by omega), u1_eq]
  have e1 : (rs1 b lim k t r).2 (k * 21 + 1) = pkv b (cho b lim t 0) 1 := by
    show av_u1 (av_u1 (rs0 k r) (k * 21) (rsK b t)) (k * 21 + 1) _ (k * 21 + 1) = _
    exact u1_eq
  have eo : ∀ o, 2 ≤ o → o < 21 → (rs1 b lim k t r).2 (k * 21 + o) = if (7 ≤ o ∧ o < 10) ∨ 15 ≤ o then 0 else -1 := fun o h1 h2 => by
    show av_u1 (av_u1 (rs0 k r) (k * 21) (rsK b t)) (k * 21 + 1) _ (k * 21 + o) = _
    rw [u1_ne (by omega), u1_ne (by omega), rs0_v h2]
  have e3 : (rs1 b lim k t r).2 (k * 21 + 3) = -1 := eo 3 (by omega) (by omega)
  have e18 : (rs1 b lim k t r).2 (k * 21 + 18) = 0 := eo 18 (by omega) (by omega)
  have ej : ∀ j, j < k * 21 → (rs1 b lim k t r).2 j = r j := fun j hj => by
    show av_u1 (av_u1 (rs0 k r) (k * 21) (rsK b t)) (k * 21 + 1) _ j = r j
    rw [u1_ne (by omega), u1_ne (by omega), rs0_n (by omega)]
  have eok : (rs1 b lim k t r).1.2.2.2 = -1 → 0 ≤ rsK b t ∧ 0 ≤ pkv b (cho b lim t 0) 1 := fun z => by
    have z1 := cho_o z
    have z2 := (cho_o z1.1).2.1
    have z3 := z1.2.1
    refine ⟨?_, by omega⟩
    unfold rsK
    split <;> omega
  have k3 : rsK b t ≠ 3 := by
    unfold rsK
    split <;> omega
  clear eo g0 g1
  unfold rsy at h ⊢
  generalize rsK b t = kind at e0 eok k3 h ⊢
  generalize pkv b (cho b lim t 0) 1 = hd at e1 eok
  generalize rs1 b lim k t r = x at e0 e1 e3 e18 ej eok h ⊢
  have o5 : ∀ u : TT × (Nat → Int), (rs5 b lim k u).1.2.2.2 = -1 → u.1.2.2.2 = -1 ∧ 0 ≤ (rs5 b lim k u).2 (k * 21 + 4) := fun u z => ⟨rsM_ok (sem_o z), rsM_4 (sem_o z)⟩
  have i5 : ∀ (u : TT × (Nat → Int)) (j : Nat), j < k * 21 + 4 → (rs5 b lim k u).2 j = u.2 j := fun u j hj => rsM_in hj
  have i18 : ∀ u : TT × (Nat → Int), u.2 (k * 21 + 18) = 0 → (rs5 b lim k u).2 (k * 21 + 18) = 0 ∨ (rs5 b lim k u).2 (k * 21 + 18) = 2 := fun u z => by
    rcases rsM_18 (b := b) (lim := lim) (row := k * 21) (t := u.1) (r := u.2) with y | y
    · exact Or.inl (y.trans z)
    · exact Or.inr y
  have h4 := (o5 _ h).1
  have h44 := (o5 _ h).2
  unfold WRD
  rw [i5 _ (k * 21) (by omega), i5 _ (k * 21 + 1) (by omega), i5 _ (k * 21 + 2) (by omega), i5 _ (k * 21 + 3) (by omega)]
  by_cases c : kind = 0 ∨ kind = 1
  · have e4 : ∀ y, rs4 b lim k kind y = y := fun y => by
      unfold rs4
      rw [if_neg (by omega)]
    rw [e4] at h4 ⊢
    rw [e4] at h44
    have e2 : rs2 b lim k kind x = rsO b lim (k * 21) x.1 x.2 := by
      unfold rs2
      rw [if_pos c]
    rw [e2] at h4 h44 ⊢
    have h2 : (rsO b lim (k * 21) x.1 x.2).1.2.2.2 = -1 := by
      unfold rs3 at h4
      split at h4
      · exact rsT_ok h4
      · exact h4
    have i3 : ∀ j, j < k * 21 + 5 ∨ k * 21 + 15 ≤ j → (rs3 b lim k ah kind (rsO b lim (k * 21) x.1 x.2)).2 j = (rsO b lim (k * 21) x.1 x.2).2 j := fun j hj => by
      unfold rs3
      split
      · exact rsT_in hj
      · rfl
    have r18 := i18 (rs3 b lim k ah kind (rsO b lim (k * 21) x.1 x.2))
    rw [i3 (k * 21 + 18) (by omega)] at r18
    rw [i3 (k * 21) (by omega), i3 (k * 21 + 1) (by omega), i3 (k * 21 + 2) (by omega), i3 (k * 21 + 3) (by omega)]
    have g1 := pkv_le (b := b) (t := x.1) 1 2 rfl
    unfold rsO at h2 r18 h44 ⊢
    split at h2
    · exact absurd (cho_o h2).1 fal_ne
    · next q =>
      have z := cho_o h2
      have ok := eok z.1
      have z2 := z.2.1
      rw [if_neg q] at r18 h44 ⊢
      have f0 : av_u1 x.2 (k * 21 + 2) (pkv b x.1 1) (k * 21) = kind := (u1_ne (by omega)).trans e0
      have f1 : av_u1 x.2 (k * 21 + 2) (pkv b x.1 1) (k * 21 + 1) = hd := (u1_ne (by omega)).trans e1
      have f3 : av_u1 x.2 (k * 21 + 2) (pkv b x.1 1) (k * 21 + 3) = -1 := (u1_ne (by omega)).trans e3
      have f18 : av_u1 x.2 (k * 21 + 2) (pkv b x.1 1) (k * 21 + 18) = 0 := (u1_ne (by omega)).trans e18
      refine ⟨?_, ?_, fun _ => f3, fun _ => ?_, h44, r18 f18⟩
      · show 0 ≤ av_u1 x.2 (k * 21 + 2) (pkv b x.1 1) (k * 21)
        rw [f0]; exact ok.1
      · show 0 ≤ av_u1 x.2 (k * 21 + 2) (pkv b x.1 1) (k * 21 + 1)
        rw [f1]; exact ok.2
      · show 0 ≤ av_u1 x.2 (k * 21 + 2) (pkv b x.1 1) (k * 21 + 2)
        rw [u1_eq]; omega
  · have e3' : rs3 b lim k ah kind (rs2 b lim k kind x) = rs2 b lim k kind x := by
      unfold rs3
      rw [if_neg (by omega)]
    rw [e3'] at h4 h44 ⊢
    have e2 : rs2 b lim k kind x = rsS b lim k kind x.1 x.2 := by
      unfold rs2
      rw [if_neg c]
    rw [e2] at h4 h44 ⊢
    have r4 := rs4_in h4
    have o1 := rsS_o r4.1
    have ok := eok o1.1
    rw [o1.2.2.2] at h4 h44 ⊢
    generalize vlv b x.1 = w at o1 h4 h44 ⊢
    have f0 : av_u1 x.2 (k * 21 + 3) w (k * 21) = kind := (u1_ne (by omega)).trans e0
    have f1 : av_u1 x.2 (k * 21 + 3) w (k * 21 + 1) = hd := (u1_ne (by omega)).trans e1
    have f3 : av_u1 x.2 (k * 21 + 3) w (k * 21 + 3) = w := u1_eq
    have f18 : av_u1 x.2 (k * 21 + 3) w (k * 21 + 18) = 0 := (u1_ne (by omega)).trans e18
    have r18 := i18 (rs4 b lim k kind (adv b lim x.1, av_u1 x.2 (k * 21 + 3) w))
    by_cases d : kind = 2 ∧ ¬ pkv b (adv b lim x.1) 5 = -1
    · have e4 : rs4 b lim k kind (adv b lim x.1, av_u1 x.2 (k * 21 + 3) w) = rsB b lim (k * 21) (adv b lim (adv b lim x.1)) (av_u1 x.2 (k * 21 + 3) w) := by
        unfold rs4
        rw [if_pos d.1, if_neg d.2]
      rw [e4] at h44 r18 ⊢
      rw [rsB_18] at r18
      have b2 := rsB_2 (b := b) (lim := lim) (row := k * 21) (t := adv b lim (adv b lim x.1)) (r := av_u1 x.2 (k * 21 + 3) w) (q := w.toNat) (by rw [f3]; omega) (by omega) (by omega)
      rw [rsB_3, rsB_1, b2, f1, u1_ne (by omega), ej _ (by omega)]
      exact ⟨by omega, ok.2, fun z => by omega, fun _ => hr _ (by omega), h44, r18 f18⟩
    · have e4 : rs4 b lim k kind (adv b lim x.1, av_u1 x.2 (k * 21 + 3) w) = (adv b lim x.1, av_u1 x.2 (k * 21 + 3) w) := by
        unfold rs4
        by_cases d1 : kind = 2
        · have d2 : pkv b (adv b lim x.1) 5 = -1 := Classical.byContradiction (fun z => d ⟨d1, z⟩)
          rw [if_pos d1, if_pos d2]
        · rw [if_neg d1]
      rw [e4] at h44 r18 ⊢
      refine ⟨?_, ?_, fun z => ?_, fun z => ?_, h44, r18 f18⟩
      · show 0 ≤ av_u1 x.2 (k * 21 + 3) w (k * 21)
        rw [f0]; exact ok.1
      · show 0 ≤ av_u1 x.2 (k * 21 + 3) w (k * 21 + 1)
        rw [f1]; exact ok.2
      · have z : av_u1 x.2 (k * 21 + 3) w (k * 21) < 2 := z
        rw [f0] at z
        have := ok.1
        omega
      · have z : av_u1 x.2 (k * 21 + 3) w (k * 21) = 0 ∨ av_u1 x.2 (k * 21 + 3) w (k * 21) = 1 ∨ av_u1 x.2 (k * 21 + 3) w (k * 21) = 3 := z
        rw [f0] at z
        omega
end
