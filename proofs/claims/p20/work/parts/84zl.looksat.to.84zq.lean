section
/-! THE REFERENCE LOOKS AT A CASE BY A LAW, exactly -/
set_option maxRecDepth 100000 in
set_option maxHeartbeats 4000000 in
theorem cx_186 {g h : av_H} {n a m : Int} (I : IMF n a m h) (F : FM g h) {U : Nat → Nat → Int} {S : Nat → Nat} {ro : Nat → Nat → Int} (RX : RXX g U S ro) (x : Int) (qx : -2147483648 ≤ x ∧ x ≤ 2147483647) (l : Int) (ql : -2147483648 ≤ l ∧ l ≤ 2147483647) (y : Int) (qy : -2147483648 ≤ y ∧ y ≤ 2147483647) {Q : Option av_V → av_H → Prop} (hq0 : ∀ n' a' m' h', (x < 0 ∨ hA g 78 0 ≤ x ∨ y < 0 ∨ l < 0 ∨ hA g 79 0 ≤ l ∨ ((0 ≤ x ∧ x < hA g 78 0) ∧ (0 ≤ l ∧ l < hA g 79 0) ∧ cbv (U (Int.toNat x)) (S (Int.toNat x)) ≤ y)) → IMF n' a' m' h' → FM g h' → Q (some (.inl 0)) h') (hq1 : ∀ n' a' m' h', (0 ≤ x ∧ x < hA g 78 0) → (0 ≤ l ∧ l < hA g 79 0) → (0 ≤ y ∧ y < cbv (U (Int.toNat x)) (S (Int.toNat x))) → n' = (S (Int.toNat x) : Int) → m' = cbv (U (Int.toNat x)) (S (Int.toNat x)) → RBA (U (Int.toNat x)) (ro (Int.toNat l)) (bxx U S (ro (Int.toNat l)) (Int.toNat x)) (S (Int.toNat x)) h' → FOI (U (Int.toNat x)) (ro (Int.toNat l)) (arr (U (Int.toNat x)) (ro (Int.toNat l)) (bxx U S (ro (Int.toNat l)) (Int.toNat x)) y) (S (Int.toNat x)) (S (Int.toNat x)) (hA h') → BRR (bgn (U (Int.toNat x)) (ro (Int.toNat l)) (bxx U S (ro (Int.toNat l)) (Int.toNat x)) (S (Int.toNat x)) y) h' → LR (U (Int.toNat x)) (ro (Int.toNat l)) (arr (U (Int.toNat x)) (ro (Int.toNat l)) (bxx U S (ro (Int.toNat l)) (Int.toNat x)) y) (S (Int.toNat x)) (hA h') → IMF n' a' m' h' → FM g h' → Q (some (.inl 1)) h') : av_wp none cd_186 0 [some (.inr (.inr (.inl (some (77))))), some (.inl x), some (.inl l), some (.inl y)] [] h Q := by
  have gn := im_n I.1.1
  rw [I.2.1] at gn
  have ga := im_a I.1.1
  rw [I.2.2.1] at ga
  have gm := im_cm I.1.1
  rw [I.2.2.2] at gm
  have G0 := I.1.1.2.1
  have G16 : 0 ≤ hA g 78 0 ∧ hA g 78 0 ≤ 16 := by rw [← F.2.2.2.2.2.2 78 rfl]; exact G0.2.1
  have G8 : 0 ≤ hA g 79 0 ∧ hA g 79 0 ≤ 8 := by rw [← F.2.2.2.2.2.2 79 rfl]; exact G0.2.2.1
  have G6 : 0 ≤ hA g 80 0 ∧ hA g 80 0 ≤ 6 := by rw [← F.2.2.2.2.2.2 80 rfl]; exact G0.2.2.2.1
  refine av_wp_sqF ck_186 2 (pc' := 2) (lv' := [some (.inr (.inr (.inl (some (77))))), some (.inl x), some (.inl l), some (.inl y)]) (st' := [.inl x, .inr (.inr (.inl (some (77))))]) (h' := h) rfl ?_
  refine wq_cv (p' := 5) (av_qc (.invokevirtual 299) 149 1 0 8) 2 cd_149 [.inl x] (77) 8 [some (.inr (.inr (.inl (some (77))))), some (.inl x)] (ck_186 _ _ rfl) rfl rfl pp_149 rfl rfl rfl (congrArg Prod.fst (ly_k I.1.1.1 77 rfl)) rfl rfl rfl rfl ?_
  refine cx_149 I.1 (x) (by omega) (fun v1 p2 => ?_)
  have g3 := congrFun (F.2.2.2.2.2.2 78 rfl) 0
  show av_wp _ cd_186 5 [some (.inr (.inr (.inl (some (77))))), some (.inl x), some (.inl l), some (.inl y)] [.inl v1] h _
  refine wq_k1 (p' := 8) (ck_186 _ _ rfl) rfl ⟨by omega, by omega⟩ (fun c4 => ?_) (fun c5 => ?_)
  · have c4 : v1 = (0) := c4
    refine av_wp_sqF ck_186 1 (pc' := 21) (lv' := [some (.inr (.inr (.inl (some (77))))), some (.inl x), some (.inl l), some (.inl y)]) (st' := [.inl (0)]) (h' := h) rfl ?_
    refine av_wp_ret (v := some (.inl (0))) (ck_186 _ _ rfl) rfl rfl ?_
    exact hq0 _ _ _ h (by omega) I F
  · have c5 : v1 ≠ (0) := c5
    refine av_wp_sqF ck_186 2 (pc' := 10) (lv' := [some (.inr (.inr (.inl (some (77))))), some (.inl x), some (.inl l), some (.inl y)]) (st' := [.inl l, .inr (.inr (.inl (some (77))))]) (h' := h) rfl ?_
    refine wq_cv (p' := 13) (av_qc (.invokevirtual 345) 150 1 0 8) 2 cd_150 [.inl l] (77) 8 [some (.inr (.inr (.inl (some (77))))), some (.inl l)] (ck_186 _ _ rfl) rfl rfl pp_150 rfl rfl rfl (congrArg Prod.fst (ly_k I.1.1.1 77 rfl)) rfl rfl rfl rfl ?_
    refine cx_150 I.1 (l) (by omega) (fun v6 p7 => ?_)
    have g8 := congrFun (F.2.2.2.2.2.2 79 rfl) 0
    show av_wp _ cd_186 13 [some (.inr (.inr (.inl (some (77))))), some (.inl x), some (.inl l), some (.inl y)] [.inl v6] h _
    refine wq_k1 (p' := 16) (ck_186 _ _ rfl) rfl ⟨by omega, by omega⟩ (fun c9 => ?_) (fun c10 => ?_)
    · have c9 : v6 = (0) := c9
      refine av_wp_sqF ck_186 1 (pc' := 21) (lv' := [some (.inr (.inr (.inl (some (77))))), some (.inl x), some (.inl l), some (.inl y)]) (st' := [.inl (0)]) (h' := h) rfl ?_
      refine av_wp_ret (v := some (.inl (0))) (ck_186 _ _ rfl) rfl rfl ?_
      exact hq0 _ _ _ h (by omega) I F
    · have c10 : v6 ≠ (0) := c10
      refine av_wp_sqF ck_186 1 (pc' := 17) (lv' := [some (.inr (.inr (.inl (some (77))))), some (.inl x), some (.inl l), some (.inl y)]) (st' := [.inl y]) (h' := h) rfl ?_
      refine wq_k1 (p' := 20) (ck_186 _ _ rfl) rfl ⟨by omega, by omega⟩ (fun c11 => ?_) (fun c12 => ?_)
      · have c11 : (0) ≤ y := c11
        refine av_wp_sqF ck_186 3 (pc' := 25) (lv' := [some (.inr (.inr (.inl (some (77))))), some (.inl x), some (.inl l), some (.inl y)]) (st' := [.inl (0), .inl l, .inr (.inr (.inl (some (77))))]) (h' := h) rfl ?_
        refine wq_cv (p' := 28) (av_qc (.invokevirtual 348) 159 2 0 8) 5 cd_159 [.inl (0), .inl l] (77) 8 [some (.inr (.inr (.inl (some (77))))), some (.inl l), some (.inl (0)), none, none] (ck_186 _ _ rfl) rfl rfl pp_159 rfl rfl rfl (congrArg Prod.fst (ly_k I.1.1.1 77 rfl)) rfl rfl rfl rfl ?_
        refine cy_159 I F G8 G6 RX (l) (by omega) (fun h13 I14 F15 y16 Z17 => ?_)
        show av_wp _ cd_186 28 [some (.inr (.inr (.inl (some (77))))), some (.inl x), some (.inl l), some (.inl y)] [] h13 _
        refine av_wp_sqF ck_186 2 (pc' := 30) (lv' := [some (.inr (.inr (.inl (some (77))))), some (.inl x), some (.inl l), some (.inl y)]) (st' := [.inl x, .inr (.inr (.inl (some (77))))]) (h' := h13) rfl ?_
        refine wq_cv (p' := 33) (av_qc (.invokevirtual 440) 185 1 0 8) 4 cd_185 [.inl x] (77) 8 [some (.inr (.inr (.inl (some (77))))), some (.inl x), none, none] (ck_186 _ _ rfl) rfl rfl pp_185 rfl rfl rfl (congrArg Prod.fst (ly_k I14.1.1.1 77 rfl)) rfl rfl rfl rfl ?_
        refine cy_185 I14 F15 RX (by omega) (x) (by omega) (l) (by omega) y16 (fun n18 a19 m20 h21 e22 e23 A24 I25 F26 => ?_)
        have d27 := cbv_d (U (Int.toNat (x))) (S (Int.toNat (x)))
        rw [← e23] at d27
        have g28 := im_n I25.1.1
        rw [I25.2.1] at g28
        have g29 := im_a I25.1.1
        rw [I25.2.2.1] at g29
        have g30 := im_cm I25.1.1
        rw [I25.2.2.2] at g30
        show av_wp _ cd_186 33 [some (.inr (.inr (.inl (some (77))))), some (.inl x), some (.inl l), some (.inl y)] [] h21 _
        refine av_wp_sqF ck_186 1 (pc' := 34) (lv' := [some (.inr (.inr (.inl (some (77))))), some (.inl x), some (.inl l), some (.inl y)]) (st' := [.inr (.inr (.inl (some (77))))]) (h' := h21) rfl ?_
        refine wq_cv (p' := 37) (av_qc (.invokevirtual 427) 164 0 0 8) 1 cd_164 [] (77) 8 [some (.inr (.inr (.inl (some (77)))))] (ck_186 _ _ rfl) rfl rfl pp_164 rfl rfl rfl (congrArg Prod.fst (ly_k I25.1.1.1 77 rfl)) rfl rfl rfl rfl ?_
        refine ct_164 I25 F26 (fun v31 p32 => ?_)
        show av_wp _ cd_186 37 [some (.inr (.inr (.inl (some (77))))), some (.inl x), some (.inl l), some (.inl y)] [.inl v31] h21 _
        refine wq_k1 (p' := 40) (ck_186 _ _ rfl) rfl ⟨by omega, by omega⟩ (fun c33 => ?_) (fun c34 => ?_)
        · have c33 : v31 = (0) := c33
          refine av_wp_sqF ck_186 1 (pc' := 49) (lv' := [some (.inr (.inr (.inl (some (77))))), some (.inl x), some (.inl l), some (.inl y)]) (st' := [.inl (0)]) (h' := h21) rfl ?_
          refine av_wp_ret (v := some (.inl (0))) (ck_186 _ _ rfl) rfl rfl ?_
          exact hq0 _ _ _ h21 (by omega) I25 F26
        · have c34 : v31 ≠ (0) := c34
          refine av_wp_sqF ck_186 2 (pc' := 42) (lv' := [some (.inr (.inr (.inl (some (77))))), some (.inl x), some (.inl l), some (.inl y)]) (st' := [.inr (.inr (.inl (some (77)))), .inl y]) (h' := h21) rfl ?_
          refine wq_gi (p' := 45) (ck_186 _ _ rfl) rfl (congrArg Prod.fst (ly_k I25.1.1.1 77 rfl)) rfl (I25.2.2.2) ?_
          refine wq_k2 (p' := 48) (ck_186 _ _ rfl) rfl ⟨by omega, by omega⟩ ⟨by omega, by omega⟩ (fun c35 => ?_) (fun c36 => ?_)
          · have c35 : y < m20 := c35
            refine av_wp_sqF ck_186 2 (pc' := 52) (lv' := [some (.inr (.inr (.inl (some (77))))), some (.inl x), some (.inl l), some (.inl y)]) (st' := [.inl y, .inr (.inr (.inl (some (77))))]) (h' := h21) rfl ?_
            refine wq_cv (p' := 55) (av_qc (.invokevirtual 431) 181 1 0 8) 2 cd_181 [.inl y] (77) 8 [some (.inr (.inr (.inl (some (77))))), some (.inl y)] (ck_186 _ _ rfl) rfl rfl pp_181 rfl rfl rfl (congrArg Prod.fst (ly_k I25.1.1.1 77 rfl)) rfl rfl rfl rfl ?_
            refine cy_181 I25 F26 e22 A24 (RX.2.1 (Int.toNat (x)) (Int.toNat (l)) (by omega) (by omega)) (y) (by omega) (fun h37 I38 F39 Z40 A41 O42 B43 L44 => ?_)
            show av_wp _ cd_186 55 [some (.inr (.inr (.inl (some (77))))), some (.inl x), some (.inl l), some (.inl y)] [] h37 _
            refine av_wp_sqF ck_186 1 (pc' := 56) (lv' := [some (.inr (.inr (.inl (some (77))))), some (.inl x), some (.inl l), some (.inl y)]) (st' := [.inl (1)]) (h' := h37) rfl ?_
            refine av_wp_ret (v := some (.inl (1))) (ck_186 _ _ rfl) rfl rfl ?_
            exact hq1 _ _ _ h37 (by omega) (by omega) (by omega) e22 (by omega) A41 O42 B43 L44 I38 F39
          · have c36 : m20 ≤ y := c36
            refine av_wp_sqF ck_186 1 (pc' := 49) (lv' := [some (.inr (.inr (.inl (some (77))))), some (.inl x), some (.inl l), some (.inl y)]) (st' := [.inl (0)]) (h' := h21) rfl ?_
            refine av_wp_ret (v := some (.inl (0))) (ck_186 _ _ rfl) rfl rfl ?_
            exact hq0 _ _ _ h21 (by omega) I25 F26
      · have c12 : y < (0) := c12
        refine av_wp_sqF ck_186 1 (pc' := 21) (lv' := [some (.inr (.inr (.inl (some (77))))), some (.inl x), some (.inl l), some (.inl y)]) (st' := [.inl (0)]) (h' := h) rfl ?_
        refine av_wp_ret (v := some (.inl (0))) (ck_186 _ _ rfl) rfl rfl ?_
        exact hq0 _ _ _ h (by omega) I F
end
section
/-! WHAT THE LOOKS ANSWER -/
/-- there is such a case, law and combo -/
def okx (U : Nat → Nat → Int) (S : Nat → Nat) (n L k l x : Int) : Prop := (0 ≤ k ∧ k < n) ∧ (0 ≤ l ∧ l < L) ∧ (0 ≤ x ∧ x < cbv (U (Int.toNat k)) (S (Int.toNat k)))
def RSP (ok : Prop) (d e v : Int) : Prop := (ok ∧ v = e) ∨ (¬ ok ∧ v = d)
theorem RSP_u {ok : Prop} {d e v w : Int} (x : RSP ok d e v) (y : RSP ok d e w) : v = w := by
  rcases x with x | x <;> rcases y with y | y
  · exact x.2.trans y.2.symm
  · exact absurd x.1 y.1
  · exact absurd y.1 x.1
  · exact x.2.trans y.2.symm
/-- the bargain of case k by law l in combo x -/
noncomputable def bgx (U : Nat → Nat → Int) (S : Nat → Nat) (ro : Nat → Nat → Int) (k l x : Int) : T3 := bgn (U (Int.toNat k)) (ro (Int.toNat l)) (bxx U S (ro (Int.toNat l)) (Int.toNat k)) (S (Int.toNat k)) x
/-- judge -/
def jdv (b t y z : Int) : Int := if y = -2 then (if t = 9999 then -1 else 0) else if t = 9999 then 0 else if y ≠ b then 1 else if z = t then -1 else 2
/-- open -/
noncomputable def opx (u ro bar : Nat → Int) (s : Nat) (x : Int) (k : Nat) (w : Int) : Int := if w = 0 then o5 ro (arr u ro bar x) k else if w = 1 then (eav u ro (arr u ro bar x) s k s).1 else (eav u ro (arr u ro bar x) s k s).2.1
end
section
/-! JUDGE, exactly -/
set_option maxRecDepth 100000 in
set_option maxHeartbeats 4000000 in
theorem cx_112 {h : av_H} {U : Nat → Nat → Int} {S : Nat → Nat} {n : Int} {sr nd : Nat → Int} (C : CJ U S n sr nd h) (k : Int) (qk : -2147483648 ≤ k ∧ k ≤ 2147483647) (l : Int) (ql : -2147483648 ≤ l ∧ l ≤ 2147483647) (x : Int) (qx : -2147483648 ≤ x ∧ x ≤ 2147483647) (y : Int) (qy : -2147483648 ≤ y ∧ y ≤ 2147483647) (z : Int) (qz : -2147483648 ≤ z ∧ z ≤ 2147483647) (CR : CRT U S n (hF h 3 4) (fun k => hA h (6 + k))) (SU : SUA U S n (hF h 3 4) (fun k => hA h (6 + k)) sr) {Q : Option av_V → av_H → Prop} (hq : ∀ (v : Int) h' sr' nd', CJ U S n sr' nd' h' → FP 35 h h' → SUA U S n (hF h 3 4) (fun k => hA h (6 + k)) sr' → RSP (okx U S n (hF h 3 4) k l x) (-2) (jdv (bgx U S (fun k => hA h (6 + k)) k l x).1 (bgx U S (fun k => hA h (6 + k)) k l x).2.2 y z) v → Q (some (.inl v)) h') : av_wp none cd_112 0 [some (.inr (.inr (.inl (some (0))))), some (.inl k), some (.inl l), some (.inl x), some (.inl y), some (.inl z), none, none] [] h Q := by
  have F := FP_rf 35 h
  have nr := C.2.1.2.1
  refine av_wp_sqF ck_112 1 (pc' := 1) (lv' := [some (.inr (.inr (.inl (some (0))))), some (.inl k), some (.inl l), some (.inl x), some (.inl y), some (.inl z), none, none]) (st' := [.inr (.inr (.inl (some (0))))]) (h' := h) rfl ?_
  refine wq_gr (p' := 4) (ck_112 _ _ rfl) rfl (congrArg Prod.fst (ly_k C.1.1 0 rfl)) rfl (ly_g C.1.1 0 5 26 rfl) ?_
  refine av_wp_sqF ck_112 3 (pc' := 7) (lv' := [some (.inr (.inr (.inl (some (0))))), some (.inl k), some (.inl l), some (.inl x), some (.inl y), some (.inl z), none, none]) (st' := [.inl x, .inl l, .inl k, .inr (.inr (.inl (some (26))))]) (h' := h) rfl ?_
  refine wq_cv (p' := 10) (av_qc (.invokevirtual 160) 48 3 0 3) 5 cd_48 [.inl x, .inl l, .inl k] (26) 3 [some (.inr (.inr (.inl (some (26))))), some (.inl k), some (.inl l), some (.inl x), none] (ck_112 _ _ rfl) rfl rfl pp_48 rfl rfl rfl (congrArg Prod.fst (ly_k C.1.1 26 rfl)) rfl rfl rfl rfl ?_
  refine cz_48 C (k) (by omega) (l) (by omega) (x) (by omega) CR SU (fun z1 => ?_) (fun z1 z2 z3 h4 r5 n6 t7 c8 a9 m10 m11 m12 C13 F14 U15 E16 Z17 T18 D19 B20 R21 => ?_)
  · show av_wp _ cd_112 10 [some (.inr (.inr (.inl (some (0))))), some (.inl k), some (.inl l), some (.inl x), some (.inl y), some (.inl z), none, none] [.inl (0)] h _
    refine av_wp_sqF ck_112 2 (pc' := 15) (lv' := [some (.inr (.inr (.inl (some (0))))), some (.inl k), some (.inl l), some (.inl x), some (.inl y), some (.inl z), none, none]) (st' := [.inl (-2)]) (h' := h) rfl ?_
    refine av_wp_ret (v := some (.inl (-2))) (ck_112 _ _ rfl) rfl rfl ?_
    exact hq _ h _ _ C F SU (Or.inr ⟨by unfold okx; omega, rfl⟩)
  · have g22 : (-1 ≤ m10 ∧ m10 ≤ 11) ∧ (-1 ≤ m11 ∧ m11 ≤ 11) ∧ (-1 ≤ m12 ∧ m12 ≤ 9999) := R21
    have g23 := co_s12 (ib_co E16.1)
    show av_wp _ cd_112 10 [some (.inr (.inr (.inl (some (0))))), some (.inl k), some (.inl l), some (.inl x), some (.inl y), some (.inl z), none, none] [.inl (1)] h4 _
    refine av_wp_sqF ck_112 2 (pc' := 17) (lv' := [some (.inr (.inr (.inl (some (0))))), some (.inl k), some (.inl l), some (.inl x), some (.inl y), some (.inl z), none, none]) (st' := [.inr (.inr (.inl (some (0))))]) (h' := h4) rfl ?_
    refine wq_gr (p' := 20) (ck_112 _ _ rfl) rfl (congrArg Prod.fst (ly_k C13.1.1 0 rfl)) rfl (ly_g C13.1.1 0 5 26 rfl) ?_
    refine wq_gr (p' := 23) (ck_112 _ _ rfl) rfl (congrArg Prod.fst (ly_k C13.1.1 26 rfl)) rfl (ly_g C13.1.1 26 1 35 rfl) ?_
    refine av_wp_sqF ck_112 3 (pc' := 29) (lv' := [some (.inr (.inr (.inl (some (0))))), some (.inl k), some (.inl l), some (.inl x), some (.inl y), some (.inl z), some (.inr (.inr (.inl (some (35))))), none]) (st' := [.inl (-2), .inl y]) (h' := h4) rfl ?_
    refine wq_k2 (p' := 32) (ck_112 _ _ rfl) rfl ⟨by omega, by omega⟩ ⟨by omega, by omega⟩ (fun c24 => ?_) (fun c25 => ?_)
    · have c24 : y = (-2) := c24
      refine av_wp_sqF ck_112 4 (pc' := 43) (lv' := [some (.inr (.inr (.inl (some (0))))), some (.inl k), some (.inl l), some (.inl x), some (.inl y), some (.inl z), some (.inr (.inr (.inl (some (35))))), some (.inl (0))]) (st' := [.inr (.inr (.inl (some (35)))), .inl (0)]) (h' := h4) rfl ?_
      refine wq_cv (p' := 46) (av_qc (.invokevirtual 168) 3 0 0 0) 1 cd_3 [] (35) 0 [some (.inr (.inr (.inl (some (35)))))] (ck_112 _ _ rfl) rfl rfl pp_3 rfl rfl rfl (congrArg Prod.fst (bn_k0 C13.1.1 (Or.inl rfl))) rfl rfl rfl rfl ?_
      refine cx_3 E16 (FN_rf 35 h4) (by omega) (fun v26 p27 => ?_)
      show av_wp _ cd_112 46 [some (.inr (.inr (.inl (some (0))))), some (.inl k), some (.inl l), some (.inl x), some (.inl y), some (.inl z), some (.inr (.inr (.inl (some (35))))), some (.inl (0))] [.inl v26, .inl (0)] h4 _
      refine wq_k2 (p' := 49) (ck_112 _ _ rfl) rfl ⟨by omega, by omega⟩ ⟨by omega, by omega⟩ (fun c28 => ?_) (fun c29 => ?_)
      · have c28 : (0) = v26 := c28
        refine av_wp_sqF ck_112 3 (pc' := 57) (lv' := [some (.inr (.inr (.inl (some (0))))), some (.inl k), some (.inl l), some (.inl x), some (.inl y), some (.inl z), some (.inr (.inr (.inl (some (35))))), some (.inl (0))]) (st' := [.inl (-1)]) (h' := h4) rfl ?_
        refine av_wp_ret (v := some (.inl (-1))) (ck_112 _ _ rfl) rfl rfl ?_
        exact hq _ h4 _ _ C13 F14 U15 (Or.inl ⟨by unfold okx; omega, by rw [show bgx U S (fun k => hA h (6 + k)) k l x = _ from B20]; show _ = jdv m10 m12 y z; unfold jdv; (repeat' split) <;> omega⟩)
      · have c29 : (0) ≠ v26 := c29
        refine av_wp_sqF ck_112 1 (pc' := 50) (lv' := [some (.inr (.inr (.inl (some (0))))), some (.inl k), some (.inl l), some (.inl x), some (.inl y), some (.inl z), some (.inr (.inr (.inl (some (35))))), some (.inl (0))]) (st' := [.inl (0)]) (h' := h4) rfl ?_
        refine av_wp_ret (v := some (.inl (0))) (ck_112 _ _ rfl) rfl rfl ?_
        exact hq _ h4 _ _ C13 F14 U15 (Or.inl ⟨by unfold okx; omega, by rw [show bgx U S (fun k => hA h (6 + k)) k l x = _ from B20]; show _ = jdv m10 m12 y z; unfold jdv; (repeat' split) <;> omega⟩)
    · have c25 : y ≠ (-2) := c25
      refine av_wp_sqF ck_112 5 (pc' := 43) (lv' := [some (.inr (.inr (.inl (some (0))))), some (.inl k), some (.inl l), some (.inl x), some (.inl y), some (.inl z), some (.inr (.inr (.inl (some (35))))), some (.inl (1))]) (st' := [.inr (.inr (.inl (some (35)))), .inl (1)]) (h' := h4) rfl ?_
      refine wq_cv (p' := 46) (av_qc (.invokevirtual 168) 3 0 0 0) 1 cd_3 [] (35) 0 [some (.inr (.inr (.inl (some (35)))))] (ck_112 _ _ rfl) rfl rfl pp_3 rfl rfl rfl (congrArg Prod.fst (bn_k0 C13.1.1 (Or.inl rfl))) rfl rfl rfl rfl ?_
      refine cx_3 E16 (FN_rf 35 h4) (by omega) (fun v30 p31 => ?_)
      show av_wp _ cd_112 46 [some (.inr (.inr (.inl (some (0))))), some (.inl k), some (.inl l), some (.inl x), some (.inl y), some (.inl z), some (.inr (.inr (.inl (some (35))))), some (.inl (1))] [.inl v30, .inl (1)] h4 _
      refine wq_k2 (p' := 49) (ck_112 _ _ rfl) rfl ⟨by omega, by omega⟩ ⟨by omega, by omega⟩ (fun c32 => ?_) (fun c33 => ?_)
      · have c32 : (1) = v30 := c32
        refine av_wp_sqF ck_112 4 (pc' := 62) (lv' := [some (.inr (.inr (.inl (some (0))))), some (.inl k), some (.inl l), some (.inl x), some (.inl y), some (.inl z), some (.inr (.inr (.inl (some (35))))), some (.inl (1))]) (st' := [.inr (.inr (.inl (some (35)))), .inl y]) (h' := h4) rfl ?_
        refine wq_gi (p' := 65) (ck_112 _ _ rfl) rfl (congrArg Prod.fst (bn_k0 C13.1.1 (Or.inl rfl))) rfl (E16.2.2.2.2.1) ?_
        refine wq_k2 (p' := 68) (ck_112 _ _ rfl) rfl ⟨by omega, by omega⟩ ⟨by omega, by omega⟩ (fun c34 => ?_) (fun c35 => ?_)
        · have c34 : y = m10 := c34
          refine av_wp_sqF ck_112 2 (pc' := 74) (lv' := [some (.inr (.inr (.inl (some (0))))), some (.inl k), some (.inl l), some (.inl x), some (.inl y), some (.inl z), some (.inr (.inr (.inl (some (35))))), some (.inl (1))]) (st' := [.inr (.inr (.inl (some (35)))), .inl z]) (h' := h4) rfl ?_
          refine wq_gi (p' := 77) (ck_112 _ _ rfl) rfl (congrArg Prod.fst (bn_k0 C13.1.1 (Or.inl rfl))) rfl (E16.2.2.2.2.2.2) ?_
          refine wq_k2 (p' := 80) (ck_112 _ _ rfl) rfl ⟨by omega, by omega⟩ ⟨by omega, by omega⟩ (fun c36 => ?_) (fun c37 => ?_)
          · have c36 : z ≠ m12 := c36
            refine av_wp_sqF ck_112 1 (pc' := 85) (lv' := [some (.inr (.inr (.inl (some (0))))), some (.inl k), some (.inl l), some (.inl x), some (.inl y), some (.inl z), some (.inr (.inr (.inl (some (35))))), some (.inl (1))]) (st' := [.inl (2)]) (h' := h4) rfl ?_
            refine av_wp_ret (v := some (.inl (2))) (ck_112 _ _ rfl) rfl rfl ?_
            exact hq _ h4 _ _ C13 F14 U15 (Or.inl ⟨by unfold okx; omega, by rw [show bgx U S (fun k => hA h (6 + k)) k l x = _ from B20]; show _ = jdv m10 m12 y z; unfold jdv; (repeat' split) <;> omega⟩)
          · have c37 : z = m12 := c37
            refine av_wp_sqF ck_112 2 (pc' := 85) (lv' := [some (.inr (.inr (.inl (some (0))))), some (.inl k), some (.inl l), some (.inl x), some (.inl y), some (.inl z), some (.inr (.inr (.inl (some (35))))), some (.inl (1))]) (st' := [.inl (-1)]) (h' := h4) rfl ?_
            refine av_wp_ret (v := some (.inl (-1))) (ck_112 _ _ rfl) rfl rfl ?_
            exact hq _ h4 _ _ C13 F14 U15 (Or.inl ⟨by unfold okx; omega, by rw [show bgx U S (fun k => hA h (6 + k)) k l x = _ from B20]; show _ = jdv m10 m12 y z; unfold jdv; (repeat' split) <;> omega⟩)
        · have c35 : y ≠ m10 := c35
          refine av_wp_sqF ck_112 1 (pc' := 69) (lv' := [some (.inr (.inr (.inl (some (0))))), some (.inl k), some (.inl l), some (.inl x), some (.inl y), some (.inl z), some (.inr (.inr (.inl (some (35))))), some (.inl (1))]) (st' := [.inl (1)]) (h' := h4) rfl ?_
          refine av_wp_ret (v := some (.inl (1))) (ck_112 _ _ rfl) rfl rfl ?_
          exact hq _ h4 _ _ C13 F14 U15 (Or.inl ⟨by unfold okx; omega, by rw [show bgx U S (fun k => hA h (6 + k)) k l x = _ from B20]; show _ = jdv m10 m12 y z; unfold jdv; (repeat' split) <;> omega⟩)
      · have c33 : (1) ≠ v30 := c33
        refine av_wp_sqF ck_112 1 (pc' := 50) (lv' := [some (.inr (.inr (.inl (some (0))))), some (.inl k), some (.inl l), some (.inl x), some (.inl y), some (.inl z), some (.inr (.inr (.inl (some (35))))), some (.inl (1))]) (st' := [.inl (0)]) (h' := h4) rfl ?_
        refine av_wp_ret (v := some (.inl (0))) (ck_112 _ _ rfl) rfl rfl ?_
        exact hq _ h4 _ _ C13 F14 U15 (Or.inl ⟨by unfold okx; omega, by rw [show bgx U S (fun k => hA h (6 + k)) k l x = _ from B20]; show _ = jdv m10 m12 y z; unfold jdv; (repeat' split) <;> omega⟩)
end
section
/-! OPEN, exactly -/
set_option maxRecDepth 100000 in
set_option maxHeartbeats 4000000 in
theorem cx_15 {g h : av_H} {b t c s r : Nat} {cb : Int} {u ro : Nat → Int} {a : Nat → Nat → Int} {mb mo ma : Int} (E : EB b t c s r cb u ro a mb mo ma h) (F : FN b g h) (k : Int) (qk : -2147483648 ≤ k ∧ k ≤ 2147483647) (b2 : ∀ q, q < s → 0 ≤ a 2 q ∧ a 2 q ≤ 1) {Q : Option av_V → av_H → Prop} (hq : ∀ v : Int, ((v = 1 ∧ (0 ≤ k ∧ k < (s : Int)) ∧ a 2 (Int.toNat k) = 1) ∨ (v = 0 ∧ ((k < 0 ∨ (s : Int) ≤ k) ∨ a 2 (Int.toNat k) = 0))) → Q (some (.inl v)) h) : av_wp none cd_15 0 [some (.inr (.inr (.inl (some (b))))), some (.inl k)] [] h Q := by
  have s12 := co_s12 (ib_co E.1)
  have cbr := co_cbr (ib_co E.1)
  have mbr := eb_xr E
  have mor := eb_yr E
  refine av_wp_sqF ck_15 1 (pc' := 1) (lv' := [some (.inr (.inr (.inl (some (b))))), some (.inl k)]) (st' := [.inr (.inr (.inl (some (b))))]) (h' := h) rfl ?_
  refine wq_gr (p' := 4) (ck_15 _ _ rfl) rfl (congrArg Prod.fst (ib_k0 E.1)) rfl (ib_t E.1) ?_
  refine av_wp_sqF ck_15 1 (pc' := 5) (lv' := [some (.inr (.inr (.inl (some (b))))), some (.inl k)]) (st' := [.inl k, .inr (.inr (.inl (some (t))))]) (h' := h) rfl ?_
  refine wq_cv (p' := 8) (av_qc (.invokevirtual 136) 28 1 0 1) 2 cd_28 [.inl k] (t) 1 [some (.inr (.inr (.inl (some (t))))), some (.inl k)] (ck_15 _ _ rfl) rfl rfl pp_28 rfl rfl rfl (congrArg Prod.fst (co_kt (ib_co E.1))) rfl rfl rfl rfl ?_
  refine ct_28 (ib_co E.1) (k) (by omega) (fun v1 p2 => ?_)
  show av_wp _ cd_15 8 [some (.inr (.inr (.inl (some (b))))), some (.inl k)] [.inl v1] h _
  refine wq_k1 (p' := 11) (ck_15 _ _ rfl) rfl ⟨by omega, by omega⟩ (fun c3 => ?_) (fun c4 => ?_)
  · have c3 : v1 = (0) := c3
    refine av_wp_sqF ck_15 1 (pc' := 25) (lv' := [some (.inr (.inr (.inl (some (b))))), some (.inl k)]) (st' := [.inl (0)]) (h' := h) rfl ?_
    refine av_wp_ret (v := some (.inl (0))) (ck_15 _ _ rfl) rfl rfl ?_
    exact hq _ (Or.inr ⟨rfl, Or.inl (by omega)⟩)
  · have c4 : v1 ≠ (0) := c4
    refine av_wp_sqF ck_15 1 (pc' := 12) (lv' := [some (.inr (.inr (.inl (some (b))))), some (.inl k)]) (st' := [.inr (.inr (.inl (some (b))))]) (h' := h) rfl ?_
    refine wq_gr (p' := 15) (ck_15 _ _ rfl) rfl (congrArg Prod.fst (ib_k0 E.1)) rfl (ib_g E.1 2 rfl) ?_
    refine av_wp_sqF ck_15 1 (pc' := 16) (lv' := [some (.inr (.inr (.inl (some (b))))), some (.inl k)]) (st' := [.inl k, .inr (.inr (.inl (some (b + 1 + 2))))]) (h' := h) rfl ?_
    obtain ⟨v6, e7⟩ : ∃ v, a 2 (Int.toNat (k)) = v := ⟨_, rfl⟩
    have g8 := b2 (Int.toNat (k)) (by omega)
    rw [e7] at g8
    refine wq_bl (p' := 17) (n := 12) (ck_15 _ _ rfl) rfl ((Or.inr (ib_k E.1 2 rfl))) (by omega) ((congrFun (eb_a E 2 rfl) _).trans e7) ?_
    refine wq_k1 (p' := 20) (ck_15 _ _ rfl) rfl ⟨by omega, by omega⟩ (fun c9 => ?_) (fun c10 => ?_)
    · have c9 : v6 = (0) := c9
      refine av_wp_sqF ck_15 1 (pc' := 25) (lv' := [some (.inr (.inr (.inl (some (b))))), some (.inl k)]) (st' := [.inl (0)]) (h' := h) rfl ?_
      refine av_wp_ret (v := some (.inl (0))) (ck_15 _ _ rfl) rfl rfl ?_
      exact hq _ (Or.inr ⟨rfl, Or.inr (by rw [e7]; omega)⟩)
    · have c10 : v6 ≠ (0) := c10
      refine av_wp_sqF ck_15 2 (pc' := 25) (lv' := [some (.inr (.inr (.inl (some (b))))), some (.inl k)]) (st' := [.inl (1)]) (h' := h) rfl ?_
      refine av_wp_ret (v := some (.inl (1))) (ck_15 _ _ rfl) rfl rfl ?_
      exact hq _ (Or.inl ⟨rfl, by omega, by rw [e7]; omega⟩)

set_option maxRecDepth 100000 in
set_option maxHeartbeats 4000000 in
theorem cx_107 {h : av_H} {U : Nat → Nat → Int} {S : Nat → Nat} {n : Int} {sr nd : Nat → Int} (C : CJ U S n sr nd h) (k : Int) (qk : -2147483648 ≤ k ∧ k ≤ 2147483647) (l : Int) (ql : -2147483648 ≤ l ∧ l ≤ 2147483647) (x : Int) (qx : -2147483648 ≤ x ∧ x ≤ 2147483647) (q : Int) (qq : -2147483648 ≤ q ∧ q ≤ 2147483647) (w : Int) (qw : -2147483648 ≤ w ∧ w ≤ 2147483647) (CR : CRT U S n (hF h 3 4) (fun k => hA h (6 + k))) (SU : SUA U S n (hF h 3 4) (fun k => hA h (6 + k)) sr) {Q : Option av_V → av_H → Prop} (hq : ∀ (v : Int) h' sr' nd', CJ U S n sr' nd' h' → FP 35 h h' → SUA U S n (hF h 3 4) (fun k => hA h (6 + k)) sr' → RSP (okx U S n (hF h 3 4) k l x ∧ (0 ≤ q ∧ q < (S (Int.toNat k) : Int)) ∧ ofv (U (Int.toNat k)) (hA h (6 + Int.toNat l)) (Int.toNat q) = 1 ∧ 0 ≤ w ∧ w ≤ 2) (-2) (opx (U (Int.toNat k)) (hA h (6 + Int.toNat l)) (bxx U S (hA h (6 + Int.toNat l)) (Int.toNat k)) (S (Int.toNat k)) x (Int.toNat q) w) v → Q (some (.inl v)) h') : av_wp none cd_107 0 [some (.inr (.inr (.inl (some (0))))), some (.inl k), some (.inl l), some (.inl x), some (.inl q), some (.inl w)] [] h Q := by
  have F := FP_rf 35 h
  have nr := C.2.1.2.1
  refine av_wp_sqF ck_107 1 (pc' := 2) (lv' := [some (.inr (.inr (.inl (some (0))))), some (.inl k), some (.inl l), some (.inl x), some (.inl q), some (.inl w)]) (st' := [.inl w]) (h' := h) rfl ?_
  refine wq_k1 (p' := 5) (ck_107 _ _ rfl) rfl ⟨by omega, by omega⟩ (fun c1 => ?_) (fun c2 => ?_)
  · have c1 : w < (0) := c1
    refine av_wp_sqF ck_107 1 (pc' := 41) (lv' := [some (.inr (.inr (.inl (some (0))))), some (.inl k), some (.inl l), some (.inl x), some (.inl q), some (.inl w)]) (st' := [.inl (-2)]) (h' := h) rfl ?_
    refine av_wp_ret (v := some (.inl (-2))) (ck_107 _ _ rfl) rfl rfl ?_
    exact hq _ h _ _ C F SU (Or.inr ⟨by unfold okx; omega, rfl⟩)
  · have c2 : (0) ≤ w := c2
    refine av_wp_sqF ck_107 2 (pc' := 8) (lv' := [some (.inr (.inr (.inl (some (0))))), some (.inl k), some (.inl l), some (.inl x), some (.inl q), some (.inl w)]) (st' := [.inl (2), .inl w]) (h' := h) rfl ?_
    refine wq_k2 (p' := 11) (ck_107 _ _ rfl) rfl ⟨by omega, by omega⟩ ⟨by omega, by omega⟩ (fun c3 => ?_) (fun c4 => ?_)
    · have c3 : (2) < w := c3
      refine av_wp_sqF ck_107 1 (pc' := 41) (lv' := [some (.inr (.inr (.inl (some (0))))), some (.inl k), some (.inl l), some (.inl x), some (.inl q), some (.inl w)]) (st' := [.inl (-2)]) (h' := h) rfl ?_
      refine av_wp_ret (v := some (.inl (-2))) (ck_107 _ _ rfl) rfl rfl ?_
      exact hq _ h _ _ C F SU (Or.inr ⟨by unfold okx; omega, rfl⟩)
    · have c4 : w ≤ (2) := c4
      refine av_wp_sqF ck_107 1 (pc' := 12) (lv' := [some (.inr (.inr (.inl (some (0))))), some (.inl k), some (.inl l), some (.inl x), some (.inl q), some (.inl w)]) (st' := [.inr (.inr (.inl (some (0))))]) (h' := h) rfl ?_
      refine wq_gr (p' := 15) (ck_107 _ _ rfl) rfl (congrArg Prod.fst (ly_k C.1.1 0 rfl)) rfl (ly_g C.1.1 0 5 26 rfl) ?_
      refine av_wp_sqF ck_107 3 (pc' := 18) (lv' := [some (.inr (.inr (.inl (some (0))))), some (.inl k), some (.inl l), some (.inl x), some (.inl q), some (.inl w)]) (st' := [.inl x, .inl l, .inl k, .inr (.inr (.inl (some (26))))]) (h' := h) rfl ?_
      refine wq_cv (p' := 21) (av_qc (.invokevirtual 160) 48 3 0 3) 5 cd_48 [.inl x, .inl l, .inl k] (26) 3 [some (.inr (.inr (.inl (some (26))))), some (.inl k), some (.inl l), some (.inl x), none] (ck_107 _ _ rfl) rfl rfl pp_48 rfl rfl rfl (congrArg Prod.fst (ly_k C.1.1 26 rfl)) rfl rfl rfl rfl ?_
      refine cz_48 C (k) (by omega) (l) (by omega) (x) (by omega) CR SU (fun z5 => ?_) (fun z5 z6 z7 h8 r9 n10 t11 c12 a13 m14 m15 m16 C17 F18 U19 E20 Z21 T22 D23 B24 R25 => ?_)
      · show av_wp _ cd_107 21 [some (.inr (.inr (.inl (some (0))))), some (.inl k), some (.inl l), some (.inl x), some (.inl q), some (.inl w)] [.inl (0)] h _
        refine av_wp_sqF ck_107 2 (pc' := 41) (lv' := [some (.inr (.inr (.inl (some (0))))), some (.inl k), some (.inl l), some (.inl x), some (.inl q), some (.inl w)]) (st' := [.inl (-2)]) (h' := h) rfl ?_
        refine av_wp_ret (v := some (.inl (-2))) (ck_107 _ _ rfl) rfl rfl ?_
        exact hq _ h _ _ C F SU (Or.inr ⟨by unfold okx; omega, rfl⟩)
      · have g26 : (-1 ≤ m14 ∧ m14 ≤ 11) ∧ (-1 ≤ m15 ∧ m15 ≤ 11) ∧ (-1 ≤ m16 ∧ m16 ≤ 9999) := R25
        have g27 := co_s12 (ib_co E20.1)
        show av_wp _ cd_107 21 [some (.inr (.inr (.inl (some (0))))), some (.inl k), some (.inl l), some (.inl x), some (.inl q), some (.inl w)] [.inl (1)] h8 _
        refine av_wp_sqF ck_107 2 (pc' := 25) (lv' := [some (.inr (.inr (.inl (some (0))))), some (.inl k), some (.inl l), some (.inl x), some (.inl q), some (.inl w)]) (st' := [.inr (.inr (.inl (some (0))))]) (h' := h8) rfl ?_
        refine wq_gr (p' := 28) (ck_107 _ _ rfl) rfl (congrArg Prod.fst (ly_k C17.1.1 0 rfl)) rfl (ly_g C17.1.1 0 5 26 rfl) ?_
        refine wq_gr (p' := 31) (ck_107 _ _ rfl) rfl (congrArg Prod.fst (ly_k C17.1.1 26 rfl)) rfl (ly_g C17.1.1 26 1 35 rfl) ?_
        refine av_wp_sqF ck_107 1 (pc' := 33) (lv' := [some (.inr (.inr (.inl (some (0))))), some (.inl k), some (.inl l), some (.inl x), some (.inl q), some (.inl w)]) (st' := [.inl q, .inr (.inr (.inl (some (35))))]) (h' := h8) rfl ?_
        refine wq_cv (p' := 36) (av_qc (.invokevirtual 187) 15 1 0 0) 2 cd_15 [.inl q] (35) 0 [some (.inr (.inr (.inl (some (35))))), some (.inl q)] (ck_107 _ _ rfl) rfl rfl pp_15 rfl rfl rfl (congrArg Prod.fst (bn_k0 C17.1.1 (Or.inl rfl))) rfl rfl rfl rfl ?_
        refine cx_15 E20 (FN_rf 35 h8) (q) (by omega) (fun q hq => by rw [(T22 q hq).1]; exact of_b _ _ _) (fun v28 p29 => ?_)
        have y30 : (v28 = 1 ∧ (0 ≤ q ∧ q < (S (Int.toNat k) : Int)) ∧ ofv (U (Int.toNat k)) (hA h (6 + Int.toNat l)) (Int.toNat (q)) = 1) ∨ (v28 = 0 ∧ ¬ ((0 ≤ q ∧ q < (S (Int.toNat k) : Int)) ∧ ofv (U (Int.toNat k)) (hA h (6 + Int.toNat l)) (Int.toNat (q)) = 1)) := by
          rcases p29 with y | y
          · exact Or.inl ⟨y.1, y.2.1, by rw [← (T22 _ (by omega)).1]; exact y.2.2⟩
          · refine Or.inr ⟨y.1, fun z => ?_⟩
            have z1 := z.2
            rw [← (T22 _ (by omega)).1] at z1
            omega
        clear p29
        show av_wp _ cd_107 36 [some (.inr (.inr (.inl (some (0))))), some (.inl k), some (.inl l), some (.inl x), some (.inl q), some (.inl w)] [.inl v28] h8 _
        refine wq_k1 (p' := 39) (ck_107 _ _ rfl) rfl ⟨by omega, by omega⟩ (fun c31 => ?_) (fun c32 => ?_)
        · have c31 : v28 ≠ (0) := c31
          refine av_wp_sqF ck_107 1 (pc' := 44) (lv' := [some (.inr (.inr (.inl (some (0))))), some (.inl k), some (.inl l), some (.inl x), some (.inl q), some (.inl w)]) (st' := [.inl w]) (h' := h8) rfl ?_
          rcases (show w = 0 ∨ w = 1 ∨ (w ≠ 0 ∧ w ≠ 1) by omega) with e33 | e33 | e33
          · refine wq_lc (t := 72) (ck_107 _ _ rfl) e33 rfl ?_
            refine av_wp_sqF ck_107 1 (pc' := 73) (lv' := [some (.inr (.inr (.inl (some (0))))), some (.inl k), some (.inl l), some (.inl x), some (.inl q), some (.inl w)]) (st' := [.inr (.inr (.inl (some (0))))]) (h' := h8) rfl ?_
            refine wq_gr (p' := 76) (ck_107 _ _ rfl) rfl (congrArg Prod.fst (ly_k C17.1.1 0 rfl)) rfl (ly_g C17.1.1 0 5 26 rfl) ?_
            refine wq_gr (p' := 79) (ck_107 _ _ rfl) rfl (congrArg Prod.fst (ly_k C17.1.1 26 rfl)) rfl (ly_g C17.1.1 26 1 35 rfl) ?_
            refine wq_gr (p' := 82) (ck_107 _ _ rfl) rfl (congrArg Prod.fst (bn_k0 C17.1.1 (Or.inl rfl))) rfl (bn_g C17.1.1 (Or.inl rfl) 5 rfl) ?_
            refine av_wp_sqF ck_107 1 (pc' := 84) (lv' := [some (.inr (.inr (.inl (some (0))))), some (.inl k), some (.inl l), some (.inl x), some (.inl q), some (.inl w)]) (st' := [.inl q, .inr (.inr (.inl (some (35 + 1 + 5))))]) (h' := h8) rfl ?_
            obtain ⟨v34, e35⟩ : ∃ v, a13 5 (Int.toNat (q)) = v := ⟨_, rfl⟩
            refine wq_al (p' := 85) (n := 12) (ck_107 _ _ rfl) rfl (bn_k C17.1.1 (Or.inl rfl) 5 rfl) (by omega) ((congrFun (E20.2.2.2.1 5 (by omega)) _).trans e35) ?_
            refine av_wp_ret (v := some (.inl v34)) (ck_107 _ _ rfl) rfl rfl ?_
            exact hq _ h8 _ _ C17 F18 U19 (Or.inl ⟨by unfold okx; omega, by unfold opx; rw [if_pos (by omega)]; exact e35.symm.trans ((D23.2 (Int.toNat q) (by omega)).2.2.1)⟩)
          · refine wq_lc (t := 86) (ck_107 _ _ rfl) e33 rfl ?_
            refine av_wp_sqF ck_107 1 (pc' := 87) (lv' := [some (.inr (.inr (.inl (some (0))))), some (.inl k), some (.inl l), some (.inl x), some (.inl q), some (.inl w)]) (st' := [.inr (.inr (.inl (some (0))))]) (h' := h8) rfl ?_
            refine wq_gr (p' := 90) (ck_107 _ _ rfl) rfl (congrArg Prod.fst (ly_k C17.1.1 0 rfl)) rfl (ly_g C17.1.1 0 5 26 rfl) ?_
            refine wq_gr (p' := 93) (ck_107 _ _ rfl) rfl (congrArg Prod.fst (ly_k C17.1.1 26 rfl)) rfl (ly_g C17.1.1 26 1 35 rfl) ?_
            refine wq_gr (p' := 96) (ck_107 _ _ rfl) rfl (congrArg Prod.fst (bn_k0 C17.1.1 (Or.inl rfl))) rfl (bn_g C17.1.1 (Or.inl rfl) 6 rfl) ?_
            refine av_wp_sqF ck_107 1 (pc' := 98) (lv' := [some (.inr (.inr (.inl (some (0))))), some (.inl k), some (.inl l), some (.inl x), some (.inl q), some (.inl w)]) (st' := [.inl q, .inr (.inr (.inl (some (35 + 1 + 6))))]) (h' := h8) rfl ?_
            obtain ⟨v36, e37⟩ : ∃ v, a13 6 (Int.toNat (q)) = v := ⟨_, rfl⟩
            refine wq_al (p' := 99) (n := 12) (ck_107 _ _ rfl) rfl (bn_k C17.1.1 (Or.inl rfl) 6 rfl) (by omega) ((congrFun (E20.2.2.2.1 6 (by omega)) _).trans e37) ?_
            refine av_wp_ret (v := some (.inl v36)) (ck_107 _ _ rfl) rfl rfl ?_
            exact hq _ h8 _ _ C17 F18 U19 (Or.inl ⟨by unfold okx; omega, by unfold opx; rw [if_neg (by omega), if_pos (by omega)]; exact e37.symm.trans (congrArg Prod.fst (D23.2 (Int.toNat q) (by omega)).2.1)⟩)
          · refine wq_ld (t := 100) (ck_107 _ _ rfl) ⟨by omega, by omega⟩ (by show Op.lookupswitch.offset [(0, 28), (1, 42)] 56 w = 56; rw [Op.lookupswitch.offset_cons, if_neg (by omega), Op.lookupswitch.offset_cons, if_neg (by omega), Op.lookupswitch.offset_nil]) rfl ?_
            refine av_wp_sqF ck_107 1 (pc' := 101) (lv' := [some (.inr (.inr (.inl (some (0))))), some (.inl k), some (.inl l), some (.inl x), some (.inl q), some (.inl w)]) (st' := [.inr (.inr (.inl (some (0))))]) (h' := h8) rfl ?_
            refine wq_gr (p' := 104) (ck_107 _ _ rfl) rfl (congrArg Prod.fst (ly_k C17.1.1 0 rfl)) rfl (ly_g C17.1.1 0 5 26 rfl) ?_
            refine wq_gr (p' := 107) (ck_107 _ _ rfl) rfl (congrArg Prod.fst (ly_k C17.1.1 26 rfl)) rfl (ly_g C17.1.1 26 1 35 rfl) ?_
            refine wq_gr (p' := 110) (ck_107 _ _ rfl) rfl (congrArg Prod.fst (bn_k0 C17.1.1 (Or.inl rfl))) rfl (bn_g C17.1.1 (Or.inl rfl) 7 rfl) ?_
            refine av_wp_sqF ck_107 1 (pc' := 112) (lv' := [some (.inr (.inr (.inl (some (0))))), some (.inl k), some (.inl l), some (.inl x), some (.inl q), some (.inl w)]) (st' := [.inl q, .inr (.inr (.inl (some (35 + 1 + 7))))]) (h' := h8) rfl ?_
            obtain ⟨v38, e39⟩ : ∃ v, a13 7 (Int.toNat (q)) = v := ⟨_, rfl⟩
            refine wq_al (p' := 113) (n := 12) (ck_107 _ _ rfl) rfl (bn_k C17.1.1 (Or.inl rfl) 7 rfl) (by omega) ((congrFun (E20.2.2.2.1 7 (by omega)) _).trans e39) ?_
            refine av_wp_ret (v := some (.inl v38)) (ck_107 _ _ rfl) rfl rfl ?_
            exact hq _ h8 _ _ C17 F18 U19 (Or.inl ⟨by unfold okx; omega, by unfold opx; rw [if_neg (by omega), if_neg (by omega)]; exact e39.symm.trans (congrArg (fun z => z.2.1) (D23.2 (Int.toNat q) (by omega)).2.1)⟩)
        · have c32 : v28 = (0) := c32
          refine av_wp_sqF ck_107 1 (pc' := 41) (lv' := [some (.inr (.inr (.inl (some (0))))), some (.inl k), some (.inl l), some (.inl x), some (.inl q), some (.inl w)]) (st' := [.inl (-2)]) (h' := h8) rfl ?_
          refine av_wp_ret (v := some (.inl (-2))) (ck_107 _ _ rfl) rfl rfl ?_
          exact hq _ h8 _ _ C17 F18 U19 (Or.inr ⟨by unfold okx; omega, rfl⟩)
end
section
/-! WHAT A BARGAIN IS MADE OF -/
def YF (s : Nat) (a : Nat → Nat → Int) (t : T3) : Prop := (t.2.2 = 9999 ∧ t.1 = -1 ∧ t.2.1 = -1) ∨ (t.2.2 < 9999 ∧ (0 ≤ t.2.1 ∧ t.2.1 < (s : Int) ∧ a 2 (Int.toNat t.2.1) ≠ 0) ∧ (t.1 = -1 ∨ (0 ≤ t.1 ∧ t.1 < (s : Int) ∧ a 3 (Int.toNat t.1) ≠ 0)))
theorem YF_9 {s : Nat} {a : Nat → Nat → Int} {t : T3} (x : YF s a t) : t.2.2 ≤ 9999 := by
  rcases x with x | x
  · have := x.1; omega
  · have := x.1; omega
section
variable {u ro : Nat → Int} {a : Nat → Nat → Int} {s : Nat}
theorem yv_f : ∀ k, k ≤ s → YF s a (yv u ro a s k) := by
  intro k
  induction k with
  | zero => intro _; exact Or.inl ⟨rfl, rfl, rfl⟩
  | succ k ih =>
    intro hk
    have i := ih (by omega)
    have i9 := YF_9 i
    show YF s a (if yc u ro a s k (yv u ro a s k).2.2 = 1 then ((k : Int), u (21 * k + 3), hw a k (yw u ro k)) else yv u ro a s k)
    split
    · next z =>
      unfold yc at z
      split at z
      · next y =>
        refine Or.inr ⟨?_, ⟨?_, ?_, ?_⟩, Or.inr ⟨?_, ?_, ?_⟩⟩
        · show hw a k (yw u ro k) < 9999
          omega
        · exact y.2.1
        · show u (21 * k + 3) < (s : Int)
          omega
        · exact y.2.2.2.1
        · show (0 : Int) ≤ (k : Int)
          omega
        · show (k : Int) < (s : Int)
          omega
        · show a 3 (Int.toNat (k : Int)) ≠ 0
          rw [Int.toNat_natCast]
          exact y.1
      · omega
    · exact i
theorem sv_f : ∀ k, k ≤ s → YF s a (sv u ro a s k) := by
  intro k
  induction k with
  | zero => intro _; exact yv_f s (Nat.le_refl s)
  | succ k ih =>
    intro hk
    have i := ih (by omega)
    have i9 := YF_9 i
    show YF s a (if slc u ro a s k (sv u ro a s k).2.2 = 1 then (-1, (k : Int), hw a k 2 + ro 8) else sv u ro a s k)
    split
    · next z =>
      unfold slc at z
      split at z
      · next y =>
        refine Or.inr ⟨?_, ⟨?_, ?_, ?_⟩, Or.inl rfl⟩
        · show hw a k 2 + ro 8 < 9999
          omega
        · show (0 : Int) ≤ (k : Int)
          omega
        · show (k : Int) < (s : Int)
          omega
        · show a 2 (Int.toNat (k : Int)) ≠ 0
          rw [Int.toNat_natCast]
          exact y.1
      · omega
    · exact i
theorem brg_f : YF s a (brg u ro a s) := by
  unfold brg
  split
  · exact sv_f s (Nat.le_refl s)
  · exact yv_f s (Nat.le_refl s)
end
/-- of a seated case's bargain: by a yes, of an offer -/
theorem bgn_f {u ro bar : Nat → Int} {s : Nat} {x : Int} : ((bgn u ro bar s x).2.2 = 9999 ∧ (bgn u ro bar s x).1 = -1 ∧ (bgn u ro bar s x).2.1 = -1) ∨ ((bgn u ro bar s x).2.2 < 9999 ∧ (0 ≤ (bgn u ro bar s x).2.1 ∧ (bgn u ro bar s x).2.1 < (s : Int) ∧ ofv u ro (Int.toNat (bgn u ro bar s x).2.1) ≠ 0) ∧ ((bgn u ro bar s x).1 = -1 ∨ (0 ≤ (bgn u ro bar s x).1 ∧ (bgn u ro bar s x).1 < (s : Int) ∧ ysv u ro (Int.toNat (bgn u ro bar s x).1) ≠ 0))) := brg_f
/-! a word of an offer, as it was told or as another has it -/
def wov (u : Nat → Int) (w : Nat) : Nat → Int → Int
  | 0, _ => -1
  | f + 1, k => if 0 ≤ k then (if u (21 * k.toNat + 10 + w) ≠ -1 then u (21 * k.toNat + 10 + w) else if u (21 * k.toNat + 0) = 3 then wov u w f (u (21 * k.toNat + 3)) else -1) else -1
section
variable {u : Nat → Int} {w f : Nat} {k v : Int}
theorem wov_m (h : k < 0) : wov u w f k = -1 := by
  cases f with
  | zero => rfl
  | succ f => exact if_neg (by omega)
theorem wov_y (h : 0 ≤ k) (e : u (21 * k.toNat + 10 + w) = v) (z : v ≠ -1) : wov u w (f + 1) k = v := by
  show (if 0 ≤ k then (if u (21 * k.toNat + 10 + w) ≠ -1 then u (21 * k.toNat + 10 + w) else _) else _) = v
  rw [if_pos h, e, if_pos z]
theorem wov_s {x q : Int} (h : 0 ≤ k) (e : u (21 * k.toNat + 10 + w) = v) (z : v = -1) (e0 : u (21 * k.toNat + 0) = x) (z0 : x = 3) (e3 : u (21 * k.toNat + 3) = q) : wov u w (f + 1) k = wov u w f q := by
  show (if 0 ≤ k then (if u (21 * k.toNat + 10 + w) ≠ -1 then u (21 * k.toNat + 10 + w) else if u (21 * k.toNat + 0) = 3 then wov u w f (u (21 * k.toNat + 3)) else -1) else -1) = _
  rw [if_pos h, e, if_neg (fun y => y z), e0, if_pos z0, e3]
theorem wov_n {x : Int} (h : 0 ≤ k) (e : u (21 * k.toNat + 10 + w) = v) (z : v = -1) (e0 : u (21 * k.toNat + 0) = x) (z0 : x ≠ 3) : wov u w (f + 1) k = -1 := by
  show (if 0 ≤ k then (if u (21 * k.toNat + 10 + w) ≠ -1 then u (21 * k.toNat + 10 + w) else if u (21 * k.toNat + 0) = 3 then wov u w f (u (21 * k.toNat + 3)) else -1) else -1) = _
  rw [if_pos h, e, if_neg (fun y => y z), e0, if_neg z0]
end
theorem wov_e {u : Nat → Int} {w f : Nat} {k v x : Int} (h : 0 ≤ k) (e : u (21 * k.toNat + 10 + w) = v) (e0 : u (21 * k.toNat + 0) = x) (z : x ≠ 3) : wov u w (f + 1) k = v := by
  by_cases c : v = -1
  · rw [wov_n h e c e0 z, c]
  · exact wov_y h e c
/-- no more steps than the number says are wanted -/
theorem wov_f {u : Nat → Int} {s : Nat} (W : UW u s) {w : Nat} : ∀ n f f' : Nat, ∀ k : Int, k < (n : Int) → k < (s : Int) → k < (f : Int) → k < (f' : Int) → wov u w f k = wov u w f' k := by
  intro n
  induction n with
  | zero => intro f f' k h _ _ _; rw [wov_m (by omega), wov_m (by omega)]
  | succ n ih =>
    intro f f' k h1 h2 h3 h4
    by_cases c : k < 0
    · rw [wov_m c, wov_m c]
    · obtain ⟨g, rfl⟩ : ∃ g, f = g + 1 := ⟨f - 1, by omega⟩
      obtain ⟨g', rfl⟩ : ∃ g, f' = g + 1 := ⟨f' - 1, by omega⟩
      have hw := (W k.toNat (by omega)).2.1
      show (if 0 ≤ k then (if u (21 * k.toNat + 10 + w) ≠ -1 then u (21 * k.toNat + 10 + w) else if u (21 * k.toNat + 0) = 3 then wov u w g (u (21 * k.toNat + 3)) else -1) else -1) = (if 0 ≤ k then (if u (21 * k.toNat + 10 + w) ≠ -1 then u (21 * k.toNat + 10 + w) else if u (21 * k.toNat + 0) = 3 then wov u w g' (u (21 * k.toNat + 3)) else -1) else -1)
      rw [ih g g' (u (21 * k.toNat + 3)) (by omega) (by omega) (by omega) (by omega)]
/-- a word of the bargain -/
def bwv (u ro : Nat → Int) (b o : Int) (w : Nat) : Int := if 0 ≤ b ∧ u (21 * b.toNat + 0) = 3 ∧ u (21 * b.toNat + 10 + w) ≠ -1 ∧ ro 10 ≠ 0 then (if ro 10 = 1 then u (21 * b.toNat + 10 + w) else -1) else wov u w 12 o
/-- run -/
def rnv (u ro : Nat → Int) (t : T3) (w : Int) : Int := if t.2.2 = 9999 then -2 else if w = 0 then t.1 else if w = 1 then t.2.1 else if w = 2 then t.2.2 else bwv u ro t.1 t.2.1 (w - 10).toNat
/-- a cell, or there is none such -/
theorem xc_29b {h : av_H} {t c s : Nat} {cb : Int} (o : CO h t c s cb) (k : Int) (qk : -2147483648 ≤ k ∧ k ≤ 2147483647) (w : Nat) (hw : w < 21) {wi : Int} (ew : wi = (w : Int)) {Q : Option av_V → av_H → Prop} (hq0 : (k < 0 ∨ (s : Int) ≤ k) → Q (some (.inl (-1))) h) (hq1 : 0 ≤ k → k < (s : Int) → ∀ v, hA h c (21 * Int.toNat k + w) = v → Q (some (.inl v)) h) : av_wp none cd_29 0 [some (.inr (.inr (.inl (some (t))))), some (.inl k), some (.inl wi)] [] h Q := by
  by_cases z : 0 ≤ k ∧ k < (s : Int)
  · exact xc_29 o k z w hw ew rfl (hq1 z.1 z.2 _ rfl)
  · refine cx_29 o k qk wi (by omega) ?_
    have e : cel (hA h c) s k wi = -1 := if_neg (fun y => z y.1)
    rw [e]
    exact hq0 (by omega)
/-- a yes that says but is small -/
theorem ys_sm {u ro : Nat → Int} {k : Nat} (h : ysv u ro k ≠ 0) (e : u (21 * k + 0) = 3) : smv u ro k = 1 := by
  unfold ysv at h
  split at h
  · next z => omega
  · exact absurd rfl h
theorem sm_3 {u ro : Nat → Int} {k : Nat} (h : smv u ro k = 1) : u (21 * k + 0) = 3 := by
  unfold smv at h
  split at h
  · next z => exact z.1
  · omega
end
section
/-! WORDS, exactly -/
set_option maxRecDepth 100000 in
set_option maxHeartbeats 4000000 in
theorem cx_31 {g h : av_H} {b t c s r : Nat} {cb : Int} {u ro : Nat → Int} {a : Nat → Nat → Int} {mb mo ma : Int} (E : EB b t c s r cb u ro a mb mo ma h) (F : FN b g h) (W : UW u s) (k : Int) (qk : -1 ≤ k ∧ k < (s : Int)) (w : Int) (qw : 0 ≤ w ∧ w ≤ 4) {Q : Option av_V → av_H → Prop} (hq : ∀ v : Int, v = wov u (Int.toNat w) 12 k → Q (some (.inl v)) h) : av_wp none cd_31 0 [some (.inr (.inr (.inl (some (t))))), some (.inl k), some (.inl w), none, none, none] [] h Q := by
  have s12 := co_s12 (ib_co E.1)
  have cbr := co_cbr (ib_co E.1)
  have mbr := eb_xr E
  have mor := eb_yr E
  refine av_wp_sqF ck_31 4 (pc' := 5) (lv' := [some (.inr (.inr (.inl (some (t))))), some (.inl k), some (.inl w), some (.inl k), some (.inl (0)), none]) (st' := []) (h' := h) rfl ?_
  have L5 : ∀ (m4 : Nat) (k1 : Int) (k2 : Int) (a3 : Option av_V), av_lg a3 = false → wov u (Int.toNat w) 12 k = wov u (Int.toNat w) (Int.toNat (12 - k2)) k1 → k1 < (s : Int) → (-1 ≤ k1 ∧ k1 ≤ 11) → (0 ≤ k2 ∧ k2 ≤ 12) → (12 - k2).toNat = m4 → av_wp none cd_31 5 [some (.inr (.inr (.inl (some (t))))), some (.inl k), some (.inl w), some (.inl k1), some (.inl k2), a3] [] h Q := by
    intro m4
    induction m4 using Nat.strongRecOn with
    | _ m4 I6 =>
      intro k1 k2 a3 g8 g9 g10 g11 g12 e7
      have la3 := g8
      refine av_wp_sqF ck_31 2 (pc' := 9) (lv' := [some (.inr (.inr (.inl (some (t))))), some (.inl k), some (.inl w), some (.inl k1), some (.inl k2), a3]) (st' := [.inl (12), .inl k2]) (h' := h) rfl ?_
      refine wq_k2 (p' := 12) (ck_31 _ _ rfl) rfl ⟨by omega, by omega⟩ ⟨by omega, by omega⟩ (fun c13 => ?_) (fun c14 => ?_)
      · have c13 : (12) ≤ k2 := c13
        refine av_wp_sqF ck_31 1 (pc' := 68) (lv' := [some (.inr (.inr (.inl (some (t))))), some (.inl k), some (.inl w), some (.inl k1), some (.inl k2), a3]) (st' := [.inl (-1)]) (h' := h) rfl ?_
        refine av_wp_ret (v := some (.inl (-1))) (ck_31 _ _ rfl) rfl rfl ?_
        exact hq _ (by rw [g9, show Int.toNat (12 - k2) = 0 by omega]; rfl)
      · have c14 : k2 < (12) := c14
        refine av_wp_sqF ck_31 2 (pc' := 14) (lv' := [some (.inr (.inr (.inl (some (t))))), some (.inl k), some (.inl w), some (.inl k1), some (.inl k2), a3]) (st' := [.inl k1, .inr (.inr (.inl (some (t))))]) (h' := h) rfl ?_
        refine wq_cv (p' := 17) (av_qc (.invokevirtual 40) 28 1 0 1) 2 cd_28 [.inl k1] (t) 1 [some (.inr (.inr (.inl (some (t))))), some (.inl k1)] (ck_31 _ _ rfl) rfl rfl pp_28 rfl rfl rfl (congrArg Prod.fst (co_kt (ib_co E.1))) rfl rfl rfl rfl ?_
        refine ct_28 (ib_co E.1) (k1) (by omega) (fun v15 p16 => ?_)
        show av_wp _ cd_31 17 [some (.inr (.inr (.inl (some (t))))), some (.inl k), some (.inl w), some (.inl k1), some (.inl k2), a3] [.inl v15] h _
        refine wq_k1 (p' := 20) (ck_31 _ _ rfl) rfl ⟨by omega, by omega⟩ (fun c17 => ?_) (fun c18 => ?_)
        · have c17 : v15 = (0) := c17
          refine av_wp_sqF ck_31 1 (pc' := 68) (lv' := [some (.inr (.inr (.inl (some (t))))), some (.inl k), some (.inl w), some (.inl k1), some (.inl k2), a3]) (st' := [.inl (-1)]) (h' := h) rfl ?_
          refine av_wp_ret (v := some (.inl (-1))) (ck_31 _ _ rfl) rfl rfl ?_
          exact hq _ (by rw [g9]; exact (wov_m (by omega)).symm)
        · have c18 : v15 ≠ (0) := c18
          refine av_wp_sqF ck_31 5 (pc' := 26) (lv' := [some (.inr (.inr (.inl (some (t))))), some (.inl k), some (.inl w), some (.inl k1), some (.inl k2), a3]) (st' := [.inl ((10) + w), .inl k1, .inr (.inr (.inl (some (t))))]) (h' := h) rfl ?_
          refine wq_cv (p' := 29) (av_qc (.invokevirtual 44) 29 2 0 1) 3 cd_29 [.inl ((10) + w), .inl k1] (t) 1 [some (.inr (.inr (.inl (some (t))))), some (.inl k1), some (.inl ((10) + w))] (ck_31 _ _ rfl) rfl rfl pp_29 rfl rfl rfl (congrArg Prod.fst (co_kt (ib_co E.1))) rfl rfl rfl rfl ?_
          obtain ⟨v19, e20⟩ : ∃ v, u (21 * Int.toNat (k1) + 10 + Int.toNat w) = v := ⟨_, rfl⟩
          have g21 := eb_uv E (21 * Int.toNat (k1) + 10 + Int.toNat w)
          rw [e20] at g21
          refine xc_29 (ib_co E.1) (k1) (by omega) (10 + Int.toNat w) (by omega) (by omega) ((congrFun (eb_u E) _).trans ((congrArg u (by omega)).trans e20)) ?_
          show av_wp _ cd_31 29 [some (.inr (.inr (.inl (some (t))))), some (.inl k), some (.inl w), some (.inl k1), some (.inl k2), a3] [.inl v19] h _
          refine av_wp_sqF ck_31 3 (pc' := 34) (lv' := [some (.inr (.inr (.inl (some (t))))), some (.inl k), some (.inl w), some (.inl k1), some (.inl k2), some (.inl v19)]) (st' := [.inl (-1), .inl v19]) (h' := h) rfl ?_
          refine wq_k2 (p' := 37) (ck_31 _ _ rfl) rfl ⟨by omega, by omega⟩ ⟨by omega, by omega⟩ (fun c22 => ?_) (fun c23 => ?_)
          · have c22 : v19 = (-1) := c22
            refine av_wp_sqF ck_31 3 (pc' := 43) (lv' := [some (.inr (.inr (.inl (some (t))))), some (.inl k), some (.inl w), some (.inl k1), some (.inl k2), some (.inl v19)]) (st' := [.inl (0), .inl k1, .inr (.inr (.inl (some (t))))]) (h' := h) rfl ?_
            refine wq_cv (p' := 46) (av_qc (.invokevirtual 44) 29 2 0 1) 3 cd_29 [.inl (0), .inl k1] (t) 1 [some (.inr (.inr (.inl (some (t))))), some (.inl k1), some (.inl (0))] (ck_31 _ _ rfl) rfl rfl pp_29 rfl rfl rfl (congrArg Prod.fst (co_kt (ib_co E.1))) rfl rfl rfl rfl ?_
            obtain ⟨v24, e25⟩ : ∃ v, u (21 * Int.toNat (k1) + 0) = v := ⟨_, rfl⟩
            have g26 := eb_uv E (21 * Int.toNat (k1) + 0)
            rw [e25] at g26
            refine xc_29 (ib_co E.1) (k1) (by omega) 0 (by omega) rfl ((congrFun (eb_u E) _).trans e25) ?_
            show av_wp _ cd_31 46 [some (.inr (.inr (.inl (some (t))))), some (.inl k), some (.inl w), some (.inl k1), some (.inl k2), some (.inl v19)] [.inl v24] h _
            refine av_wp_sqF ck_31 1 (pc' := 47) (lv' := [some (.inr (.inr (.inl (some (t))))), some (.inl k), some (.inl w), some (.inl k1), some (.inl k2), some (.inl v19)]) (st' := [.inl (3), .inl v24]) (h' := h) rfl ?_
            refine wq_k2 (p' := 50) (ck_31 _ _ rfl) rfl ⟨by omega, by omega⟩ ⟨by omega, by omega⟩ (fun c27 => ?_) (fun c28 => ?_)
            · have c27 : v24 ≠ (3) := c27
              refine av_wp_sqF ck_31 4 (pc' := 5) (lv' := [some (.inr (.inr (.inl (some (t))))), some (.inl k), some (.inl w), some (.inl (-1)), some (.inl (k2 + (1))), some (.inl v19)]) (st' := []) (h' := h) rfl ?_
              exact I6 _ (by omega) ((-1)) ((k2 + (1))) (some (.inl v19)) rfl (by rw [g9, show Int.toNat (12 - k2) = Int.toNat (12 - (k2 + (1))) + 1 by omega]; exact (wov_n (by omega) e20 (by omega) e25 (by omega)).trans (wov_m (by omega)).symm) (by omega) (by omega) (by omega) rfl
            · have c28 : v24 = (3) := c28
              refine av_wp_sqF ck_31 3 (pc' := 53) (lv' := [some (.inr (.inr (.inl (some (t))))), some (.inl k), some (.inl w), some (.inl k1), some (.inl k2), some (.inl v19)]) (st' := [.inl (3), .inl k1, .inr (.inr (.inl (some (t))))]) (h' := h) rfl ?_
              refine wq_cv (p' := 56) (av_qc (.invokevirtual 44) 29 2 0 1) 3 cd_29 [.inl (3), .inl k1] (t) 1 [some (.inr (.inr (.inl (some (t))))), some (.inl k1), some (.inl (3))] (ck_31 _ _ rfl) rfl rfl pp_29 rfl rfl rfl (congrArg Prod.fst (co_kt (ib_co E.1))) rfl rfl rfl rfl ?_
              obtain ⟨v29, e30⟩ : ∃ v, u (21 * Int.toNat (k1) + 3) = v := ⟨_, rfl⟩
              have g31 := eb_uv E (21 * Int.toNat (k1) + 3)
              rw [e30] at g31
              refine xc_29 (ib_co E.1) (k1) (by omega) 3 (by omega) rfl ((congrFun (eb_u E) _).trans e30) ?_
              have g32 := (W (Int.toNat (k1)) (by omega)).2.1
              rw [e30] at g32
              show av_wp _ cd_31 56 [some (.inr (.inr (.inl (some (t))))), some (.inl k), some (.inl w), some (.inl k1), some (.inl k2), some (.inl v19)] [.inl v29] h _
              refine av_wp_sqF ck_31 4 (pc' := 5) (lv' := [some (.inr (.inr (.inl (some (t))))), some (.inl k), some (.inl w), some (.inl v29), some (.inl (k2 + (1))), some (.inl v19)]) (st' := []) (h' := h) rfl ?_
              exact I6 _ (by omega) (v29) ((k2 + (1))) (some (.inl v19)) rfl (by rw [g9, show Int.toNat (12 - k2) = Int.toNat (12 - (k2 + (1))) + 1 by omega]; exact wov_s (by omega) e20 (by omega) e25 (by omega) e30) (by omega) (by omega) (by omega) rfl
          · have c23 : v19 ≠ (-1) := c23
            refine av_wp_sqF ck_31 1 (pc' := 39) (lv' := [some (.inr (.inr (.inl (some (t))))), some (.inl k), some (.inl w), some (.inl k1), some (.inl k2), some (.inl v19)]) (st' := [.inl v19]) (h' := h) rfl ?_
            refine av_wp_ret (v := some (.inl v19)) (ck_31 _ _ rfl) rfl rfl ?_
            exact hq _ (by rw [g9, show Int.toNat (12 - k2) = Int.toNat (12 - (k2 + 1)) + 1 by omega]; exact (wov_y (by omega) e20 (by omega)).symm)
  exact L5 _ (k) ((0)) (none) rfl rfl (by omega) (by omega) (by omega) rfl

set_option maxRecDepth 100000 in
set_option maxHeartbeats 4000000 in
theorem cx_17 {g h : av_H} {b t c s r : Nat} {cb : Int} {u ro : Nat → Int} {a : Nat → Nat → Int} {mb mo ma : Int} (E : EB b t c s r cb u ro a mb mo ma h) (F : FN b g h) (W : UW u s) (R : RLW ro) (hb : mb < (s : Int)) (ho : mo < (s : Int)) (w : Int) (qw : 0 ≤ w ∧ w ≤ 4) {Q : Option av_V → av_H → Prop} (hq : ∀ v : Int, v = bwv u ro mb mo (Int.toNat w) → Q (some (.inl v)) h) : av_wp none cd_17 0 [some (.inr (.inr (.inl (some (b))))), some (.inl w), none, none] [] h Q := by
  have s12 := co_s12 (ib_co E.1)
  have cbr := co_cbr (ib_co E.1)
  have mbr := eb_xr E
  have mor := eb_yr E
  refine av_wp_sqF ck_17 1 (pc' := 1) (lv' := [some (.inr (.inr (.inl (some (b))))), some (.inl w), none, none]) (st' := [.inr (.inr (.inl (some (b))))]) (h' := h) rfl ?_
  refine wq_gr (p' := 4) (ck_17 _ _ rfl) rfl (congrArg Prod.fst (ib_k0 E.1)) rfl (ib_t E.1) ?_
  refine av_wp_sqF ck_17 1 (pc' := 5) (lv' := [some (.inr (.inr (.inl (some (b))))), some (.inl w), none, none]) (st' := [.inr (.inr (.inl (some (b)))), .inr (.inr (.inl (some (t))))]) (h' := h) rfl ?_
  refine wq_gi (p' := 8) (ck_17 _ _ rfl) rfl (congrArg Prod.fst (ib_k0 E.1)) rfl (eb_x E) ?_
  refine av_wp_sqF ck_17 1 (pc' := 9) (lv' := [some (.inr (.inr (.inl (some (b))))), some (.inl w), none, none]) (st' := [.inl (0), .inl mb, .inr (.inr (.inl (some (t))))]) (h' := h) rfl ?_
  refine wq_cv (p' := 12) (av_qc (.invokevirtual 74) 29 2 0 1) 3 cd_29 [.inl (0), .inl mb] (t) 1 [some (.inr (.inr (.inl (some (t))))), some (.inl mb), some (.inl (0))] (ck_17 _ _ rfl) rfl rfl pp_29 rfl rfl rfl (congrArg Prod.fst (co_kt (ib_co E.1))) rfl rfl rfl rfl ?_
  refine xc_29b (ib_co E.1) (mb) (by omega) 0 (by omega) rfl (fun z1 => ?_) (fun z2 z3 v4 e5 => ?_)
  · show av_wp _ cd_17 12 [some (.inr (.inr (.inl (some (b))))), some (.inl w), none, none] [.inl (-1)] h _
    refine av_wp_sqF ck_17 12 (pc' := 65) (lv' := [some (.inr (.inr (.inl (some (b))))), some (.inl w), some (.inl (0)), some (.inl (-1))]) (st' := [.inl (-1)]) (h' := h) rfl ?_
    refine av_wp_sqF ck_17 3 (pc' := 85) (lv' := [some (.inr (.inr (.inl (some (b))))), some (.inl w), some (.inl (0)), some (.inl (-1))]) (st' := [.inr (.inr (.inl (some (b))))]) (h' := h) rfl ?_
    refine wq_gr (p' := 88) (ck_17 _ _ rfl) rfl (congrArg Prod.fst (ib_k0 E.1)) rfl (ib_t E.1) ?_
    refine av_wp_sqF ck_17 1 (pc' := 89) (lv' := [some (.inr (.inr (.inl (some (b))))), some (.inl w), some (.inl (0)), some (.inl (-1))]) (st' := [.inr (.inr (.inl (some (b)))), .inr (.inr (.inl (some (t))))]) (h' := h) rfl ?_
    refine wq_gi (p' := 92) (ck_17 _ _ rfl) rfl (congrArg Prod.fst (ib_k0 E.1)) rfl (eb_y E) ?_
    refine av_wp_sqF ck_17 1 (pc' := 93) (lv' := [some (.inr (.inr (.inl (some (b))))), some (.inl w), some (.inl (0)), some (.inl (-1))]) (st' := [.inl w, .inl mo, .inr (.inr (.inl (some (t))))]) (h' := h) rfl ?_
    refine wq_cv (p' := 96) (av_qc (.invokevirtual 139) 31 2 0 1) 6 cd_31 [.inl w, .inl mo] (t) 1 [some (.inr (.inr (.inl (some (t))))), some (.inl mo), some (.inl w), none, none, none] (ck_17 _ _ rfl) rfl rfl pp_31 rfl rfl rfl (congrArg Prod.fst (co_kt (ib_co E.1))) rfl rfl rfl rfl ?_
    refine cx_31 E F W (mo) (by omega) (w) (by omega) (fun v7 p8 => ?_)
    show av_wp _ cd_17 96 [some (.inr (.inr (.inl (some (b))))), some (.inl w), some (.inl (0)), some (.inl (-1))] [.inl v7] h _
    refine av_wp_ret (v := some (.inl v7)) (ck_17 _ _ rfl) rfl rfl ?_
    exact hq _ (by unfold bwv; rw [if_neg (fun z => by obtain ⟨z1, z2, z3, z4⟩ := z; omega)]; exact p8)
  · rw [eb_u E] at e5
    have g6 := eb_uv E (21 * Int.toNat (mb) + 0)
    rw [e5] at g6
    show av_wp _ cd_17 12 [some (.inr (.inr (.inl (some (b))))), some (.inl w), none, none] [.inl v4] h _
    refine av_wp_sqF ck_17 1 (pc' := 13) (lv' := [some (.inr (.inr (.inl (some (b))))), some (.inl w), none, none]) (st' := [.inl (3), .inl v4]) (h' := h) rfl ?_
    refine wq_k2 (p' := 16) (ck_17 _ _ rfl) rfl ⟨by omega, by omega⟩ ⟨by omega, by omega⟩ (fun c9 => ?_) (fun c10 => ?_)
    · have c9 : v4 ≠ (3) := c9
      refine av_wp_sqF ck_17 12 (pc' := 84) (lv' := [some (.inr (.inr (.inl (some (b))))), some (.inl w), some (.inl (0)), some (.inl (-1))]) (st' := []) (h' := h) rfl ?_
      refine av_wp_sqF ck_17 1 (pc' := 85) (lv' := [some (.inr (.inr (.inl (some (b))))), some (.inl w), some (.inl (0)), some (.inl (-1))]) (st' := [.inr (.inr (.inl (some (b))))]) (h' := h) rfl ?_
      refine wq_gr (p' := 88) (ck_17 _ _ rfl) rfl (congrArg Prod.fst (ib_k0 E.1)) rfl (ib_t E.1) ?_
      refine av_wp_sqF ck_17 1 (pc' := 89) (lv' := [some (.inr (.inr (.inl (some (b))))), some (.inl w), some (.inl (0)), some (.inl (-1))]) (st' := [.inr (.inr (.inl (some (b)))), .inr (.inr (.inl (some (t))))]) (h' := h) rfl ?_
      refine wq_gi (p' := 92) (ck_17 _ _ rfl) rfl (congrArg Prod.fst (ib_k0 E.1)) rfl (eb_y E) ?_
      refine av_wp_sqF ck_17 1 (pc' := 93) (lv' := [some (.inr (.inr (.inl (some (b))))), some (.inl w), some (.inl (0)), some (.inl (-1))]) (st' := [.inl w, .inl mo, .inr (.inr (.inl (some (t))))]) (h' := h) rfl ?_
      refine wq_cv (p' := 96) (av_qc (.invokevirtual 139) 31 2 0 1) 6 cd_31 [.inl w, .inl mo] (t) 1 [some (.inr (.inr (.inl (some (t))))), some (.inl mo), some (.inl w), none, none, none] (ck_17 _ _ rfl) rfl rfl pp_31 rfl rfl rfl (congrArg Prod.fst (co_kt (ib_co E.1))) rfl rfl rfl rfl ?_
      refine cx_31 E F W (mo) (by omega) (w) (by omega) (fun v11 p12 => ?_)
      show av_wp _ cd_17 96 [some (.inr (.inr (.inl (some (b))))), some (.inl w), some (.inl (0)), some (.inl (-1))] [.inl v11] h _
      refine av_wp_ret (v := some (.inl v11)) (ck_17 _ _ rfl) rfl rfl ?_
      exact hq _ (by unfold bwv; rw [if_neg (fun z => by obtain ⟨z1, z2, z3, z4⟩ := z; rw [e5] at z2; omega)]; exact p12)
    · have c10 : v4 = (3) := c10
      refine av_wp_sqF ck_17 6 (pc' := 27) (lv' := [some (.inr (.inr (.inl (some (b))))), some (.inl w), some (.inl (1)), none]) (st' := [.inr (.inr (.inl (some (b))))]) (h' := h) rfl ?_
      refine wq_gr (p' := 30) (ck_17 _ _ rfl) rfl (congrArg Prod.fst (ib_k0 E.1)) rfl (ib_t E.1) ?_
      refine av_wp_sqF ck_17 1 (pc' := 31) (lv' := [some (.inr (.inr (.inl (some (b))))), some (.inl w), some (.inl (1)), none]) (st' := [.inr (.inr (.inl (some (b)))), .inr (.inr (.inl (some (t))))]) (h' := h) rfl ?_
      refine wq_gi (p' := 34) (ck_17 _ _ rfl) rfl (congrArg Prod.fst (ib_k0 E.1)) rfl (eb_x E) ?_
      refine av_wp_sqF ck_17 3 (pc' := 38) (lv' := [some (.inr (.inr (.inl (some (b))))), some (.inl w), some (.inl (1)), none]) (st' := [.inl ((10) + w), .inl mb, .inr (.inr (.inl (some (t))))]) (h' := h) rfl ?_
      refine wq_cv (p' := 41) (av_qc (.invokevirtual 74) 29 2 0 1) 3 cd_29 [.inl ((10) + w), .inl mb] (t) 1 [some (.inr (.inr (.inl (some (t))))), some (.inl mb), some (.inl ((10) + w))] (ck_17 _ _ rfl) rfl rfl pp_29 rfl rfl rfl (congrArg Prod.fst (co_kt (ib_co E.1))) rfl rfl rfl rfl ?_
      obtain ⟨v13, e14⟩ : ∃ v, u (21 * Int.toNat (mb) + 10 + Int.toNat w) = v := ⟨_, rfl⟩
      have g15 := eb_uv E (21 * Int.toNat (mb) + 10 + Int.toNat w)
      rw [e14] at g15
      refine xc_29 (ib_co E.1) (mb) (by omega) (10 + Int.toNat w) (by omega) (by omega) ((congrFun (eb_u E) _).trans ((congrArg u (by omega)).trans e14)) ?_
      show av_wp _ cd_17 41 [some (.inr (.inr (.inl (some (b))))), some (.inl w), some (.inl (1)), none] [.inl v13] h _
      refine av_wp_sqF ck_17 4 (pc' := 48) (lv' := [some (.inr (.inr (.inl (some (b))))), some (.inl w), some (.inl (1)), some (.inl v13)]) (st' := [.inl (-1), .inl v13]) (h' := h) rfl ?_
      refine wq_k2 (p' := 51) (ck_17 _ _ rfl) rfl ⟨by omega, by omega⟩ ⟨by omega, by omega⟩ (fun c16 => ?_) (fun c17 => ?_)
      · have c16 : v13 = (-1) := c16
        refine av_wp_sqF ck_17 2 (pc' := 66) (lv' := [some (.inr (.inr (.inl (some (b))))), some (.inl w), some (.inl (1)), some (.inl v13)]) (st' := [.inl (-1), .inl v13]) (h' := h) rfl ?_
        refine wq_k2 (p' := 69) (ck_17 _ _ rfl) rfl ⟨by omega, by omega⟩ ⟨by omega, by omega⟩ (fun c18 => ?_) (fun c19 => ?_)
        · have c18 : v13 = (-1) := c18
          refine av_wp_sqF ck_17 1 (pc' := 85) (lv' := [some (.inr (.inr (.inl (some (b))))), some (.inl w), some (.inl (1)), some (.inl v13)]) (st' := [.inr (.inr (.inl (some (b))))]) (h' := h) rfl ?_
          refine wq_gr (p' := 88) (ck_17 _ _ rfl) rfl (congrArg Prod.fst (ib_k0 E.1)) rfl (ib_t E.1) ?_
          refine av_wp_sqF ck_17 1 (pc' := 89) (lv' := [some (.inr (.inr (.inl (some (b))))), some (.inl w), some (.inl (1)), some (.inl v13)]) (st' := [.inr (.inr (.inl (some (b)))), .inr (.inr (.inl (some (t))))]) (h' := h) rfl ?_
          refine wq_gi (p' := 92) (ck_17 _ _ rfl) rfl (congrArg Prod.fst (ib_k0 E.1)) rfl (eb_y E) ?_
          refine av_wp_sqF ck_17 1 (pc' := 93) (lv' := [some (.inr (.inr (.inl (some (b))))), some (.inl w), some (.inl (1)), some (.inl v13)]) (st' := [.inl w, .inl mo, .inr (.inr (.inl (some (t))))]) (h' := h) rfl ?_
          refine wq_cv (p' := 96) (av_qc (.invokevirtual 139) 31 2 0 1) 6 cd_31 [.inl w, .inl mo] (t) 1 [some (.inr (.inr (.inl (some (t))))), some (.inl mo), some (.inl w), none, none, none] (ck_17 _ _ rfl) rfl rfl pp_31 rfl rfl rfl (congrArg Prod.fst (co_kt (ib_co E.1))) rfl rfl rfl rfl ?_
          refine cx_31 E F W (mo) (by omega) (w) (by omega) (fun v20 p21 => ?_)
          show av_wp _ cd_17 96 [some (.inr (.inr (.inl (some (b))))), some (.inl w), some (.inl (1)), some (.inl v13)] [.inl v20] h _
          refine av_wp_ret (v := some (.inl v20)) (ck_17 _ _ rfl) rfl rfl ?_
          exact hq _ (by unfold bwv; rw [if_neg (fun z => by obtain ⟨z1, z2, z3, z4⟩ := z; rw [e5] at z2; rw [e14] at z3; omega)]; exact p21)
        · have c19 : v13 ≠ (-1) := c19
          exfalso; omega
      · have c17 : v13 ≠ (-1) := c17
        refine av_wp_sqF ck_17 1 (pc' := 52) (lv' := [some (.inr (.inr (.inl (some (b))))), some (.inl w), some (.inl (1)), some (.inl v13)]) (st' := [.inr (.inr (.inl (some (b))))]) (h' := h) rfl ?_
        refine wq_gr (p' := 55) (ck_17 _ _ rfl) rfl (congrArg Prod.fst (ib_k0 E.1)) rfl (ib_r E.1) ?_
        refine av_wp_sqF ck_17 1 (pc' := 57) (lv' := [some (.inr (.inr (.inl (some (b))))), some (.inl w), some (.inl (1)), some (.inl v13)]) (st' := [.inl (10), .inr (.inr (.inl (some (r))))]) (h' := h) rfl ?_
        obtain ⟨v23, e24⟩ : ∃ v, ro 10 = v := ⟨_, rfl⟩
        have g22 := eb_rv E 10
        rw [e24] at g22
        have g25 := rl_10 R
        rw [e24] at g25
        refine wq_al (p' := 58) (n := 14) (ck_17 _ _ rfl) rfl (ib_kr E.1) (by omega) ((congrFun (eb_ro E) _).trans e24) ?_
        refine av_wp_sqF ck_17 1 (pc' := 59) (lv' := [some (.inr (.inr (.inl (some (b))))), some (.inl w), some (.inl (1)), some (.inl v13)]) (st' := [.inl (1), .inl v23]) (h' := h) rfl ?_
        refine wq_k2 (p' := 62) (ck_17 _ _ rfl) rfl ⟨by omega, by omega⟩ ⟨by omega, by omega⟩ (fun c26 => ?_) (fun c27 => ?_)
        · have c26 : v23 ≠ (1) := c26
          refine av_wp_sqF ck_17 2 (pc' := 66) (lv' := [some (.inr (.inr (.inl (some (b))))), some (.inl w), some (.inl (1)), some (.inl v13)]) (st' := [.inl (-1), .inl v13]) (h' := h) rfl ?_
          refine wq_k2 (p' := 69) (ck_17 _ _ rfl) rfl ⟨by omega, by omega⟩ ⟨by omega, by omega⟩ (fun c28 => ?_) (fun c29 => ?_)
          · have c28 : v13 = (-1) := c28
            exfalso; omega
          · have c29 : v13 ≠ (-1) := c29
            refine av_wp_sqF ck_17 1 (pc' := 70) (lv' := [some (.inr (.inr (.inl (some (b))))), some (.inl w), some (.inl (1)), some (.inl v13)]) (st' := [.inr (.inr (.inl (some (b))))]) (h' := h) rfl ?_
            refine wq_gr (p' := 73) (ck_17 _ _ rfl) rfl (congrArg Prod.fst (ib_k0 E.1)) rfl (ib_r E.1) ?_
            refine av_wp_sqF ck_17 1 (pc' := 75) (lv' := [some (.inr (.inr (.inl (some (b))))), some (.inl w), some (.inl (1)), some (.inl v13)]) (st' := [.inl (10), .inr (.inr (.inl (some (r))))]) (h' := h) rfl ?_
            obtain ⟨v31, e32⟩ : ∃ v, ro 10 = v := ⟨_, rfl⟩
            have g30 := eb_rv E 10
            rw [e32] at g30
            have g33 := rl_10 R
            rw [e32] at g33
            refine wq_al (p' := 76) (n := 14) (ck_17 _ _ rfl) rfl (ib_kr E.1) (by omega) ((congrFun (eb_ro E) _).trans e32) ?_
            refine av_wp_sqF ck_17 1 (pc' := 77) (lv' := [some (.inr (.inr (.inl (some (b))))), some (.inl w), some (.inl (1)), some (.inl v13)]) (st' := [.inl (2), .inl v31]) (h' := h) rfl ?_
            refine wq_k2 (p' := 80) (ck_17 _ _ rfl) rfl ⟨by omega, by omega⟩ ⟨by omega, by omega⟩ (fun c34 => ?_) (fun c35 => ?_)
            · have c34 : v31 ≠ (2) := c34
              refine av_wp_sqF ck_17 1 (pc' := 85) (lv' := [some (.inr (.inr (.inl (some (b))))), some (.inl w), some (.inl (1)), some (.inl v13)]) (st' := [.inr (.inr (.inl (some (b))))]) (h' := h) rfl ?_
              refine wq_gr (p' := 88) (ck_17 _ _ rfl) rfl (congrArg Prod.fst (ib_k0 E.1)) rfl (ib_t E.1) ?_
              refine av_wp_sqF ck_17 1 (pc' := 89) (lv' := [some (.inr (.inr (.inl (some (b))))), some (.inl w), some (.inl (1)), some (.inl v13)]) (st' := [.inr (.inr (.inl (some (b)))), .inr (.inr (.inl (some (t))))]) (h' := h) rfl ?_
              refine wq_gi (p' := 92) (ck_17 _ _ rfl) rfl (congrArg Prod.fst (ib_k0 E.1)) rfl (eb_y E) ?_
              refine av_wp_sqF ck_17 1 (pc' := 93) (lv' := [some (.inr (.inr (.inl (some (b))))), some (.inl w), some (.inl (1)), some (.inl v13)]) (st' := [.inl w, .inl mo, .inr (.inr (.inl (some (t))))]) (h' := h) rfl ?_
              refine wq_cv (p' := 96) (av_qc (.invokevirtual 139) 31 2 0 1) 6 cd_31 [.inl w, .inl mo] (t) 1 [some (.inr (.inr (.inl (some (t))))), some (.inl mo), some (.inl w), none, none, none] (ck_17 _ _ rfl) rfl rfl pp_31 rfl rfl rfl (congrArg Prod.fst (co_kt (ib_co E.1))) rfl rfl rfl rfl ?_
              refine cx_31 E F W (mo) (by omega) (w) (by omega) (fun v36 p37 => ?_)
              show av_wp _ cd_17 96 [some (.inr (.inr (.inl (some (b))))), some (.inl w), some (.inl (1)), some (.inl v13)] [.inl v36] h _
              refine av_wp_ret (v := some (.inl v36)) (ck_17 _ _ rfl) rfl rfl ?_
              exact hq _ (by unfold bwv; rw [if_neg (fun z => by obtain ⟨z1, z2, z3, z4⟩ := z; rw [e5] at z2; rw [e14] at z3; rw [e32] at z4; omega)]; exact p37)
            · have c35 : v31 = (2) := c35
              refine av_wp_sqF ck_17 2 (pc' := 96) (lv' := [some (.inr (.inr (.inl (some (b))))), some (.inl w), some (.inl (1)), some (.inl v13)]) (st' := [.inl (-1)]) (h' := h) rfl ?_
              refine av_wp_ret (v := some (.inl (-1))) (ck_17 _ _ rfl) rfl rfl ?_
              exact hq _ (by unfold bwv; rw [if_pos ⟨by omega, e5.trans (by omega), by rw [e14]; omega, by rw [e32]; omega⟩, if_neg (by rw [e32]; omega)])
        · have c27 : v23 = (1) := c27
          refine av_wp_sqF ck_17 1 (pc' := 63) (lv' := [some (.inr (.inr (.inl (some (b))))), some (.inl w), some (.inl (1)), some (.inl v13)]) (st' := [.inl v13]) (h' := h) rfl ?_
          refine av_wp_ret (v := some (.inl v13)) (ck_17 _ _ rfl) rfl rfl ?_
          exact hq _ (by unfold bwv; rw [if_pos ⟨by omega, e5.trans (by omega), by rw [e14]; omega, by rw [e24]; omega⟩, if_pos (e24.trans (by omega))]; exact e14.symm)
end
