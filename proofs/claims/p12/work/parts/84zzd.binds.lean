/-! BINDS, exactly -/
set_option maxRecDepth 100000 in
set_option maxHeartbeats 4000000 in
theorem cx_18 {g h : av_H} {b t c s r : Nat} {cb : Int} {u ro : Nat → Int} {a : Nat → Nat → Int} {mb mo ma : Int} (E : EB b t c s r cb u ro a mb mo ma h) (F : FN b g h) (hm : (ma = 9999 ∧ mo = -1) ∨ (ma ≠ 9999 ∧ (0 ≤ mo ∧ mo < (s : Int)) ∧ (0 ≤ u (21 * Int.toNat mo + 1) ∧ u (21 * Int.toNat mo + 1) ≤ 2) ∧ (0 ≤ u (21 * Int.toNat mo + 2) ∧ u (21 * Int.toNat mo + 2) ≤ 2))) {Q : Option av_V → av_H → Prop} (hq : ∀ v : Int, v = bdv u (mb, mo, ma) → Q (some (.inl v)) h) : av_wp none cd_18 0 [some (.inr (.inr (.inl (some (b))))), none, none] [] h Q := by
  have s12 := co_s12 (ib_co E.1)
  have cbr := co_cbr (ib_co E.1)
  have mbr := eb_xr E
  have mor := eb_yr E
  refine av_wp_seq 1 (pc' := 1) (lv' := [some (.inr (.inr (.inl (some (b))))), none, none]) (st' := [.inr (.inr (.inl (some (b))))]) (h' := h) rfl ?_
  refine wq_gr (p' := 4) rfl rfl (congrArg Prod.fst (ib_k0 E.1)) rfl (ib_t E.1) ?_
  refine av_wp_seq 1 (pc' := 5) (lv' := [some (.inr (.inr (.inl (some (b))))), none, none]) (st' := [.inr (.inr (.inl (some (b)))), .inr (.inr (.inl (some (t))))]) (h' := h) rfl ?_
  refine wq_gi (p' := 8) rfl rfl (congrArg Prod.fst (ib_k0 E.1)) rfl (eb_y E) ?_
  refine av_wp_seq 1 (pc' := 9) (lv' := [some (.inr (.inr (.inl (some (b))))), none, none]) (st' := [.inl (1), .inl mo, .inr (.inr (.inl (some (t))))]) (h' := h) rfl ?_
  refine wq_cv (p' := 12) (av_qc (.invokevirtual 74) 29 2 0 1) 3 cd_29 [.inl (1), .inl mo] (t) 1 [some (.inr (.inr (.inl (some (t))))), some (.inl mo), some (.inl (1))] rfl rfl rfl pp_29 rfl rfl rfl (congrArg Prod.fst (co_kt (ib_co E.1))) rfl rfl rfl rfl ?_
  refine xc_29b (ib_co E.1) (mo) (by omega) 1 (by omega) rfl (fun z1 => ?_) (fun z2 z3 v4 e5 => ?_)
  · show av_wp _ cd_18 12 [some (.inr (.inr (.inl (some (b))))), none, none] [.inl (-1)] h _
    refine av_wp_seq 2 (pc' := 14) (lv' := [some (.inr (.inr (.inl (some (b))))), some (.inl (-1)), none]) (st' := [.inr (.inr (.inl (some (b))))]) (h' := h) rfl ?_
    refine wq_gr (p' := 17) rfl rfl (congrArg Prod.fst (ib_k0 E.1)) rfl (ib_t E.1) ?_
    refine av_wp_seq 1 (pc' := 18) (lv' := [some (.inr (.inr (.inl (some (b))))), some (.inl (-1)), none]) (st' := [.inr (.inr (.inl (some (b)))), .inr (.inr (.inl (some (t))))]) (h' := h) rfl ?_
    refine wq_gi (p' := 21) rfl rfl (congrArg Prod.fst (ib_k0 E.1)) rfl (eb_y E) ?_
    refine av_wp_seq 1 (pc' := 22) (lv' := [some (.inr (.inr (.inl (some (b))))), some (.inl (-1)), none]) (st' := [.inl (2), .inl mo, .inr (.inr (.inl (some (t))))]) (h' := h) rfl ?_
    refine wq_cv (p' := 25) (av_qc (.invokevirtual 74) 29 2 0 1) 3 cd_29 [.inl (2), .inl mo] (t) 1 [some (.inr (.inr (.inl (some (t))))), some (.inl mo), some (.inl (2))] rfl rfl rfl pp_29 rfl rfl rfl (congrArg Prod.fst (co_kt (ib_co E.1))) rfl rfl rfl rfl ?_
    refine xc_29b (ib_co E.1) (mo) (by omega) 2 (by omega) rfl (fun z7 => ?_) (fun z8 z9 v10 e11 => ?_)
    · show av_wp _ cd_18 25 [some (.inr (.inr (.inl (some (b))))), some (.inl (-1)), none] [.inl (-1)] h _
      refine av_wp_seq 5 (pc' := 45) (lv' := [some (.inr (.inr (.inl (some (b))))), some (.inl (-1)), some (.inl (-1))]) (st' := [.inl (0)]) (h' := h) rfl ?_
      refine av_wp_ret (v := some (.inl (0))) rfl rfl rfl ?_
      exact hq _ (by show (0 : Int) = (if ma = 9999 then 0 else _); rw [if_pos (by omega)])
    · rw [eb_u E] at e11
      have g12 := eb_uv E (21 * Int.toNat (mo) + 2)
      rw [e11] at g12
      show av_wp _ cd_18 25 [some (.inr (.inr (.inl (some (b))))), some (.inl (-1)), none] [.inl v10] h _
      refine av_wp_seq 5 (pc' := 45) (lv' := [some (.inr (.inr (.inl (some (b))))), some (.inl (-1)), some (.inl v10)]) (st' := [.inl (0)]) (h' := h) rfl ?_
      refine av_wp_ret (v := some (.inl (0))) rfl rfl rfl ?_
      exact hq _ (by show (0 : Int) = (if ma = 9999 then 0 else _); rw [if_pos (by omega)])
  · rw [eb_u E] at e5
    have g6 := eb_uv E (21 * Int.toNat (mo) + 1)
    rw [e5] at g6
    show av_wp _ cd_18 12 [some (.inr (.inr (.inl (some (b))))), none, none] [.inl v4] h _
    refine av_wp_seq 2 (pc' := 14) (lv' := [some (.inr (.inr (.inl (some (b))))), some (.inl v4), none]) (st' := [.inr (.inr (.inl (some (b))))]) (h' := h) rfl ?_
    refine wq_gr (p' := 17) rfl rfl (congrArg Prod.fst (ib_k0 E.1)) rfl (ib_t E.1) ?_
    refine av_wp_seq 1 (pc' := 18) (lv' := [some (.inr (.inr (.inl (some (b))))), some (.inl v4), none]) (st' := [.inr (.inr (.inl (some (b)))), .inr (.inr (.inl (some (t))))]) (h' := h) rfl ?_
    refine wq_gi (p' := 21) rfl rfl (congrArg Prod.fst (ib_k0 E.1)) rfl (eb_y E) ?_
    refine av_wp_seq 1 (pc' := 22) (lv' := [some (.inr (.inr (.inl (some (b))))), some (.inl v4), none]) (st' := [.inl (2), .inl mo, .inr (.inr (.inl (some (t))))]) (h' := h) rfl ?_
    refine wq_cv (p' := 25) (av_qc (.invokevirtual 74) 29 2 0 1) 3 cd_29 [.inl (2), .inl mo] (t) 1 [some (.inr (.inr (.inl (some (t))))), some (.inl mo), some (.inl (2))] rfl rfl rfl pp_29 rfl rfl rfl (congrArg Prod.fst (co_kt (ib_co E.1))) rfl rfl rfl rfl ?_
    obtain ⟨v13, e14⟩ : ∃ v, u (21 * Int.toNat (mo) + 2) = v := ⟨_, rfl⟩
    have g15 := eb_uv E (21 * Int.toNat (mo) + 2)
    rw [e14] at g15
    refine xc_29 (ib_co E.1) (mo) (by omega) 2 (by omega) rfl ((congrFun (eb_u E) _).trans e14) ?_
    show av_wp _ cd_18 25 [some (.inr (.inr (.inl (some (b))))), some (.inl v4), none] [.inl v13] h _
    refine av_wp_seq 2 (pc' := 27) (lv' := [some (.inr (.inr (.inl (some (b))))), some (.inl v4), some (.inl v13)]) (st' := [.inl v4]) (h' := h) rfl ?_
    refine wq_k1 (p' := 30) rfl rfl ⟨by omega, by omega⟩ (fun c16 => ?_) (fun c17 => ?_)
    · have c16 : v4 < (0) := c16
      refine av_wp_seq 2 (pc' := 45) (lv' := [some (.inr (.inr (.inl (some (b))))), some (.inl v4), some (.inl v13)]) (st' := [.inl (0)]) (h' := h) rfl ?_
      refine av_wp_ret (v := some (.inl (0))) rfl rfl rfl ?_
      exact hq _ (by show (0 : Int) = (if ma = 9999 then 0 else _); rw [if_pos (by omega)])
    · have c17 : (0) ≤ v4 := c17
      refine av_wp_seq 1 (pc' := 31) (lv' := [some (.inr (.inr (.inl (some (b))))), some (.inl v4), some (.inl v13)]) (st' := [.inl v13]) (h' := h) rfl ?_
      refine wq_k1 (p' := 34) rfl rfl ⟨by omega, by omega⟩ (fun c18 => ?_) (fun c19 => ?_)
      · have c18 : (0) ≤ v13 := c18
        refine av_wp_seq 7 (pc' := 45) (lv' := [some (.inr (.inr (.inl (some (b))))), some (.inl v4), some (.inl v13)]) (st' := [.inl (av_or (av_shl (1) v4) (av_shl (1) v13))]) (h' := h) rfl ?_
        refine av_wp_ret (v := some (.inl (av_or (av_shl (1) v4) (av_shl (1) v13)))) rfl rfl rfl ?_
        exact hq _ (by show _ = (if ma = 9999 then 0 else av_or (av_shl (1) (u (21 * Int.toNat mo + 1))) (av_shl (1) (u (21 * Int.toNat mo + 2)))); rw [if_neg (by omega), e5, e14])
      · have c19 : v13 < (0) := c19
        refine av_wp_seq 2 (pc' := 45) (lv' := [some (.inr (.inr (.inl (some (b))))), some (.inl v4), some (.inl v13)]) (st' := [.inl (0)]) (h' := h) rfl ?_
        refine av_wp_ret (v := some (.inl (0))) rfl rfl rfl ?_
        exact hq _ (by show (0 : Int) = (if ma = 9999 then 0 else _); rw [if_pos (by omega)])

set_option maxRecDepth 100000 in
set_option maxHeartbeats 4000000 in
theorem cx_108 {h : av_H} {U : Nat → Nat → Int} {S : Nat → Nat} {n : Int} {sr nd : Nat → Int} (C : CJ U S n sr nd h) (k : Int) (qk : -2147483648 ≤ k ∧ k ≤ 2147483647) (l : Int) (ql : -2147483648 ≤ l ∧ l ≤ 2147483647) (x : Int) (qx : -2147483648 ≤ x ∧ x ≤ 2147483647) (CR : CRT U S n (hF h 3 4) (fun k => hA h (6 + k))) (SU : SUA U S n (hF h 3 4) (fun k => hA h (6 + k)) sr) (UH : ∀ i : Nat, (i : Int) < n → UHW (U i) (S i)) {Q : Option av_V → av_H → Prop} (hq : ∀ (v : Int) h' sr' nd', CJ U S n sr' nd' h' → FP 35 h h' → SUA U S n (hF h 3 4) (fun k => hA h (6 + k)) sr' → RSP (okx U S n (hF h 3 4) k l x) (-2) (bdv (U (Int.toNat k)) (bgx U S (fun k => hA h (6 + k)) k l x)) v → Q (some (.inl v)) h') : av_wp none cd_108 0 [some (.inr (.inr (.inl (some (0))))), some (.inl k), some (.inl l), some (.inl x)] [] h Q := by
  have F := FP_rf 35 h
  have nr := C.2.1.2.1
  refine av_wp_seq 1 (pc' := 1) (lv' := [some (.inr (.inr (.inl (some (0))))), some (.inl k), some (.inl l), some (.inl x)]) (st' := [.inr (.inr (.inl (some (0))))]) (h' := h) rfl ?_
  refine wq_gr (p' := 4) rfl rfl (congrArg Prod.fst (ly_k C.1.1 0 rfl)) rfl (ly_g C.1.1 0 5 26 rfl) ?_
  refine av_wp_seq 3 (pc' := 7) (lv' := [some (.inr (.inr (.inl (some (0))))), some (.inl k), some (.inl l), some (.inl x)]) (st' := [.inl x, .inl l, .inl k, .inr (.inr (.inl (some (26))))]) (h' := h) rfl ?_
  refine wq_cv (p' := 10) (av_qc (.invokevirtual 160) 48 3 0 3) 5 cd_48 [.inl x, .inl l, .inl k] (26) 3 [some (.inr (.inr (.inl (some (26))))), some (.inl k), some (.inl l), some (.inl x), none] rfl rfl rfl pp_48 rfl rfl rfl (congrArg Prod.fst (ly_k C.1.1 26 rfl)) rfl rfl rfl rfl ?_
  refine cz_48 C (k) (by omega) (l) (by omega) (x) (by omega) CR SU (fun z1 => ?_) (fun z1 z2 z3 h4 r5 n6 t7 c8 a9 m10 m11 m12 C13 F14 U15 E16 Z17 T18 D19 B20 R21 => ?_)
  · show av_wp _ cd_108 10 [some (.inr (.inr (.inl (some (0))))), some (.inl k), some (.inl l), some (.inl x)] [.inl (0)] h _
    refine av_wp_seq 2 (pc' := 15) (lv' := [some (.inr (.inr (.inl (some (0))))), some (.inl k), some (.inl l), some (.inl x)]) (st' := [.inl (-2)]) (h' := h) rfl ?_
    refine av_wp_ret (v := some (.inl (-2))) rfl rfl rfl ?_
    exact hq _ h _ _ C F SU (Or.inr ⟨by unfold okx; omega, rfl⟩)
  · have b24 := bgn_f (u := U (Int.toNat k)) (ro := (hA h (6 + Int.toNat l))) (bar := (brv (U (Int.toNat k)) (srt U S (hA h (6 + Int.toNat l)) (Int.toNat k)))) (s := S (Int.toNat k)) (x := x)
    rw [B20] at b24
    have b24 : (m12 = 9999 ∧ m10 = -1 ∧ m11 = -1) ∨ (m12 < 9999 ∧ (0 ≤ m11 ∧ m11 < (S (Int.toNat k) : Int) ∧ ofv (U (Int.toNat k)) (hA h (6 + Int.toNat l)) (Int.toNat m11) ≠ 0) ∧ (m10 = -1 ∨ (0 ≤ m10 ∧ m10 < (S (Int.toNat k) : Int) ∧ ysv (U (Int.toNat k)) (hA h (6 + Int.toNat l)) (Int.toNat m10) ≠ 0))) := b24
    have g22 : (-1 ≤ m10 ∧ m10 ≤ 11) ∧ (-1 ≤ m11 ∧ m11 ≤ 11) ∧ (-1 ≤ m12 ∧ m12 ≤ 9999) := R21
    have g23 := co_s12 (ib_co E16.1)
    show av_wp _ cd_108 10 [some (.inr (.inr (.inl (some (0))))), some (.inl k), some (.inl l), some (.inl x)] [.inl (1)] h4 _
    refine av_wp_seq 2 (pc' := 17) (lv' := [some (.inr (.inr (.inl (some (0))))), some (.inl k), some (.inl l), some (.inl x)]) (st' := [.inr (.inr (.inl (some (0))))]) (h' := h4) rfl ?_
    refine wq_gr (p' := 20) rfl rfl (congrArg Prod.fst (ly_k C13.1.1 0 rfl)) rfl (ly_g C13.1.1 0 5 26 rfl) ?_
    refine wq_gr (p' := 23) rfl rfl (congrArg Prod.fst (ly_k C13.1.1 26 rfl)) rfl (ly_g C13.1.1 26 1 35 rfl) ?_
    refine wq_cv (p' := 26) (av_qc (.invokevirtual 199) 18 0 0 0) 3 cd_18 [] (35) 0 [some (.inr (.inr (.inl (some (35))))), none, none] rfl rfl rfl pp_18 rfl rfl rfl (congrArg Prod.fst (bn_k0 C13.1.1 (Or.inl rfl))) rfl rfl rfl rfl ?_
    refine cx_18 E16 (FN_rf 35 h4) (b24.elim (fun z => Or.inl ⟨z.1, z.2.2⟩) (fun z => Or.inr ⟨by omega, ⟨z.2.1.1, z.2.1.2.1⟩, UHW_o (UH (Int.toNat k) (by omega)) (by omega) z.2.1.2.2⟩)) (fun v25 p26 => ?_)
    show av_wp _ cd_108 26 [some (.inr (.inr (.inl (some (0))))), some (.inl k), some (.inl l), some (.inl x)] [.inl v25] h4 _
    refine av_wp_ret (v := some (.inl v25)) rfl rfl rfl ?_
    exact hq _ h4 _ _ C13 F14 U15 (Or.inl ⟨by unfold okx; omega, by rw [show bgx U S (fun k => hA h (6 + k)) k l x = _ from B20]; exact p26⟩)

set_option maxRecDepth 100000 in
set_option maxHeartbeats 4000000 in
theorem cx_192 {g h : av_H} {n a m : Int} (I : IMF n a m h) (F : FM g h) {U : Nat → Nat → Int} {S : Nat → Nat} {ro : Nat → Nat → Int} (RX : RXX g U S ro) (x : Int) (qx : -2147483648 ≤ x ∧ x ≤ 2147483647) (l : Int) (ql : -2147483648 ≤ l ∧ l ≤ 2147483647) (y : Int) (qy : -2147483648 ≤ y ∧ y ≤ 2147483647) {Q : Option av_V → av_H → Prop} (hq : ∀ (v : Int) n' a' m' h', RSP (okx U S (hA g 78 0) (hA g 79 0) x l y) (-2) (bdv (U (Int.toNat x)) (bgx U S ro x l y)) v → IMF n' a' m' h' → FM g h' → Q (some (.inl v)) h') : av_wp none cd_192 0 [some (.inr (.inr (.inl (some (77))))), some (.inl x), some (.inl l), some (.inl y)] [] h Q := by
  have gn := im_n I.1.1
  rw [I.2.1] at gn
  have ga := im_a I.1.1
  rw [I.2.2.1] at ga
  have gm := im_cm I.1.1
  rw [I.2.2.2] at gm
  have G0 := I.1.1.2.1
  have G16 : 0 ≤ hA g 78 0 ∧ hA g 78 0 ≤ 16 := by rw [← F.2.2.2.2.2.2 78 rfl]; exact G0.2.1
  have G8 : 0 ≤ hA g 79 0 ∧ hA g 79 0 ≤ 8 := by rw [← F.2.2.2.2.2.2 79 rfl]; exact G0.2.2.1
  have G6 : 0 ≤ hA g 80 0 ∧ hA g 80 0 ≤ 6 := by rw [← F.2.2.2.2.2.2 80 rfl]; exact G0.2.2.2.1
  refine av_wp_seq 4 (pc' := 4) (lv' := [some (.inr (.inr (.inl (some (77))))), some (.inl x), some (.inl l), some (.inl y)]) (st' := [.inl y, .inl l, .inl x, .inr (.inr (.inl (some (77))))]) (h' := h) rfl ?_
  refine wq_cv (p' := 7) (av_qc (.invokevirtual 446) 186 3 0 8) 4 cd_186 [.inl y, .inl l, .inl x] (77) 8 [some (.inr (.inr (.inl (some (77))))), some (.inl x), some (.inl l), some (.inl y)] rfl rfl rfl pp_186 rfl rfl rfl (congrArg Prod.fst (ly_k I.1.1.1 77 rfl)) rfl rfl rfl rfl ?_
  refine cx_186 I F RX (x) (by omega) (l) (by omega) (y) (by omega) (fun n1 a2 m3 h4 z5 I6 F7 => ?_) (fun n8 a9 m10 h11 z12 z13 z14 e15 e16 A17 O18 B19 L20 I21 F22 => ?_)
  · have g23 := im_n I6.1.1
    rw [I6.2.1] at g23
    have g24 := im_a I6.1.1
    rw [I6.2.2.1] at g24
    have g25 := im_cm I6.1.1
    rw [I6.2.2.2] at g25
    show av_wp _ cd_192 7 [some (.inr (.inr (.inl (some (77))))), some (.inl x), some (.inl l), some (.inl y)] [.inl (0)] h4 _
    refine av_wp_seq 2 (pc' := 12) (lv' := [some (.inr (.inr (.inl (some (77))))), some (.inl x), some (.inl l), some (.inl y)]) (st' := [.inl (-2)]) (h' := h4) rfl ?_
    refine av_wp_ret (v := some (.inl (-2))) rfl rfl rfl ?_
    exact hq _ _ _ _ h4 (Or.inr ⟨by unfold okx; omega, rfl⟩) I6 F7
  · have g26 := im_n I21.1.1
    rw [I21.2.1] at g26
    have g27 := im_a I21.1.1
    rw [I21.2.2.1] at g27
    have g28 := im_cm I21.1.1
    rw [I21.2.2.2] at g28
    have g29 := (bgn_m (bar := bxx U S (ro (Int.toNat l)) (Int.toNat x)) (RX.2.1 (Int.toNat x) (Int.toNat l) (by omega) (by omega)) z14.1 (by have := cbv_d (U (Int.toNat x)) (S (Int.toNat x)); omega)).2.2
    have g29 : -1 ≤ (bgx U S ro x l y).2.2 ∧ (bgx U S ro x l y).2.2 ≤ 9999 := g29
    have B19 : BRR (bgx U S ro x l y) h11 := B19
    show av_wp _ cd_192 7 [some (.inr (.inr (.inl (some (77))))), some (.inl x), some (.inl l), some (.inl y)] [.inl (1)] h11 _
    refine av_wp_seq 2 (pc' := 14) (lv' := [some (.inr (.inr (.inl (some (77))))), some (.inl x), some (.inl l), some (.inl y)]) (st' := [.inr (.inr (.inl (some (77))))]) (h' := h11) rfl ?_
    obtain ⟨v30, e31⟩ : ∃ v, hF h11 77 50 = v := ⟨_, rfl⟩
    have g32 := im_has I21.1.1
    rw [e31] at g32
    refine wq_gb (p' := 17) rfl rfl (congrArg Prod.fst (ly_k I21.1.1.1 77 rfl)) rfl (e31) ?_
    refine wq_k1 (p' := 20) rfl rfl ⟨by omega, by omega⟩ (fun c33 => ?_) (fun c34 => ?_)
    · have c33 : v30 = (0) := c33
      refine av_wp_seq 1 (pc' := 47) (lv' := [some (.inr (.inr (.inl (some (77))))), some (.inl x), some (.inl l), some (.inl y)]) (st' := [.inl (0)]) (h' := h11) rfl ?_
      refine av_wp_ret (v := some (.inl (0))) rfl rfl rfl ?_
      have q35 := BRR_no B19 e31 (by omega)
      exact hq _ _ _ _ h11 (Or.inl ⟨by unfold okx; omega, by unfold bdv; rw [if_pos q35]⟩) I21 F22
    · have c34 : v30 ≠ (0) := c34
      refine av_wp_seq 2 (pc' := 22) (lv' := [some (.inr (.inr (.inl (some (77))))), some (.inl x), some (.inl l), some (.inl y)]) (st' := [.inr (.inr (.inl (some (77)))), .inl (1)]) (h' := h11) rfl ?_
      refine wq_gr (p' := 25) rfl rfl (congrArg Prod.fst (ly_k I21.1.1.1 77 rfl)) rfl (ly_g I21.1.1.1 77 35 101 rfl) ?_
      refine av_wp_seq 1 (pc' := 26) (lv' := [some (.inr (.inr (.inl (some (77))))), some (.inl x), some (.inl l), some (.inl y)]) (st' := [.inr (.inr (.inl (some (77)))), .inr (.inr (.inl (some (101)))), .inl (1)]) (h' := h11) rfl ?_
      obtain ⟨v36, e37⟩ : ∃ v, hF h11 77 52 = v := ⟨_, rfl⟩
      have g38 := im_of I21.1.1
      rw [e37] at g38
      have y39 : (bgx U S ro x l y).2.1 = v36 := (BRR_ye B19 e31 (by omega)).2.2.1.symm.trans e37
      have q41 := (BRR_ye B19 e31 (by omega)).1
      have b40 : ((bgx U S ro x l y).2.2 = 9999 ∧ (bgx U S ro x l y).1 = -1 ∧ (bgx U S ro x l y).2.1 = -1) ∨ ((bgx U S ro x l y).2.2 < 9999 ∧ (0 ≤ (bgx U S ro x l y).2.1 ∧ (bgx U S ro x l y).2.1 < (S (Int.toNat x) : Int) ∧ ofv (U (Int.toNat x)) (ro (Int.toNat l)) (Int.toNat (bgx U S ro x l y).2.1) ≠ 0) ∧ ((bgx U S ro x l y).1 = -1 ∨ (0 ≤ (bgx U S ro x l y).1 ∧ (bgx U S ro x l y).1 < (S (Int.toNat x) : Int) ∧ ysv (U (Int.toNat x)) (ro (Int.toNat l)) (Int.toNat (bgx U S ro x l y).1) ≠ 0))) := bgn_f
      have b40a := (b40.elim (fun z => absurd z.1 q41) (fun z => z.2.1))
      have b40b : 0 ≤ v36 ∧ v36 < (S (Int.toNat x) : Int) := by omega
      clear b40
      refine wq_gi (p' := 29) rfl rfl (congrArg Prod.fst (ly_k I21.1.1.1 77 rfl)) rfl (e37) ?_
      obtain ⟨v42, e43⟩ : ∃ v, hA h11 101 (Int.toNat (v36)) = v := ⟨_, rfl⟩
      have g44 : 0 ≤ hA h11 101 (Int.toNat (v36)) ∧ hA h11 101 (Int.toNat (v36)) ≤ 2 := im_w I21.1.1 101 (by decide) (by decide) _
      rw [e43] at g44
      have y45 : (U (Int.toNat x)) (21 * (Int.toNat (v36)) + 1) = v42 := (L20.1 (Int.toNat (v36)) (by omega)).1.2.2.2.2.1.symm.trans e43
      refine wq_al (p' := 30) (n := 12) rfl rfl (ly_k I21.1.1.1 101 rfl) (by omega) (e43) ?_
      refine av_wp_seq 1 (pc' := 31) (lv' := [some (.inr (.inr (.inl (some (77))))), some (.inl x), some (.inl l), some (.inl y)]) (st' := [.inl (av_shl (1) v42)]) (h' := h11) rfl ?_
      have g48 := shl_le (n := v42) (by omega)
      generalize e47 : av_shl (1) v42 = v46 at g48 ⊢
      refine av_wp_seq 2 (pc' := 33) (lv' := [some (.inr (.inr (.inl (some (77))))), some (.inl x), some (.inl l), some (.inl y)]) (st' := [.inr (.inr (.inl (some (77)))), .inl (1), .inl v46]) (h' := h11) rfl ?_
      refine wq_gr (p' := 36) rfl rfl (congrArg Prod.fst (ly_k I21.1.1.1 77 rfl)) rfl (ly_g I21.1.1.1 77 36 102 rfl) ?_
      refine av_wp_seq 1 (pc' := 37) (lv' := [some (.inr (.inr (.inl (some (77))))), some (.inl x), some (.inl l), some (.inl y)]) (st' := [.inr (.inr (.inl (some (77)))), .inr (.inr (.inl (some (102)))), .inl (1), .inl v46]) (h' := h11) rfl ?_
      obtain ⟨v49, e50⟩ : ∃ v, hF h11 77 52 = v := ⟨_, rfl⟩
      have g51 := im_of I21.1.1
      rw [e50] at g51
      have y52 : (bgx U S ro x l y).2.1 = v49 := (BRR_ye B19 e31 (by omega)).2.2.1.symm.trans e50
      refine wq_gi (p' := 40) rfl rfl (congrArg Prod.fst (ly_k I21.1.1.1 77 rfl)) rfl (e50) ?_
      obtain ⟨v53, e54⟩ : ∃ v, hA h11 102 (Int.toNat (v49)) = v := ⟨_, rfl⟩
      have g55 : -1 ≤ hA h11 102 (Int.toNat (v49)) ∧ hA h11 102 (Int.toNat (v49)) ≤ 2 := im_w I21.1.1 102 (by decide) (by decide) _
      rw [e54] at g55
      have y56 : (U (Int.toNat x)) (21 * (Int.toNat (v49)) + 2) = v53 := (L20.1 (Int.toNat (v49)) (by omega)).1.2.2.2.2.2.1.symm.trans e54
      refine wq_al (p' := 41) (n := 12) rfl rfl (ly_k I21.1.1.1 102 rfl) (by omega) (e54) ?_
      refine av_wp_seq 3 (pc' := 47) (lv' := [some (.inr (.inr (.inl (some (77))))), some (.inl x), some (.inl l), some (.inl y)]) (st' := [.inl (av_or v46 (av_shl (1) v53))]) (h' := h11) rfl ?_
      refine av_wp_ret (v := some (.inl (av_or v46 (av_shl (1) v53)))) rfl rfl rfl ?_
      have q57 := (BRR_ye B19 e31 (by omega)).1
      have z58 : (U (Int.toNat x)) (21 * Int.toNat (bgx U S ro x l y).2.1 + 1) = v42 := by rw [y39]; exact y45
      have z59 : (U (Int.toNat x)) (21 * Int.toNat (bgx U S ro x l y).2.1 + 2) = v53 := by rw [y52]; exact y56
      exact hq _ _ _ _ h11 (Or.inl ⟨by unfold okx; omega, by unfold bdv; rw [if_neg q57, z58, z59, e47]⟩) I21 F22

