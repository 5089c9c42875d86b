section
/-! BINDS, exactly -/
set_option maxRecDepth 100000 in
set_option maxHeartbeats 4000000 in
theorem cx_18 {g h : av_H} {b t c s r : Nat} {cb : Int} {u ro : Nat → Int} {a : Nat → Nat → Int} {mb mo ma : Int} (E : EB b t c s r cb u ro a mb mo ma h) (F : FN b g h) (hm : (ma = 9999 ∧ mo = -1) ∨ (ma ≠ 9999 ∧ (0 ≤ mo ∧ mo < (s : Int)) ∧ (0 ≤ u (21 * Int.toNat mo + 1) ∧ u (21 * Int.toNat mo + 1) ≤ 2) ∧ (0 ≤ u (21 * Int.toNat mo + 2) ∧ u (21 * Int.toNat mo + 2) ≤ 2))) {Q : Option av_V → av_H → Prop} (hq : ∀ v : Int, v = bdv u (mb, mo, ma) → Q (some (.inl v)) h) : av_wp none cd_18 0 [some (.inr (.inr (.inl (some (b))))), none, none] [] h Q := by
  have s12 := co_s12 (ib_co E.1)
  have cbr := co_cbr (ib_co E.1)
  have mbr := eb_xr E
  have mor := eb_yr E
  refine av_wp_sqF ck_18 1 (pc' := 1) (lv' := [some (.inr (.inr (.inl (some (b))))), none, none]) (st' := [.inr (.inr (.inl (some (b))))]) (h' := h) rfl ?_
  refine wq_gr (p' := 4) (ck_18 _ _ rfl) rfl (congrArg Prod.fst (ib_k0 E.1)) rfl (ib_t E.1) ?_
  refine av_wp_sqF ck_18 1 (pc' := 5) (lv' := [some (.inr (.inr (.inl (some (b))))), none, none]) (st' := [.inr (.inr (.inl (some (b)))), .inr (.inr (.inl (some (t))))]) (h' := h) rfl ?_
  refine wq_gi (p' := 8) (ck_18 _ _ rfl) rfl (congrArg Prod.fst (ib_k0 E.1)) rfl (eb_y E) ?_
  refine av_wp_sqF ck_18 1 (pc' := 9) (lv' := [some (.inr (.inr (.inl (some (b))))), none, none]) (st' := [.inl (1), .inl mo, .inr (.inr (.inl (some (t))))]) (h' := h) rfl ?_
  refine wq_cv (p' := 12) (av_qc (.invokevirtual 74) 29 2 0 1) 3 cd_29 [.inl (1), .inl mo] (t) 1 [some (.inr (.inr (.inl (some (t))))), some (.inl mo), some (.inl (1))] (ck_18 _ _ rfl) rfl rfl pp_29 rfl rfl rfl (congrArg Prod.fst (co_kt (ib_co E.1))) rfl rfl rfl rfl ?_
  refine xc_29b (ib_co E.1) (mo) (by omega) 1 (by omega) rfl (fun z1 => ?_) (fun z2 z3 v4 e5 => ?_)
  · show av_wp _ cd_18 12 [some (.inr (.inr (.inl (some (b))))), none, none] [.inl (-1)] h _
    refine av_wp_sqF ck_18 2 (pc' := 14) (lv' := [some (.inr (.inr (.inl (some (b))))), some (.inl (-1)), none]) (st' := [.inr (.inr (.inl (some (b))))]) (h' := h) rfl ?_
    refine wq_gr (p' := 17) (ck_18 _ _ rfl) rfl (congrArg Prod.fst (ib_k0 E.1)) rfl (ib_t E.1) ?_
    refine av_wp_sqF ck_18 1 (pc' := 18) (lv' := [some (.inr (.inr (.inl (some (b))))), some (.inl (-1)), none]) (st' := [.inr (.inr (.inl (some (b)))), .inr (.inr (.inl (some (t))))]) (h' := h) rfl ?_
    refine wq_gi (p' := 21) (ck_18 _ _ rfl) rfl (congrArg Prod.fst (ib_k0 E.1)) rfl (eb_y E) ?_
    refine av_wp_sqF ck_18 1 (pc' := 22) (lv' := [some (.inr (.inr (.inl (some (b))))), some (.inl (-1)), none]) (st' := [.inl (2), .inl mo, .inr (.inr (.inl (some (t))))]) (h' := h) rfl ?_
    refine wq_cv (p' := 25) (av_qc (.invokevirtual 74) 29 2 0 1) 3 cd_29 [.inl (2), .inl mo] (t) 1 [some (.inr (.inr (.inl (some (t))))), some (.inl mo), some (.inl (2))] (ck_18 _ _ rfl) rfl rfl pp_29 rfl rfl rfl (congrArg Prod.fst (co_kt (ib_co E.1))) rfl rfl rfl rfl ?_
    refine xc_29b (ib_co E.1) (mo) (by omega) 2 (by omega) rfl (fun z7 => ?_) (fun z8 z9 v10 e11 => ?_)
    · show av_wp _ cd_18 25 [some (.inr (.inr (.inl (some (b))))), some (.inl (-1)), none] [.inl (-1)] h _
      refine av_wp_sqF ck_18 5 (pc' := 45) (lv' := [some (.inr (.inr (.inl (some (b))))), some (.inl (-1)), some (.inl (-1))]) (st' := [.inl (0)]) (h' := h) rfl ?_
      refine av_wp_ret (v := some (.inl (0))) (ck_18 _ _ rfl) rfl rfl ?_
      exact hq _ (by show (0 : Int) = (if ma = 9999 then 0 else _); rw [if_pos (by omega)])
    · rw [eb_u E] at e11
      have g12 := eb_uv E (21 * Int.toNat (mo) + 2)
      rw [e11] at g12
      show av_wp _ cd_18 25 [some (.inr (.inr (.inl (some (b))))), some (.inl (-1)), none] [.inl v10] h _
      refine av_wp_sqF ck_18 5 (pc' := 45) (lv' := [some (.inr (.inr (.inl (some (b))))), some (.inl (-1)), some (.inl v10)]) (st' := [.inl (0)]) (h' := h) rfl ?_
      refine av_wp_ret (v := some (.inl (0))) (ck_18 _ _ rfl) rfl rfl ?_
      exact hq _ (by show (0 : Int) = (if ma = 9999 then 0 else _); rw [if_pos (by omega)])
  · rw [eb_u E] at e5
    have g6 := eb_uv E (21 * Int.toNat (mo) + 1)
    rw [e5] at g6
    show av_wp _ cd_18 12 [some (.inr (.inr (.inl (some (b))))), none, none] [.inl v4] h _
    refine av_wp_sqF ck_18 2 (pc' := 14) (lv' := [some (.inr (.inr (.inl (some (b))))), some (.inl v4), none]) (st' := [.inr (.inr (.inl (some (b))))]) (h' := h) rfl ?_
    refine wq_gr (p' := 17) (ck_18 _ _ rfl) rfl (congrArg Prod.fst (ib_k0 E.1)) rfl (ib_t E.1) ?_
    refine av_wp_sqF ck_18 1 (pc' := 18) (lv' := [some (.inr (.inr (.inl (some (b))))), some (.inl v4), none]) (st' := [.inr (.inr (.inl (some (b)))), .inr (.inr (.inl (some (t))))]) (h' := h) rfl ?_
    refine wq_gi (p' := 21) (ck_18 _ _ rfl) rfl (congrArg Prod.fst (ib_k0 E.1)) rfl (eb_y E) ?_
    refine av_wp_sqF ck_18 1 (pc' := 22) (lv' := [some (.inr (.inr (.inl (some (b))))), some (.inl v4), none]) (st' := [.inl (2), .inl mo, .inr (.inr (.inl (some (t))))]) (h' := h) rfl ?_
    refine wq_cv (p' := 25) (av_qc (.invokevirtual 74) 29 2 0 1) 3 cd_29 [.inl (2), .inl mo] (t) 1 [some (.inr (.inr (.inl (some (t))))), some (.inl mo), some (.inl (2))] (ck_18 _ _ rfl) rfl rfl pp_29 rfl rfl rfl (congrArg Prod.fst (co_kt (ib_co E.1))) rfl rfl rfl rfl ?_
    obtain ⟨v13, e14⟩ : ∃ v, u (21 * Int.toNat (mo) + 2) = v := ⟨_, rfl⟩
    have g15 := eb_uv E (21 * Int.toNat (mo) + 2)
    rw [e14] at g15
    refine xc_29 (ib_co E.1) (mo) (by omega) 2 (by omega) rfl ((congrFun (eb_u E) _).trans e14) ?_
    show av_wp _ cd_18 25 [some (.inr (.inr (.inl (some (b))))), some (.inl v4), none] [.inl v13] h _
    refine av_wp_sqF ck_18 2 (pc' := 27) (lv' := [some (.inr (.inr (.inl (some (b))))), some (.inl v4), some (.inl v13)]) (st' := [.inl v4]) (h' := h) rfl ?_
    refine wq_k1 (p' := 30) (ck_18 _ _ rfl) rfl ⟨by omega, by omega⟩ (fun c16 => ?_) (fun c17 => ?_)
    · have c16 : v4 < (0) := c16
      refine av_wp_sqF ck_18 2 (pc' := 45) (lv' := [some (.inr (.inr (.inl (some (b))))), some (.inl v4), some (.inl v13)]) (st' := [.inl (0)]) (h' := h) rfl ?_
      refine av_wp_ret (v := some (.inl (0))) (ck_18 _ _ rfl) rfl rfl ?_
      exact hq _ (by show (0 : Int) = (if ma = 9999 then 0 else _); rw [if_pos (by omega)])
    · have c17 : (0) ≤ v4 := c17
      refine av_wp_sqF ck_18 1 (pc' := 31) (lv' := [some (.inr (.inr (.inl (some (b))))), some (.inl v4), some (.inl v13)]) (st' := [.inl v13]) (h' := h) rfl ?_
      refine wq_k1 (p' := 34) (ck_18 _ _ rfl) rfl ⟨by omega, by omega⟩ (fun c18 => ?_) (fun c19 => ?_)
      · have c18 : (0) ≤ v13 := c18
        refine av_wp_sqF ck_18 7 (pc' := 45) (lv' := [some (.inr (.inr (.inl (some (b))))), some (.inl v4), some (.inl v13)]) (st' := [.inl (av_or (av_shl (1) v4) (av_shl (1) v13))]) (h' := h) rfl ?_
        refine av_wp_ret (v := some (.inl (av_or (av_shl (1) v4) (av_shl (1) v13)))) (ck_18 _ _ rfl) rfl rfl ?_
        exact hq _ (by show _ = (if ma = 9999 then 0 else av_or (av_shl (1) (u (21 * Int.toNat mo + 1))) (av_shl (1) (u (21 * Int.toNat mo + 2)))); rw [if_neg (by omega), e5, e14])
      · have c19 : v13 < (0) := c19
        refine av_wp_sqF ck_18 2 (pc' := 45) (lv' := [some (.inr (.inr (.inl (some (b))))), some (.inl v4), some (.inl v13)]) (st' := [.inl (0)]) (h' := h) rfl ?_
        refine av_wp_ret (v := some (.inl (0))) (ck_18 _ _ rfl) rfl rfl ?_
        exact hq _ (by show (0 : Int) = (if ma = 9999 then 0 else _); rw [if_pos (by omega)])

set_option maxRecDepth 100000 in
set_option maxHeartbeats 4000000 in
theorem cx_108 {h : av_H} {U : Nat → Nat → Int} {S : Nat → Nat} {n : Int} {sr nd : Nat → Int} (C : CJ U S n sr nd h) (k : Int) (qk : -2147483648 ≤ k ∧ k ≤ 2147483647) (l : Int) (ql : -2147483648 ≤ l ∧ l ≤ 2147483647) (x : Int) (qx : -2147483648 ≤ x ∧ x ≤ 2147483647) (CR : CRT U S n (hF h 3 4) (fun k => hA h (6 + k))) (SU : SUA U S n (hF h 3 4) (fun k => hA h (6 + k)) sr) (UH : ∀ i : Nat, (i : Int) < n → UHW (U i) (S i)) {Q : Option av_V → av_H → Prop} (hq : ∀ (v : Int) h' sr' nd', CJ U S n sr' nd' h' → FP 35 h h' → SUA U S n (hF h 3 4) (fun k => hA h (6 + k)) sr' → RSP (okx U S n (hF h 3 4) k l x) (-2) (bdv (U (Int.toNat k)) (bgx U S (fun k => hA h (6 + k)) k l x)) v → Q (some (.inl v)) h') : av_wp none cd_108 0 [some (.inr (.inr (.inl (some (0))))), some (.inl k), some (.inl l), some (.inl x)] [] h Q := by
  have F := FP_rf 35 h
  have nr := C.2.1.2.1
  refine av_wp_sqF ck_108 1 (pc' := 1) (lv' := [some (.inr (.inr (.inl (some (0))))), some (.inl k), some (.inl l), some (.inl x)]) (st' := [.inr (.inr (.inl (some (0))))]) (h' := h) rfl ?_
  refine wq_gr (p' := 4) (ck_108 _ _ rfl) rfl (congrArg Prod.fst (ly_k C.1.1 0 rfl)) rfl (ly_g C.1.1 0 5 26 rfl) ?_
  refine av_wp_sqF ck_108 3 (pc' := 7) (lv' := [some (.inr (.inr (.inl (some (0))))), some (.inl k), some (.inl l), some (.inl x)]) (st' := [.inl x, .inl l, .inl k, .inr (.inr (.inl (some (26))))]) (h' := h) rfl ?_
  refine wq_cv (p' := 10) (av_qc (.invokevirtual 160) 48 3 0 3) 5 cd_48 [.inl x, .inl l, .inl k] (26) 3 [some (.inr (.inr (.inl (some (26))))), some (.inl k), some (.inl l), some (.inl x), none] (ck_108 _ _ rfl) rfl rfl pp_48 rfl rfl rfl (congrArg Prod.fst (ly_k C.1.1 26 rfl)) rfl rfl rfl rfl ?_
  refine cz_48 C (k) (by omega) (l) (by omega) (x) (by omega) CR SU (fun z1 => ?_) (fun z1 z2 z3 h4 r5 n6 t7 c8 a9 m10 m11 m12 C13 F14 U15 E16 Z17 T18 D19 B20 R21 => ?_)
  · show av_wp _ cd_108 10 [some (.inr (.inr (.inl (some (0))))), some (.inl k), some (.inl l), some (.inl x)] [.inl (0)] h _
    refine av_wp_sqF ck_108 2 (pc' := 15) (lv' := [some (.inr (.inr (.inl (some (0))))), some (.inl k), some (.inl l), some (.inl x)]) (st' := [.inl (-2)]) (h' := h) rfl ?_
    refine av_wp_ret (v := some (.inl (-2))) (ck_108 _ _ rfl) rfl rfl ?_
    exact hq _ h _ _ C F SU (Or.inr ⟨by unfold okx; omega, rfl⟩)
  · have b24 := bgn_f (u := U (Int.toNat k)) (ro := (hA h (6 + Int.toNat l))) (bar := (brv (U (Int.toNat k)) (srt U S (hA h (6 + Int.toNat l)) (Int.toNat k)))) (s := S (Int.toNat k)) (x := x)
    rw [B20] at b24
    have b24 : (m12 = 9999 ∧ m10 = -1 ∧ m11 = -1) ∨ (m12 < 9999 ∧ (0 ≤ m11 ∧ m11 < (S (Int.toNat k) : Int) ∧ ofv (U (Int.toNat k)) (hA h (6 + Int.toNat l)) (Int.toNat m11) ≠ 0) ∧ (m10 = -1 ∨ (0 ≤ m10 ∧ m10 < (S (Int.toNat k) : Int) ∧ ysv (U (Int.toNat k)) (hA h (6 + Int.toNat l)) (Int.toNat m10) ≠ 0))) := b24
    have g22 : (-1 ≤ m10 ∧ m10 ≤ 11) ∧ (-1 ≤ m11 ∧ m11 ≤ 11) ∧ (-1 ≤ m12 ∧ m12 ≤ 9999) := R21
    have g23 := co_s12 (ib_co E16.1)
    show av_wp _ cd_108 10 [some (.inr (.inr (.inl (some (0))))), some (.inl k), some (.inl l), some (.inl x)] [.inl (1)] h4 _
    refine av_wp_sqF ck_108 2 (pc' := 17) (lv' := [some (.inr (.inr (.inl (some (0))))), some (.inl k), some (.inl l), some (.inl x)]) (st' := [.inr (.inr (.inl (some (0))))]) (h' := h4) rfl ?_
    refine wq_gr (p' := 20) (ck_108 _ _ rfl) rfl (congrArg Prod.fst (ly_k C13.1.1 0 rfl)) rfl (ly_g C13.1.1 0 5 26 rfl) ?_
    refine wq_gr (p' := 23) (ck_108 _ _ rfl) rfl (congrArg Prod.fst (ly_k C13.1.1 26 rfl)) rfl (ly_g C13.1.1 26 1 35 rfl) ?_
    refine wq_cv (p' := 26) (av_qc (.invokevirtual 199) 18 0 0 0) 3 cd_18 [] (35) 0 [some (.inr (.inr (.inl (some (35))))), none, none] (ck_108 _ _ rfl) rfl rfl pp_18 rfl rfl rfl (congrArg Prod.fst (bn_k0 C13.1.1 (Or.inl rfl))) rfl rfl rfl rfl ?_
    refine cx_18 E16 (FN_rf 35 h4) (b24.elim (fun z => Or.inl ⟨z.1, z.2.2⟩) (fun z => Or.inr ⟨by omega, ⟨z.2.1.1, z.2.1.2.1⟩, UHW_o (UH (Int.toNat k) (by omega)) (by omega) z.2.1.2.2⟩)) (fun v25 p26 => ?_)
    show av_wp _ cd_108 26 [some (.inr (.inr (.inl (some (0))))), some (.inl k), some (.inl l), some (.inl x)] [.inl v25] h4 _
    refine av_wp_ret (v := some (.inl v25)) (ck_108 _ _ rfl) rfl rfl ?_
    exact hq _ h4 _ _ C13 F14 U15 (Or.inl ⟨by unfold okx; omega, by rw [show bgx U S (fun k => hA h (6 + k)) k l x = _ from B20]; exact p26⟩)
end
section
/-! BEARS, exactly -/
set_option maxRecDepth 100000 in
set_option maxHeartbeats 4000000 in
theorem cx_20 {g h : av_H} {b t c s r : Nat} {cb : Int} {u ro : Nat → Int} {a : Nat → Nat → Int} {mb mo ma : Int} (E : EB b t c s r cb u ro a mb mo ma h) (F : FN b g h) (H : HBd s a) (R : RLW ro) (qm : -1 ≤ ma ∧ ma ≤ 9999) {Q : Option av_V → av_H → Prop} (hq : ∀ v : Int, v = rpx u ro a s (mb, mo, ma) → Q (some (.inl v)) h) : av_wp none cd_20 0 [some (.inr (.inr (.inl (some (b))))), none, none, none] [] h Q := by
  have s12 := co_s12 (ib_co E.1)
  have cbr := co_cbr (ib_co E.1)
  have mbr := eb_xr E
  have mor := eb_yr E
  refine av_wp_sqF ck_20 1 (pc' := 1) (lv' := [some (.inr (.inr (.inl (some (b))))), none, none, none]) (st' := [.inr (.inr (.inl (some (b))))]) (h' := h) rfl ?_
  refine wq_gr (p' := 4) (ck_20 _ _ rfl) rfl (congrArg Prod.fst (ib_k0 E.1)) rfl (ib_r E.1) ?_
  refine av_wp_sqF ck_20 1 (pc' := 6) (lv' := [some (.inr (.inr (.inl (some (b))))), none, none, none]) (st' := [.inl (12), .inr (.inr (.inl (some (r))))]) (h' := h) rfl ?_
  obtain ⟨v2, e3⟩ : ∃ v, ro 12 = v := ⟨_, rfl⟩
  have g1 := eb_rv E 12
  rw [e3] at g1
  have g4 := rl_12 R
  rw [e3] at g4
  refine wq_al (p' := 7) (n := 14) (ck_20 _ _ rfl) rfl (ib_kr E.1) (by omega) ((congrFun (eb_ro E) _).trans e3) ?_
  refine wq_k1 (p' := 10) (ck_20 _ _ rfl) rfl ⟨by omega, by omega⟩ (fun c5 => ?_) (fun c6 => ?_)
  · have c5 : v2 ≠ (0) := c5
    refine av_wp_sqF ck_20 4 (pc' := 21) (lv' := [some (.inr (.inr (.inl (some (b))))), some (.inl (9999)), some (.inl (0)), none]) (st' := []) (h' := h) rfl ?_
    have L11 : ∀ (m10 : Nat) (k7 : Int) (k8 : Int) (a9 : Option av_V), av_lg a9 = false → rpv u ro a mo (Int.toNat k8) = k7 → k8 ≤ (s : Int) → (-1 ≤ k7 ∧ k7 ≤ 9999) → (0 ≤ k8 ∧ k8 ≤ 12) → ((s : Int) - k8).toNat = m10 → av_wp none cd_20 21 [some (.inr (.inr (.inl (some (b))))), some (.inl k7), some (.inl k8), a9] [] h Q := by
      intro m10
      induction m10 using Nat.strongRecOn with
      | _ m10 I12 =>
        intro k7 k8 a9 g14 g15 g16 g17 g18 e13
        have la9 := g14
        refine av_wp_sqF ck_20 2 (pc' := 23) (lv' := [some (.inr (.inr (.inl (some (b))))), some (.inl k7), some (.inl k8), a9]) (st' := [.inr (.inr (.inl (some (b)))), .inl k8]) (h' := h) rfl ?_
        refine wq_gr (p' := 26) (ck_20 _ _ rfl) rfl (congrArg Prod.fst (ib_k0 E.1)) rfl (ib_t E.1) ?_
        refine wq_gi (p' := 29) (ck_20 _ _ rfl) rfl (congrArg Prod.fst (co_kt (ib_co E.1))) rfl (co_s (ib_co E.1)) ?_
        refine wq_k2 (p' := 32) (ck_20 _ _ rfl) rfl ⟨by omega, by omega⟩ ⟨by omega, by omega⟩ (fun c19 => ?_) (fun c20 => ?_)
        · have c19 : (s : Int) ≤ k8 := c19
          refine av_wp_sqF ck_20 1 (pc' := 99) (lv' := [some (.inr (.inr (.inl (some (b))))), some (.inl k7), some (.inl k8), a9]) (st' := [.inl k7]) (h' := h) rfl ?_
          refine av_wp_ret (v := some (.inl k7)) (ck_20 _ _ rfl) rfl rfl ?_
          exact hq _ (by show _ = (if ro 12 = 0 then ma else rpv u ro a mo s); rw [if_neg (by rw [e3]; omega), ← g15, show Int.toNat k8 = s by omega])
        · have c20 : k8 < (s : Int) := c20
          refine av_wp_sqF ck_20 1 (pc' := 33) (lv' := [some (.inr (.inr (.inl (some (b))))), some (.inl k7), some (.inl k8), a9]) (st' := [.inr (.inr (.inl (some (b))))]) (h' := h) rfl ?_
          refine wq_gr (p' := 36) (ck_20 _ _ rfl) rfl (congrArg Prod.fst (ib_k0 E.1)) rfl (ib_t E.1) ?_
          refine av_wp_sqF ck_20 2 (pc' := 38) (lv' := [some (.inr (.inr (.inl (some (b))))), some (.inl k7), some (.inl k8), a9]) (st' := [.inl (0), .inl k8, .inr (.inr (.inl (some (t))))]) (h' := h) rfl ?_
          refine wq_cv (p' := 41) (av_qc (.invokevirtual 74) 29 2 0 1) 3 cd_29 [.inl (0), .inl k8] (t) 1 [some (.inr (.inr (.inl (some (t))))), some (.inl k8), some (.inl (0))] (ck_20 _ _ rfl) rfl rfl pp_29 rfl rfl rfl (congrArg Prod.fst (co_kt (ib_co E.1))) rfl rfl rfl rfl ?_
          obtain ⟨v21, e22⟩ : ∃ v, u (21 * Int.toNat (k8) + 0) = v := ⟨_, rfl⟩
          have g23 := eb_uv E (21 * Int.toNat (k8) + 0)
          rw [e22] at g23
          refine xc_29 (ib_co E.1) (k8) (by omega) 0 (by omega) rfl ((congrFun (eb_u E) _).trans e22) ?_
          show av_wp _ cd_20 41 [some (.inr (.inr (.inl (some (b))))), some (.inl k7), some (.inl k8), a9] [.inl v21] h _
          refine av_wp_sqF ck_20 1 (pc' := 43) (lv' := [some (.inr (.inr (.inl (some (b))))), some (.inl k7), some (.inl k8), a9]) (st' := [.inl (7), .inl v21]) (h' := h) rfl ?_
          refine wq_k2 (p' := 46) (ck_20 _ _ rfl) rfl ⟨by omega, by omega⟩ ⟨by omega, by omega⟩ (fun c24 => ?_) (fun c25 => ?_)
          · have c24 : v21 ≠ (7) := c24
            refine av_wp_sqF ck_20 2 (pc' := 21) (lv' := [some (.inr (.inr (.inl (some (b))))), some (.inl k7), some (.inl (k8 + (1))), a9]) (st' := []) (h' := h) rfl ?_
            exact I12 _ (by omega) (k7) ((k8 + (1))) (a9) la9 (by rw [show Int.toNat ((k8 + (1))) = Int.toNat k8 + 1 by omega, rpv_n e22 (by omega)]; exact g15) (by omega) (by omega) (by omega) rfl
          · have c25 : v21 = (7) := c25
            refine av_wp_sqF ck_20 1 (pc' := 47) (lv' := [some (.inr (.inr (.inl (some (b))))), some (.inl k7), some (.inl k8), a9]) (st' := [.inr (.inr (.inl (some (b))))]) (h' := h) rfl ?_
            refine wq_gr (p' := 50) (ck_20 _ _ rfl) rfl (congrArg Prod.fst (ib_k0 E.1)) rfl (ib_t E.1) ?_
            refine av_wp_sqF ck_20 2 (pc' := 52) (lv' := [some (.inr (.inr (.inl (some (b))))), some (.inl k7), some (.inl k8), a9]) (st' := [.inl (3), .inl k8, .inr (.inr (.inl (some (t))))]) (h' := h) rfl ?_
            refine wq_cv (p' := 55) (av_qc (.invokevirtual 74) 29 2 0 1) 3 cd_29 [.inl (3), .inl k8] (t) 1 [some (.inr (.inr (.inl (some (t))))), some (.inl k8), some (.inl (3))] (ck_20 _ _ rfl) rfl rfl pp_29 rfl rfl rfl (congrArg Prod.fst (co_kt (ib_co E.1))) rfl rfl rfl rfl ?_
            obtain ⟨v26, e27⟩ : ∃ v, u (21 * Int.toNat (k8) + 3) = v := ⟨_, rfl⟩
            have g28 := eb_uv E (21 * Int.toNat (k8) + 3)
            rw [e27] at g28
            refine xc_29 (ib_co E.1) (k8) (by omega) 3 (by omega) rfl ((congrFun (eb_u E) _).trans e27) ?_
            show av_wp _ cd_20 55 [some (.inr (.inr (.inl (some (b))))), some (.inl k7), some (.inl k8), a9] [.inl v26] h _
            refine av_wp_sqF ck_20 1 (pc' := 56) (lv' := [some (.inr (.inr (.inl (some (b))))), some (.inl k7), some (.inl k8), a9]) (st' := [.inr (.inr (.inl (some (b)))), .inl v26]) (h' := h) rfl ?_
            refine wq_gi (p' := 59) (ck_20 _ _ rfl) rfl (congrArg Prod.fst (ib_k0 E.1)) rfl (eb_y E) ?_
            refine wq_k2 (p' := 62) (ck_20 _ _ rfl) rfl ⟨by omega, by omega⟩ ⟨by omega, by omega⟩ (fun c29 => ?_) (fun c30 => ?_)
            · have c29 : v26 ≠ mo := c29
              refine av_wp_sqF ck_20 2 (pc' := 21) (lv' := [some (.inr (.inr (.inl (some (b))))), some (.inl k7), some (.inl (k8 + (1))), a9]) (st' := []) (h' := h) rfl ?_
              exact I12 _ (by omega) (k7) ((k8 + (1))) (a9) la9 (by rw [show Int.toNat ((k8 + (1))) = Int.toNat k8 + 1 by omega, rpv_m e27 (by omega)]; exact g15) (by omega) (by omega) (by omega) rfl
            · have c30 : v26 = mo := c30
              refine av_wp_sqF ck_20 3 (pc' := 65) (lv' := [some (.inr (.inr (.inl (some (b))))), some (.inl k7), some (.inl k8), a9]) (st' := [.inr (.inr (.inl (some (b)))), .inl k8, .inr (.inr (.inl (some (b))))]) (h' := h) rfl ?_
              refine wq_gr (p' := 68) (ck_20 _ _ rfl) rfl (congrArg Prod.fst (ib_k0 E.1)) rfl (ib_r E.1) ?_
              refine av_wp_sqF ck_20 1 (pc' := 70) (lv' := [some (.inr (.inr (.inl (some (b))))), some (.inl k7), some (.inl k8), a9]) (st' := [.inl (12), .inr (.inr (.inl (some (r)))), .inl k8, .inr (.inr (.inl (some (b))))]) (h' := h) rfl ?_
              obtain ⟨v32, e33⟩ : ∃ v, ro 12 = v := ⟨_, rfl⟩
              have g31 := eb_rv E 12
              rw [e33] at g31
              have g34 := rl_12 R
              rw [e33] at g34
              refine wq_al (p' := 71) (n := 14) (ck_20 _ _ rfl) rfl (ib_kr E.1) (by omega) ((congrFun (eb_ro E) _).trans e33) ?_
              refine av_wp_sqF ck_20 2 (pc' := 73) (lv' := [some (.inr (.inr (.inl (some (b))))), some (.inl k7), some (.inl k8), a9]) (st' := [.inl (v32 - (1)), .inl k8, .inr (.inr (.inl (some (b))))]) (h' := h) rfl ?_
              refine wq_cv (p' := 76) (av_qc (.invokevirtual 115) 6 2 0 0) 3 cd_6 [.inl (v32 - (1)), .inl k8] (b) 0 [some (.inr (.inr (.inl (some (b))))), some (.inl k8), some (.inl (v32 - (1)))] (ck_20 _ _ rfl) rfl rfl pp_6 rfl rfl rfl (congrArg Prod.fst (ib_k0 E.1)) rfl rfl rfl rfl ?_
              refine cx_6 E F (k8) (by omega) ((v32 - (1))) (by omega) ?_
              rw [hof_c (a := a) rfl (by omega)]
              obtain ⟨v35, e36⟩ : ∃ v, hw a (Int.toNat (k8)) (v32 - (1)) = v := ⟨_, rfl⟩
              have g37 := hw_r H (k := Int.toNat (k8)) (by omega) (v32 - (1))
              rw [e36] at g37
              rw [e36]
              show av_wp _ cd_20 76 [some (.inr (.inr (.inl (some (b))))), some (.inl k7), some (.inl k8), a9] [.inl v35] h _
              refine av_wp_sqF ck_20 3 (pc' := 79) (lv' := [some (.inr (.inr (.inl (some (b))))), some (.inl k7), some (.inl k8), some (.inl v35)]) (st' := [.inl (-1), .inl v35]) (h' := h) rfl ?_
              refine wq_k2 (p' := 82) (ck_20 _ _ rfl) rfl ⟨by omega, by omega⟩ ⟨by omega, by omega⟩ (fun c38 => ?_) (fun c39 => ?_)
              · have c38 : v35 ≠ (-1) := c38
                refine av_wp_sqF ck_20 2 (pc' := 88) (lv' := [some (.inr (.inr (.inl (some (b))))), some (.inl k7), some (.inl k8), some (.inl v35)]) (st' := [.inl v35, .inl k7]) (h' := h) rfl ?_
                refine wq_mn (p' := 91) (ck_20 _ _ rfl) rfl rfl (fun _ _ => rfl) rfl (fun v40 e41 e42 => ?_)
                have e42 := e42 ⟨by omega, by omega⟩ ⟨by omega, by omega⟩
                refine av_wp_sqF ck_20 3 (pc' := 21) (lv' := [some (.inr (.inr (.inl (some (b))))), some (.inl v40), some (.inl (k8 + (1))), some (.inl v35)]) (st' := []) (h' := h) rfl ?_
                exact I12 _ (by omega) (v40) ((k8 + (1))) (some (.inl v35)) rfl (by rw [show Int.toNat ((k8 + (1))) = Int.toNat k8 + 1 by omega, rpv_y e22 (by omega) e27 (by omega) (show hw a (Int.toNat k8) (ro 12 - 1) = v35 by rw [e33]; exact e36) (by omega), g15]; unfold mn2; split <;> omega) (by omega) (by omega) (by omega) rfl
              · have c39 : v35 = (-1) := c39
                refine av_wp_sqF ck_20 5 (pc' := 21) (lv' := [some (.inr (.inr (.inl (some (b))))), some (.inl k7), some (.inl (k8 + (1))), some (.inl v35)]) (st' := []) (h' := h) rfl ?_
                exact I12 _ (by omega) (k7) ((k8 + (1))) (some (.inl v35)) rfl (by rw [show Int.toNat ((k8 + (1))) = Int.toNat k8 + 1 by omega, rpv_h (show hw a (Int.toNat k8) (ro 12 - 1) = v35 by rw [e33]; exact e36) (by omega)]; exact g15) (by omega) (by omega) (by omega) rfl
    exact L11 _ ((9999)) ((0)) (none) rfl rfl (by omega) (by omega) (by omega) rfl
  · have c6 : v2 = (0) := c6
    refine av_wp_sqF ck_20 1 (pc' := 11) (lv' := [some (.inr (.inr (.inl (some (b))))), none, none, none]) (st' := [.inr (.inr (.inl (some (b))))]) (h' := h) rfl ?_
    refine wq_gi (p' := 14) (ck_20 _ _ rfl) rfl (congrArg Prod.fst (ib_k0 E.1)) rfl (eb_z E) ?_
    refine av_wp_ret (v := some (.inl ma)) (ck_20 _ _ rfl) rfl rfl ?_
    exact hq _ (by show ma = (if ro 12 = 0 then ma else _); rw [if_pos (e3.trans (by omega))])

set_option maxRecDepth 100000 in
set_option maxHeartbeats 4000000 in
theorem cx_19 {g h : av_H} {b t c s r : Nat} {cb : Int} {u ro : Nat → Int} {a : Nat → Nat → Int} {mb mo ma : Int} (E : EB b t c s r cb u ro a mb mo ma h) (F : FN b g h) (H : HBd s a) (R : RLW ro) (qm : -1 ≤ ma ∧ ma ≤ 9999) (hm : (ma = 9999 ∧ mo = -1) ∨ (ma ≠ 9999 ∧ (0 ≤ mo ∧ mo < (s : Int)))) (w : Int) (qw : 0 ≤ w ∧ w ≤ 2147483647) {Q : Option av_V → av_H → Prop} (hq : ∀ v : Int, v = bev u ro a s (mb, mo, ma) w → Q (some (.inl v)) h) : av_wp none cd_19 0 [some (.inr (.inr (.inl (some (b))))), some (.inl w), none, none] [] h Q := by
  have s12 := co_s12 (ib_co E.1)
  have cbr := co_cbr (ib_co E.1)
  have mbr := eb_xr E
  have mor := eb_yr E
  refine av_wp_sqF ck_19 1 (pc' := 1) (lv' := [some (.inr (.inr (.inl (some (b))))), some (.inl w), none, none]) (st' := [.inr (.inr (.inl (some (b))))]) (h' := h) rfl ?_
  refine wq_cv (p' := 4) (av_qc (.invokevirtual 142) 3 0 0 0) 1 cd_3 [] (b) 0 [some (.inr (.inr (.inl (some (b)))))] (ck_19 _ _ rfl) rfl rfl pp_3 rfl rfl rfl (congrArg Prod.fst (ib_k0 E.1)) rfl rfl rfl rfl ?_
  refine cx_3 E F qm (fun v1 p2 => ?_)
  show av_wp _ cd_19 4 [some (.inr (.inr (.inl (some (b))))), some (.inl w), none, none] [.inl v1] h _
  refine wq_k1 (p' := 7) (ck_19 _ _ rfl) rfl ⟨by omega, by omega⟩ (fun c3 => ?_) (fun c4 => ?_)
  · have c3 : v1 ≠ (0) := c3
    refine av_wp_sqF ck_19 1 (pc' := 10) (lv' := [some (.inr (.inr (.inl (some (b))))), some (.inl w), none, none]) (st' := [.inr (.inr (.inl (some (b))))]) (h' := h) rfl ?_
    refine wq_cv (p' := 13) (av_qc (.invokevirtual 146) 20 0 0 0) 4 cd_20 [] (b) 0 [some (.inr (.inr (.inl (some (b))))), none, none, none] (ck_19 _ _ rfl) rfl rfl pp_20 rfl rfl rfl (congrArg Prod.fst (ib_k0 E.1)) rfl rfl rfl rfl ?_
    refine cx_20 E F H R qm (fun v5 p6 => ?_)
    have g7 := rpx_r (u := u) (ro := ro) (mb := mb) (mo := mo) H qm
    rw [← p6] at g7
    show av_wp _ cd_19 13 [some (.inr (.inr (.inl (some (b))))), some (.inl w), none, none] [.inl v5] h _
    refine av_wp_sqF ck_19 3 (pc' := 18) (lv' := [some (.inr (.inr (.inl (some (b))))), some (.inl w), some (.inl v5), none]) (st' := [.inl (9999), .inl v5]) (h' := h) rfl ?_
    refine wq_k2 (p' := 21) (ck_19 _ _ rfl) rfl ⟨by omega, by omega⟩ ⟨by omega, by omega⟩ (fun c8 => ?_) (fun c9 => ?_)
    · have c8 : v5 = (9999) := c8
      refine av_wp_sqF ck_19 3 (pc' := 40) (lv' := [some (.inr (.inr (.inl (some (b))))), some (.inl w), some (.inl v5), some (.inl (0))]) (st' := [.inr (.inr (.inl (some (b))))]) (h' := h) rfl ?_
      refine wq_gr (p' := 43) (ck_19 _ _ rfl) rfl (congrArg Prod.fst (ib_k0 E.1)) rfl (ib_t E.1) ?_
      refine av_wp_sqF ck_19 1 (pc' := 44) (lv' := [some (.inr (.inr (.inl (some (b))))), some (.inl w), some (.inl v5), some (.inl (0))]) (st' := [.inr (.inr (.inl (some (b)))), .inr (.inr (.inl (some (t))))]) (h' := h) rfl ?_
      refine wq_gi (p' := 47) (ck_19 _ _ rfl) rfl (congrArg Prod.fst (ib_k0 E.1)) rfl (eb_y E) ?_
      refine av_wp_sqF ck_19 3 (pc' := 56) (lv' := [some (.inr (.inr (.inl (some (b))))), some (.inl w), some (.inl v5), some (.inl (0))]) (st' := [.inl (1), .inl mo, .inr (.inr (.inl (some (t))))]) (h' := h) rfl ?_
      refine wq_cv (p' := 59) (av_qc (.invokevirtual 74) 29 2 0 1) 3 cd_29 [.inl (1), .inl mo] (t) 1 [some (.inr (.inr (.inl (some (t))))), some (.inl mo), some (.inl (1))] (ck_19 _ _ rfl) rfl rfl pp_29 rfl rfl rfl (congrArg Prod.fst (co_kt (ib_co E.1))) rfl rfl rfl rfl ?_
      refine xc_29b (ib_co E.1) (mo) (by omega) 1 (by omega) rfl (fun z10 => ?_) (fun z11 z12 v13 e14 => ?_)
      · show av_wp _ cd_19 59 [some (.inr (.inr (.inl (some (b))))), some (.inl w), some (.inl v5), some (.inl (0))] [.inl (-1)] h _
        refine av_wp_ret (v := some (.inl (-1))) (ck_19 _ _ rfl) rfl rfl ?_
        exfalso
        omega
      · rw [eb_u E] at e14
        have g15 := eb_uv E (21 * Int.toNat (mo) + 1)
        rw [e14] at g15
        show av_wp _ cd_19 59 [some (.inr (.inr (.inl (some (b))))), some (.inl w), some (.inl v5), some (.inl (0))] [.inl v13] h _
        refine av_wp_ret (v := some (.inl v13)) (ck_19 _ _ rfl) rfl rfl ?_
        exact hq _ (by show _ = (if ma = 9999 then -1 else if rpx u ro a s (mb, mo, ma) ≠ 9999 ∧ rpx u ro a s (mb, mo, ma) ≤ w ∧ ma ≤ w then u (21 * Int.toNat mo + 2) else u (21 * Int.toNat mo + 1)); rw [if_neg (by omega), ← p6, if_neg (by omega)]; exact e14.symm)
    · have c9 : v5 ≠ (9999) := c9
      refine av_wp_sqF ck_19 3 (pc' := 24) (lv' := [some (.inr (.inr (.inl (some (b))))), some (.inl w), some (.inl v5), none]) (st' := [.inr (.inr (.inl (some (b)))), .inl v5, .inl w]) (h' := h) rfl ?_
      refine wq_gi (p' := 27) (ck_19 _ _ rfl) rfl (congrArg Prod.fst (ib_k0 E.1)) rfl (eb_z E) ?_
      refine wq_mx (p' := 30) (ck_19 _ _ rfl) rfl rfl (fun _ _ => rfl) rfl (fun v16 e17 e18 => ?_)
      have e18 := e18 ⟨by omega, by omega⟩ ⟨by omega, by omega⟩
      refine wq_k2 (p' := 33) (ck_19 _ _ rfl) rfl ⟨by omega, by omega⟩ ⟨by omega, by omega⟩ (fun c19 => ?_) (fun c20 => ?_)
      · have c19 : w < v16 := c19
        refine av_wp_sqF ck_19 3 (pc' := 40) (lv' := [some (.inr (.inr (.inl (some (b))))), some (.inl w), some (.inl v5), some (.inl (0))]) (st' := [.inr (.inr (.inl (some (b))))]) (h' := h) rfl ?_
        refine wq_gr (p' := 43) (ck_19 _ _ rfl) rfl (congrArg Prod.fst (ib_k0 E.1)) rfl (ib_t E.1) ?_
        refine av_wp_sqF ck_19 1 (pc' := 44) (lv' := [some (.inr (.inr (.inl (some (b))))), some (.inl w), some (.inl v5), some (.inl (0))]) (st' := [.inr (.inr (.inl (some (b)))), .inr (.inr (.inl (some (t))))]) (h' := h) rfl ?_
        refine wq_gi (p' := 47) (ck_19 _ _ rfl) rfl (congrArg Prod.fst (ib_k0 E.1)) rfl (eb_y E) ?_
        refine av_wp_sqF ck_19 3 (pc' := 56) (lv' := [some (.inr (.inr (.inl (some (b))))), some (.inl w), some (.inl v5), some (.inl (0))]) (st' := [.inl (1), .inl mo, .inr (.inr (.inl (some (t))))]) (h' := h) rfl ?_
        refine wq_cv (p' := 59) (av_qc (.invokevirtual 74) 29 2 0 1) 3 cd_29 [.inl (1), .inl mo] (t) 1 [some (.inr (.inr (.inl (some (t))))), some (.inl mo), some (.inl (1))] (ck_19 _ _ rfl) rfl rfl pp_29 rfl rfl rfl (congrArg Prod.fst (co_kt (ib_co E.1))) rfl rfl rfl rfl ?_
        refine xc_29b (ib_co E.1) (mo) (by omega) 1 (by omega) rfl (fun z21 => ?_) (fun z22 z23 v24 e25 => ?_)
        · show av_wp _ cd_19 59 [some (.inr (.inr (.inl (some (b))))), some (.inl w), some (.inl v5), some (.inl (0))] [.inl (-1)] h _
          refine av_wp_ret (v := some (.inl (-1))) (ck_19 _ _ rfl) rfl rfl ?_
          exfalso
          omega
        · rw [eb_u E] at e25
          have g26 := eb_uv E (21 * Int.toNat (mo) + 1)
          rw [e25] at g26
          show av_wp _ cd_19 59 [some (.inr (.inr (.inl (some (b))))), some (.inl w), some (.inl v5), some (.inl (0))] [.inl v24] h _
          refine av_wp_ret (v := some (.inl v24)) (ck_19 _ _ rfl) rfl rfl ?_
          exact hq _ (by show _ = (if ma = 9999 then -1 else if rpx u ro a s (mb, mo, ma) ≠ 9999 ∧ rpx u ro a s (mb, mo, ma) ≤ w ∧ ma ≤ w then u (21 * Int.toNat mo + 2) else u (21 * Int.toNat mo + 1)); rw [if_neg (by omega), ← p6, if_neg (by omega)]; exact e25.symm)
      · have c20 : v16 ≤ w := c20
        refine av_wp_sqF ck_19 4 (pc' := 40) (lv' := [some (.inr (.inr (.inl (some (b))))), some (.inl w), some (.inl v5), some (.inl (1))]) (st' := [.inr (.inr (.inl (some (b))))]) (h' := h) rfl ?_
        refine wq_gr (p' := 43) (ck_19 _ _ rfl) rfl (congrArg Prod.fst (ib_k0 E.1)) rfl (ib_t E.1) ?_
        refine av_wp_sqF ck_19 1 (pc' := 44) (lv' := [some (.inr (.inr (.inl (some (b))))), some (.inl w), some (.inl v5), some (.inl (1))]) (st' := [.inr (.inr (.inl (some (b)))), .inr (.inr (.inl (some (t))))]) (h' := h) rfl ?_
        refine wq_gi (p' := 47) (ck_19 _ _ rfl) rfl (congrArg Prod.fst (ib_k0 E.1)) rfl (eb_y E) ?_
        refine av_wp_sqF ck_19 4 (pc' := 56) (lv' := [some (.inr (.inr (.inl (some (b))))), some (.inl w), some (.inl v5), some (.inl (1))]) (st' := [.inl (2), .inl mo, .inr (.inr (.inl (some (t))))]) (h' := h) rfl ?_
        refine wq_cv (p' := 59) (av_qc (.invokevirtual 74) 29 2 0 1) 3 cd_29 [.inl (2), .inl mo] (t) 1 [some (.inr (.inr (.inl (some (t))))), some (.inl mo), some (.inl (2))] (ck_19 _ _ rfl) rfl rfl pp_29 rfl rfl rfl (congrArg Prod.fst (co_kt (ib_co E.1))) rfl rfl rfl rfl ?_
        refine xc_29b (ib_co E.1) (mo) (by omega) 2 (by omega) rfl (fun z27 => ?_) (fun z28 z29 v30 e31 => ?_)
        · show av_wp _ cd_19 59 [some (.inr (.inr (.inl (some (b))))), some (.inl w), some (.inl v5), some (.inl (1))] [.inl (-1)] h _
          refine av_wp_ret (v := some (.inl (-1))) (ck_19 _ _ rfl) rfl rfl ?_
          exfalso
          omega
        · rw [eb_u E] at e31
          have g32 := eb_uv E (21 * Int.toNat (mo) + 2)
          rw [e31] at g32
          show av_wp _ cd_19 59 [some (.inr (.inr (.inl (some (b))))), some (.inl w), some (.inl v5), some (.inl (1))] [.inl v30] h _
          refine av_wp_ret (v := some (.inl v30)) (ck_19 _ _ rfl) rfl rfl ?_
          exact hq _ (by show _ = (if ma = 9999 then -1 else if rpx u ro a s (mb, mo, ma) ≠ 9999 ∧ rpx u ro a s (mb, mo, ma) ≤ w ∧ ma ≤ w then u (21 * Int.toNat mo + 2) else u (21 * Int.toNat mo + 1)); rw [if_neg (by omega), ← p6, if_pos (by omega)]; exact e31.symm)
  · have c4 : v1 = (0) := c4
    refine av_wp_sqF ck_19 1 (pc' := 8) (lv' := [some (.inr (.inr (.inl (some (b))))), some (.inl w), none, none]) (st' := [.inl (-1)]) (h' := h) rfl ?_
    refine av_wp_ret (v := some (.inl (-1))) (ck_19 _ _ rfl) rfl rfl ?_
    exact hq _ (by show (-1 : Int) = (if ma = 9999 then -1 else _); rw [if_pos (by omega)])

set_option maxRecDepth 100000 in
set_option maxHeartbeats 4000000 in
theorem cx_111 {h : av_H} {U : Nat → Nat → Int} {S : Nat → Nat} {n : Int} {sr nd : Nat → Int} (C : CJ U S n sr nd h) (k : Int) (qk : -2147483648 ≤ k ∧ k ≤ 2147483647) (l : Int) (ql : -2147483648 ≤ l ∧ l ≤ 2147483647) (x : Int) (qx : -2147483648 ≤ x ∧ x ≤ 2147483647) (w : Int) (qw : -2147483648 ≤ w ∧ w ≤ 2147483647) (CR : CRT U S n (hF h 3 4) (fun k => hA h (6 + k))) (SU : SUA U S n (hF h 3 4) (fun k => hA h (6 + k)) sr) {Q : Option av_V → av_H → Prop} (hq : ∀ (v : Int) h' sr' nd', CJ U S n sr' nd' h' → FP 35 h h' → SUA U S n (hF h 3 4) (fun k => hA h (6 + k)) sr' → RSP (okx U S n (hF h 3 4) k l x ∧ 0 ≤ w) (-2) (bev (U (Int.toNat k)) (hA h (6 + Int.toNat l)) (arr (U (Int.toNat k)) (hA h (6 + Int.toNat l)) (bxx U S (hA h (6 + Int.toNat l)) (Int.toNat k)) x) (S (Int.toNat k)) (bgx U S (fun k => hA h (6 + k)) k l x) w) v → Q (some (.inl v)) h') : av_wp none cd_111 0 [some (.inr (.inr (.inl (some (0))))), some (.inl k), some (.inl l), some (.inl x), some (.inl w)] [] h Q := by
  have F := FP_rf 35 h
  have nr := C.2.1.2.1
  refine av_wp_sqF ck_111 1 (pc' := 2) (lv' := [some (.inr (.inr (.inl (some (0))))), some (.inl k), some (.inl l), some (.inl x), some (.inl w)]) (st' := [.inl w]) (h' := h) rfl ?_
  refine wq_k1 (p' := 5) (ck_111 _ _ rfl) rfl ⟨by omega, by omega⟩ (fun c1 => ?_) (fun c2 => ?_)
  · have c1 : w < (0) := c1
    refine av_wp_sqF ck_111 1 (pc' := 20) (lv' := [some (.inr (.inr (.inl (some (0))))), some (.inl k), some (.inl l), some (.inl x), some (.inl w)]) (st' := [.inl (-2)]) (h' := h) rfl ?_
    refine av_wp_ret (v := some (.inl (-2))) (ck_111 _ _ rfl) rfl rfl ?_
    exact hq _ h _ _ C F SU (Or.inr ⟨by unfold okx; omega, rfl⟩)
  · have c2 : (0) ≤ w := c2
    refine av_wp_sqF ck_111 1 (pc' := 6) (lv' := [some (.inr (.inr (.inl (some (0))))), some (.inl k), some (.inl l), some (.inl x), some (.inl w)]) (st' := [.inr (.inr (.inl (some (0))))]) (h' := h) rfl ?_
    refine wq_gr (p' := 9) (ck_111 _ _ rfl) rfl (congrArg Prod.fst (ly_k C.1.1 0 rfl)) rfl (ly_g C.1.1 0 5 26 rfl) ?_
    refine av_wp_sqF ck_111 3 (pc' := 12) (lv' := [some (.inr (.inr (.inl (some (0))))), some (.inl k), some (.inl l), some (.inl x), some (.inl w)]) (st' := [.inl x, .inl l, .inl k, .inr (.inr (.inl (some (26))))]) (h' := h) rfl ?_
    refine wq_cv (p' := 15) (av_qc (.invokevirtual 160) 48 3 0 3) 5 cd_48 [.inl x, .inl l, .inl k] (26) 3 [some (.inr (.inr (.inl (some (26))))), some (.inl k), some (.inl l), some (.inl x), none] (ck_111 _ _ rfl) rfl rfl pp_48 rfl rfl rfl (congrArg Prod.fst (ly_k C.1.1 26 rfl)) rfl rfl rfl rfl ?_
    refine cz_48 C (k) (by omega) (l) (by omega) (x) (by omega) CR SU (fun z3 => ?_) (fun z3 z4 z5 h6 r7 n8 t9 c10 a11 m12 m13 m14 C15 F16 U17 E18 Z19 T20 D21 B22 R23 => ?_)
    · show av_wp _ cd_111 15 [some (.inr (.inr (.inl (some (0))))), some (.inl k), some (.inl l), some (.inl x), some (.inl w)] [.inl (0)] h _
      refine av_wp_sqF ck_111 2 (pc' := 20) (lv' := [some (.inr (.inr (.inl (some (0))))), some (.inl k), some (.inl l), some (.inl x), some (.inl w)]) (st' := [.inl (-2)]) (h' := h) rfl ?_
      refine av_wp_ret (v := some (.inl (-2))) (ck_111 _ _ rfl) rfl rfl ?_
      exact hq _ h _ _ C F SU (Or.inr ⟨by unfold okx; omega, rfl⟩)
    · have b26 := bgn_f (u := U (Int.toNat k)) (ro := (hA h (6 + Int.toNat l))) (bar := (brv (U (Int.toNat k)) (srt U S (hA h (6 + Int.toNat l)) (Int.toNat k)))) (s := S (Int.toNat k)) (x := x)
      rw [B22] at b26
      have b26 : (m14 = 9999 ∧ m12 = -1 ∧ m13 = -1) ∨ (m14 < 9999 ∧ (0 ≤ m13 ∧ m13 < (S (Int.toNat k) : Int) ∧ ofv (U (Int.toNat k)) (hA h (6 + Int.toNat l)) (Int.toNat m13) ≠ 0) ∧ (m12 = -1 ∨ (0 ≤ m12 ∧ m12 < (S (Int.toNat k) : Int) ∧ ysv (U (Int.toNat k)) (hA h (6 + Int.toNat l)) (Int.toNat m12) ≠ 0))) := b26
      have g24 : (-1 ≤ m12 ∧ m12 ≤ 11) ∧ (-1 ≤ m13 ∧ m13 ≤ 11) ∧ (-1 ≤ m14 ∧ m14 ≤ 9999) := R23
      have g25 := co_s12 (ib_co E18.1)
      show av_wp _ cd_111 15 [some (.inr (.inr (.inl (some (0))))), some (.inl k), some (.inl l), some (.inl x), some (.inl w)] [.inl (1)] h6 _
      refine av_wp_sqF ck_111 2 (pc' := 22) (lv' := [some (.inr (.inr (.inl (some (0))))), some (.inl k), some (.inl l), some (.inl x), some (.inl w)]) (st' := [.inr (.inr (.inl (some (0))))]) (h' := h6) rfl ?_
      refine wq_gr (p' := 25) (ck_111 _ _ rfl) rfl (congrArg Prod.fst (ly_k C15.1.1 0 rfl)) rfl (ly_g C15.1.1 0 5 26 rfl) ?_
      refine wq_gr (p' := 28) (ck_111 _ _ rfl) rfl (congrArg Prod.fst (ly_k C15.1.1 26 rfl)) rfl (ly_g C15.1.1 26 1 35 rfl) ?_
      refine av_wp_sqF ck_111 1 (pc' := 30) (lv' := [some (.inr (.inr (.inl (some (0))))), some (.inl k), some (.inl l), some (.inl x), some (.inl w)]) (st' := [.inl w, .inr (.inr (.inl (some (35))))]) (h' := h6) rfl ?_
      refine wq_cv (p' := 33) (av_qc (.invokevirtual 219) 19 1 0 0) 4 cd_19 [.inl w] (35) 0 [some (.inr (.inr (.inl (some (35))))), some (.inl w), none, none] (ck_111 _ _ rfl) rfl rfl pp_19 rfl rfl rfl (congrArg Prod.fst (bn_k0 C15.1.1 (Or.inl rfl))) rfl rfl rfl rfl ?_
      have g29 := arr_g (u := U (Int.toNat k)) (ro := (hA h (6 + Int.toNat l))) (bar := bxx U S (hA h (6 + Int.toNat l)) (Int.toNat k)) (by omega) D21.1 T20
      have g29h := HBd_g (CR.1 (Int.toNat k) (by omega)).2.2.2.2.2 D21.1 (by have := cbv_d (U (Int.toNat k)) (S (Int.toNat k)); omega)
      refine cx_19 E18 (FN_rf 35 h6) g29h (CR.2.2.2 l (by omega) (by omega)) (by omega) (b26.elim (fun z => Or.inl ⟨z.1, z.2.2⟩) (fun z => Or.inr ⟨by omega, z.2.1.1, z.2.1.2.1⟩)) (w) (by omega) (fun v27 p28 => ?_)
      show av_wp _ cd_111 33 [some (.inr (.inr (.inl (some (0))))), some (.inl k), some (.inl l), some (.inl x), some (.inl w)] [.inl v27] h6 _
      refine av_wp_ret (v := some (.inl v27)) (ck_111 _ _ rfl) rfl rfl ?_
      exact hq _ h6 _ _ C15 F16 U17 (Or.inl ⟨by unfold okx; omega, by rw [show bgx U S (fun k => hA h (6 + k)) k l x = _ from B22]; exact p28.trans (bev_g g29)⟩)
end
section
/-! WHAT A HAND CAN DO AT AN HOUR, AND UNTIL WHEN -/
/-- what a look answers, as a relation that tells it -/
def RSR (ok : Prop) (d : Int) (P : Int → Prop) (v : Int) : Prop := (ok ∧ P v) ∨ (¬ ok ∧ v = d)
def mx2 (x y : Int) : Int := if x < y then y else x
/-- from when on: the offer is there, its from, whose it is, free from, come -/
def mfr (of f c fr cm hand w : Int) : Int := if of ≠ 0 ∧ f ≠ -1 ∧ c = hand then (if w = 1 then mx2 f fr else if cm = -1 then 9999 else mx2 f cm) else 9999
def mtv (e ma : Int) : Int := mn2 e ma - 1
def MYX (u ro : Nat → Int) (a : Nat → Nat → Int) (s : Nat) (ma hand w : Int) (k : Nat) (t : Int) : Prop := mfr (a 2 k) (o5 ro a k) (u (21 * k + w.toNat)) (fre u ro k) (hw a k 1) hand w ≤ t ∧ t ≤ mtv (eav u ro a s k s).1 ma
def MYE (u ro : Nat → Int) (a : Nat → Nat → Int) (s : Nat) (ma hand w t : Int) : Prop := ∃ k, k < s ∧ MYX u ro a s ma hand w k t
/-- can -/
def CNV (u ro : Nat → Int) (a : Nat → Nat → Int) (s : Nat) (ma hand t v : Int) : Prop := ((v = 1 ∨ v = 3) ↔ MYE u ro a s ma hand 1 t) ∧ ((v = 2 ∨ v = 3) ↔ MYE u ro a s ma hand 2 t) ∧ 0 ≤ v ∧ v ≤ 3
/-- until -/
def UNV (u ro : Nat → Int) (a : Nat → Nat → Int) (s : Nat) (ma hand w v : Int) : Prop := (-1 ≤ v ∧ v ≤ 9998) ∧ (0 ≤ v → MYE u ro a s ma hand w v) ∧ ∀ t, v < t → 0 ≤ t → t ≤ 9998 → ¬ MYE u ro a s ma hand w t
/-- a bench's rows say so -/
def DDA (u ro : Nat → Int) (a a0 : Nat → Nat → Int) (s : Nat) : Prop := ∀ k, k < s → a 2 k = a0 2 k ∧ a 5 k = o5 ro a0 k ∧ a 6 k = (eav u ro a0 s k s).1 ∧ hw a k 1 = hw a0 k 1
theorem DDA_of {u ro bar : Nat → Int} {s : Nat} {x : Int} {a : Nat → Nat → Int} (hs : s ≤ 12) (T : TKR u ro bar s a) (D : DCD u ro bar s x a) : DDA u ro a (arr u ro bar x) s := fun k hk => by
  have g := arr_g hs D.1 T
  exact ⟨(g k hk).2.1, (D.2 k hk).2.2.1, congrArg Prod.fst (D.2 k hk).2.1, hw_g g hk 1⟩
section
variable {u ro : Nat → Int} {a a0 : Nat → Nat → Int} {s : Nat}
theorem DDA_m (D : DDA u ro a a0 s) {k : Nat} (hk : k < s) {ma hand w t : Int} : (mfr (a 2 k) (a 5 k) (u (21 * k + w.toNat)) (fre u ro k) (hw a k 1) hand w ≤ t ∧ t ≤ mtv (a 6 k) ma) ↔ MYX u ro a0 s ma hand w k t := by
  obtain ⟨d1, d2, d3, d4⟩ := D k hk
  rw [d1, d2, d3, d4]
  exact Iff.rfl
/-- the last hour of those that there are -/
def utv (u ro : Nat → Int) (a : Nat → Nat → Int) (ma hand w : Int) : Nat → Int
  | 0 => -1
  | k + 1 => if mfr (a 2 k) (a 5 k) (u (21 * k + w.toNat)) (fre u ro k) (hw a k 1) hand w ≤ mtv (a 6 k) ma then mx2 (utv u ro a ma hand w k) (mtv (a 6 k) ma) else utv u ro a ma hand w k
end
theorem mtv_le {e ma : Int} (h : ma ≤ 9999) : mtv e ma ≤ 9998 := by
  unfold mtv mn2
  split <;> omega
theorem mfr_0 {of f c fr cm hand w : Int} (hf : -1 ≤ f) : 0 ≤ mfr of f c fr cm hand w := by
  unfold mfr mx2
  (repeat' split) <;> omega
theorem utv_u {u ro : Nat → Int} {a a0 : Nat → Nat → Int} {s : Nat} {ma hand w : Int} (D : DDA u ro a a0 s) (hm : ma ≤ 9999) (h5 : ∀ k, k < s → -1 ≤ a 5 k) : UNV u ro a0 s ma hand w (utv u ro a ma hand w s) := by
  have key : ∀ k, k ≤ s → (-1 ≤ utv u ro a ma hand w k ∧ utv u ro a ma hand w k ≤ 9998) ∧ (0 ≤ utv u ro a ma hand w k → ∃ q, q < k ∧ MYX u ro a0 s ma hand w q (utv u ro a ma hand w k)) ∧ ∀ t, utv u ro a ma hand w k < t → ∀ q, q < k → ¬ MYX u ro a0 s ma hand w q t := by
    intro k
    induction k with
    | zero => intro _; exact ⟨⟨by show (-1 : Int) ≤ -1; omega, by show (-1 : Int) ≤ 9998; omega⟩, fun z => by have z : (0 : Int) ≤ -1 := z; omega, fun t _ q hq => by omega⟩
    | succ k ih =>
      intro hk
      obtain ⟨i1, i2, i3⟩ := ih (by omega)
      have dm := fun t => DDA_m D (k := k) (by omega) (ma := ma) (hand := hand) (w := w) (t := t)
      have f0 := mfr_0 (of := a 2 k) (c := u (21 * k + w.toNat)) (fr := fre u ro k) (cm := hw a k 1) (hand := hand) (w := w) (h5 k (by omega))
      have l := mtv_le (e := a 6 k) hm
      have e : utv u ro a ma hand w (k + 1) = if mfr (a 2 k) (a 5 k) (u (21 * k + w.toNat)) (fre u ro k) (hw a k 1) hand w ≤ mtv (a 6 k) ma then mx2 (utv u ro a ma hand w k) (mtv (a 6 k) ma) else utv u ro a ma hand w k := rfl
      rw [e]
      generalize mfr (a 2 k) (a 5 k) (u (21 * k + w.toNat)) (fre u ro k) (hw a k 1) hand w = F at dm f0
      generalize mtv (a 6 k) ma = T at dm l
      generalize utv u ro a ma hand w k = V at i1 i2 i3
      split
      · next c =>
        unfold mx2
        split
        · next d =>
          refine ⟨by omega, fun _ => ⟨k, by omega, (dm T).mp ⟨c, Int.le_refl T⟩⟩, fun t ht q hq => ?_⟩
          by_cases e : q = k
          · subst e
            exact fun z => by have := (dm t).mpr z; omega
          · exact i3 t (by omega) q (by omega)
        · next d =>
          refine ⟨i1, fun z => ?_, fun t ht q hq => ?_⟩
          · obtain ⟨q, q1, q2⟩ := i2 z
            exact ⟨q, by omega, q2⟩
          · by_cases e : q = k
            · subst e
              exact fun z => by have := (dm t).mpr z; omega
            · exact i3 t ht q (by omega)
      · next c =>
        refine ⟨i1, fun z => ?_, fun t ht q hq => ?_⟩
        · obtain ⟨q, q1, q2⟩ := i2 z
          exact ⟨q, by omega, q2⟩
        · by_cases e : q = k
          · subst e
            exact fun z => by have := (dm t).mpr z; omega
          · exact i3 t ht q (by omega)
  obtain ⟨k1, k2, k3⟩ := key s (Nat.le_refl s)
  exact ⟨k1, k2, fun t h1 _ _ z => by
    obtain ⟨q, q1, q2⟩ := z
    exact k3 t h1 q q1 q2⟩
theorem utv_n {u ro : Nat → Int} {a : Nat → Nat → Int} {ma hand w x y : Int} {k : Nat} (e1 : x = mfr (a 2 k) (a 5 k) (u (21 * k + w.toNat)) (fre u ro k) (hw a k 1) hand w) (e2 : y = mtv (a 6 k) ma) (c : y < x) : utv u ro a ma hand w (k + 1) = utv u ro a ma hand w k := by
  have h : utv u ro a ma hand w (k + 1) = if mfr (a 2 k) (a 5 k) (u (21 * k + w.toNat)) (fre u ro k) (hw a k 1) hand w ≤ mtv (a 6 k) ma then mx2 (utv u ro a ma hand w k) (mtv (a 6 k) ma) else utv u ro a ma hand w k := rfl
  rw [h, ← e1, ← e2, if_neg (by omega)]
theorem utv_y {u ro : Nat → Int} {a : Nat → Nat → Int} {ma hand w x y : Int} {k : Nat} (e1 : x = mfr (a 2 k) (a 5 k) (u (21 * k + w.toNat)) (fre u ro k) (hw a k 1) hand w) (e2 : y = mtv (a 6 k) ma) (c : x ≤ y) : utv u ro a ma hand w (k + 1) = mx2 (utv u ro a ma hand w k) y := by
  have h : utv u ro a ma hand w (k + 1) = if mfr (a 2 k) (a 5 k) (u (21 * k + w.toNat)) (fre u ro k) (hw a k 1) hand w ≤ mtv (a 6 k) ma then mx2 (utv u ro a ma hand w k) (mtv (a 6 k) ma) else utv u ro a ma hand w k := rfl
  rw [h, ← e1, ← e2, if_pos c]
theorem CNV_of {u ro : Nat → Int} {a : Nat → Nat → Int} {s : Nat} {ma hand t v x y : Int} (p : (x = 1 ∧ MYE u ro a s ma hand 1 t) ∨ (x = 0 ∧ ¬ MYE u ro a s ma hand 1 t)) (q : (y = 1 ∧ MYE u ro a s ma hand 2 t) ∨ (y = 0 ∧ ¬ MYE u ro a s ma hand 2 t)) (e : v = x + 2 * y) : CNV u ro a s ma hand t v := by
  unfold CNV
  generalize MYE u ro a s ma hand 1 t = A at p ⊢
  generalize MYE u ro a s ma hand 2 t = B at q ⊢
  rcases p with p | p <;> rcases q with q | q
  · exact ⟨⟨fun _ => p.2, fun _ => by omega⟩, ⟨fun _ => q.2, fun _ => by omega⟩, by omega, by omega⟩
  · exact ⟨⟨fun _ => p.2, fun _ => by omega⟩, ⟨fun z => by omega, fun z => absurd z q.2⟩, by omega, by omega⟩
  · exact ⟨⟨fun z => by omega, fun z => absurd z p.2⟩, ⟨fun _ => q.2, fun _ => by omega⟩, by omega, by omega⟩
  · exact ⟨⟨fun z => by omega, fun z => absurd z p.2⟩, ⟨fun z => by omega, fun z => absurd z q.2⟩, by omega, by omega⟩
/-! the reference asks each offer -/
section
variable {u ro : Nat → Int} {a : Nat → Nat → Int} {s : Nat} {ma hand t : Int} {k : Nat}
end
theorem mfr_b {of f c fr cm hand w : Int} (hf : -1 ≤ f ∧ f ≤ 9999) (hfr : 0 ≤ fr ∧ fr ≤ 100001) (hc : -1 ≤ cm ∧ cm ≤ 5000) : -1 ≤ mfr of f c fr cm hand w ∧ mfr of f c fr cm hand w ≤ 100001 := by
  unfold mfr mx2
  (repeat' split) <;> omega
theorem mtv_b {e ma : Int} (he : -1 ≤ e ∧ e ≤ 9999) (qm : -1 ≤ ma ∧ ma ≤ 9999) : -2 ≤ mtv e ma ∧ mtv e ma ≤ 9998 := by
  unfold mtv mn2
  split <;> omega
end
section
/-! CAN, UNTIL, exactly: the class -/
set_option maxRecDepth 100000 in
set_option maxHeartbeats 4000000 in
theorem cx_25 {g h : av_H} {b t c s r : Nat} {cb : Int} {u ro : Nat → Int} {a : Nat → Nat → Int} {mb mo ma : Int} (E : EB b t c s r cb u ro a mb mo ma h) (F : FN b g h) (H : HBd s a) (b2 : ∀ q, q < s → 0 ≤ a 2 q ∧ a 2 q ≤ 1) (b5 : ∀ q, q < s → -1 ≤ a 5 q ∧ a 5 q ≤ 9999) (b6 : ∀ q, q < s → -1 ≤ a 6 q ∧ a 6 q ≤ 9999) (qm : -1 ≤ ma ∧ ma ≤ 9999) (k : Int) (qk : 0 ≤ k ∧ k < (s : Int)) (x : Int) (qx : -2147483648 ≤ x ∧ x ≤ 2147483647) (w : Int) (qw : 1 ≤ w ∧ w ≤ 2) {Q : Option av_V → av_H → Prop} (hq : ∀ v : Int, v = mfr (a 2 (Int.toNat k)) (a 5 (Int.toNat k)) (u (21 * (Int.toNat k) + Int.toNat w)) (fre u ro (Int.toNat k)) (hw a (Int.toNat k) 1) x w → Q (some (.inl v)) h) : av_wp none cd_25 0 [some (.inr (.inr (.inl (some (b))))), some (.inl k), some (.inl x), some (.inl w), none] [] h Q := by
  have s12 := co_s12 (ib_co E.1)
  have cbr := co_cbr (ib_co E.1)
  have mbr := eb_xr E
  have mor := eb_yr E
  refine av_wp_sqF ck_25 2 (pc' := 2) (lv' := [some (.inr (.inr (.inl (some (b))))), some (.inl k), some (.inl x), some (.inl w), none]) (st' := [.inl k, .inr (.inr (.inl (some (b))))]) (h' := h) rfl ?_
  refine wq_cv (p' := 5) (av_qc (.invokevirtual 160) 15 1 0 0) 2 cd_15 [.inl k] (b) 0 [some (.inr (.inr (.inl (some (b))))), some (.inl k)] (ck_25 _ _ rfl) rfl rfl pp_15 rfl rfl rfl (congrArg Prod.fst (ib_k0 E.1)) rfl rfl rfl rfl ?_
  refine cx_15 E F (k) (by omega) b2 (fun v1 p2 => ?_)
  show av_wp _ cd_25 5 [some (.inr (.inr (.inl (some (b))))), some (.inl k), some (.inl x), some (.inl w), none] [.inl v1] h _
  refine wq_k1 (p' := 8) (ck_25 _ _ rfl) rfl ⟨by omega, by omega⟩ (fun c3 => ?_) (fun c4 => ?_)
  · have c3 : v1 = (0) := c3
    refine av_wp_sqF ck_25 1 (pc' := 43) (lv' := [some (.inr (.inr (.inl (some (b))))), some (.inl k), some (.inl x), some (.inl w), none]) (st' := [.inl (9999)]) (h' := h) rfl ?_
    refine av_wp_ret (v := some (.inl (9999))) (ck_25 _ _ rfl) rfl rfl ?_
    exact hq _ (by unfold mfr mx2; (repeat' split) <;> omega)
  · have c4 : v1 ≠ (0) := c4
    refine av_wp_sqF ck_25 1 (pc' := 9) (lv' := [some (.inr (.inr (.inl (some (b))))), some (.inl k), some (.inl x), some (.inl w), none]) (st' := [.inr (.inr (.inl (some (b))))]) (h' := h) rfl ?_
    refine wq_gr (p' := 12) (ck_25 _ _ rfl) rfl (congrArg Prod.fst (ib_k0 E.1)) rfl (ib_g E.1 5 rfl) ?_
    refine av_wp_sqF ck_25 1 (pc' := 13) (lv' := [some (.inr (.inr (.inl (some (b))))), some (.inl k), some (.inl x), some (.inl w), none]) (st' := [.inl k, .inr (.inr (.inl (some (b + 1 + 5))))]) (h' := h) rfl ?_
    obtain ⟨v6, e7⟩ : ∃ v, a 5 (Int.toNat (k)) = v := ⟨_, rfl⟩
    have g8 := b5 (Int.toNat (k)) (by omega)
    rw [e7] at g8
    refine wq_al (p' := 14) (n := 12) (ck_25 _ _ rfl) rfl (ib_k E.1 5 rfl) (by omega) ((congrFun (eb_a E 5 rfl) _).trans e7) ?_
    refine av_wp_sqF ck_25 1 (pc' := 15) (lv' := [some (.inr (.inr (.inl (some (b))))), some (.inl k), some (.inl x), some (.inl w), none]) (st' := [.inl (-1), .inl v6]) (h' := h) rfl ?_
    refine wq_k2 (p' := 18) (ck_25 _ _ rfl) rfl ⟨by omega, by omega⟩ ⟨by omega, by omega⟩ (fun c9 => ?_) (fun c10 => ?_)
    · have c9 : v6 = (-1) := c9
      refine av_wp_sqF ck_25 1 (pc' := 43) (lv' := [some (.inr (.inr (.inl (some (b))))), some (.inl k), some (.inl x), some (.inl w), none]) (st' := [.inl (9999)]) (h' := h) rfl ?_
      refine av_wp_ret (v := some (.inl (9999))) (ck_25 _ _ rfl) rfl rfl ?_
      exact hq _ (by unfold mfr mx2; (repeat' split) <;> omega)
    · have c10 : v6 ≠ (-1) := c10
      refine av_wp_sqF ck_25 1 (pc' := 19) (lv' := [some (.inr (.inr (.inl (some (b))))), some (.inl k), some (.inl x), some (.inl w), none]) (st' := [.inr (.inr (.inl (some (b))))]) (h' := h) rfl ?_
      refine wq_gr (p' := 22) (ck_25 _ _ rfl) rfl (congrArg Prod.fst (ib_k0 E.1)) rfl (ib_t E.1) ?_
      refine av_wp_sqF ck_25 3 (pc' := 25) (lv' := [some (.inr (.inr (.inl (some (b))))), some (.inl k), some (.inl x), some (.inl w), none]) (st' := [.inl (1), .inl w, .inl k, .inr (.inr (.inl (some (t))))]) (h' := h) rfl ?_
      refine wq_k2 (p' := 28) (ck_25 _ _ rfl) rfl ⟨by omega, by omega⟩ ⟨by omega, by omega⟩ (fun c11 => ?_) (fun c12 => ?_)
      · have c11 : w ≠ (1) := c11
        refine av_wp_sqF ck_25 1 (pc' := 33) (lv' := [some (.inr (.inr (.inl (some (b))))), some (.inl k), some (.inl x), some (.inl w), none]) (st' := [.inl (2), .inl k, .inr (.inr (.inl (some (t))))]) (h' := h) rfl ?_
        refine wq_cv (p' := 36) (av_qc (.invokevirtual 74) 29 2 0 1) 3 cd_29 [.inl (2), .inl k] (t) 1 [some (.inr (.inr (.inl (some (t))))), some (.inl k), some (.inl (2))] (ck_25 _ _ rfl) rfl rfl pp_29 rfl rfl rfl (congrArg Prod.fst (co_kt (ib_co E.1))) rfl rfl rfl rfl ?_
        obtain ⟨v13, e14⟩ : ∃ v, u (21 * Int.toNat (k) + 2) = v := ⟨_, rfl⟩
        have g15 := eb_uv E (21 * Int.toNat (k) + 2)
        rw [e14] at g15
        refine xc_29 (ib_co E.1) (k) (by omega) 2 (by omega) rfl ((congrFun (eb_u E) _).trans e14) ?_
        show av_wp _ cd_25 36 [some (.inr (.inr (.inl (some (b))))), some (.inl k), some (.inl x), some (.inl w), none] [.inl v13] h _
        refine av_wp_sqF ck_25 1 (pc' := 37) (lv' := [some (.inr (.inr (.inl (some (b))))), some (.inl k), some (.inl x), some (.inl w), none]) (st' := [.inl x, .inl v13]) (h' := h) rfl ?_
        refine wq_k2 (p' := 40) (ck_25 _ _ rfl) rfl ⟨by omega, by omega⟩ ⟨by omega, by omega⟩ (fun c16 => ?_) (fun c17 => ?_)
        · have c16 : v13 = x := c16
          refine av_wp_sqF ck_25 2 (pc' := 46) (lv' := [some (.inr (.inr (.inl (some (b))))), some (.inl k), some (.inl x), some (.inl w), none]) (st' := [.inl (1), .inl w]) (h' := h) rfl ?_
          refine wq_k2 (p' := 49) (ck_25 _ _ rfl) rfl ⟨by omega, by omega⟩ ⟨by omega, by omega⟩ (fun c18 => ?_) (fun c19 => ?_)
          · have c18 : w ≠ (1) := c18
            refine av_wp_sqF ck_25 3 (pc' := 67) (lv' := [some (.inr (.inr (.inl (some (b))))), some (.inl k), some (.inl x), some (.inl w), none]) (st' := [.inl (1), .inl k, .inr (.inr (.inl (some (b))))]) (h' := h) rfl ?_
            refine wq_cv (p' := 70) (av_qc (.invokevirtual 115) 6 2 0 0) 3 cd_6 [.inl (1), .inl k] (b) 0 [some (.inr (.inr (.inl (some (b))))), some (.inl k), some (.inl (1))] (ck_25 _ _ rfl) rfl rfl pp_6 rfl rfl rfl (congrArg Prod.fst (ib_k0 E.1)) rfl rfl rfl rfl ?_
            refine cx_6 E F (k) (by omega) ((1)) (by omega) ?_
            rw [hof_c (a := a) rfl (by omega)]
            obtain ⟨v20, e21⟩ : ∃ v, hw a (Int.toNat (k)) (1) = v := ⟨_, rfl⟩
            have g22 := hw_r H (k := Int.toNat (k)) (by omega) (1)
            rw [e21] at g22
            rw [e21]
            show av_wp _ cd_25 70 [some (.inr (.inr (.inl (some (b))))), some (.inl k), some (.inl x), some (.inl w), none] [.inl v20] h _
            refine av_wp_sqF ck_25 3 (pc' := 75) (lv' := [some (.inr (.inr (.inl (some (b))))), some (.inl k), some (.inl x), some (.inl w), some (.inl v20)]) (st' := [.inl (-1), .inl v20]) (h' := h) rfl ?_
            refine wq_k2 (p' := 78) (ck_25 _ _ rfl) rfl ⟨by omega, by omega⟩ ⟨by omega, by omega⟩ (fun c23 => ?_) (fun c24 => ?_)
            · have c23 : v20 ≠ (-1) := c23
              refine av_wp_sqF ck_25 1 (pc' := 85) (lv' := [some (.inr (.inr (.inl (some (b))))), some (.inl k), some (.inl x), some (.inl w), some (.inl v20)]) (st' := [.inr (.inr (.inl (some (b))))]) (h' := h) rfl ?_
              refine wq_gr (p' := 88) (ck_25 _ _ rfl) rfl (congrArg Prod.fst (ib_k0 E.1)) rfl (ib_g E.1 5 rfl) ?_
              refine av_wp_sqF ck_25 1 (pc' := 89) (lv' := [some (.inr (.inr (.inl (some (b))))), some (.inl k), some (.inl x), some (.inl w), some (.inl v20)]) (st' := [.inl k, .inr (.inr (.inl (some (b + 1 + 5))))]) (h' := h) rfl ?_
              obtain ⟨v26, e27⟩ : ∃ v, a 5 (Int.toNat (k)) = v := ⟨_, rfl⟩
              have g28 := b5 (Int.toNat (k)) (by omega)
              rw [e27] at g28
              refine wq_al (p' := 90) (n := 12) (ck_25 _ _ rfl) rfl (ib_k E.1 5 rfl) (by omega) ((congrFun (eb_a E 5 rfl) _).trans e27) ?_
              refine av_wp_sqF ck_25 1 (pc' := 92) (lv' := [some (.inr (.inr (.inl (some (b))))), some (.inl k), some (.inl x), some (.inl w), some (.inl v20)]) (st' := [.inl v20, .inl v26]) (h' := h) rfl ?_
              refine wq_mx (p' := 95) (ck_25 _ _ rfl) rfl rfl (fun _ _ => rfl) rfl (fun v29 e30 e31 => ?_)
              have e31 := e31 ⟨by omega, by omega⟩ ⟨by omega, by omega⟩
              refine av_wp_ret (v := some (.inl v29)) (ck_25 _ _ rfl) rfl rfl ?_
              have zc : u (21 * Int.toNat k + Int.toNat w) = v13 := (congrArg u (by omega)).trans e14
              exact hq _ (by unfold mfr mx2; (repeat' split) <;> omega)
            · have c24 : v20 = (-1) := c24
              refine av_wp_sqF ck_25 2 (pc' := 95) (lv' := [some (.inr (.inr (.inl (some (b))))), some (.inl k), some (.inl x), some (.inl w), some (.inl v20)]) (st' := [.inl (9999)]) (h' := h) rfl ?_
              refine av_wp_ret (v := some (.inl (9999))) (ck_25 _ _ rfl) rfl rfl ?_
              have zc : u (21 * Int.toNat k + Int.toNat w) = v13 := (congrArg u (by omega)).trans e14
              exact hq _ (by unfold mfr mx2; (repeat' split) <;> omega)
          · have c19 : w = (1) := c19
            exfalso; omega
        · have c17 : v13 ≠ x := c17
          refine av_wp_sqF ck_25 1 (pc' := 43) (lv' := [some (.inr (.inr (.inl (some (b))))), some (.inl k), some (.inl x), some (.inl w), none]) (st' := [.inl (9999)]) (h' := h) rfl ?_
          refine av_wp_ret (v := some (.inl (9999))) (ck_25 _ _ rfl) rfl rfl ?_
          have zc : u (21 * Int.toNat k + Int.toNat w) = v13 := (congrArg u (by omega)).trans e14
          exact hq _ (by unfold mfr mx2; (repeat' split) <;> omega)
      · have c12 : w = (1) := c12
        refine av_wp_sqF ck_25 2 (pc' := 33) (lv' := [some (.inr (.inr (.inl (some (b))))), some (.inl k), some (.inl x), some (.inl w), none]) (st' := [.inl (1), .inl k, .inr (.inr (.inl (some (t))))]) (h' := h) rfl ?_
        refine wq_cv (p' := 36) (av_qc (.invokevirtual 74) 29 2 0 1) 3 cd_29 [.inl (1), .inl k] (t) 1 [some (.inr (.inr (.inl (some (t))))), some (.inl k), some (.inl (1))] (ck_25 _ _ rfl) rfl rfl pp_29 rfl rfl rfl (congrArg Prod.fst (co_kt (ib_co E.1))) rfl rfl rfl rfl ?_
        obtain ⟨v32, e33⟩ : ∃ v, u (21 * Int.toNat (k) + 1) = v := ⟨_, rfl⟩
        have g34 := eb_uv E (21 * Int.toNat (k) + 1)
        rw [e33] at g34
        refine xc_29 (ib_co E.1) (k) (by omega) 1 (by omega) rfl ((congrFun (eb_u E) _).trans e33) ?_
        show av_wp _ cd_25 36 [some (.inr (.inr (.inl (some (b))))), some (.inl k), some (.inl x), some (.inl w), none] [.inl v32] h _
        refine av_wp_sqF ck_25 1 (pc' := 37) (lv' := [some (.inr (.inr (.inl (some (b))))), some (.inl k), some (.inl x), some (.inl w), none]) (st' := [.inl x, .inl v32]) (h' := h) rfl ?_
        refine wq_k2 (p' := 40) (ck_25 _ _ rfl) rfl ⟨by omega, by omega⟩ ⟨by omega, by omega⟩ (fun c35 => ?_) (fun c36 => ?_)
        · have c35 : v32 = x := c35
          refine av_wp_sqF ck_25 2 (pc' := 46) (lv' := [some (.inr (.inr (.inl (some (b))))), some (.inl k), some (.inl x), some (.inl w), none]) (st' := [.inl (1), .inl w]) (h' := h) rfl ?_
          refine wq_k2 (p' := 49) (ck_25 _ _ rfl) rfl ⟨by omega, by omega⟩ ⟨by omega, by omega⟩ (fun c37 => ?_) (fun c38 => ?_)
          · have c37 : w ≠ (1) := c37
            exfalso; omega
          · have c38 : w = (1) := c38
            refine av_wp_sqF ck_25 1 (pc' := 50) (lv' := [some (.inr (.inr (.inl (some (b))))), some (.inl k), some (.inl x), some (.inl w), none]) (st' := [.inr (.inr (.inl (some (b))))]) (h' := h) rfl ?_
            refine wq_gr (p' := 53) (ck_25 _ _ rfl) rfl (congrArg Prod.fst (ib_k0 E.1)) rfl (ib_g E.1 5 rfl) ?_
            refine av_wp_sqF ck_25 1 (pc' := 54) (lv' := [some (.inr (.inr (.inl (some (b))))), some (.inl k), some (.inl x), some (.inl w), none]) (st' := [.inl k, .inr (.inr (.inl (some (b + 1 + 5))))]) (h' := h) rfl ?_
            obtain ⟨v40, e41⟩ : ∃ v, a 5 (Int.toNat (k)) = v := ⟨_, rfl⟩
            have g42 := b5 (Int.toNat (k)) (by omega)
            rw [e41] at g42
            refine wq_al (p' := 55) (n := 12) (ck_25 _ _ rfl) rfl (ib_k E.1 5 rfl) (by omega) ((congrFun (eb_a E 5 rfl) _).trans e41) ?_
            refine av_wp_sqF ck_25 2 (pc' := 57) (lv' := [some (.inr (.inr (.inl (some (b))))), some (.inl k), some (.inl x), some (.inl w), none]) (st' := [.inl k, .inr (.inr (.inl (some (b)))), .inl v40]) (h' := h) rfl ?_
            refine wq_cv (p' := 60) (av_qc (.invokevirtual 125) 10 1 0 0) 3 cd_10 [.inl k] (b) 0 [some (.inr (.inr (.inl (some (b))))), some (.inl k), none] (ck_25 _ _ rfl) rfl rfl pp_10 rfl rfl rfl (congrArg Prod.fst (ib_k0 E.1)) rfl rfl rfl rfl ?_
            refine cx_10 E F (k) (by omega) ?_
            obtain ⟨v43, e44⟩ : ∃ v, fre u ro (Int.toNat (k)) = v := ⟨_, rfl⟩
            have g45 := fre_r E (Int.toNat (k))
            rw [e44] at g45
            rw [e44]
            show av_wp _ cd_25 60 [some (.inr (.inr (.inl (some (b))))), some (.inl k), some (.inl x), some (.inl w), none] [.inl v43, .inl v40] h _
            refine wq_mx (p' := 63) (ck_25 _ _ rfl) rfl rfl (fun _ _ => rfl) rfl (fun v46 e47 e48 => ?_)
            have e48 := e48 ⟨by omega, by omega⟩ ⟨by omega, by omega⟩
            refine av_wp_ret (v := some (.inl v46)) (ck_25 _ _ rfl) rfl rfl ?_
            have zc : u (21 * Int.toNat k + Int.toNat w) = v32 := (congrArg u (by omega)).trans e33
            exact hq _ (by unfold mfr mx2; (repeat' split) <;> omega)
        · have c36 : v32 ≠ x := c36
          refine av_wp_sqF ck_25 1 (pc' := 43) (lv' := [some (.inr (.inr (.inl (some (b))))), some (.inl k), some (.inl x), some (.inl w), none]) (st' := [.inl (9999)]) (h' := h) rfl ?_
          refine av_wp_ret (v := some (.inl (9999))) (ck_25 _ _ rfl) rfl rfl ?_
          have zc : u (21 * Int.toNat k + Int.toNat w) = v32 := (congrArg u (by omega)).trans e33
          exact hq _ (by unfold mfr mx2; (repeat' split) <;> omega)

set_option maxRecDepth 100000 in
set_option maxHeartbeats 4000000 in
theorem cx_26 {g h : av_H} {b t c s r : Nat} {cb : Int} {u ro : Nat → Int} {a : Nat → Nat → Int} {mb mo ma : Int} (E : EB b t c s r cb u ro a mb mo ma h) (F : FN b g h) (H : HBd s a) (b2 : ∀ q, q < s → 0 ≤ a 2 q ∧ a 2 q ≤ 1) (b5 : ∀ q, q < s → -1 ≤ a 5 q ∧ a 5 q ≤ 9999) (b6 : ∀ q, q < s → -1 ≤ a 6 q ∧ a 6 q ≤ 9999) (qm : -1 ≤ ma ∧ ma ≤ 9999) (k : Int) (qk : 0 ≤ k ∧ k < (s : Int)) {Q : Option av_V → av_H → Prop} (hq : ∀ v : Int, v = mtv (a 6 (Int.toNat k)) ma → Q (some (.inl v)) h) : av_wp none cd_26 0 [some (.inr (.inr (.inl (some (b))))), some (.inl k)] [] h Q := by
  have s12 := co_s12 (ib_co E.1)
  have cbr := co_cbr (ib_co E.1)
  have mbr := eb_xr E
  have mor := eb_yr E
  refine av_wp_sqF ck_26 1 (pc' := 1) (lv' := [some (.inr (.inr (.inl (some (b))))), some (.inl k)]) (st' := [.inr (.inr (.inl (some (b))))]) (h' := h) rfl ?_
  refine wq_gr (p' := 4) (ck_26 _ _ rfl) rfl (congrArg Prod.fst (ib_k0 E.1)) rfl (ib_g E.1 6 rfl) ?_
  refine av_wp_sqF ck_26 1 (pc' := 5) (lv' := [some (.inr (.inr (.inl (some (b))))), some (.inl k)]) (st' := [.inl k, .inr (.inr (.inl (some (b + 1 + 6))))]) (h' := h) rfl ?_
  obtain ⟨v2, e3⟩ : ∃ v, a 6 (Int.toNat (k)) = v := ⟨_, rfl⟩
  have g4 := b6 (Int.toNat (k)) (by omega)
  rw [e3] at g4
  refine wq_al (p' := 6) (n := 12) (ck_26 _ _ rfl) rfl (ib_k E.1 6 rfl) (by omega) ((congrFun (eb_a E 6 rfl) _).trans e3) ?_
  refine av_wp_sqF ck_26 1 (pc' := 7) (lv' := [some (.inr (.inr (.inl (some (b))))), some (.inl k)]) (st' := [.inr (.inr (.inl (some (b)))), .inl v2]) (h' := h) rfl ?_
  refine wq_gi (p' := 10) (ck_26 _ _ rfl) rfl (congrArg Prod.fst (ib_k0 E.1)) rfl (eb_z E) ?_
  refine wq_mn (p' := 13) (ck_26 _ _ rfl) rfl rfl (fun _ _ => rfl) rfl (fun v5 e6 e7 => ?_)
  have e7 := e7 ⟨by omega, by omega⟩ ⟨by omega, by omega⟩
  refine av_wp_sqF ck_26 2 (pc' := 15) (lv' := [some (.inr (.inr (.inl (some (b))))), some (.inl k)]) (st' := [.inl (v5 - (1))]) (h' := h) rfl ?_
  refine av_wp_ret (v := some (.inl (v5 - (1)))) (ck_26 _ _ rfl) rfl rfl ?_
  exact hq _ (by unfold mtv mn2; split <;> omega)

set_option maxRecDepth 100000 in
set_option maxHeartbeats 4000000 in
theorem cx_23 {g h : av_H} {b t c s r : Nat} {cb : Int} {u ro : Nat → Int} {a : Nat → Nat → Int} {mb mo ma : Int} (E : EB b t c s r cb u ro a mb mo ma h) (F : FN b g h) (H : HBd s a) (b2 : ∀ q, q < s → 0 ≤ a 2 q ∧ a 2 q ≤ 1) (b5 : ∀ q, q < s → -1 ≤ a 5 q ∧ a 5 q ≤ 9999) (b6 : ∀ q, q < s → -1 ≤ a 6 q ∧ a 6 q ≤ 9999) (qm : -1 ≤ ma ∧ ma ≤ 9999) {a0 : Nat → Nat → Int} (D : DDA u ro a a0 s) (x : Int) (qx : -2147483648 ≤ x ∧ x ≤ 2147483647) (w : Int) (qw : 1 ≤ w ∧ w ≤ 2) (y : Int) (qy : -2147483648 ≤ y ∧ y ≤ 2147483647) {Q : Option av_V → av_H → Prop} (hq : ∀ v : Int, ((v = 1 ∧ MYE u ro a0 s ma x w y) ∨ (v = 0 ∧ ¬ MYE u ro a0 s ma x w y)) → Q (some (.inl v)) h) : av_wp none cd_23 0 [some (.inr (.inr (.inl (some (b))))), some (.inl x), some (.inl w), some (.inl y), none] [] h Q := by
  have s12 := co_s12 (ib_co E.1)
  have cbr := co_cbr (ib_co E.1)
  have mbr := eb_xr E
  have mor := eb_yr E
  refine av_wp_sqF ck_23 2 (pc' := 3) (lv' := [some (.inr (.inr (.inl (some (b))))), some (.inl x), some (.inl w), some (.inl y), some (.inl (0))]) (st' := []) (h' := h) rfl ?_
  have L3 : ∀ (m2 : Nat) (k1 : Int), (∀ q, q < Int.toNat k1 → ¬ MYX u ro a0 s ma x w q y) → k1 ≤ (s : Int) → (0 ≤ k1 ∧ k1 ≤ 12) → ((s : Int) - k1).toNat = m2 → av_wp none cd_23 3 [some (.inr (.inr (.inl (some (b))))), some (.inl x), some (.inl w), some (.inl y), some (.inl k1)] [] h Q := by
    intro m2
    induction m2 using Nat.strongRecOn with
    | _ m2 I4 =>
      intro k1 g6 g7 g8 e5
      refine av_wp_sqF ck_23 2 (pc' := 6) (lv' := [some (.inr (.inr (.inl (some (b))))), some (.inl x), some (.inl w), some (.inl y), some (.inl k1)]) (st' := [.inr (.inr (.inl (some (b)))), .inl k1]) (h' := h) rfl ?_
      refine wq_gr (p' := 9) (ck_23 _ _ rfl) rfl (congrArg Prod.fst (ib_k0 E.1)) rfl (ib_t E.1) ?_
      refine wq_gi (p' := 12) (ck_23 _ _ rfl) rfl (congrArg Prod.fst (co_kt (ib_co E.1))) rfl (co_s (ib_co E.1)) ?_
      refine wq_k2 (p' := 15) (ck_23 _ _ rfl) rfl ⟨by omega, by omega⟩ ⟨by omega, by omega⟩ (fun c9 => ?_) (fun c10 => ?_)
      · have c9 : (s : Int) ≤ k1 := c9
        refine av_wp_sqF ck_23 1 (pc' := 46) (lv' := [some (.inr (.inr (.inl (some (b))))), some (.inl x), some (.inl w), some (.inl y), some (.inl k1)]) (st' := [.inl (0)]) (h' := h) rfl ?_
        refine av_wp_ret (v := some (.inl (0))) (ck_23 _ _ rfl) rfl rfl ?_
        exact hq _ (Or.inr ⟨rfl, fun ⟨q, hq1, z⟩ => g6 q (by omega) z⟩)
      · have c10 : k1 < (s : Int) := c10
        refine av_wp_sqF ck_23 5 (pc' := 21) (lv' := [some (.inr (.inr (.inl (some (b))))), some (.inl x), some (.inl w), some (.inl y), some (.inl k1)]) (st' := [.inl w, .inl x, .inl k1, .inr (.inr (.inl (some (b)))), .inl y]) (h' := h) rfl ?_
        refine wq_cv (p' := 24) (av_qc (.invokevirtual 153) 25 3 0 0) 5 cd_25 [.inl w, .inl x, .inl k1] (b) 0 [some (.inr (.inr (.inl (some (b))))), some (.inl k1), some (.inl x), some (.inl w), none] (ck_23 _ _ rfl) rfl rfl pp_25 rfl rfl rfl (congrArg Prod.fst (ib_k0 E.1)) rfl rfl rfl rfl ?_
        refine cx_25 E F H b2 b5 b6 qm (k1) (by omega) (x) (by omega) (w) (by omega) (fun v11 p12 => ?_)
        have g13 := mfr_b (of := a 2 (Int.toNat k1)) (f := a 5 (Int.toNat k1)) (c := u (21 * Int.toNat k1 + Int.toNat w)) (fr := fre u ro (Int.toNat k1)) (cm := hw a (Int.toNat k1) 1) (hand := x) (w := w) (b5 (Int.toNat k1) (by omega)) (fre_r E (Int.toNat k1)) (hw_r H (k := Int.toNat k1) (by omega) 1)
        rw [← p12] at g13
        show av_wp _ cd_23 24 [some (.inr (.inr (.inl (some (b))))), some (.inl x), some (.inl w), some (.inl y), some (.inl k1)] [.inl v11, .inl y] h _
        refine wq_k2 (p' := 27) (ck_23 _ _ rfl) rfl ⟨by omega, by omega⟩ ⟨by omega, by omega⟩ (fun c14 => ?_) (fun c15 => ?_)
        · have c14 : y < v11 := c14
          refine av_wp_sqF ck_23 2 (pc' := 3) (lv' := [some (.inr (.inr (.inl (some (b))))), some (.inl x), some (.inl w), some (.inl y), some (.inl (k1 + (1)))]) (st' := []) (h' := h) rfl ?_
          exact I4 _ (by omega) ((k1 + (1))) (fun q hq z => by by_cases e : q = Int.toNat k1; (· subst e; have z2 := (DDA_m D (by omega)).mpr z; rw [← p12] at z2; omega); exact g6 q (by omega) z) (by omega) (by omega) rfl
        · have c15 : v11 ≤ y := c15
          refine av_wp_sqF ck_23 3 (pc' := 31) (lv' := [some (.inr (.inr (.inl (some (b))))), some (.inl x), some (.inl w), some (.inl y), some (.inl k1)]) (st' := [.inl k1, .inr (.inr (.inl (some (b)))), .inl y]) (h' := h) rfl ?_
          refine wq_cv (p' := 34) (av_qc (.invokevirtual 157) 26 1 0 0) 2 cd_26 [.inl k1] (b) 0 [some (.inr (.inr (.inl (some (b))))), some (.inl k1)] (ck_23 _ _ rfl) rfl rfl pp_26 rfl rfl rfl (congrArg Prod.fst (ib_k0 E.1)) rfl rfl rfl rfl ?_
          refine cx_26 E F H b2 b5 b6 qm (k1) (by omega) (fun v16 p17 => ?_)
          have g18 := mtv_b (e := a 6 (Int.toNat k1)) (b6 (Int.toNat k1) (by omega)) qm
          rw [← p17] at g18
          show av_wp _ cd_23 34 [some (.inr (.inr (.inl (some (b))))), some (.inl x), some (.inl w), some (.inl y), some (.inl k1)] [.inl v16, .inl y] h _
          refine wq_k2 (p' := 37) (ck_23 _ _ rfl) rfl ⟨by omega, by omega⟩ ⟨by omega, by omega⟩ (fun c19 => ?_) (fun c20 => ?_)
          · have c19 : v16 < y := c19
            refine av_wp_sqF ck_23 2 (pc' := 3) (lv' := [some (.inr (.inr (.inl (some (b))))), some (.inl x), some (.inl w), some (.inl y), some (.inl (k1 + (1)))]) (st' := []) (h' := h) rfl ?_
            exact I4 _ (by omega) ((k1 + (1))) (fun q hq z => by by_cases e : q = Int.toNat k1; (· subst e; have z2 := (DDA_m D (by omega)).mpr z; rw [← p12, ← p17] at z2; omega); exact g6 q (by omega) z) (by omega) (by omega) rfl
          · have c20 : y ≤ v16 := c20
            refine av_wp_sqF ck_23 1 (pc' := 38) (lv' := [some (.inr (.inr (.inl (some (b))))), some (.inl x), some (.inl w), some (.inl y), some (.inl k1)]) (st' := [.inl (1)]) (h' := h) rfl ?_
            refine av_wp_ret (v := some (.inl (1))) (ck_23 _ _ rfl) rfl rfl ?_
            exact hq _ (Or.inl ⟨rfl, Int.toNat k1, by omega, (DDA_m D (by omega)).mp ⟨by rw [← p12]; omega, by rw [← p17]; omega⟩⟩)
  exact L3 _ ((0)) (fun q hq => absurd hq (by omega)) (by omega) (by omega) rfl

set_option maxRecDepth 100000 in
set_option maxHeartbeats 4000000 in
theorem cx_24 {g h : av_H} {b t c s r : Nat} {cb : Int} {u ro : Nat → Int} {a : Nat → Nat → Int} {mb mo ma : Int} (E : EB b t c s r cb u ro a mb mo ma h) (F : FN b g h) (H : HBd s a) (b2 : ∀ q, q < s → 0 ≤ a 2 q ∧ a 2 q ≤ 1) (b5 : ∀ q, q < s → -1 ≤ a 5 q ∧ a 5 q ≤ 9999) (b6 : ∀ q, q < s → -1 ≤ a 6 q ∧ a 6 q ≤ 9999) (qm : -1 ≤ ma ∧ ma ≤ 9999) {a0 : Nat → Nat → Int} (D : DDA u ro a a0 s) (x : Int) (qx : -2147483648 ≤ x ∧ x ≤ 2147483647) (w : Int) (qw : 1 ≤ w ∧ w ≤ 2) {Q : Option av_V → av_H → Prop} (hq : ∀ v : Int, UNV u ro a0 s ma x w v → Q (some (.inl v)) h) : av_wp none cd_24 0 [some (.inr (.inr (.inl (some (b))))), some (.inl x), some (.inl w), none, none] [] h Q := by
  have s12 := co_s12 (ib_co E.1)
  have cbr := co_cbr (ib_co E.1)
  have mbr := eb_xr E
  have mor := eb_yr E
  refine av_wp_sqF ck_24 4 (pc' := 5) (lv' := [some (.inr (.inr (.inl (some (b))))), some (.inl x), some (.inl w), some (.inl (-1)), some (.inl (0))]) (st' := []) (h' := h) rfl ?_
  have L4 : ∀ (m3 : Nat) (k1 : Int) (k2 : Int), utv u ro a ma x w (Int.toNat k2) = k1 → k2 ≤ (s : Int) → (-2 ≤ k1 ∧ k1 ≤ 9998) → (0 ≤ k2 ∧ k2 ≤ 12) → ((s : Int) - k2).toNat = m3 → av_wp none cd_24 5 [some (.inr (.inr (.inl (some (b))))), some (.inl x), some (.inl w), some (.inl k1), some (.inl k2)] [] h Q := by
    intro m3
    induction m3 using Nat.strongRecOn with
    | _ m3 I5 =>
      intro k1 k2 g7 g8 g9 g10 e6
      refine av_wp_sqF ck_24 2 (pc' := 8) (lv' := [some (.inr (.inr (.inl (some (b))))), some (.inl x), some (.inl w), some (.inl k1), some (.inl k2)]) (st' := [.inr (.inr (.inl (some (b)))), .inl k2]) (h' := h) rfl ?_
      refine wq_gr (p' := 11) (ck_24 _ _ rfl) rfl (congrArg Prod.fst (ib_k0 E.1)) rfl (ib_t E.1) ?_
      refine wq_gi (p' := 14) (ck_24 _ _ rfl) rfl (congrArg Prod.fst (co_kt (ib_co E.1))) rfl (co_s (ib_co E.1)) ?_
      refine wq_k2 (p' := 17) (ck_24 _ _ rfl) rfl ⟨by omega, by omega⟩ ⟨by omega, by omega⟩ (fun c11 => ?_) (fun c12 => ?_)
      · have c11 : (s : Int) ≤ k2 := c11
        refine av_wp_sqF ck_24 1 (pc' := 52) (lv' := [some (.inr (.inr (.inl (some (b))))), some (.inl x), some (.inl w), some (.inl k1), some (.inl k2)]) (st' := [.inl k1]) (h' := h) rfl ?_
        refine av_wp_ret (v := some (.inl k1)) (ck_24 _ _ rfl) rfl rfl ?_
        exact hq _ (by rw [← g7, show Int.toNat k2 = s by omega]; exact utv_u D qm.2 (fun k hk => (b5 k hk).1))
      · have c12 : k2 < (s : Int) := c12
        refine av_wp_sqF ck_24 4 (pc' := 22) (lv' := [some (.inr (.inr (.inl (some (b))))), some (.inl x), some (.inl w), some (.inl k1), some (.inl k2)]) (st' := [.inl w, .inl x, .inl k2, .inr (.inr (.inl (some (b))))]) (h' := h) rfl ?_
        refine wq_cv (p' := 25) (av_qc (.invokevirtual 153) 25 3 0 0) 5 cd_25 [.inl w, .inl x, .inl k2] (b) 0 [some (.inr (.inr (.inl (some (b))))), some (.inl k2), some (.inl x), some (.inl w), none] (ck_24 _ _ rfl) rfl rfl pp_25 rfl rfl rfl (congrArg Prod.fst (ib_k0 E.1)) rfl rfl rfl rfl ?_
        refine cx_25 E F H b2 b5 b6 qm (k2) (by omega) (x) (by omega) (w) (by omega) (fun v13 p14 => ?_)
        have g15 := mfr_b (of := a 2 (Int.toNat k2)) (f := a 5 (Int.toNat k2)) (c := u (21 * Int.toNat k2 + Int.toNat w)) (fr := fre u ro (Int.toNat k2)) (cm := hw a (Int.toNat k2) 1) (hand := x) (w := w) (b5 (Int.toNat k2) (by omega)) (fre_r E (Int.toNat k2)) (hw_r H (k := Int.toNat k2) (by omega) 1)
        rw [← p14] at g15
        show av_wp _ cd_24 25 [some (.inr (.inr (.inl (some (b))))), some (.inl x), some (.inl w), some (.inl k1), some (.inl k2)] [.inl v13] h _
        refine av_wp_sqF ck_24 2 (pc' := 28) (lv' := [some (.inr (.inr (.inl (some (b))))), some (.inl x), some (.inl w), some (.inl k1), some (.inl k2)]) (st' := [.inl k2, .inr (.inr (.inl (some (b)))), .inl v13]) (h' := h) rfl ?_
        refine wq_cv (p' := 31) (av_qc (.invokevirtual 157) 26 1 0 0) 2 cd_26 [.inl k2] (b) 0 [some (.inr (.inr (.inl (some (b))))), some (.inl k2)] (ck_24 _ _ rfl) rfl rfl pp_26 rfl rfl rfl (congrArg Prod.fst (ib_k0 E.1)) rfl rfl rfl rfl ?_
        refine cx_26 E F H b2 b5 b6 qm (k2) (by omega) (fun v16 p17 => ?_)
        have g18 := mtv_b (e := a 6 (Int.toNat k2)) (b6 (Int.toNat k2) (by omega)) qm
        rw [← p17] at g18
        show av_wp _ cd_24 31 [some (.inr (.inr (.inl (some (b))))), some (.inl x), some (.inl w), some (.inl k1), some (.inl k2)] [.inl v16, .inl v13] h _
        refine wq_k2 (p' := 34) (ck_24 _ _ rfl) rfl ⟨by omega, by omega⟩ ⟨by omega, by omega⟩ (fun c19 => ?_) (fun c20 => ?_)
        · have c19 : v16 < v13 := c19
          refine av_wp_sqF ck_24 2 (pc' := 5) (lv' := [some (.inr (.inr (.inl (some (b))))), some (.inl x), some (.inl w), some (.inl k1), some (.inl (k2 + (1)))]) (st' := []) (h' := h) rfl ?_
          exact I5 _ (by omega) (k1) ((k2 + (1))) (by rw [show Int.toNat (k2 + (1)) = Int.toNat k2 + 1 by omega, utv_n p14 p17 (by omega)]; exact g7) (by omega) (by omega) (by omega) rfl
        · have c20 : v13 ≤ v16 := c20
          refine av_wp_sqF ck_24 3 (pc' := 38) (lv' := [some (.inr (.inr (.inl (some (b))))), some (.inl x), some (.inl w), some (.inl k1), some (.inl k2)]) (st' := [.inl k2, .inr (.inr (.inl (some (b)))), .inl k1]) (h' := h) rfl ?_
          refine wq_cv (p' := 41) (av_qc (.invokevirtual 157) 26 1 0 0) 2 cd_26 [.inl k2] (b) 0 [some (.inr (.inr (.inl (some (b))))), some (.inl k2)] (ck_24 _ _ rfl) rfl rfl pp_26 rfl rfl rfl (congrArg Prod.fst (ib_k0 E.1)) rfl rfl rfl rfl ?_
          refine cx_26 E F H b2 b5 b6 qm (k2) (by omega) (fun v21 p22 => ?_)
          have g23 := mtv_b (e := a 6 (Int.toNat k2)) (b6 (Int.toNat k2) (by omega)) qm
          rw [← p22] at g23
          show av_wp _ cd_24 41 [some (.inr (.inr (.inl (some (b))))), some (.inl x), some (.inl w), some (.inl k1), some (.inl k2)] [.inl v21, .inl k1] h _
          refine wq_mx (p' := 44) (ck_24 _ _ rfl) rfl rfl (fun _ _ => rfl) rfl (fun v24 e25 e26 => ?_)
          have e26 := e26 ⟨by omega, by omega⟩ ⟨by omega, by omega⟩
          refine av_wp_sqF ck_24 3 (pc' := 5) (lv' := [some (.inr (.inr (.inl (some (b))))), some (.inl x), some (.inl w), some (.inl v24), some (.inl (k2 + (1)))]) (st' := []) (h' := h) rfl ?_
          exact I5 _ (by omega) (v24) ((k2 + (1))) (by rw [show Int.toNat (k2 + (1)) = Int.toNat k2 + 1 by omega, utv_y p14 p22 (by omega), g7]; unfold mx2; split <;> omega) (by omega) (by omega) (by omega) rfl
  exact L4 _ ((-1)) ((0)) rfl (by omega) (by omega) (by omega) rfl

set_option maxRecDepth 100000 in
set_option maxHeartbeats 4000000 in
theorem cx_117 {h : av_H} {U : Nat → Nat → Int} {S : Nat → Nat} {n : Int} {sr nd : Nat → Int} (C : CJ U S n sr nd h) (k : Int) (qk : -2147483648 ≤ k ∧ k ≤ 2147483647) (l : Int) (ql : -2147483648 ≤ l ∧ l ≤ 2147483647) (x : Int) (qx : -2147483648 ≤ x ∧ x ≤ 2147483647) (q : Int) (qq : -2147483648 ≤ q ∧ q ≤ 2147483647) (w : Int) (qw : -2147483648 ≤ w ∧ w ≤ 2147483647) (CR : CRT U S n (hF h 3 4) (fun k => hA h (6 + k))) (SU : SUA U S n (hF h 3 4) (fun k => hA h (6 + k)) sr) {Q : Option av_V → av_H → Prop} (hq : ∀ (v : Int) h' sr' nd', CJ U S n sr' nd' h' → FP 35 h h' → SUA U S n (hF h 3 4) (fun k => hA h (6 + k)) sr' → RSR (okx U S n (hF h 3 4) k l x ∧ (0 ≤ q ∧ q ≤ 2) ∧ 0 ≤ w ∧ w ≤ 9998) (-2) (CNV (U (Int.toNat k)) (hA h (6 + Int.toNat l)) (arr (U (Int.toNat k)) (hA h (6 + Int.toNat l)) (bxx U S (hA h (6 + Int.toNat l)) (Int.toNat k)) x) (S (Int.toNat k)) (bgx U S (fun k => hA h (6 + k)) k l x).2.2 q w) v → Q (some (.inl v)) h') : av_wp none cd_117 0 [some (.inr (.inr (.inl (some (0))))), some (.inl k), some (.inl l), some (.inl x), some (.inl q), some (.inl w), none] [] h Q := by
  have F := FP_rf 35 h
  have nr := C.2.1.2.1
  refine av_wp_sqF ck_117 1 (pc' := 2) (lv' := [some (.inr (.inr (.inl (some (0))))), some (.inl k), some (.inl l), some (.inl x), some (.inl q), some (.inl w), none]) (st' := [.inl q]) (h' := h) rfl ?_
  refine wq_cs (p' := 5) (av_qc (.invokestatic 243) 119 1 2 7) 1 cd_119 [.inl q] [.inl q] [some (.inl q)] (ck_117 _ _ rfl) rfl rfl pp_119 (fun _ => rfl) rfl rfl ?_
  refine ct_119 (q) (by omega) (fun v1 p2 => ?_)
  show av_wp _ cd_117 5 [some (.inr (.inr (.inl (some (0))))), some (.inl k), some (.inl l), some (.inl x), some (.inl q), some (.inl w), none] [.inl v1] h _
  refine wq_k1 (p' := 8) (ck_117 _ _ rfl) rfl ⟨by omega, by omega⟩ (fun c3 => ?_) (fun c4 => ?_)
  · have c3 : v1 = (0) := c3
    refine av_wp_sqF ck_117 1 (pc' := 36) (lv' := [some (.inr (.inr (.inl (some (0))))), some (.inl k), some (.inl l), some (.inl x), some (.inl q), some (.inl w), none]) (st' := [.inl (-2)]) (h' := h) rfl ?_
    refine av_wp_ret (v := some (.inl (-2))) (ck_117 _ _ rfl) rfl rfl ?_
    exact hq _ h _ _ C F SU (Or.inr ⟨by unfold okx; omega, rfl⟩)
  · have c4 : v1 ≠ (0) := c4
    refine av_wp_sqF ck_117 1 (pc' := 10) (lv' := [some (.inr (.inr (.inl (some (0))))), some (.inl k), some (.inl l), some (.inl x), some (.inl q), some (.inl w), none]) (st' := [.inl w]) (h' := h) rfl ?_
    refine wq_k1 (p' := 13) (ck_117 _ _ rfl) rfl ⟨by omega, by omega⟩ (fun c5 => ?_) (fun c6 => ?_)
    · have c5 : w < (0) := c5
      refine av_wp_sqF ck_117 1 (pc' := 36) (lv' := [some (.inr (.inr (.inl (some (0))))), some (.inl k), some (.inl l), some (.inl x), some (.inl q), some (.inl w), none]) (st' := [.inl (-2)]) (h' := h) rfl ?_
      refine av_wp_ret (v := some (.inl (-2))) (ck_117 _ _ rfl) rfl rfl ?_
      exact hq _ h _ _ C F SU (Or.inr ⟨by unfold okx; omega, rfl⟩)
    · have c6 : (0) ≤ w := c6
      refine av_wp_sqF ck_117 2 (pc' := 18) (lv' := [some (.inr (.inr (.inl (some (0))))), some (.inl k), some (.inl l), some (.inl x), some (.inl q), some (.inl w), none]) (st' := [.inl (9999), .inl w]) (h' := h) rfl ?_
      refine wq_k2 (p' := 21) (ck_117 _ _ rfl) rfl ⟨by omega, by omega⟩ ⟨by omega, by omega⟩ (fun c7 => ?_) (fun c8 => ?_)
      · have c7 : (9999) ≤ w := c7
        refine av_wp_sqF ck_117 1 (pc' := 36) (lv' := [some (.inr (.inr (.inl (some (0))))), some (.inl k), some (.inl l), some (.inl x), some (.inl q), some (.inl w), none]) (st' := [.inl (-2)]) (h' := h) rfl ?_
        refine av_wp_ret (v := some (.inl (-2))) (ck_117 _ _ rfl) rfl rfl ?_
        exact hq _ h _ _ C F SU (Or.inr ⟨by unfold okx; omega, rfl⟩)
      · have c8 : w < (9999) := c8
        refine av_wp_sqF ck_117 1 (pc' := 22) (lv' := [some (.inr (.inr (.inl (some (0))))), some (.inl k), some (.inl l), some (.inl x), some (.inl q), some (.inl w), none]) (st' := [.inr (.inr (.inl (some (0))))]) (h' := h) rfl ?_
        refine wq_gr (p' := 25) (ck_117 _ _ rfl) rfl (congrArg Prod.fst (ly_k C.1.1 0 rfl)) rfl (ly_g C.1.1 0 5 26 rfl) ?_
        refine av_wp_sqF ck_117 3 (pc' := 28) (lv' := [some (.inr (.inr (.inl (some (0))))), some (.inl k), some (.inl l), some (.inl x), some (.inl q), some (.inl w), none]) (st' := [.inl x, .inl l, .inl k, .inr (.inr (.inl (some (26))))]) (h' := h) rfl ?_
        refine wq_cv (p' := 31) (av_qc (.invokevirtual 160) 48 3 0 3) 5 cd_48 [.inl x, .inl l, .inl k] (26) 3 [some (.inr (.inr (.inl (some (26))))), some (.inl k), some (.inl l), some (.inl x), none] (ck_117 _ _ rfl) rfl rfl pp_48 rfl rfl rfl (congrArg Prod.fst (ly_k C.1.1 26 rfl)) rfl rfl rfl rfl ?_
        refine cz_48 C (k) (by omega) (l) (by omega) (x) (by omega) CR SU (fun z9 => ?_) (fun z9 z10 z11 h12 r13 n14 t15 c16 a17 m18 m19 m20 C21 F22 U23 E24 Z25 T26 D27 B28 R29 => ?_)
        · show av_wp _ cd_117 31 [some (.inr (.inr (.inl (some (0))))), some (.inl k), some (.inl l), some (.inl x), some (.inl q), some (.inl w), none] [.inl (0)] h _
          refine av_wp_sqF ck_117 2 (pc' := 36) (lv' := [some (.inr (.inr (.inl (some (0))))), some (.inl k), some (.inl l), some (.inl x), some (.inl q), some (.inl w), none]) (st' := [.inl (-2)]) (h' := h) rfl ?_
          refine av_wp_ret (v := some (.inl (-2))) (ck_117 _ _ rfl) rfl rfl ?_
          exact hq _ h _ _ C F SU (Or.inr ⟨by unfold okx; omega, rfl⟩)
        · have g30 : (-1 ≤ m18 ∧ m18 ≤ 11) ∧ (-1 ≤ m19 ∧ m19 ≤ 11) ∧ (-1 ≤ m20 ∧ m20 ≤ 9999) := R29
          have g31 := co_s12 (ib_co E24.1)
          show av_wp _ cd_117 31 [some (.inr (.inr (.inl (some (0))))), some (.inl k), some (.inl l), some (.inl x), some (.inl q), some (.inl w), none] [.inl (1)] h12 _
          refine av_wp_sqF ck_117 2 (pc' := 38) (lv' := [some (.inr (.inr (.inl (some (0))))), some (.inl k), some (.inl l), some (.inl x), some (.inl q), some (.inl w), none]) (st' := [.inr (.inr (.inl (some (0))))]) (h' := h12) rfl ?_
          refine wq_gr (p' := 41) (ck_117 _ _ rfl) rfl (congrArg Prod.fst (ly_k C21.1.1 0 rfl)) rfl (ly_g C21.1.1 0 5 26 rfl) ?_
          refine wq_gr (p' := 44) (ck_117 _ _ rfl) rfl (congrArg Prod.fst (ly_k C21.1.1 26 rfl)) rfl (ly_g C21.1.1 26 1 35 rfl) ?_
          refine av_wp_sqF ck_117 3 (pc' := 49) (lv' := [some (.inr (.inr (.inl (some (0))))), some (.inl k), some (.inl l), some (.inl x), some (.inl q), some (.inl w), none]) (st' := [.inl w, .inl (1), .inl q, .inr (.inr (.inl (some (35))))]) (h' := h12) rfl ?_
          refine wq_cv (p' := 52) (av_qc (.invokevirtual 246) 23 3 0 0) 5 cd_23 [.inl w, .inl (1), .inl q] (35) 0 [some (.inr (.inr (.inl (some (35))))), some (.inl q), some (.inl (1)), some (.inl w), none] (ck_117 _ _ rfl) rfl rfl pp_23 rfl rfl rfl (congrArg Prod.fst (bn_k0 C21.1.1 (Or.inl rfl))) rfl rfl rfl rfl ?_
          have g34h := HBd_g (CR.1 (Int.toNat k) (by omega)).2.2.2.2.2 D27.1 (by have := cbv_d (U (Int.toNat k)) (S (Int.toNat k)); omega)
          have g34d := DDA_of (u := U (Int.toNat k)) (ro := (hA h (6 + Int.toNat l))) (bar := bxx U S (hA h (6 + Int.toNat l)) (Int.toNat k)) (x := x) (by omega) T26 D27
          have g34H : HBd (S (Int.toNat k)) (arr (U (Int.toNat k)) (hA h (6 + Int.toNat l)) (bxx U S (hA h (6 + Int.toNat l)) (Int.toNat k)) x) := HBd_g (CR.1 (Int.toNat k) (by omega)).2.2.2.2.2 (fun q hq i hi => arr_0 (by omega)) (by have := cbv_d (U (Int.toNat k)) (S (Int.toNat k)); omega)
          have g345 : ∀ q, q < S (Int.toNat k) → -1 ≤ a17 5 q ∧ a17 5 q ≤ 9999 := fun q hq => by rw [(g34d q hq).2.1]; have := o5_r (ro := (hA h (6 + Int.toNat l))) g34H hq; omega
          have g346 : ∀ q, q < S (Int.toNat k) → -1 ≤ a17 6 q ∧ a17 6 q ≤ 9999 := fun q hq => by rw [(g34d q hq).2.2.1]; have := (eav_r g34H (CR.1 (Int.toNat k) (by omega)).2.2.2.2.1 (fun j => (eb_uv E24 j).1) (eb_rv E24) (by omega) hq (S (Int.toNat k)) (Nat.le_refl _)).1; omega
          refine cx_23 E24 (FN_rf 35 h12) g34h (fun q hq => by rw [(T26 q hq).1]; exact of_b _ _ _) g345 g346 (by omega) g34d (q) (by omega) ((1)) (by omega) (w) (by omega) (fun v32 p33 => ?_)
          have g35 : v32 = 0 ∨ v32 = 1 := p33.elim (fun z => Or.inr z.1) (fun z => Or.inl z.1)
          show av_wp _ cd_117 52 [some (.inr (.inr (.inl (some (0))))), some (.inl k), some (.inl l), some (.inl x), some (.inl q), some (.inl w), none] [.inl v32] h12 _
          refine wq_k1 (p' := 55) (ck_117 _ _ rfl) rfl ⟨by omega, by omega⟩ (fun c36 => ?_) (fun c37 => ?_)
          · have c36 : v32 = (0) := c36
            refine av_wp_sqF ck_117 3 (pc' := 63) (lv' := [some (.inr (.inr (.inl (some (0))))), some (.inl k), some (.inl l), some (.inl x), some (.inl q), some (.inl w), some (.inl (0))]) (st' := [.inr (.inr (.inl (some (0))))]) (h' := h12) rfl ?_
            refine wq_gr (p' := 66) (ck_117 _ _ rfl) rfl (congrArg Prod.fst (ly_k C21.1.1 0 rfl)) rfl (ly_g C21.1.1 0 5 26 rfl) ?_
            refine wq_gr (p' := 69) (ck_117 _ _ rfl) rfl (congrArg Prod.fst (ly_k C21.1.1 26 rfl)) rfl (ly_g C21.1.1 26 1 35 rfl) ?_
            refine av_wp_sqF ck_117 3 (pc' := 74) (lv' := [some (.inr (.inr (.inl (some (0))))), some (.inl k), some (.inl l), some (.inl x), some (.inl q), some (.inl w), some (.inl (0))]) (st' := [.inl w, .inl (2), .inl q, .inr (.inr (.inl (some (35))))]) (h' := h12) rfl ?_
            refine wq_cv (p' := 77) (av_qc (.invokevirtual 246) 23 3 0 0) 5 cd_23 [.inl w, .inl (2), .inl q] (35) 0 [some (.inr (.inr (.inl (some (35))))), some (.inl q), some (.inl (2)), some (.inl w), none] (ck_117 _ _ rfl) rfl rfl pp_23 rfl rfl rfl (congrArg Prod.fst (bn_k0 C21.1.1 (Or.inl rfl))) rfl rfl rfl rfl ?_
            refine cx_23 E24 (FN_rf 35 h12) g34h (fun q hq => by rw [(T26 q hq).1]; exact of_b _ _ _) g345 g346 (by omega) g34d (q) (by omega) ((2)) (by omega) (w) (by omega) (fun v38 p39 => ?_)
            have g40 : v38 = 0 ∨ v38 = 1 := p39.elim (fun z => Or.inr z.1) (fun z => Or.inl z.1)
            show av_wp _ cd_117 77 [some (.inr (.inr (.inl (some (0))))), some (.inl k), some (.inl l), some (.inl x), some (.inl q), some (.inl w), some (.inl (0))] [.inl v38] h12 _
            refine wq_k1 (p' := 80) (ck_117 _ _ rfl) rfl ⟨by omega, by omega⟩ (fun c41 => ?_) (fun c42 => ?_)
            · have c41 : v38 = (0) := c41
              refine av_wp_sqF ck_117 1 (pc' := 89) (lv' := [some (.inr (.inr (.inl (some (0))))), some (.inl k), some (.inl l), some (.inl x), some (.inl q), some (.inl w), some (.inl (0))]) (st' := [.inl (0)]) (h' := h12) rfl ?_
              refine av_wp_ret (v := some (.inl (0))) (ck_117 _ _ rfl) rfl rfl ?_
              exact hq _ h12 _ _ C21 F22 U23 (Or.inl ⟨by unfold okx; omega, by rw [show bgx U S (fun k => hA h (6 + k)) k l x = _ from B28]; exact CNV_of p33 p39 (by omega)⟩)
            · have c42 : v38 ≠ (0) := c42
              refine av_wp_sqF ck_117 4 (pc' := 89) (lv' := [some (.inr (.inr (.inl (some (0))))), some (.inl k), some (.inl l), some (.inl x), some (.inl q), some (.inl w), some (.inl (0))]) (st' := [.inl (2)]) (h' := h12) rfl ?_
              refine av_wp_ret (v := some (.inl (2))) (ck_117 _ _ rfl) rfl rfl ?_
              exact hq _ h12 _ _ C21 F22 U23 (Or.inl ⟨by unfold okx; omega, by rw [show bgx U S (fun k => hA h (6 + k)) k l x = _ from B28]; exact CNV_of p33 p39 (by omega)⟩)
          · have c37 : v32 ≠ (0) := c37
            refine av_wp_sqF ck_117 4 (pc' := 63) (lv' := [some (.inr (.inr (.inl (some (0))))), some (.inl k), some (.inl l), some (.inl x), some (.inl q), some (.inl w), some (.inl (1))]) (st' := [.inr (.inr (.inl (some (0))))]) (h' := h12) rfl ?_
            refine wq_gr (p' := 66) (ck_117 _ _ rfl) rfl (congrArg Prod.fst (ly_k C21.1.1 0 rfl)) rfl (ly_g C21.1.1 0 5 26 rfl) ?_
            refine wq_gr (p' := 69) (ck_117 _ _ rfl) rfl (congrArg Prod.fst (ly_k C21.1.1 26 rfl)) rfl (ly_g C21.1.1 26 1 35 rfl) ?_
            refine av_wp_sqF ck_117 3 (pc' := 74) (lv' := [some (.inr (.inr (.inl (some (0))))), some (.inl k), some (.inl l), some (.inl x), some (.inl q), some (.inl w), some (.inl (1))]) (st' := [.inl w, .inl (2), .inl q, .inr (.inr (.inl (some (35))))]) (h' := h12) rfl ?_
            refine wq_cv (p' := 77) (av_qc (.invokevirtual 246) 23 3 0 0) 5 cd_23 [.inl w, .inl (2), .inl q] (35) 0 [some (.inr (.inr (.inl (some (35))))), some (.inl q), some (.inl (2)), some (.inl w), none] (ck_117 _ _ rfl) rfl rfl pp_23 rfl rfl rfl (congrArg Prod.fst (bn_k0 C21.1.1 (Or.inl rfl))) rfl rfl rfl rfl ?_
            refine cx_23 E24 (FN_rf 35 h12) g34h (fun q hq => by rw [(T26 q hq).1]; exact of_b _ _ _) g345 g346 (by omega) g34d (q) (by omega) ((2)) (by omega) (w) (by omega) (fun v43 p44 => ?_)
            have g45 : v43 = 0 ∨ v43 = 1 := p44.elim (fun z => Or.inr z.1) (fun z => Or.inl z.1)
            show av_wp _ cd_117 77 [some (.inr (.inr (.inl (some (0))))), some (.inl k), some (.inl l), some (.inl x), some (.inl q), some (.inl w), some (.inl (1))] [.inl v43] h12 _
            refine wq_k1 (p' := 80) (ck_117 _ _ rfl) rfl ⟨by omega, by omega⟩ (fun c46 => ?_) (fun c47 => ?_)
            · have c46 : v43 = (0) := c46
              refine av_wp_sqF ck_117 1 (pc' := 89) (lv' := [some (.inr (.inr (.inl (some (0))))), some (.inl k), some (.inl l), some (.inl x), some (.inl q), some (.inl w), some (.inl (1))]) (st' := [.inl (1)]) (h' := h12) rfl ?_
              refine av_wp_ret (v := some (.inl (1))) (ck_117 _ _ rfl) rfl rfl ?_
              exact hq _ h12 _ _ C21 F22 U23 (Or.inl ⟨by unfold okx; omega, by rw [show bgx U S (fun k => hA h (6 + k)) k l x = _ from B28]; exact CNV_of p33 p44 (by omega)⟩)
            · have c47 : v43 ≠ (0) := c47
              refine av_wp_sqF ck_117 4 (pc' := 89) (lv' := [some (.inr (.inr (.inl (some (0))))), some (.inl k), some (.inl l), some (.inl x), some (.inl q), some (.inl w), some (.inl (1))]) (st' := [.inl (3)]) (h' := h12) rfl ?_
              refine av_wp_ret (v := some (.inl (3))) (ck_117 _ _ rfl) rfl rfl ?_
              exact hq _ h12 _ _ C21 F22 U23 (Or.inl ⟨by unfold okx; omega, by rw [show bgx U S (fun k => hA h (6 + k)) k l x = _ from B28]; exact CNV_of p33 p44 (by omega)⟩)

set_option maxRecDepth 100000 in
set_option maxHeartbeats 4000000 in
theorem cx_118 {h : av_H} {U : Nat → Nat → Int} {S : Nat → Nat} {n : Int} {sr nd : Nat → Int} (C : CJ U S n sr nd h) (k : Int) (qk : -2147483648 ≤ k ∧ k ≤ 2147483647) (l : Int) (ql : -2147483648 ≤ l ∧ l ≤ 2147483647) (x : Int) (qx : -2147483648 ≤ x ∧ x ≤ 2147483647) (q : Int) (qq : -2147483648 ≤ q ∧ q ≤ 2147483647) (w : Int) (qw : -2147483648 ≤ w ∧ w ≤ 2147483647) (CR : CRT U S n (hF h 3 4) (fun k => hA h (6 + k))) (SU : SUA U S n (hF h 3 4) (fun k => hA h (6 + k)) sr) {Q : Option av_V → av_H → Prop} (hq : ∀ (v : Int) h' sr' nd', CJ U S n sr' nd' h' → FP 35 h h' → SUA U S n (hF h 3 4) (fun k => hA h (6 + k)) sr' → RSR (okx U S n (hF h 3 4) k l x ∧ (0 ≤ q ∧ q ≤ 2) ∧ 1 ≤ w ∧ w ≤ 2) (-2) (UNV (U (Int.toNat k)) (hA h (6 + Int.toNat l)) (arr (U (Int.toNat k)) (hA h (6 + Int.toNat l)) (bxx U S (hA h (6 + Int.toNat l)) (Int.toNat k)) x) (S (Int.toNat k)) (bgx U S (fun k => hA h (6 + k)) k l x).2.2 q w) v → Q (some (.inl v)) h') : av_wp none cd_118 0 [some (.inr (.inr (.inl (some (0))))), some (.inl k), some (.inl l), some (.inl x), some (.inl q), some (.inl w)] [] h Q := by
  have F := FP_rf 35 h
  have nr := C.2.1.2.1
  refine av_wp_sqF ck_118 1 (pc' := 2) (lv' := [some (.inr (.inr (.inl (some (0))))), some (.inl k), some (.inl l), some (.inl x), some (.inl q), some (.inl w)]) (st' := [.inl q]) (h' := h) rfl ?_
  refine wq_cs (p' := 5) (av_qc (.invokestatic 243) 119 1 2 7) 1 cd_119 [.inl q] [.inl q] [some (.inl q)] (ck_118 _ _ rfl) rfl rfl pp_119 (fun _ => rfl) rfl rfl ?_
  refine ct_119 (q) (by omega) (fun v1 p2 => ?_)
  show av_wp _ cd_118 5 [some (.inr (.inr (.inl (some (0))))), some (.inl k), some (.inl l), some (.inl x), some (.inl q), some (.inl w)] [.inl v1] h _
  refine wq_k1 (p' := 8) (ck_118 _ _ rfl) rfl ⟨by omega, by omega⟩ (fun c3 => ?_) (fun c4 => ?_)
  · have c3 : v1 = (0) := c3
    refine av_wp_sqF ck_118 1 (pc' := 35) (lv' := [some (.inr (.inr (.inl (some (0))))), some (.inl k), some (.inl l), some (.inl x), some (.inl q), some (.inl w)]) (st' := [.inl (-2)]) (h' := h) rfl ?_
    refine av_wp_ret (v := some (.inl (-2))) (ck_118 _ _ rfl) rfl rfl ?_
    exact hq _ h _ _ C F SU (Or.inr ⟨by unfold okx; omega, rfl⟩)
  · have c4 : v1 ≠ (0) := c4
    refine av_wp_sqF ck_118 2 (pc' := 11) (lv' := [some (.inr (.inr (.inl (some (0))))), some (.inl k), some (.inl l), some (.inl x), some (.inl q), some (.inl w)]) (st' := [.inl (1), .inl w]) (h' := h) rfl ?_
    refine wq_k2 (p' := 14) (ck_118 _ _ rfl) rfl ⟨by omega, by omega⟩ ⟨by omega, by omega⟩ (fun c5 => ?_) (fun c6 => ?_)
    · have c5 : w < (1) := c5
      refine av_wp_sqF ck_118 1 (pc' := 35) (lv' := [some (.inr (.inr (.inl (some (0))))), some (.inl k), some (.inl l), some (.inl x), some (.inl q), some (.inl w)]) (st' := [.inl (-2)]) (h' := h) rfl ?_
      refine av_wp_ret (v := some (.inl (-2))) (ck_118 _ _ rfl) rfl rfl ?_
      exact hq _ h _ _ C F SU (Or.inr ⟨by unfold okx; omega, rfl⟩)
    · have c6 : (1) ≤ w := c6
      refine av_wp_sqF ck_118 2 (pc' := 17) (lv' := [some (.inr (.inr (.inl (some (0))))), some (.inl k), some (.inl l), some (.inl x), some (.inl q), some (.inl w)]) (st' := [.inl (2), .inl w]) (h' := h) rfl ?_
      refine wq_k2 (p' := 20) (ck_118 _ _ rfl) rfl ⟨by omega, by omega⟩ ⟨by omega, by omega⟩ (fun c7 => ?_) (fun c8 => ?_)
      · have c7 : (2) < w := c7
        refine av_wp_sqF ck_118 1 (pc' := 35) (lv' := [some (.inr (.inr (.inl (some (0))))), some (.inl k), some (.inl l), some (.inl x), some (.inl q), some (.inl w)]) (st' := [.inl (-2)]) (h' := h) rfl ?_
        refine av_wp_ret (v := some (.inl (-2))) (ck_118 _ _ rfl) rfl rfl ?_
        exact hq _ h _ _ C F SU (Or.inr ⟨by unfold okx; omega, rfl⟩)
      · have c8 : w ≤ (2) := c8
        refine av_wp_sqF ck_118 1 (pc' := 21) (lv' := [some (.inr (.inr (.inl (some (0))))), some (.inl k), some (.inl l), some (.inl x), some (.inl q), some (.inl w)]) (st' := [.inr (.inr (.inl (some (0))))]) (h' := h) rfl ?_
        refine wq_gr (p' := 24) (ck_118 _ _ rfl) rfl (congrArg Prod.fst (ly_k C.1.1 0 rfl)) rfl (ly_g C.1.1 0 5 26 rfl) ?_
        refine av_wp_sqF ck_118 3 (pc' := 27) (lv' := [some (.inr (.inr (.inl (some (0))))), some (.inl k), some (.inl l), some (.inl x), some (.inl q), some (.inl w)]) (st' := [.inl x, .inl l, .inl k, .inr (.inr (.inl (some (26))))]) (h' := h) rfl ?_
        refine wq_cv (p' := 30) (av_qc (.invokevirtual 160) 48 3 0 3) 5 cd_48 [.inl x, .inl l, .inl k] (26) 3 [some (.inr (.inr (.inl (some (26))))), some (.inl k), some (.inl l), some (.inl x), none] (ck_118 _ _ rfl) rfl rfl pp_48 rfl rfl rfl (congrArg Prod.fst (ly_k C.1.1 26 rfl)) rfl rfl rfl rfl ?_
        refine cz_48 C (k) (by omega) (l) (by omega) (x) (by omega) CR SU (fun z9 => ?_) (fun z9 z10 z11 h12 r13 n14 t15 c16 a17 m18 m19 m20 C21 F22 U23 E24 Z25 T26 D27 B28 R29 => ?_)
        · show av_wp _ cd_118 30 [some (.inr (.inr (.inl (some (0))))), some (.inl k), some (.inl l), some (.inl x), some (.inl q), some (.inl w)] [.inl (0)] h _
          refine av_wp_sqF ck_118 2 (pc' := 35) (lv' := [some (.inr (.inr (.inl (some (0))))), some (.inl k), some (.inl l), some (.inl x), some (.inl q), some (.inl w)]) (st' := [.inl (-2)]) (h' := h) rfl ?_
          refine av_wp_ret (v := some (.inl (-2))) (ck_118 _ _ rfl) rfl rfl ?_
          exact hq _ h _ _ C F SU (Or.inr ⟨by unfold okx; omega, rfl⟩)
        · have g30 : (-1 ≤ m18 ∧ m18 ≤ 11) ∧ (-1 ≤ m19 ∧ m19 ≤ 11) ∧ (-1 ≤ m20 ∧ m20 ≤ 9999) := R29
          have g31 := co_s12 (ib_co E24.1)
          show av_wp _ cd_118 30 [some (.inr (.inr (.inl (some (0))))), some (.inl k), some (.inl l), some (.inl x), some (.inl q), some (.inl w)] [.inl (1)] h12 _
          refine av_wp_sqF ck_118 2 (pc' := 37) (lv' := [some (.inr (.inr (.inl (some (0))))), some (.inl k), some (.inl l), some (.inl x), some (.inl q), some (.inl w)]) (st' := [.inr (.inr (.inl (some (0))))]) (h' := h12) rfl ?_
          refine wq_gr (p' := 40) (ck_118 _ _ rfl) rfl (congrArg Prod.fst (ly_k C21.1.1 0 rfl)) rfl (ly_g C21.1.1 0 5 26 rfl) ?_
          refine wq_gr (p' := 43) (ck_118 _ _ rfl) rfl (congrArg Prod.fst (ly_k C21.1.1 26 rfl)) rfl (ly_g C21.1.1 26 1 35 rfl) ?_
          refine av_wp_sqF ck_118 2 (pc' := 47) (lv' := [some (.inr (.inr (.inl (some (0))))), some (.inl k), some (.inl l), some (.inl x), some (.inl q), some (.inl w)]) (st' := [.inl w, .inl q, .inr (.inr (.inl (some (35))))]) (h' := h12) rfl ?_
          refine wq_cv (p' := 50) (av_qc (.invokevirtual 249) 24 2 0 0) 5 cd_24 [.inl w, .inl q] (35) 0 [some (.inr (.inr (.inl (some (35))))), some (.inl q), some (.inl w), none, none] (ck_118 _ _ rfl) rfl rfl pp_24 rfl rfl rfl (congrArg Prod.fst (bn_k0 C21.1.1 (Or.inl rfl))) rfl rfl rfl rfl ?_
          have g34h := HBd_g (CR.1 (Int.toNat k) (by omega)).2.2.2.2.2 D27.1 (by have := cbv_d (U (Int.toNat k)) (S (Int.toNat k)); omega)
          have g34d := DDA_of (u := U (Int.toNat k)) (ro := (hA h (6 + Int.toNat l))) (bar := bxx U S (hA h (6 + Int.toNat l)) (Int.toNat k)) (x := x) (by omega) T26 D27
          have g34H : HBd (S (Int.toNat k)) (arr (U (Int.toNat k)) (hA h (6 + Int.toNat l)) (bxx U S (hA h (6 + Int.toNat l)) (Int.toNat k)) x) := HBd_g (CR.1 (Int.toNat k) (by omega)).2.2.2.2.2 (fun q hq i hi => arr_0 (by omega)) (by have := cbv_d (U (Int.toNat k)) (S (Int.toNat k)); omega)
          have g345 : ∀ q, q < S (Int.toNat k) → -1 ≤ a17 5 q ∧ a17 5 q ≤ 9999 := fun q hq => by rw [(g34d q hq).2.1]; have := o5_r (ro := (hA h (6 + Int.toNat l))) g34H hq; omega
          have g346 : ∀ q, q < S (Int.toNat k) → -1 ≤ a17 6 q ∧ a17 6 q ≤ 9999 := fun q hq => by rw [(g34d q hq).2.2.1]; have := (eav_r g34H (CR.1 (Int.toNat k) (by omega)).2.2.2.2.1 (fun j => (eb_uv E24 j).1) (eb_rv E24) (by omega) hq (S (Int.toNat k)) (Nat.le_refl _)).1; omega
          refine cx_24 E24 (FN_rf 35 h12) g34h (fun q hq => by rw [(T26 q hq).1]; exact of_b _ _ _) g345 g346 (by omega) g34d (q) (by omega) (w) (by omega) (fun v32 p33 => ?_)
          show av_wp _ cd_118 50 [some (.inr (.inr (.inl (some (0))))), some (.inl k), some (.inl l), some (.inl x), some (.inl q), some (.inl w)] [.inl v32] h12 _
          refine av_wp_ret (v := some (.inl v32)) (ck_118 _ _ rfl) rfl rfl ?_
          exact hq _ h12 _ _ C21 F22 U23 (Or.inl ⟨by unfold okx; omega, by rw [show bgx U S (fun k => hA h (6 + k)) k l x = _ from B28]; exact p33⟩)
end
section
/-! CAN, UNTIL, exactly: the reference -/
end
