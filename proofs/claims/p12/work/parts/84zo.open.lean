/-! OPEN, exactly -/
set_option maxRecDepth 100000 in
set_option maxHeartbeats 4000000 in
theorem cx_15 {g h : av_H} {b t c s r : Nat} {cb : Int} {u ro : Nat → Int} {a : Nat → Nat → Int} {mb mo ma : Int} (E : EB b t c s r cb u ro a mb mo ma h) (F : FN b g h) (k : Int) (qk : -2147483648 ≤ k ∧ k ≤ 2147483647) (b2 : ∀ q, q < s → 0 ≤ a 2 q ∧ a 2 q ≤ 1) {Q : Option av_V → av_H → Prop} (hq : ∀ v : Int, ((v = 1 ∧ (0 ≤ k ∧ k < (s : Int)) ∧ a 2 (Int.toNat k) = 1) ∨ (v = 0 ∧ ((k < 0 ∨ (s : Int) ≤ k) ∨ a 2 (Int.toNat k) = 0))) → Q (some (.inl v)) h) : av_wp none cd_15 0 [some (.inr (.inr (.inl (some (b))))), some (.inl k)] [] h Q := by
  have s12 := co_s12 (ib_co E.1)
  have cbr := co_cbr (ib_co E.1)
  have mbr := eb_xr E
  have mor := eb_yr E
  refine av_wp_seq 1 (pc' := 1) (lv' := [some (.inr (.inr (.inl (some (b))))), some (.inl k)]) (st' := [.inr (.inr (.inl (some (b))))]) (h' := h) rfl ?_
  refine wq_gr (p' := 4) rfl rfl (congrArg Prod.fst (ib_k0 E.1)) rfl (ib_t E.1) ?_
  refine av_wp_seq 1 (pc' := 5) (lv' := [some (.inr (.inr (.inl (some (b))))), some (.inl k)]) (st' := [.inl k, .inr (.inr (.inl (some (t))))]) (h' := h) rfl ?_
  refine wq_cv (p' := 8) (av_qc (.invokevirtual 136) 28 1 0 1) 2 cd_28 [.inl k] (t) 1 [some (.inr (.inr (.inl (some (t))))), some (.inl k)] rfl rfl rfl pp_28 rfl rfl rfl (congrArg Prod.fst (co_kt (ib_co E.1))) rfl rfl rfl rfl ?_
  refine ct_28 (ib_co E.1) (k) (by omega) (fun v1 p2 => ?_)
  show av_wp _ cd_15 8 [some (.inr (.inr (.inl (some (b))))), some (.inl k)] [.inl v1] h _
  refine wq_k1 (p' := 11) rfl rfl ⟨by omega, by omega⟩ (fun c3 => ?_) (fun c4 => ?_)
  · have c3 : v1 = (0) := c3
    refine av_wp_seq 1 (pc' := 25) (lv' := [some (.inr (.inr (.inl (some (b))))), some (.inl k)]) (st' := [.inl (0)]) (h' := h) rfl ?_
    refine av_wp_ret (v := some (.inl (0))) rfl rfl rfl ?_
    exact hq _ (Or.inr ⟨rfl, Or.inl (by omega)⟩)
  · have c4 : v1 ≠ (0) := c4
    refine av_wp_seq 1 (pc' := 12) (lv' := [some (.inr (.inr (.inl (some (b))))), some (.inl k)]) (st' := [.inr (.inr (.inl (some (b))))]) (h' := h) rfl ?_
    refine wq_gr (p' := 15) rfl rfl (congrArg Prod.fst (ib_k0 E.1)) rfl (ib_g E.1 2 rfl) ?_
    refine av_wp_seq 1 (pc' := 16) (lv' := [some (.inr (.inr (.inl (some (b))))), some (.inl k)]) (st' := [.inl k, .inr (.inr (.inl (some (b + 1 + 2))))]) (h' := h) rfl ?_
    obtain ⟨v6, e7⟩ : ∃ v, a 2 (Int.toNat (k)) = v := ⟨_, rfl⟩
    have g8 := b2 (Int.toNat (k)) (by omega)
    rw [e7] at g8
    refine wq_bl (p' := 17) (n := 12) rfl rfl ((Or.inr (ib_k E.1 2 rfl))) (by omega) ((congrFun (eb_a E 2 rfl) _).trans e7) ?_
    refine wq_k1 (p' := 20) rfl rfl ⟨by omega, by omega⟩ (fun c9 => ?_) (fun c10 => ?_)
    · have c9 : v6 = (0) := c9
      refine av_wp_seq 1 (pc' := 25) (lv' := [some (.inr (.inr (.inl (some (b))))), some (.inl k)]) (st' := [.inl (0)]) (h' := h) rfl ?_
      refine av_wp_ret (v := some (.inl (0))) rfl rfl rfl ?_
      exact hq _ (Or.inr ⟨rfl, Or.inr (by rw [e7]; omega)⟩)
    · have c10 : v6 ≠ (0) := c10
      refine av_wp_seq 2 (pc' := 25) (lv' := [some (.inr (.inr (.inl (some (b))))), some (.inl k)]) (st' := [.inl (1)]) (h' := h) rfl ?_
      refine av_wp_ret (v := some (.inl (1))) rfl rfl rfl ?_
      exact hq _ (Or.inl ⟨rfl, by omega, by rw [e7]; omega⟩)

set_option maxRecDepth 100000 in
set_option maxHeartbeats 4000000 in
theorem cx_107 {h : av_H} {U : Nat → Nat → Int} {S : Nat → Nat} {n : Int} {sr nd : Nat → Int} (C : CJ U S n sr nd h) (k : Int) (qk : -2147483648 ≤ k ∧ k ≤ 2147483647) (l : Int) (ql : -2147483648 ≤ l ∧ l ≤ 2147483647) (x : Int) (qx : -2147483648 ≤ x ∧ x ≤ 2147483647) (q : Int) (qq : -2147483648 ≤ q ∧ q ≤ 2147483647) (w : Int) (qw : -2147483648 ≤ w ∧ w ≤ 2147483647) (CR : CRT U S n (hF h 3 4) (fun k => hA h (6 + k))) (SU : SUA U S n (hF h 3 4) (fun k => hA h (6 + k)) sr) {Q : Option av_V → av_H → Prop} (hq : ∀ (v : Int) h' sr' nd', CJ U S n sr' nd' h' → FP 35 h h' → SUA U S n (hF h 3 4) (fun k => hA h (6 + k)) sr' → RSP (okx U S n (hF h 3 4) k l x ∧ (0 ≤ q ∧ q < (S (Int.toNat k) : Int)) ∧ ofv (U (Int.toNat k)) (hA h (6 + Int.toNat l)) (Int.toNat q) = 1 ∧ 0 ≤ w ∧ w ≤ 2) (-2) (opx (U (Int.toNat k)) (hA h (6 + Int.toNat l)) (bxx U S (hA h (6 + Int.toNat l)) (Int.toNat k)) (S (Int.toNat k)) x (Int.toNat q) w) v → Q (some (.inl v)) h') : av_wp none cd_107 0 [some (.inr (.inr (.inl (some (0))))), some (.inl k), some (.inl l), some (.inl x), some (.inl q), some (.inl w)] [] h Q := by
  have F := FP_rf 35 h
  have nr := C.2.1.2.1
  refine av_wp_seq 1 (pc' := 2) (lv' := [some (.inr (.inr (.inl (some (0))))), some (.inl k), some (.inl l), some (.inl x), some (.inl q), some (.inl w)]) (st' := [.inl w]) (h' := h) rfl ?_
  refine wq_k1 (p' := 5) rfl rfl ⟨by omega, by omega⟩ (fun c1 => ?_) (fun c2 => ?_)
  · have c1 : w < (0) := c1
    refine av_wp_seq 1 (pc' := 41) (lv' := [some (.inr (.inr (.inl (some (0))))), some (.inl k), some (.inl l), some (.inl x), some (.inl q), some (.inl w)]) (st' := [.inl (-2)]) (h' := h) rfl ?_
    refine av_wp_ret (v := some (.inl (-2))) rfl rfl rfl ?_
    exact hq _ h _ _ C F SU (Or.inr ⟨by unfold okx; omega, rfl⟩)
  · have c2 : (0) ≤ w := c2
    refine av_wp_seq 2 (pc' := 8) (lv' := [some (.inr (.inr (.inl (some (0))))), some (.inl k), some (.inl l), some (.inl x), some (.inl q), some (.inl w)]) (st' := [.inl (2), .inl w]) (h' := h) rfl ?_
    refine wq_k2 (p' := 11) rfl rfl ⟨by omega, by omega⟩ ⟨by omega, by omega⟩ (fun c3 => ?_) (fun c4 => ?_)
    · have c3 : (2) < w := c3
      refine av_wp_seq 1 (pc' := 41) (lv' := [some (.inr (.inr (.inl (some (0))))), some (.inl k), some (.inl l), some (.inl x), some (.inl q), some (.inl w)]) (st' := [.inl (-2)]) (h' := h) rfl ?_
      refine av_wp_ret (v := some (.inl (-2))) rfl rfl rfl ?_
      exact hq _ h _ _ C F SU (Or.inr ⟨by unfold okx; omega, rfl⟩)
    · have c4 : w ≤ (2) := c4
      refine av_wp_seq 1 (pc' := 12) (lv' := [some (.inr (.inr (.inl (some (0))))), some (.inl k), some (.inl l), some (.inl x), some (.inl q), some (.inl w)]) (st' := [.inr (.inr (.inl (some (0))))]) (h' := h) rfl ?_
      refine wq_gr (p' := 15) rfl rfl (congrArg Prod.fst (ly_k C.1.1 0 rfl)) rfl (ly_g C.1.1 0 5 26 rfl) ?_
      refine av_wp_seq 3 (pc' := 18) (lv' := [some (.inr (.inr (.inl (some (0))))), some (.inl k), some (.inl l), some (.inl x), some (.inl q), some (.inl w)]) (st' := [.inl x, .inl l, .inl k, .inr (.inr (.inl (some (26))))]) (h' := h) rfl ?_
      refine wq_cv (p' := 21) (av_qc (.invokevirtual 160) 48 3 0 3) 5 cd_48 [.inl x, .inl l, .inl k] (26) 3 [some (.inr (.inr (.inl (some (26))))), some (.inl k), some (.inl l), some (.inl x), none] rfl rfl rfl pp_48 rfl rfl rfl (congrArg Prod.fst (ly_k C.1.1 26 rfl)) rfl rfl rfl rfl ?_
      refine cz_48 C (k) (by omega) (l) (by omega) (x) (by omega) CR SU (fun z5 => ?_) (fun z5 z6 z7 h8 r9 n10 t11 c12 a13 m14 m15 m16 C17 F18 U19 E20 Z21 T22 D23 B24 R25 => ?_)
      · show av_wp _ cd_107 21 [some (.inr (.inr (.inl (some (0))))), some (.inl k), some (.inl l), some (.inl x), some (.inl q), some (.inl w)] [.inl (0)] h _
        refine av_wp_seq 2 (pc' := 41) (lv' := [some (.inr (.inr (.inl (some (0))))), some (.inl k), some (.inl l), some (.inl x), some (.inl q), some (.inl w)]) (st' := [.inl (-2)]) (h' := h) rfl ?_
        refine av_wp_ret (v := some (.inl (-2))) rfl rfl rfl ?_
        exact hq _ h _ _ C F SU (Or.inr ⟨by unfold okx; omega, rfl⟩)
      · have g26 : (-1 ≤ m14 ∧ m14 ≤ 11) ∧ (-1 ≤ m15 ∧ m15 ≤ 11) ∧ (-1 ≤ m16 ∧ m16 ≤ 9999) := R25
        have g27 := co_s12 (ib_co E20.1)
        show av_wp _ cd_107 21 [some (.inr (.inr (.inl (some (0))))), some (.inl k), some (.inl l), some (.inl x), some (.inl q), some (.inl w)] [.inl (1)] h8 _
        refine av_wp_seq 2 (pc' := 25) (lv' := [some (.inr (.inr (.inl (some (0))))), some (.inl k), some (.inl l), some (.inl x), some (.inl q), some (.inl w)]) (st' := [.inr (.inr (.inl (some (0))))]) (h' := h8) rfl ?_
        refine wq_gr (p' := 28) rfl rfl (congrArg Prod.fst (ly_k C17.1.1 0 rfl)) rfl (ly_g C17.1.1 0 5 26 rfl) ?_
        refine wq_gr (p' := 31) rfl rfl (congrArg Prod.fst (ly_k C17.1.1 26 rfl)) rfl (ly_g C17.1.1 26 1 35 rfl) ?_
        refine av_wp_seq 1 (pc' := 33) (lv' := [some (.inr (.inr (.inl (some (0))))), some (.inl k), some (.inl l), some (.inl x), some (.inl q), some (.inl w)]) (st' := [.inl q, .inr (.inr (.inl (some (35))))]) (h' := h8) rfl ?_
        refine wq_cv (p' := 36) (av_qc (.invokevirtual 187) 15 1 0 0) 2 cd_15 [.inl q] (35) 0 [some (.inr (.inr (.inl (some (35))))), some (.inl q)] rfl rfl rfl pp_15 rfl rfl rfl (congrArg Prod.fst (bn_k0 C17.1.1 (Or.inl rfl))) rfl rfl rfl rfl ?_
        refine cx_15 E20 (FN_rf 35 h8) (q) (by omega) (fun q hq => by rw [(T22 q hq).1]; exact of_b _ _ _) (fun v28 p29 => ?_)
        have y30 : (v28 = 1 ∧ (0 ≤ q ∧ q < (S (Int.toNat k) : Int)) ∧ ofv (U (Int.toNat k)) (hA h (6 + Int.toNat l)) (Int.toNat (q)) = 1) ∨ (v28 = 0 ∧ ¬ ((0 ≤ q ∧ q < (S (Int.toNat k) : Int)) ∧ ofv (U (Int.toNat k)) (hA h (6 + Int.toNat l)) (Int.toNat (q)) = 1)) := by
          rcases p29 with y | y
          · exact Or.inl ⟨y.1, y.2.1, by rw [← (T22 _ (by omega)).1]; exact y.2.2⟩
          · refine Or.inr ⟨y.1, fun z => ?_⟩
            have z1 := z.2
            rw [← (T22 _ (by omega)).1] at z1
            omega
        clear p29
        show av_wp _ cd_107 36 [some (.inr (.inr (.inl (some (0))))), some (.inl k), some (.inl l), some (.inl x), some (.inl q), some (.inl w)] [.inl v28] h8 _
        refine wq_k1 (p' := 39) rfl rfl ⟨by omega, by omega⟩ (fun c31 => ?_) (fun c32 => ?_)
        · have c31 : v28 ≠ (0) := c31
          refine av_wp_seq 1 (pc' := 44) (lv' := [some (.inr (.inr (.inl (some (0))))), some (.inl k), some (.inl l), some (.inl x), some (.inl q), some (.inl w)]) (st' := [.inl w]) (h' := h8) rfl ?_
          rcases (show w = 0 ∨ w = 1 ∨ (w ≠ 0 ∧ w ≠ 1) by omega) with e33 | e33 | e33
          · refine wq_lc (t := 72) rfl e33 rfl ?_
            refine av_wp_seq 1 (pc' := 73) (lv' := [some (.inr (.inr (.inl (some (0))))), some (.inl k), some (.inl l), some (.inl x), some (.inl q), some (.inl w)]) (st' := [.inr (.inr (.inl (some (0))))]) (h' := h8) rfl ?_
            refine wq_gr (p' := 76) rfl rfl (congrArg Prod.fst (ly_k C17.1.1 0 rfl)) rfl (ly_g C17.1.1 0 5 26 rfl) ?_
            refine wq_gr (p' := 79) rfl rfl (congrArg Prod.fst (ly_k C17.1.1 26 rfl)) rfl (ly_g C17.1.1 26 1 35 rfl) ?_
            refine wq_gr (p' := 82) rfl rfl (congrArg Prod.fst (bn_k0 C17.1.1 (Or.inl rfl))) rfl (bn_g C17.1.1 (Or.inl rfl) 5 rfl) ?_
            refine av_wp_seq 1 (pc' := 84) (lv' := [some (.inr (.inr (.inl (some (0))))), some (.inl k), some (.inl l), some (.inl x), some (.inl q), some (.inl w)]) (st' := [.inl q, .inr (.inr (.inl (some (35 + 1 + 5))))]) (h' := h8) rfl ?_
            obtain ⟨v34, e35⟩ : ∃ v, a13 5 (Int.toNat (q)) = v := ⟨_, rfl⟩
            refine wq_al (p' := 85) (n := 12) rfl rfl (bn_k C17.1.1 (Or.inl rfl) 5 rfl) (by omega) ((congrFun (E20.2.2.2.1 5 (by omega)) _).trans e35) ?_
            refine av_wp_ret (v := some (.inl v34)) rfl rfl rfl ?_
            exact hq _ h8 _ _ C17 F18 U19 (Or.inl ⟨by unfold okx; omega, by unfold opx; rw [if_pos (by omega)]; exact e35.symm.trans ((D23.2 (Int.toNat q) (by omega)).2.2.1)⟩)
          · refine wq_lc (t := 86) rfl e33 rfl ?_
            refine av_wp_seq 1 (pc' := 87) (lv' := [some (.inr (.inr (.inl (some (0))))), some (.inl k), some (.inl l), some (.inl x), some (.inl q), some (.inl w)]) (st' := [.inr (.inr (.inl (some (0))))]) (h' := h8) rfl ?_
            refine wq_gr (p' := 90) rfl rfl (congrArg Prod.fst (ly_k C17.1.1 0 rfl)) rfl (ly_g C17.1.1 0 5 26 rfl) ?_
            refine wq_gr (p' := 93) rfl rfl (congrArg Prod.fst (ly_k C17.1.1 26 rfl)) rfl (ly_g C17.1.1 26 1 35 rfl) ?_
            refine wq_gr (p' := 96) rfl rfl (congrArg Prod.fst (bn_k0 C17.1.1 (Or.inl rfl))) rfl (bn_g C17.1.1 (Or.inl rfl) 6 rfl) ?_
            refine av_wp_seq 1 (pc' := 98) (lv' := [some (.inr (.inr (.inl (some (0))))), some (.inl k), some (.inl l), some (.inl x), some (.inl q), some (.inl w)]) (st' := [.inl q, .inr (.inr (.inl (some (35 + 1 + 6))))]) (h' := h8) rfl ?_
            obtain ⟨v36, e37⟩ : ∃ v, a13 6 (Int.toNat (q)) = v := ⟨_, rfl⟩
            refine wq_al (p' := 99) (n := 12) rfl rfl (bn_k C17.1.1 (Or.inl rfl) 6 rfl) (by omega) ((congrFun (E20.2.2.2.1 6 (by omega)) _).trans e37) ?_
            refine av_wp_ret (v := some (.inl v36)) rfl rfl rfl ?_
            exact hq _ h8 _ _ C17 F18 U19 (Or.inl ⟨by unfold okx; omega, by unfold opx; rw [if_neg (by omega), if_pos (by omega)]; exact e37.symm.trans (congrArg Prod.fst (D23.2 (Int.toNat q) (by omega)).2.1)⟩)
          · refine wq_ld (t := 100) rfl ⟨by omega, by omega⟩ (by show Op.lookupswitch.offset [(0, 28), (1, 42)] 56 w = 56; rw [Op.lookupswitch.offset_cons, if_neg (by omega), Op.lookupswitch.offset_cons, if_neg (by omega), Op.lookupswitch.offset_nil]) rfl ?_
            refine av_wp_seq 1 (pc' := 101) (lv' := [some (.inr (.inr (.inl (some (0))))), some (.inl k), some (.inl l), some (.inl x), some (.inl q), some (.inl w)]) (st' := [.inr (.inr (.inl (some (0))))]) (h' := h8) rfl ?_
            refine wq_gr (p' := 104) rfl rfl (congrArg Prod.fst (ly_k C17.1.1 0 rfl)) rfl (ly_g C17.1.1 0 5 26 rfl) ?_
            refine wq_gr (p' := 107) rfl rfl (congrArg Prod.fst (ly_k C17.1.1 26 rfl)) rfl (ly_g C17.1.1 26 1 35 rfl) ?_
            refine wq_gr (p' := 110) rfl rfl (congrArg Prod.fst (bn_k0 C17.1.1 (Or.inl rfl))) rfl (bn_g C17.1.1 (Or.inl rfl) 7 rfl) ?_
            refine av_wp_seq 1 (pc' := 112) (lv' := [some (.inr (.inr (.inl (some (0))))), some (.inl k), some (.inl l), some (.inl x), some (.inl q), some (.inl w)]) (st' := [.inl q, .inr (.inr (.inl (some (35 + 1 + 7))))]) (h' := h8) rfl ?_
            obtain ⟨v38, e39⟩ : ∃ v, a13 7 (Int.toNat (q)) = v := ⟨_, rfl⟩
            refine wq_al (p' := 113) (n := 12) rfl rfl (bn_k C17.1.1 (Or.inl rfl) 7 rfl) (by omega) ((congrFun (E20.2.2.2.1 7 (by omega)) _).trans e39) ?_
            refine av_wp_ret (v := some (.inl v38)) rfl rfl rfl ?_
            exact hq _ h8 _ _ C17 F18 U19 (Or.inl ⟨by unfold okx; omega, by unfold opx; rw [if_neg (by omega), if_neg (by omega)]; exact e39.symm.trans (congrArg (fun z => z.2.1) (D23.2 (Int.toNat q) (by omega)).2.1)⟩)
        · have c32 : v28 = (0) := c32
          refine av_wp_seq 1 (pc' := 41) (lv' := [some (.inr (.inr (.inl (some (0))))), some (.inl k), some (.inl l), some (.inl x), some (.inl q), some (.inl w)]) (st' := [.inl (-2)]) (h' := h8) rfl ?_
          refine av_wp_ret (v := some (.inl (-2))) rfl rfl rfl ?_
          exact hq _ h8 _ _ C17 F18 U19 (Or.inr ⟨by unfold okx; omega, rfl⟩)

set_option maxRecDepth 100000 in
set_option maxHeartbeats 4000000 in
theorem cx_191 {g h : av_H} {n a m : Int} (I : IMF n a m h) (F : FM g h) {U : Nat → Nat → Int} {S : Nat → Nat} {ro : Nat → Nat → Int} (RX : RXX g U S ro) (x : Int) (qx : -2147483648 ≤ x ∧ x ≤ 2147483647) (l : Int) (ql : -2147483648 ≤ l ∧ l ≤ 2147483647) (y : Int) (qy : -2147483648 ≤ y ∧ y ≤ 2147483647) (q : Int) (qq : -2147483648 ≤ q ∧ q ≤ 2147483647) (w : Int) (qw : -2147483648 ≤ w ∧ w ≤ 2147483647) {Q : Option av_V → av_H → Prop} (hq : ∀ (v : Int) n' a' m' h', RSP (okx U S (hA g 78 0) (hA g 79 0) x l y ∧ (0 ≤ q ∧ q < (S (Int.toNat x) : Int)) ∧ ofv (U (Int.toNat x)) (ro (Int.toNat l)) (Int.toNat q) = 1 ∧ 0 ≤ w ∧ w ≤ 2) (-2) (opx (U (Int.toNat x)) (ro (Int.toNat l)) (bxx U S (ro (Int.toNat l)) (Int.toNat x)) (S (Int.toNat x)) y (Int.toNat q) w) v → IMF n' a' m' h' → FM g h' → Q (some (.inl v)) h') : av_wp none cd_191 0 [some (.inr (.inr (.inl (some (77))))), some (.inl x), some (.inl l), some (.inl y), some (.inl q), some (.inl w)] [] h Q := by
  have gn := im_n I.1.1
  rw [I.2.1] at gn
  have ga := im_a I.1.1
  rw [I.2.2.1] at ga
  have gm := im_cm I.1.1
  rw [I.2.2.2] at gm
  have G0 := I.1.1.2.1
  have G16 : 0 ≤ hA g 78 0 ∧ hA g 78 0 ≤ 16 := by rw [← F.2.2.2.2.2.2 78 rfl]; exact G0.2.1
  have G8 : 0 ≤ hA g 79 0 ∧ hA g 79 0 ≤ 8 := by rw [← F.2.2.2.2.2.2 79 rfl]; exact G0.2.2.1
  have G6 : 0 ≤ hA g 80 0 ∧ hA g 80 0 ≤ 6 := by rw [← F.2.2.2.2.2.2 80 rfl]; exact G0.2.2.2.1
  refine av_wp_seq 3 (pc' := 4) (lv' := [some (.inr (.inr (.inl (some (77))))), some (.inl x), some (.inl l), some (.inl y), some (.inl q), some (.inl w)]) (st' := [.inl (2), .inl (0), .inl w]) (h' := h) rfl ?_
  refine wq_cs (p' := 7) (av_qc (.invokestatic 176) 127 3 2 8) 3 cd_127 [.inl w, .inl (0), .inl (2)] [.inl (2), .inl (0), .inl w] [some (.inl w), some (.inl (0)), some (.inl (2))] rfl rfl rfl pp_127 (fun _ => rfl) rfl rfl ?_
  refine ct_127 (g := h) (w) (by omega) ((0)) (by omega) ((2)) (by omega) (fun v1 p2 => ?_)
  show av_wp _ cd_191 7 [some (.inr (.inr (.inl (some (77))))), some (.inl x), some (.inl l), some (.inl y), some (.inl q), some (.inl w)] [.inl v1] h _
  refine wq_k1 (p' := 10) rfl rfl ⟨by omega, by omega⟩ (fun c3 => ?_) (fun c4 => ?_)
  · have c3 : v1 = (0) := c3
    refine av_wp_seq 1 (pc' := 45) (lv' := [some (.inr (.inr (.inl (some (77))))), some (.inl x), some (.inl l), some (.inl y), some (.inl q), some (.inl w)]) (st' := [.inl (-2)]) (h' := h) rfl ?_
    refine av_wp_ret (v := some (.inl (-2))) rfl rfl rfl ?_
    exact hq _ _ _ _ h (Or.inr ⟨by unfold okx; omega, rfl⟩) I F
  · have c4 : v1 ≠ (0) := c4
    refine av_wp_seq 4 (pc' := 14) (lv' := [some (.inr (.inr (.inl (some (77))))), some (.inl x), some (.inl l), some (.inl y), some (.inl q), some (.inl w)]) (st' := [.inl y, .inl l, .inl x, .inr (.inr (.inl (some (77))))]) (h' := h) rfl ?_
    refine wq_cv (p' := 17) (av_qc (.invokevirtual 446) 186 3 0 8) 4 cd_186 [.inl y, .inl l, .inl x] (77) 8 [some (.inr (.inr (.inl (some (77))))), some (.inl x), some (.inl l), some (.inl y)] rfl rfl rfl pp_186 rfl rfl rfl (congrArg Prod.fst (ly_k I.1.1.1 77 rfl)) rfl rfl rfl rfl ?_
    refine cx_186 I F RX (x) (by omega) (l) (by omega) (y) (by omega) (fun n5 a6 m7 h8 z9 I10 F11 => ?_) (fun n12 a13 m14 h15 z16 z17 z18 e19 e20 A21 O22 B23 L24 I25 F26 => ?_)
    · have g27 := im_n I10.1.1
      rw [I10.2.1] at g27
      have g28 := im_a I10.1.1
      rw [I10.2.2.1] at g28
      have g29 := im_cm I10.1.1
      rw [I10.2.2.2] at g29
      show av_wp _ cd_191 17 [some (.inr (.inr (.inl (some (77))))), some (.inl x), some (.inl l), some (.inl y), some (.inl q), some (.inl w)] [.inl (0)] h8 _
      refine av_wp_seq 2 (pc' := 45) (lv' := [some (.inr (.inr (.inl (some (77))))), some (.inl x), some (.inl l), some (.inl y), some (.inl q), some (.inl w)]) (st' := [.inl (-2)]) (h' := h8) rfl ?_
      refine av_wp_ret (v := some (.inl (-2))) rfl rfl rfl ?_
      exact hq _ _ _ _ h8 (Or.inr ⟨by unfold okx; omega, rfl⟩) I10 F11
    · have g30 := im_n I25.1.1
      rw [I25.2.1] at g30
      have g31 := im_a I25.1.1
      rw [I25.2.2.1] at g31
      have g32 := im_cm I25.1.1
      rw [I25.2.2.2] at g32
      have g33 := (bgn_m (bar := bxx U S (ro (Int.toNat l)) (Int.toNat x)) (RX.2.1 (Int.toNat x) (Int.toNat l) (by omega) (by omega)) z18.1 (by have := cbv_d (U (Int.toNat x)) (S (Int.toNat x)); omega)).2.2
      have g33 : -1 ≤ (bgx U S ro x l y).2.2 ∧ (bgx U S ro x l y).2.2 ≤ 9999 := g33
      have B23 : BRR (bgx U S ro x l y) h15 := B23
      show av_wp _ cd_191 17 [some (.inr (.inr (.inl (some (77))))), some (.inl x), some (.inl l), some (.inl y), some (.inl q), some (.inl w)] [.inl (1)] h15 _
      refine av_wp_seq 2 (pc' := 22) (lv' := [some (.inr (.inr (.inl (some (77))))), some (.inl x), some (.inl l), some (.inl y), some (.inl q), some (.inl w)]) (st' := [.inl q]) (h' := h15) rfl ?_
      refine wq_k1 (p' := 25) rfl rfl ⟨by omega, by omega⟩ (fun c34 => ?_) (fun c35 => ?_)
      · have c34 : q < (0) := c34
        refine av_wp_seq 1 (pc' := 45) (lv' := [some (.inr (.inr (.inl (some (77))))), some (.inl x), some (.inl l), some (.inl y), some (.inl q), some (.inl w)]) (st' := [.inl (-2)]) (h' := h15) rfl ?_
        refine av_wp_ret (v := some (.inl (-2))) rfl rfl rfl ?_
        exact hq _ _ _ _ h15 (Or.inr ⟨by unfold okx; omega, rfl⟩) I25 F26
      · have c35 : (0) ≤ q := c35
        refine av_wp_seq 2 (pc' := 28) (lv' := [some (.inr (.inr (.inl (some (77))))), some (.inl x), some (.inl l), some (.inl y), some (.inl q), some (.inl w)]) (st' := [.inr (.inr (.inl (some (77)))), .inl q]) (h' := h15) rfl ?_
        refine wq_gi (p' := 31) rfl rfl (congrArg Prod.fst (ly_k I25.1.1.1 77 rfl)) rfl (I25.2.1) ?_
        refine wq_k2 (p' := 34) rfl rfl ⟨by omega, by omega⟩ ⟨by omega, by omega⟩ (fun c36 => ?_) (fun c37 => ?_)
        · have c36 : n12 ≤ q := c36
          refine av_wp_seq 1 (pc' := 45) (lv' := [some (.inr (.inr (.inl (some (77))))), some (.inl x), some (.inl l), some (.inl y), some (.inl q), some (.inl w)]) (st' := [.inl (-2)]) (h' := h15) rfl ?_
          refine av_wp_ret (v := some (.inl (-2))) rfl rfl rfl ?_
          exact hq _ _ _ _ h15 (Or.inr ⟨by unfold okx; omega, rfl⟩) I25 F26
        · have c37 : q < n12 := c37
          refine av_wp_seq 2 (pc' := 37) (lv' := [some (.inr (.inr (.inl (some (77))))), some (.inl x), some (.inl l), some (.inl y), some (.inl q), some (.inl w)]) (st' := [.inl q, .inr (.inr (.inl (some (77))))]) (h' := h15) rfl ?_
          refine wq_cv (p' := 40) (av_qc (.invokevirtual 369) 168 1 0 8) 2 cd_168 [.inl q] (77) 8 [some (.inr (.inr (.inl (some (77))))), some (.inl q)] rfl rfl rfl pp_168 rfl rfl rfl (congrArg Prod.fst (ly_k I25.1.1.1 77 rfl)) rfl rfl rfl rfl ?_
          refine cx_168 I25 F26 e19 L24 (RX.2.1 (Int.toNat x) (Int.toNat l) (by omega) (by omega)).1 (RX.2.1 (Int.toNat x) (Int.toNat l) (by omega) (by omega)).2.1 (HBd_arr (RX.2.1 (Int.toNat x) (Int.toNat l) (by omega) (by omega)) (by omega) (by have := cbv_d (U (Int.toNat x)) (S (Int.toNat x)); omega)) (q) (by omega) (fun v38 p39 => ?_)
          have y40 : v38 = ofv (U (Int.toNat x)) (ro (Int.toNat l)) (Int.toNat (q)) := p39
          have g41 := of_b (U (Int.toNat x)) (ro (Int.toNat l)) (Int.toNat (q))
          rw [← y40] at g41
          show av_wp _ cd_191 40 [some (.inr (.inr (.inl (some (77))))), some (.inl x), some (.inl l), some (.inl y), some (.inl q), some (.inl w)] [.inl v38] h15 _
          refine wq_k1 (p' := 43) rfl rfl ⟨by omega, by omega⟩ (fun c42 => ?_) (fun c43 => ?_)
          · have c42 : v38 ≠ (0) := c42
            refine av_wp_seq 1 (pc' := 48) (lv' := [some (.inr (.inr (.inl (some (77))))), some (.inl x), some (.inl l), some (.inl y), some (.inl q), some (.inl w)]) (st' := [.inl w]) (h' := h15) rfl ?_
            refine wq_k1 (p' := 51) rfl rfl ⟨by omega, by omega⟩ (fun c44 => ?_) (fun c45 => ?_)
            · have c44 : w ≠ (0) := c44
              refine av_wp_seq 2 (pc' := 64) (lv' := [some (.inr (.inr (.inl (some (77))))), some (.inl x), some (.inl l), some (.inl y), some (.inl q), some (.inl w)]) (st' := [.inl (1), .inl w]) (h' := h15) rfl ?_
              refine wq_k2 (p' := 67) rfl rfl ⟨by omega, by omega⟩ ⟨by omega, by omega⟩ (fun c46 => ?_) (fun c47 => ?_)
              · have c46 : w ≠ (1) := c46
                refine av_wp_seq 1 (pc' := 78) (lv' := [some (.inr (.inr (.inl (some (77))))), some (.inl x), some (.inl l), some (.inl y), some (.inl q), some (.inl w)]) (st' := [.inr (.inr (.inl (some (77))))]) (h' := h15) rfl ?_
                refine wq_gr (p' := 81) rfl rfl (congrArg Prod.fst (ly_k I25.1.1.1 77 rfl)) rfl (ly_g I25.1.1.1 77 49 115 rfl) ?_
                refine av_wp_seq 1 (pc' := 83) (lv' := [some (.inr (.inr (.inl (some (77))))), some (.inl x), some (.inl l), some (.inl y), some (.inl q), some (.inl w)]) (st' := [.inl q, .inr (.inr (.inl (some (115))))]) (h' := h15) rfl ?_
                obtain ⟨v48, e49⟩ : ∃ v, hA h15 115 (Int.toNat (q)) = v := ⟨_, rfl⟩
                refine wq_al (p' := 84) (n := 12) rfl rfl (ly_k I25.1.1.1 115 rfl) (by omega) (e49) ?_
                refine av_wp_ret (v := some (.inl v48)) rfl rfl rfl ?_
                have q51 := O22 (Int.toNat q) (by omega) (by rw [arr_2]; omega)
                have q52 := end_eq (a := (arr (U (Int.toNat x)) (ro (Int.toNat l)) (bxx U S (ro (Int.toNat l)) (Int.toNat x)) y)) (RX.2.1 (Int.toNat x) (Int.toNat l) (by omega) (by omega)).1 (RX.2.1 (Int.toNat x) (Int.toNat l) (by omega) (by omega)).2.1 (HBd_arr (RX.2.1 (Int.toNat x) (Int.toNat l) (by omega) (by omega)) (by omega) (by have := cbv_d (U (Int.toNat x)) (S (Int.toNat x)); omega)) (fun k hk => arr_2) (o := Int.toNat q) (by omega) (by rw [arr_2]; omega)
                exact hq _ _ _ _ h15 (Or.inl ⟨by unfold okx; omega, by unfold opx; rw [if_neg (by omega), if_neg (by omega)]; exact e49.symm.trans ((congrArg Prod.snd q51.2).trans q52.2)⟩) I25 F26
              · have c47 : w = (1) := c47
                refine av_wp_seq 1 (pc' := 68) (lv' := [some (.inr (.inr (.inl (some (77))))), some (.inl x), some (.inl l), some (.inl y), some (.inl q), some (.inl w)]) (st' := [.inr (.inr (.inl (some (77))))]) (h' := h15) rfl ?_
                refine wq_gr (p' := 71) rfl rfl (congrArg Prod.fst (ly_k I25.1.1.1 77 rfl)) rfl (ly_g I25.1.1.1 77 48 114 rfl) ?_
                refine av_wp_seq 1 (pc' := 73) (lv' := [some (.inr (.inr (.inl (some (77))))), some (.inl x), some (.inl l), some (.inl y), some (.inl q), some (.inl w)]) (st' := [.inl q, .inr (.inr (.inl (some (114))))]) (h' := h15) rfl ?_
                obtain ⟨v53, e54⟩ : ∃ v, hA h15 114 (Int.toNat (q)) = v := ⟨_, rfl⟩
                refine wq_al (p' := 74) (n := 12) rfl rfl (ly_k I25.1.1.1 114 rfl) (by omega) (e54) ?_
                refine av_wp_seq 1 (pc' := 84) (lv' := [some (.inr (.inr (.inl (some (77))))), some (.inl x), some (.inl l), some (.inl y), some (.inl q), some (.inl w)]) (st' := [.inl v53]) (h' := h15) rfl ?_
                refine av_wp_ret (v := some (.inl v53)) rfl rfl rfl ?_
                have q56 := O22 (Int.toNat q) (by omega) (by rw [arr_2]; omega)
                have q57 := end_eq (a := (arr (U (Int.toNat x)) (ro (Int.toNat l)) (bxx U S (ro (Int.toNat l)) (Int.toNat x)) y)) (RX.2.1 (Int.toNat x) (Int.toNat l) (by omega) (by omega)).1 (RX.2.1 (Int.toNat x) (Int.toNat l) (by omega) (by omega)).2.1 (HBd_arr (RX.2.1 (Int.toNat x) (Int.toNat l) (by omega) (by omega)) (by omega) (by have := cbv_d (U (Int.toNat x)) (S (Int.toNat x)); omega)) (fun k hk => arr_2) (o := Int.toNat q) (by omega) (by rw [arr_2]; omega)
                exact hq _ _ _ _ h15 (Or.inl ⟨by unfold okx; omega, by unfold opx; rw [if_neg (by omega), if_pos (by omega)]; exact e54.symm.trans ((congrArg Prod.fst q56.2).trans q57.1)⟩) I25 F26
            · have c45 : w = (0) := c45
              refine av_wp_seq 1 (pc' := 52) (lv' := [some (.inr (.inr (.inl (some (77))))), some (.inl x), some (.inl l), some (.inl y), some (.inl q), some (.inl w)]) (st' := [.inr (.inr (.inl (some (77))))]) (h' := h15) rfl ?_
              refine wq_gr (p' := 55) rfl rfl (congrArg Prod.fst (ly_k I25.1.1.1 77 rfl)) rfl (ly_g I25.1.1.1 77 47 113 rfl) ?_
              refine av_wp_seq 1 (pc' := 57) (lv' := [some (.inr (.inr (.inl (some (77))))), some (.inl x), some (.inl l), some (.inl y), some (.inl q), some (.inl w)]) (st' := [.inl q, .inr (.inr (.inl (some (113))))]) (h' := h15) rfl ?_
              obtain ⟨v58, e59⟩ : ∃ v, hA h15 113 (Int.toNat (q)) = v := ⟨_, rfl⟩
              refine wq_al (p' := 58) (n := 12) rfl rfl (ly_k I25.1.1.1 113 rfl) (by omega) (e59) ?_
              refine av_wp_seq 1 (pc' := 84) (lv' := [some (.inr (.inr (.inl (some (77))))), some (.inl x), some (.inl l), some (.inl y), some (.inl q), some (.inl w)]) (st' := [.inl v58]) (h' := h15) rfl ?_
              refine av_wp_ret (v := some (.inl v58)) rfl rfl rfl ?_
              have q61 := O22 (Int.toNat q) (by omega) (by rw [arr_2]; omega)
              have q62 := end_eq (a := (arr (U (Int.toNat x)) (ro (Int.toNat l)) (bxx U S (ro (Int.toNat l)) (Int.toNat x)) y)) (RX.2.1 (Int.toNat x) (Int.toNat l) (by omega) (by omega)).1 (RX.2.1 (Int.toNat x) (Int.toNat l) (by omega) (by omega)).2.1 (HBd_arr (RX.2.1 (Int.toNat x) (Int.toNat l) (by omega) (by omega)) (by omega) (by have := cbv_d (U (Int.toNat x)) (S (Int.toNat x)); omega)) (fun k hk => arr_2) (o := Int.toNat q) (by omega) (by rw [arr_2]; omega)
              exact hq _ _ _ _ h15 (Or.inl ⟨by unfold okx; omega, by unfold opx; rw [if_pos (by omega)]; exact e59.symm.trans (q61.1)⟩) I25 F26
          · have c43 : v38 = (0) := c43
            refine av_wp_seq 1 (pc' := 45) (lv' := [some (.inr (.inr (.inl (some (77))))), some (.inl x), some (.inl l), some (.inl y), some (.inl q), some (.inl w)]) (st' := [.inl (-2)]) (h' := h15) rfl ?_
            refine av_wp_ret (v := some (.inl (-2))) rfl rfl rfl ?_
            exact hq _ _ _ _ h15 (Or.inr ⟨by unfold okx; omega, rfl⟩) I25 F26

