section
/-! THE REFERENCE'S OPERATIONS -/
theorem rlf_ge {b : Nat → Int} {lim : Nat} : ∀ (f n : Nat) (t : TT) (d : Nat → Int), n ≤ (rlf b lim f n t d).1 := by
  intro f
  induction f with
  | zero => intro n t d; exact Nat.le_refl n
  | succ f ih =>
    intro n t d
    unfold rlf
    split
    · split
      · exact Nat.le_refl n
      · exact Nat.le_trans (Nat.le_succ n) (ih (n + 1) _ _)
    · exact Nat.le_refl n
theorem rlf_1 {b : Nat → Int} {lim : Nat} {t : TT} {d : Nat → Int} (h : t.2.2.2 = -1) (h2 : t.2.2.1 ≠ 0) : 1 ≤ (rlf b lim 21 0 t d).1 := by
  unfold rlf
  rw [if_pos ⟨h, h2⟩, if_neg (by decide)]
  exact rlf_ge 20 1 _ _
theorem rlf_e {b : Nat → Int} {lim f n : Nat} {t : TT} {d : Nat → Int} (h : t.2.2.2 ≠ -1 ∨ t.2.2.1 = 0) : rlf b lim f n t d = (n, t, d) := by
  cases f with
  | zero => rfl
  | succ f =>
    unfold rlf
    rw [if_neg (by omega)]
theorem rlA_0 {b : Nat → Int} {lim : Nat} {t : TT} {d : Nat → Int} : (rlA b lim 0 t d).2.1 = (rlf b lim 21 0 t (ufil d 0 14 (-2))).2.1 := by
  unfold rlA
  generalize rlf b lim 21 0 t (ufil d 0 14 (-2)) = x
  obtain ⟨n, t1, d1⟩ := x
  show (if (n : Int) < 0 then fal t1 else t1) = t1
  rw [if_neg (by omega)]
theorem FD_A {g h : av_H} (F : FD g h) {a : Nat} (e : rdA a = false) : hA h a = hA g a := F.2.2.2.2.2.2 a e

set_option maxRecDepth 100000 in
set_option maxHeartbeats 4000000 in
theorem ct_149x {h : av_H} (L : LY h) {cnt : Int} (hc : hA h 78 0 = cnt) (qc : 0 ≤ cnt ∧ cnt ≤ 16) (k : Int) (qk : -2147483648 ≤ k ∧ k ≤ 2147483647) {Q : Option av_V → av_H → Prop} (hq0 : (k < 0 ∨ cnt ≤ k) → Q (some (.inl 0)) h) (hq1 : 0 ≤ k → k < cnt → Q (some (.inl 1)) h) : av_wp none cd_149 0 [some (.inr (.inr (.inl (some (77))))), some (.inl k)] [] h Q := by
  refine av_wp_sqF ck_149 1 (pc' := 1) (lv' := [some (.inr (.inr (.inl (some (77))))), some (.inl k)]) (st' := [.inl k]) (h' := h) rfl ?_
  refine wq_k1 (p' := 4) (ck_149 _ _ rfl) rfl ⟨by omega, by omega⟩ (fun c1 => ?_) (fun c2 => ?_)
  · have c1 : k < (0) := c1
    refine av_wp_sqF ck_149 1 (pc' := 19) (lv' := [some (.inr (.inr (.inl (some (77))))), some (.inl k)]) (st' := [.inl (0)]) (h' := h) rfl ?_
    refine av_wp_ret (v := some (.inl (0))) (ck_149 _ _ rfl) rfl rfl ?_
    exact hq0 (by omega)
  · have c2 : (0) ≤ k := c2
    refine av_wp_sqF ck_149 2 (pc' := 6) (lv' := [some (.inr (.inr (.inl (some (77))))), some (.inl k)]) (st' := [.inr (.inr (.inl (some (77)))), .inl k]) (h' := h) rfl ?_
    refine wq_gr (p' := 9) (ck_149 _ _ rfl) rfl (congrArg Prod.fst (ly_k L 77 rfl)) rfl (ly_g L 77 0 78 rfl) ?_
    refine av_wp_sqF ck_149 1 (pc' := 10) (lv' := [some (.inr (.inr (.inl (some (77))))), some (.inl k)]) (st' := [.inl (0), .inr (.inr (.inl (some (78)))), .inl k]) (h' := h) rfl ?_
    refine wq_al (p' := 11) (n := 5) (ck_149 _ _ rfl) rfl (ly_k L 78 rfl) (by omega) (hc) ?_
    refine wq_k2 (p' := 14) (ck_149 _ _ rfl) rfl ⟨by omega, by omega⟩ ⟨by omega, by omega⟩ (fun c3 => ?_) (fun c4 => ?_)
    · have c3 : cnt ≤ k := c3
      refine av_wp_sqF ck_149 1 (pc' := 19) (lv' := [some (.inr (.inr (.inl (some (77))))), some (.inl k)]) (st' := [.inl (0)]) (h' := h) rfl ?_
      refine av_wp_ret (v := some (.inl (0))) (ck_149 _ _ rfl) rfl rfl ?_
      exact hq0 (by omega)
    · have c4 : k < cnt := c4
      refine av_wp_sqF ck_149 2 (pc' := 19) (lv' := [some (.inr (.inr (.inl (some (77))))), some (.inl k)]) (st' := [.inl (1)]) (h' := h) rfl ?_
      refine av_wp_ret (v := some (.inl (1))) (ck_149 _ _ rfl) rfl rfl ?_
      exact hq1 (by omega) (by omega)

theorem rbf_12 {b : Nat → Int} {lim : Nat} {ah : Int} : ∀ (f k : Nat) (t : TT) (r : Nat → Int), k ≤ 12 → (rbf b lim ah f k t r).1 ≤ 12 := by
  intro f
  induction f with
  | zero => intro k t r hk; exact hk
  | succ f ih =>
    intro k t r hk
    unfold rbf
    split
    · split
      · exact hk
      · exact ih (k + 1) _ _ (by omega)
    · exact hk
theorem rbA_12 {b : Nat → Int} {lim : Nat} {ah : Int} {k : Nat} {t : TT} {r : Nat → Int} (hk : k ≤ 12) : (rbA b lim ah k t r).1 ≤ 12 := rbf_12 _ _ _ _ hk

set_option maxRecDepth 100000 in
set_option maxHeartbeats 4000000 in
theorem ct_148 {h : av_H} (L : LY h) {b : Nat → Int} (hb : hA h 94 = b) (bv : ∀ j, -128 ≤ b j ∧ b j ≤ 127) {len : Int} (hl : hF h 77 17 = len) (ql : 0 ≤ len ∧ len ≤ 900) {cnt : Int} (hc : hA h 78 0 = cnt) (qc : 0 ≤ cnt ∧ cnt ≤ 16) (B : BN (hA h)) (r : Nat → Int) (n : Int) (qn : -2147483648 ≤ n ∧ n ≤ 2147483647) {Q : Option av_V → av_H → Prop} (hqA : (n < 0 ∨ len < n) → Q (some (.inl (-2))) h) (hqB : 0 ≤ n → n ≤ len → cnt = 16 → Q (some (.inl (-3))) h) (hq0 : 0 ≤ n → n ≤ len → cnt < 16 → (rbA b n.toNat cnt 0 (adv b n.toNat (0, 0, 0, -1)) r).2.1.2.2.2 ≠ -1 → ∀ h', MT b n.toNat (rbA b n.toNat cnt 0 (adv b n.toNat (0, 0, 0, -1)) r).2.1 0 (hA h') h' → FD h h' → BN (hA h') → FR2 cnt.toNat 0 (hA h) (hA h') → Q (some (.inl (-1))) h') (hq1 : 0 ≤ n → n ≤ len → cnt < 16 → (rbA b n.toNat cnt 0 (adv b n.toNat (0, 0, 0, -1)) r).2.1.2.2.2 = -1 → ∀ h1, MT b n.toNat (rbA b n.toNat cnt 0 (adv b n.toNat (0, 0, 0, -1)) r).2.1 0 (hA h1) h1 → FD h h1 → BN (hA h1) → FR2 cnt.toNat 0 (hA h) (hA h1) → (∀ j, j < (rbA b n.toNat cnt 0 (adv b n.toNat (0, 0, 0, -1)) r).1 → RY (rwA (hA h1) (12 * cnt.toNat + j)) (rbA b n.toNat cnt 0 (adv b n.toNat (0, 0, 0, -1)) r).2.2 (j * 21)) → Q (some (.inl cnt)) (hwA (hwA h1 81 (Int.toNat cnt) ((rbA b n.toNat cnt 0 (adv b n.toNat (0, 0, 0, -1)) r).1 : Int)) 78 0 (cnt + 1))) : av_wp none cd_148 0 [some (.inr (.inr (.inl (some (77))))), some (.inl n), none] [] h Q := by
  refine av_wp_sqF ck_148 1 (pc' := 1) (lv' := [some (.inr (.inr (.inl (some (77))))), some (.inl n), none]) (st' := [.inl n]) (h' := h) rfl ?_
  refine wq_k1 (p' := 4) (ck_148 _ _ rfl) rfl ⟨by omega, by omega⟩ (fun c1 => ?_) (fun c2 => ?_)
  · have c1 : n < (0) := c1
    refine av_wp_sqF ck_148 1 (pc' := 14) (lv' := [some (.inr (.inr (.inl (some (77))))), some (.inl n), none]) (st' := [.inl (-2)]) (h' := h) rfl ?_
    refine av_wp_ret (v := some (.inl (-2))) (ck_148 _ _ rfl) rfl rfl ?_
    exact hqA (by omega)
  · have c2 : (0) ≤ n := c2
    refine av_wp_sqF ck_148 2 (pc' := 6) (lv' := [some (.inr (.inr (.inl (some (77))))), some (.inl n), none]) (st' := [.inr (.inr (.inl (some (77)))), .inl n]) (h' := h) rfl ?_
    refine wq_gi (p' := 9) (ck_148 _ _ rfl) rfl (congrArg Prod.fst (ly_k L 77 rfl)) rfl (hl) ?_
    refine wq_k2 (p' := 12) (ck_148 _ _ rfl) rfl ⟨by omega, by omega⟩ ⟨by omega, by omega⟩ (fun c3 => ?_) (fun c4 => ?_)
    · have c3 : n ≤ len := c3
      refine av_wp_sqF ck_148 1 (pc' := 16) (lv' := [some (.inr (.inr (.inl (some (77))))), some (.inl n), none]) (st' := [.inr (.inr (.inl (some (77))))]) (h' := h) rfl ?_
      refine wq_gr (p' := 19) (ck_148 _ _ rfl) rfl (congrArg Prod.fst (ly_k L 77 rfl)) rfl (ly_g L 77 0 78 rfl) ?_
      refine av_wp_sqF ck_148 1 (pc' := 20) (lv' := [some (.inr (.inr (.inl (some (77))))), some (.inl n), none]) (st' := [.inl (0), .inr (.inr (.inl (some (78))))]) (h' := h) rfl ?_
      refine wq_al (p' := 21) (n := 5) (ck_148 _ _ rfl) rfl (ly_k L 78 rfl) (by omega) (hc) ?_
      refine av_wp_sqF ck_148 1 (pc' := 23) (lv' := [some (.inr (.inr (.inl (some (77))))), some (.inl n), none]) (st' := [.inl (16), .inl cnt]) (h' := h) rfl ?_
      refine wq_k2 (p' := 26) (ck_148 _ _ rfl) rfl ⟨by omega, by omega⟩ ⟨by omega, by omega⟩ (fun c5 => ?_) (fun c6 => ?_)
      · have c5 : cnt ≠ (16) := c5
        refine av_wp_sqF ck_148 2 (pc' := 31) (lv' := [some (.inr (.inr (.inl (some (77))))), some (.inl n), none]) (st' := [.inl n, .inr (.inr (.inl (some (77))))]) (h' := h) rfl ?_
        refine wq_cv (p' := 34) (av_qc (.invokevirtual 293) 136 1 0 8) 2 cd_136 [.inl n] (77) 8 [some (.inr (.inr (.inl (some (77))))), some (.inl n)] (ck_148 _ _ rfl) rfl rfl pp_136 rfl rfl rfl (congrArg Prod.fst (ly_k L 77 rfl)) rfl rfl rfl rfl ?_
        refine ct_136 L hb bv n n.toNat (by omega) (by omega) (fun h1 N1 F1 => ?_)
        have ea1 : hA h1 = hA h := ns_A N1.1
        show av_wp _ cd_148 34 [some (.inr (.inr (.inl (some (77))))), some (.inl n), none] [] h1 _
        refine av_wp_sqF ck_148 2 (pc' := 36) (lv' := [some (.inr (.inr (.inl (some (77))))), some (.inl n), none]) (st' := [.inr (.inr (.inl (some (77)))), .inr (.inr (.inl (some (77))))]) (h' := h1) rfl ?_
        refine wq_gr (p' := 39) (ck_148 _ _ rfl) rfl (congrArg Prod.fst (ly_k N1.1.1 77 rfl)) rfl (ly_g N1.1.1 77 0 78 rfl) ?_
        refine av_wp_sqF ck_148 1 (pc' := 40) (lv' := [some (.inr (.inr (.inl (some (77))))), some (.inl n), none]) (st' := [.inl (0), .inr (.inr (.inl (some (78)))), .inr (.inr (.inl (some (77))))]) (h' := h1) rfl ?_
        refine wq_al (p' := 41) (n := 5) (ck_148 _ _ rfl) rfl (ly_k N1.1.1 78 rfl) (by omega) (((congrFun (congrFun ea1 78) 0).trans hc)) ?_
        refine av_wp_sqF ck_148 1 (pc' := 42) (lv' := [some (.inr (.inr (.inl (some (77))))), some (.inl n), none]) (st' := [.inl (0), .inl cnt, .inr (.inr (.inl (some (77))))]) (h' := h1) rfl ?_
        refine wq_cv (p' := 45) (av_qc (.invokevirtual 296) 147 2 0 8) 4 cd_147 [.inl (0), .inl cnt] (77) 8 [some (.inr (.inr (.inl (some (77))))), some (.inl cnt), some (.inl (0)), none] (ck_148 _ _ rfl) rfl rfl pp_147 rfl rfl rfl (congrArg Prod.fst (ly_k N1.1.1 77 rfl)) rfl rfl rfl rfl ?_
        refine ct_147 (by rw [ea1]; exact N1 : MT b n.toNat (adv b n.toNat (0, 0, 0, -1)) 0 (hA h1) h1) F1 (by rw [ea1]; exact B) cnt.toNat 0 (by omega) (by omega) rfl (cnt) ((0)) (by omega) (by omega) (r := r) (fun j hj => by omega) (fun v h2 N2 F2 B2 W2 Y2 Y3 => ?_)
        rw [ea1] at W2
        rw [show ((cnt.toNat : Nat) : Int) = cnt by omega] at N2 Y2 Y3
        have qv : ((rbA b n.toNat cnt 0 (adv b n.toNat (0, 0, 0, -1)) r).2.1.2.2.2 = -1 ∧ v = ((rbA b n.toNat cnt 0 (adv b n.toNat (0, 0, 0, -1)) r).1 : Int)) ∨ ((rbA b n.toNat cnt 0 (adv b n.toNat (0, 0, 0, -1)) r).2.1.2.2.2 ≠ -1 ∧ v = -1) := by
          by_cases z : (rbA b n.toNat cnt 0 (adv b n.toNat (0, 0, 0, -1)) r).2.1.2.2.2 = -1
          · exact Or.inl ⟨z, (Y2 z).1⟩
          · exact Or.inr ⟨z, Y3 z⟩
        have q12 : (rbA b n.toNat cnt 0 (adv b n.toNat (0, 0, 0, -1)) r).1 ≤ 12 := rbA_12 (by omega)
        show av_wp _ cd_148 45 [some (.inr (.inr (.inl (some (77))))), some (.inl n), none] [.inl v] h2 _
        refine av_wp_sqF ck_148 2 (pc' := 47) (lv' := [some (.inr (.inr (.inl (some (77))))), some (.inl n), some (.inl v)]) (st' := [.inl v]) (h' := h2) rfl ?_
        refine wq_k1 (p' := 50) (ck_148 _ _ rfl) rfl ⟨by omega, by omega⟩ (fun c7 => ?_) (fun c8 => ?_)
        · have c7 : (0) ≤ v := c7
          refine av_wp_sqF ck_148 1 (pc' := 53) (lv' := [some (.inr (.inr (.inl (some (77))))), some (.inl n), some (.inl v)]) (st' := [.inr (.inr (.inl (some (77))))]) (h' := h2) rfl ?_
          refine wq_gr (p' := 56) (ck_148 _ _ rfl) rfl (congrArg Prod.fst (ly_k N2.1.1 77 rfl)) rfl (ly_g N2.1.1 77 3 81 rfl) ?_
          refine av_wp_sqF ck_148 1 (pc' := 57) (lv' := [some (.inr (.inr (.inl (some (77))))), some (.inl n), some (.inl v)]) (st' := [.inr (.inr (.inl (some (77)))), .inr (.inr (.inl (some (81))))]) (h' := h2) rfl ?_
          refine wq_gr (p' := 60) (ck_148 _ _ rfl) rfl (congrArg Prod.fst (ly_k N2.1.1 77 rfl)) rfl (ly_g N2.1.1 77 0 78 rfl) ?_
          refine av_wp_sqF ck_148 1 (pc' := 61) (lv' := [some (.inr (.inr (.inl (some (77))))), some (.inl n), some (.inl v)]) (st' := [.inl (0), .inr (.inr (.inl (some (78)))), .inr (.inr (.inl (some (81))))]) (h' := h2) rfl ?_
          refine wq_al (p' := 62) (n := 5) (ck_148 _ _ rfl) rfl (ly_k N2.1.1 78 rfl) (by omega) (((congrFun (FD_A F2 (a := 78) rfl) 0).trans hc)) ?_
          refine av_wp_sqF ck_148 1 (pc' := 63) (lv' := [some (.inr (.inr (.inl (some (77))))), some (.inl n), some (.inl v)]) (st' := [.inl v, .inl cnt, .inr (.inr (.inl (some (81))))]) (h' := h2) rfl ?_
          refine wq_as (p' := 64) (n := 80) (ck_148 _ _ rfl) rfl (ly_k N2.1.1 81 rfl) (by omega) ?_
          refine av_wp_sqF ck_148 1 (pc' := 65) (lv' := [some (.inr (.inr (.inl (some (77))))), some (.inl n), some (.inl v)]) (st' := [.inr (.inr (.inl (some (77))))]) (h' := (hwA h2 81 (Int.toNat (cnt)) v)) rfl ?_
          refine wq_gr (p' := 68) (ck_148 _ _ rfl) rfl (congrArg Prod.fst (ly_k N2.1.1 77 rfl)) rfl (ly_g N2.1.1 77 0 78 rfl) ?_
          refine av_wp_sqF ck_148 2 (pc' := 70) (lv' := [some (.inr (.inr (.inl (some (77))))), some (.inl n), some (.inl v)]) (st' := [.inl (0), .inr (.inr (.inl (some (78)))), .inl (0), .inr (.inr (.inl (some (78))))]) (h' := (hwA h2 81 (Int.toNat (cnt)) v)) rfl ?_
          refine wq_al (p' := 71) (n := 5) (ck_148 _ _ rfl) rfl (ly_k N2.1.1 78 rfl) (by omega) (((congrFun (FD_A F2 (a := 78) rfl) 0).trans hc)) ?_
          refine av_wp_sqF ck_148 2 (pc' := 73) (lv' := [some (.inr (.inr (.inl (some (77))))), some (.inl n), some (.inl v)]) (st' := [.inl (cnt + (1)), .inl (0), .inr (.inr (.inl (some (78))))]) (h' := (hwA h2 81 (Int.toNat (cnt)) v)) rfl ?_
          refine wq_as (p' := 74) (n := 5) (ck_148 _ _ rfl) rfl (ly_k N2.1.1 78 rfl) (by omega) ?_
          refine av_wp_sqF ck_148 1 (pc' := 75) (lv' := [some (.inr (.inr (.inl (some (77))))), some (.inl n), some (.inl v)]) (st' := [.inr (.inr (.inl (some (77))))]) (h' := (hwA (hwA h2 81 (Int.toNat (cnt)) v) 78 (Int.toNat ((0))) (cnt + (1)))) rfl ?_
          refine wq_gr (p' := 78) (ck_148 _ _ rfl) rfl (congrArg Prod.fst (ly_k N2.1.1 77 rfl)) rfl (ly_g N2.1.1 77 0 78 rfl) ?_
          refine av_wp_sqF ck_148 1 (pc' := 79) (lv' := [some (.inr (.inr (.inl (some (77))))), some (.inl n), some (.inl v)]) (st' := [.inl (0), .inr (.inr (.inl (some (78))))]) (h' := (hwA (hwA h2 81 (Int.toNat (cnt)) v) 78 (Int.toNat ((0))) (cnt + (1)))) rfl ?_
          refine wq_al (p' := 80) (n := 5) (ck_148 _ _ rfl) rfl (ly_k N2.1.1 78 rfl) (by omega) (rfl) ?_
          refine av_wp_sqF ck_148 2 (pc' := 82) (lv' := [some (.inr (.inr (.inl (some (77))))), some (.inl n), some (.inl v)]) (st' := [.inl ((cnt + (1)) - (1))]) (h' := (hwA (hwA h2 81 (Int.toNat (cnt)) v) 78 (Int.toNat ((0))) (cnt + (1)))) rfl ?_
          refine av_wp_ret (v := some (.inl ((cnt + (1)) - (1)))) (ck_148 _ _ rfl) rfl rfl ?_
          have z : (rbA b n.toNat cnt 0 (adv b n.toNat (0, 0, 0, -1)) r).2.1.2.2.2 = -1 := by omega
          have e1 := (Y2 z).1
          subst e1
          rw [show cnt + 1 - 1 = cnt by omega]
          exact hq1 (by omega) (by omega) (by omega) z h2 N2 F2 B2 W2 (Y2 z).2
        · have c8 : v < (0) := c8
          refine av_wp_sqF ck_148 1 (pc' := 51) (lv' := [some (.inr (.inr (.inl (some (77))))), some (.inl n), some (.inl v)]) (st' := [.inl (-1)]) (h' := h2) rfl ?_
          refine av_wp_ret (v := some (.inl (-1))) (ck_148 _ _ rfl) rfl rfl ?_
          exact hq0 (by omega) (by omega) (by omega) (by omega) h2 N2 F2 B2 W2
      · have c6 : cnt = (16) := c6
        refine av_wp_sqF ck_148 1 (pc' := 28) (lv' := [some (.inr (.inr (.inl (some (77))))), some (.inl n), none]) (st' := [.inl (-3)]) (h' := h) rfl ?_
        refine av_wp_ret (v := some (.inl (-3))) (ck_148 _ _ rfl) rfl rfl ?_
        exact hqB (by omega) (by omega) (by omega)
    · have c4 : len < n := c4
      refine av_wp_sqF ck_148 1 (pc' := 14) (lv' := [some (.inr (.inr (.inl (some (77))))), some (.inl n), none]) (st' := [.inl (-2)]) (h' := h) rfl ?_
      refine av_wp_ret (v := some (.inl (-2))) (ck_148 _ _ rfl) rfl rfl ?_
      exact hqA (by omega)

set_option maxRecDepth 100000 in
set_option maxHeartbeats 4000000 in
theorem ct_151 {h : av_H} (L : LY h) {b : Nat → Int} (hb : hA h 94 = b) (bv : ∀ j, -128 ≤ b j ∧ b j ≤ 127) {len : Int} (hl : hF h 77 17 = len) (ql : 0 ≤ len ∧ len ≤ 900) {cnt : Int} (hc : hA h 78 0 = cnt) (qc : 0 ≤ cnt ∧ cnt ≤ 16) (B : BN (hA h)) (hsv : ∀ j, 0 ≤ hA h 81 j ∧ hA h 81 j ≤ 12) (r : Nat → Int) (k n : Int) (qk : -2147483648 ≤ k ∧ k ≤ 2147483647) (qn : -2147483648 ≤ n ∧ n ≤ 2147483647) (rel : 0 ≤ k → k < cnt → ∀ s, hA h 81 k.toNat = s → ∀ j, j < s.toNat → RY (rwA (hA h) (12 * k.toNat + j)) r (j * 21)) {Q : Option av_V → av_H → Prop} (hqA : (k < 0 ∨ cnt ≤ k ∨ n < 0 ∨ len < n) → Q (some (.inl (-2))) h) (hq0 : 0 ≤ k → k < cnt → 0 ≤ n → n ≤ len → (rbA b n.toNat k (hA h 81 k.toNat).toNat (adv b n.toNat (0, 0, 0, -1)) r).2.1.2.2.2 ≠ -1 → ∀ h', MT b n.toNat (rbA b n.toNat k (hA h 81 k.toNat).toNat (adv b n.toNat (0, 0, 0, -1)) r).2.1 0 (hA h') h' → FD h h' → BN (hA h') → FR2 k.toNat (hA h 81 k.toNat).toNat (hA h) (hA h') → Q (some (.inl (-1))) h') (hq1 : 0 ≤ k → k < cnt → 0 ≤ n → n ≤ len → (rbA b n.toNat k (hA h 81 k.toNat).toNat (adv b n.toNat (0, 0, 0, -1)) r).2.1.2.2.2 = -1 → ∀ h1, MT b n.toNat (rbA b n.toNat k (hA h 81 k.toNat).toNat (adv b n.toNat (0, 0, 0, -1)) r).2.1 0 (hA h1) h1 → FD h h1 → BN (hA h1) → FR2 k.toNat (hA h 81 k.toNat).toNat (hA h) (hA h1) → (∀ j, j < (rbA b n.toNat k (hA h 81 k.toNat).toNat (adv b n.toNat (0, 0, 0, -1)) r).1 → RY (rwA (hA h1) (12 * k.toNat + j)) (rbA b n.toNat k (hA h 81 k.toNat).toNat (adv b n.toNat (0, 0, 0, -1)) r).2.2 (j * 21)) → Q (some (.inl ((rbA b n.toNat k (hA h 81 k.toNat).toNat (adv b n.toNat (0, 0, 0, -1)) r).1 : Int))) (hwA h1 81 (Int.toNat k) ((rbA b n.toNat k (hA h 81 k.toNat).toNat (adv b n.toNat (0, 0, 0, -1)) r).1 : Int))) : av_wp none cd_151 0 [some (.inr (.inr (.inl (some (77))))), some (.inl k), some (.inl n), none] [] h Q := by
  refine av_wp_sqF ck_151 2 (pc' := 2) (lv' := [some (.inr (.inr (.inl (some (77))))), some (.inl k), some (.inl n), none]) (st' := [.inl k, .inr (.inr (.inl (some (77))))]) (h' := h) rfl ?_
  refine wq_cv (p' := 5) (av_qc (.invokevirtual 299) 149 1 0 8) 2 cd_149 [.inl k] (77) 8 [some (.inr (.inr (.inl (some (77))))), some (.inl k)] (ck_151 _ _ rfl) rfl rfl pp_149 rfl rfl rfl (congrArg Prod.fst (ly_k L 77 rfl)) rfl rfl rfl rfl ?_
  refine ct_149x L hc qc k (by omega) (fun z0 => ?_) (fun z1 z2 => ?_)
  · show av_wp _ cd_151 5 [some (.inr (.inr (.inl (some (77))))), some (.inl k), some (.inl n), none] [.inl (0)] h _
    refine av_wp_sqF ck_151 2 (pc' := 22) (lv' := [some (.inr (.inr (.inl (some (77))))), some (.inl k), some (.inl n), none]) (st' := [.inl (-2)]) (h' := h) rfl ?_
    refine av_wp_ret (v := some (.inl (-2))) (ck_151 _ _ rfl) rfl rfl ?_
    exact hqA (by omega)
  · obtain ⟨s, hs⟩ : ∃ v, hA h 81 k.toNat = v := ⟨_, rfl⟩
    have qs := hsv k.toNat
    rw [hs] at qs hq0 hq1
    have rel := rel (by omega) (by omega) s hs
    show av_wp _ cd_151 5 [some (.inr (.inr (.inl (some (77))))), some (.inl k), some (.inl n), none] [.inl (1)] h _
    refine av_wp_sqF ck_151 2 (pc' := 9) (lv' := [some (.inr (.inr (.inl (some (77))))), some (.inl k), some (.inl n), none]) (st' := [.inl n]) (h' := h) rfl ?_
    refine wq_k1 (p' := 12) (ck_151 _ _ rfl) rfl ⟨by omega, by omega⟩ (fun c1 => ?_) (fun c2 => ?_)
    · have c1 : n < (0) := c1
      refine av_wp_sqF ck_151 1 (pc' := 22) (lv' := [some (.inr (.inr (.inl (some (77))))), some (.inl k), some (.inl n), none]) (st' := [.inl (-2)]) (h' := h) rfl ?_
      refine av_wp_ret (v := some (.inl (-2))) (ck_151 _ _ rfl) rfl rfl ?_
      exact hqA (by omega)
    · have c2 : (0) ≤ n := c2
      refine av_wp_sqF ck_151 2 (pc' := 14) (lv' := [some (.inr (.inr (.inl (some (77))))), some (.inl k), some (.inl n), none]) (st' := [.inr (.inr (.inl (some (77)))), .inl n]) (h' := h) rfl ?_
      refine wq_gi (p' := 17) (ck_151 _ _ rfl) rfl (congrArg Prod.fst (ly_k L 77 rfl)) rfl (hl) ?_
      refine wq_k2 (p' := 20) (ck_151 _ _ rfl) rfl ⟨by omega, by omega⟩ ⟨by omega, by omega⟩ (fun c3 => ?_) (fun c4 => ?_)
      · have c3 : n ≤ len := c3
        refine av_wp_sqF ck_151 2 (pc' := 25) (lv' := [some (.inr (.inr (.inl (some (77))))), some (.inl k), some (.inl n), none]) (st' := [.inl n, .inr (.inr (.inl (some (77))))]) (h' := h) rfl ?_
        refine wq_cv (p' := 28) (av_qc (.invokevirtual 293) 136 1 0 8) 2 cd_136 [.inl n] (77) 8 [some (.inr (.inr (.inl (some (77))))), some (.inl n)] (ck_151 _ _ rfl) rfl rfl pp_136 rfl rfl rfl (congrArg Prod.fst (ly_k L 77 rfl)) rfl rfl rfl rfl ?_
        refine ct_136 L hb bv n n.toNat (by omega) (by omega) (fun h1 N1 F1 => ?_)
        have ea1 : hA h1 = hA h := ns_A N1.1
        show av_wp _ cd_151 28 [some (.inr (.inr (.inl (some (77))))), some (.inl k), some (.inl n), none] [] h1 _
        refine av_wp_sqF ck_151 3 (pc' := 31) (lv' := [some (.inr (.inr (.inl (some (77))))), some (.inl k), some (.inl n), none]) (st' := [.inr (.inr (.inl (some (77)))), .inl k, .inr (.inr (.inl (some (77))))]) (h' := h1) rfl ?_
        refine wq_gr (p' := 34) (ck_151 _ _ rfl) rfl (congrArg Prod.fst (ly_k N1.1.1 77 rfl)) rfl (ly_g N1.1.1 77 3 81 rfl) ?_
        refine av_wp_sqF ck_151 1 (pc' := 35) (lv' := [some (.inr (.inr (.inl (some (77))))), some (.inl k), some (.inl n), none]) (st' := [.inl k, .inr (.inr (.inl (some (81)))), .inl k, .inr (.inr (.inl (some (77))))]) (h' := h1) rfl ?_
        refine wq_al (p' := 36) (n := 80) (ck_151 _ _ rfl) rfl (ly_k N1.1.1 81 rfl) (by omega) (((congrFun (congrFun ea1 81) _).trans hs)) ?_
        refine wq_cv (p' := 39) (av_qc (.invokevirtual 296) 147 2 0 8) 4 cd_147 [.inl s, .inl k] (77) 8 [some (.inr (.inr (.inl (some (77))))), some (.inl k), some (.inl s), none] (ck_151 _ _ rfl) rfl rfl pp_147 rfl rfl rfl (congrArg Prod.fst (ly_k N1.1.1 77 rfl)) rfl rfl rfl rfl ?_
        refine ct_147 (by rw [ea1]; exact N1 : MT b n.toNat (adv b n.toNat (0, 0, 0, -1)) 0 (hA h1) h1) F1 (by rw [ea1]; exact B) k.toNat s.toNat (by omega) (by omega) rfl (k) (s) (by omega) (by omega) (r := r) (fun j hj => by rw [ea1]; exact rel j hj) (fun v h2 N2 F2 B2 W2 Y2 Y3 => ?_)
        rw [ea1] at W2
        rw [show ((k.toNat : Nat) : Int) = k by omega] at N2 Y2 Y3
        have qv : ((rbA b n.toNat k s.toNat (adv b n.toNat (0, 0, 0, -1)) r).2.1.2.2.2 = -1 ∧ v = ((rbA b n.toNat k s.toNat (adv b n.toNat (0, 0, 0, -1)) r).1 : Int)) ∨ ((rbA b n.toNat k s.toNat (adv b n.toNat (0, 0, 0, -1)) r).2.1.2.2.2 ≠ -1 ∧ v = -1) := by
          by_cases z : (rbA b n.toNat k s.toNat (adv b n.toNat (0, 0, 0, -1)) r).2.1.2.2.2 = -1
          · exact Or.inl ⟨z, (Y2 z).1⟩
          · exact Or.inr ⟨z, Y3 z⟩
        have q12 : (rbA b n.toNat k s.toNat (adv b n.toNat (0, 0, 0, -1)) r).1 ≤ 12 := rbA_12 (by omega)
        show av_wp _ cd_151 39 [some (.inr (.inr (.inl (some (77))))), some (.inl k), some (.inl n), none] [.inl v] h2 _
        refine av_wp_sqF ck_151 2 (pc' := 41) (lv' := [some (.inr (.inr (.inl (some (77))))), some (.inl k), some (.inl n), some (.inl v)]) (st' := [.inl v]) (h' := h2) rfl ?_
        refine wq_k1 (p' := 44) (ck_151 _ _ rfl) rfl ⟨by omega, by omega⟩ (fun c5 => ?_) (fun c6 => ?_)
        · have c5 : (0) ≤ v := c5
          refine av_wp_sqF ck_151 1 (pc' := 47) (lv' := [some (.inr (.inr (.inl (some (77))))), some (.inl k), some (.inl n), some (.inl v)]) (st' := [.inr (.inr (.inl (some (77))))]) (h' := h2) rfl ?_
          refine wq_gr (p' := 50) (ck_151 _ _ rfl) rfl (congrArg Prod.fst (ly_k N2.1.1 77 rfl)) rfl (ly_g N2.1.1 77 3 81 rfl) ?_
          refine av_wp_sqF ck_151 2 (pc' := 52) (lv' := [some (.inr (.inr (.inl (some (77))))), some (.inl k), some (.inl n), some (.inl v)]) (st' := [.inl v, .inl k, .inr (.inr (.inl (some (81))))]) (h' := h2) rfl ?_
          refine wq_as (p' := 53) (n := 80) (ck_151 _ _ rfl) rfl (ly_k N2.1.1 81 rfl) (by omega) ?_
          refine av_wp_sqF ck_151 1 (pc' := 54) (lv' := [some (.inr (.inr (.inl (some (77))))), some (.inl k), some (.inl n), some (.inl v)]) (st' := [.inl v]) (h' := (hwA h2 81 (Int.toNat (k)) v)) rfl ?_
          refine av_wp_ret (v := some (.inl v)) (ck_151 _ _ rfl) rfl rfl ?_
          have z : (rbA b n.toNat k s.toNat (adv b n.toNat (0, 0, 0, -1)) r).2.1.2.2.2 = -1 := by omega
          have e1 := (Y2 z).1
          subst e1
          exact hq1 (by omega) (by omega) (by omega) (by omega) z h2 N2 F2 B2 W2 (Y2 z).2
        · have c6 : v < (0) := c6
          refine av_wp_sqF ck_151 1 (pc' := 45) (lv' := [some (.inr (.inr (.inl (some (77))))), some (.inl k), some (.inl n), some (.inl v)]) (st' := [.inl (-1)]) (h' := h2) rfl ?_
          refine av_wp_ret (v := some (.inl (-1))) (ck_151 _ _ rfl) rfl rfl ?_
          exact hq0 (by omega) (by omega) (by omega) (by omega) (by omega) h2 N2 F2 B2 W2
      · have c4 : len < n := c4
        refine av_wp_sqF ck_151 1 (pc' := 22) (lv' := [some (.inr (.inr (.inl (some (77))))), some (.inl k), some (.inl n), none]) (st' := [.inl (-2)]) (h' := h) rfl ?_
        refine av_wp_ret (v := some (.inl (-2))) (ck_151 _ _ rfl) rfl rfl ?_
        exact hqA (by omega)

set_option maxRecDepth 100000 in
set_option maxHeartbeats 4000000 in
theorem ct_156 {h : av_H} (L : LY h) {b : Nat → Int} (hb : hA h 94 = b) (bv : ∀ j, -128 ≤ b j ∧ b j ≤ 127) {len : Int} (hl : hF h 77 17 = len) (ql : 0 ≤ len ∧ len ≤ 900) {l : Int} (hc : hA h 79 0 = l) (qc : 0 ≤ l ∧ l ≤ 8) (d : Nat → Int) (n : Int) (qn : -2147483648 ≤ n ∧ n ≤ 2147483647) {Q : Option av_V → av_H → Prop} (hqA : (n < 0 ∨ len < n) → Q (some (.inl (-2))) h) (hqB : 0 ≤ n → n ≤ len → l = 8 → Q (some (.inl (-3))) h) (hq0 : 0 ≤ n → n ≤ len → l < 8 → (rlA b n.toNat 0 (adv b n.toNat (0, 0, 0, -1)) d).2.1.2.2.2 ≠ -1 → ∀ h', MT b n.toNat (rlA b n.toNat 0 (adv b n.toNat (0, 0, 0, -1)) d).2.1 0 (hA h') h' → FD h h' → (∀ a j, ¬ (a = 93 ∧ 14 * l.toNat ≤ j ∧ j < 14 * l.toNat + 14) → hA h' a j = hA h a j) → Q (some (.inl (-1))) h') (hq1 : 0 ≤ n → n ≤ len → l < 8 → (rlA b n.toNat 0 (adv b n.toNat (0, 0, 0, -1)) d).2.1.2.2.2 = -1 → ∀ h1, MT b n.toNat (rlA b n.toNat 0 (adv b n.toNat (0, 0, 0, -1)) d).2.1 0 (hA h1) h1 → FD h h1 → (∀ a j, ¬ (a = 93 ∧ 14 * l.toNat ≤ j ∧ j < 14 * l.toNat + 14) → hA h1 a j = hA h a j) → (∀ o, o < 14 → hA h1 93 (14 * l.toNat + o) = (rlA b n.toNat 0 (adv b n.toNat (0, 0, 0, -1)) d).2.2 o) → Q (some (.inl l)) (hwA h1 79 0 (l + 1))) : av_wp none cd_156 0 [some (.inr (.inr (.inl (some (77))))), some (.inl n)] [] h Q := by
  refine av_wp_sqF ck_156 1 (pc' := 1) (lv' := [some (.inr (.inr (.inl (some (77))))), some (.inl n)]) (st' := [.inl n]) (h' := h) rfl ?_
  refine wq_k1 (p' := 4) (ck_156 _ _ rfl) rfl ⟨by omega, by omega⟩ (fun c1 => ?_) (fun c2 => ?_)
  · have c1 : n < (0) := c1
    refine av_wp_sqF ck_156 1 (pc' := 14) (lv' := [some (.inr (.inr (.inl (some (77))))), some (.inl n)]) (st' := [.inl (-2)]) (h' := h) rfl ?_
    refine av_wp_ret (v := some (.inl (-2))) (ck_156 _ _ rfl) rfl rfl ?_
    exact hqA (by omega)
  · have c2 : (0) ≤ n := c2
    refine av_wp_sqF ck_156 2 (pc' := 6) (lv' := [some (.inr (.inr (.inl (some (77))))), some (.inl n)]) (st' := [.inr (.inr (.inl (some (77)))), .inl n]) (h' := h) rfl ?_
    refine wq_gi (p' := 9) (ck_156 _ _ rfl) rfl (congrArg Prod.fst (ly_k L 77 rfl)) rfl (hl) ?_
    refine wq_k2 (p' := 12) (ck_156 _ _ rfl) rfl ⟨by omega, by omega⟩ ⟨by omega, by omega⟩ (fun c3 => ?_) (fun c4 => ?_)
    · have c3 : n ≤ len := c3
      refine av_wp_sqF ck_156 1 (pc' := 16) (lv' := [some (.inr (.inr (.inl (some (77))))), some (.inl n)]) (st' := [.inr (.inr (.inl (some (77))))]) (h' := h) rfl ?_
      refine wq_gr (p' := 19) (ck_156 _ _ rfl) rfl (congrArg Prod.fst (ly_k L 77 rfl)) rfl (ly_g L 77 1 79 rfl) ?_
      refine av_wp_sqF ck_156 1 (pc' := 20) (lv' := [some (.inr (.inr (.inl (some (77))))), some (.inl n)]) (st' := [.inl (0), .inr (.inr (.inl (some (79))))]) (h' := h) rfl ?_
      refine wq_al (p' := 21) (n := 5) (ck_156 _ _ rfl) rfl (ly_k L 79 rfl) (by omega) (hc) ?_
      refine av_wp_sqF ck_156 1 (pc' := 23) (lv' := [some (.inr (.inr (.inl (some (77))))), some (.inl n)]) (st' := [.inl (8), .inl l]) (h' := h) rfl ?_
      refine wq_k2 (p' := 26) (ck_156 _ _ rfl) rfl ⟨by omega, by omega⟩ ⟨by omega, by omega⟩ (fun c5 => ?_) (fun c6 => ?_)
      · have c5 : l ≠ (8) := c5
        refine av_wp_sqF ck_156 2 (pc' := 31) (lv' := [some (.inr (.inr (.inl (some (77))))), some (.inl n)]) (st' := [.inl n, .inr (.inr (.inl (some (77))))]) (h' := h) rfl ?_
        refine wq_cv (p' := 34) (av_qc (.invokevirtual 293) 136 1 0 8) 2 cd_136 [.inl n] (77) 8 [some (.inr (.inr (.inl (some (77))))), some (.inl n)] (ck_156 _ _ rfl) rfl rfl pp_136 rfl rfl rfl (congrArg Prod.fst (ly_k L 77 rfl)) rfl rfl rfl rfl ?_
        refine ct_136 L hb bv n n.toNat (by omega) (by omega) (fun h1 N1 F1 => ?_)
        have ea1 : hA h1 = hA h := ns_A N1.1
        show av_wp _ cd_156 34 [some (.inr (.inr (.inl (some (77))))), some (.inl n)] [] h1 _
        refine av_wp_sqF ck_156 3 (pc' := 38) (lv' := [some (.inr (.inr (.inl (some (77))))), some (.inl n)]) (st' := [.inr (.inr (.inl (some (77)))), .inl (14), .inr (.inr (.inl (some (77))))]) (h' := h1) rfl ?_
        refine wq_gr (p' := 41) (ck_156 _ _ rfl) rfl (congrArg Prod.fst (ly_k N1.1.1 77 rfl)) rfl (ly_g N1.1.1 77 1 79 rfl) ?_
        refine av_wp_sqF ck_156 1 (pc' := 42) (lv' := [some (.inr (.inr (.inl (some (77))))), some (.inl n)]) (st' := [.inl (0), .inr (.inr (.inl (some (79)))), .inl (14), .inr (.inr (.inl (some (77))))]) (h' := h1) rfl ?_
        refine wq_al (p' := 43) (n := 5) (ck_156 _ _ rfl) rfl (ly_k N1.1.1 79 rfl) (by omega) (((congrFun (congrFun ea1 79) 0).trans hc)) ?_
        refine av_wp_sqF ck_156 1 (pc' := 44) (lv' := [some (.inr (.inr (.inl (some (77))))), some (.inl n)]) (st' := [.inl ((14) * l), .inr (.inr (.inl (some (77))))]) (h' := h1) rfl ?_
        refine wq_cv (p' := 47) (av_qc (.invokevirtual 342) 155 1 0 8) 3 cd_155 [.inl ((14) * l)] (77) 8 [some (.inr (.inr (.inl (some (77))))), some (.inl ((14) * l)), none] (ck_156 _ _ rfl) rfl rfl pp_155 rfl rfl rfl (congrArg Prod.fst (ly_k N1.1.1 77 rfl)) rfl rfl rfl rfl ?_
        have m0 := ml_0 (at0 := 14 * l.toNat) (by rw [ea1]; exact N1 : MT b n.toNat (adv b n.toNat (0, 0, 0, -1)) 0 (hA h1) h1)
        refine ct_155 m0 F1 (by omega) d (((14) * l)) (by omega) (fun v h2 R2 M2 F2 X2 P2 V2 => ?_)
        have hX : (rlA b n.toNat 0 (adv b n.toNat (0, 0, 0, -1)) d).2.1 = (rlf b n.toNat 21 0 (adv b n.toNat (0, 0, 0, -1)) (ufil d 0 14 (-2))).2.1 ∧ (rlA b n.toNat 0 (adv b n.toNat (0, 0, 0, -1)) d).2.2 = av_u1 (rlf b n.toNat 21 0 (adv b n.toNat (0, 0, 0, -1)) (ufil d 0 14 (-2))).2.2 13 ((rlf b n.toNat 21 0 (adv b n.toNat (0, 0, 0, -1)) (ufil d 0 14 (-2))).1 : Int) := by
          exact ⟨rlA_0, rfl⟩
        rw [← hX.1] at M2 X2 P2 V2
        have qv : ((rlA b n.toNat 0 (adv b n.toNat (0, 0, 0, -1)) d).2.1.2.2.2 = -1 ∧ v = 1) ∨ ((rlA b n.toNat 0 (adv b n.toNat (0, 0, 0, -1)) d).2.1.2.2.2 ≠ -1 ∧ v = 0) := by omega
        have W2 : ∀ a j, ¬ (a = 93 ∧ 14 * l.toNat ≤ j ∧ j < 14 * l.toNat + 14) → hA h2 a j = hA h a j := fun a j hj => by rw [← ea1]; exact M2.2.2 a j hj
        show av_wp _ cd_156 47 [some (.inr (.inr (.inl (some (77))))), some (.inl n)] [.inl v] h2 _
        refine wq_k1 (p' := 50) (ck_156 _ _ rfl) rfl ⟨by omega, by omega⟩ (fun c7 => ?_) (fun c8 => ?_)
        · have c7 : v ≠ (0) := c7
          refine av_wp_sqF ck_156 1 (pc' := 53) (lv' := [some (.inr (.inr (.inl (some (77))))), some (.inl n)]) (st' := [.inr (.inr (.inl (some (77))))]) (h' := h2) rfl ?_
          refine wq_gr (p' := 56) (ck_156 _ _ rfl) rfl (congrArg Prod.fst (ly_k M2.1.1.1 77 rfl)) rfl (ly_g M2.1.1.1 77 1 79 rfl) ?_
          refine av_wp_sqF ck_156 2 (pc' := 58) (lv' := [some (.inr (.inr (.inl (some (77))))), some (.inl n)]) (st' := [.inl (0), .inr (.inr (.inl (some (79)))), .inl (0), .inr (.inr (.inl (some (79))))]) (h' := h2) rfl ?_
          refine wq_al (p' := 59) (n := 5) (ck_156 _ _ rfl) rfl (ly_k M2.1.1.1 79 rfl) (by omega) (((congrFun (FD_A F2 (a := 79) rfl) 0).trans hc)) ?_
          refine av_wp_sqF ck_156 2 (pc' := 61) (lv' := [some (.inr (.inr (.inl (some (77))))), some (.inl n)]) (st' := [.inl (l + (1)), .inl (0), .inr (.inr (.inl (some (79))))]) (h' := h2) rfl ?_
          refine wq_as (p' := 62) (n := 5) (ck_156 _ _ rfl) rfl (ly_k M2.1.1.1 79 rfl) (by omega) ?_
          refine av_wp_sqF ck_156 1 (pc' := 63) (lv' := [some (.inr (.inr (.inl (some (77))))), some (.inl n)]) (st' := [.inr (.inr (.inl (some (77))))]) (h' := (hwA h2 79 (Int.toNat ((0))) (l + (1)))) rfl ?_
          refine wq_gr (p' := 66) (ck_156 _ _ rfl) rfl (congrArg Prod.fst (ly_k M2.1.1.1 77 rfl)) rfl (ly_g M2.1.1.1 77 1 79 rfl) ?_
          refine av_wp_sqF ck_156 1 (pc' := 67) (lv' := [some (.inr (.inr (.inl (some (77))))), some (.inl n)]) (st' := [.inl (0), .inr (.inr (.inl (some (79))))]) (h' := (hwA h2 79 (Int.toNat ((0))) (l + (1)))) rfl ?_
          refine wq_al (p' := 68) (n := 5) (ck_156 _ _ rfl) rfl (ly_k M2.1.1.1 79 rfl) (by omega) (rfl) ?_
          refine av_wp_sqF ck_156 2 (pc' := 70) (lv' := [some (.inr (.inr (.inl (some (77))))), some (.inl n)]) (st' := [.inl ((l + (1)) - (1))]) (h' := (hwA h2 79 (Int.toNat ((0))) (l + (1)))) rfl ?_
          refine av_wp_ret (v := some (.inl ((l + (1)) - (1)))) (ck_156 _ _ rfl) rfl rfl ?_
          have z : (rlA b n.toNat 0 (adv b n.toNat (0, 0, 0, -1)) d).2.1.2.2.2 = -1 := by omega
          rw [show l + 1 - 1 = l by omega]
          refine hq1 (by omega) (by omega) (by omega) z h2 M2.1 F2 W2 (fun o ho => ?_)
          rw [M2.2.1 o ho, hX.2]
          by_cases c : o = 13
          · subst c; rw [u1_eq]; exact P2 z
          · rw [u1_ne c]; exact X2 z o (by omega)
        · have c8 : v = (0) := c8
          refine av_wp_sqF ck_156 1 (pc' := 51) (lv' := [some (.inr (.inr (.inl (some (77))))), some (.inl n)]) (st' := [.inl (-1)]) (h' := h2) rfl ?_
          refine av_wp_ret (v := some (.inl (-1))) (ck_156 _ _ rfl) rfl rfl ?_
          exact hq0 (by omega) (by omega) (by omega) (by omega) h2 M2.1 F2 W2
      · have c6 : l = (8) := c6
        refine av_wp_sqF ck_156 1 (pc' := 28) (lv' := [some (.inr (.inr (.inl (some (77))))), some (.inl n)]) (st' := [.inl (-3)]) (h' := h) rfl ?_
        refine av_wp_ret (v := some (.inl (-3))) (ck_156 _ _ rfl) rfl rfl ?_
        exact hqB (by omega) (by omega) (by omega)
    · have c4 : len < n := c4
      refine av_wp_sqF ck_156 1 (pc' := 14) (lv' := [some (.inr (.inr (.inl (some (77))))), some (.inl n)]) (st' := [.inl (-2)]) (h' := h) rfl ?_
      refine av_wp_ret (v := some (.inl (-2))) (ck_156 _ _ rfl) rfl rfl ?_
      exact hqA (by omega)

set_option maxRecDepth 100000 in
set_option maxHeartbeats 4000000 in
theorem ct_157 {h : av_H} (L : LY h) {b : Nat → Int} (hb : hA h 94 = b) (bv : ∀ j, -128 ≤ b j ∧ b j ≤ 127) {len : Int} (hl : hF h 77 17 = len) (ql : 0 ≤ len ∧ len ≤ 900) {l : Int} (hc : hA h 80 0 = l) (qc : 0 ≤ l ∧ l ≤ 6) (d : Nat → Int) (n : Int) (qn : -2147483648 ≤ n ∧ n ≤ 2147483647) {Q : Option av_V → av_H → Prop} (hqA : (n < 0 ∨ len < n) → Q (some (.inl (-2))) h) (hqB : 0 ≤ n → n ≤ len → l = 6 → Q (some (.inl (-3))) h) (hq0 : 0 ≤ n → n ≤ len → l < 6 → (rlA b n.toNat 1 (adv b n.toNat (0, 0, 0, -1)) d).2.1.2.2.2 ≠ -1 → ∀ h', MT b n.toNat (rlA b n.toNat 1 (adv b n.toNat (0, 0, 0, -1)) d).2.1 0 (hA h') h' → FD h h' → (∀ a j, ¬ (a = 93 ∧ 112 + 14 * l.toNat ≤ j ∧ j < 112 + 14 * l.toNat + 14) → hA h' a j = hA h a j) → Q (some (.inl (-1))) h') (hq1 : 0 ≤ n → n ≤ len → l < 6 → (rlA b n.toNat 1 (adv b n.toNat (0, 0, 0, -1)) d).2.1.2.2.2 = -1 → ∀ h1, MT b n.toNat (rlA b n.toNat 1 (adv b n.toNat (0, 0, 0, -1)) d).2.1 0 (hA h1) h1 → FD h h1 → (∀ a j, ¬ (a = 93 ∧ 112 + 14 * l.toNat ≤ j ∧ j < 112 + 14 * l.toNat + 14) → hA h1 a j = hA h a j) → (∀ o, o < 14 → hA h1 93 (112 + 14 * l.toNat + o) = (rlA b n.toNat 1 (adv b n.toNat (0, 0, 0, -1)) d).2.2 o) → Q (some (.inl l)) (hwA h1 80 0 (l + 1))) : av_wp none cd_157 0 [some (.inr (.inr (.inl (some (77))))), some (.inl n)] [] h Q := by
  refine av_wp_sqF ck_157 1 (pc' := 1) (lv' := [some (.inr (.inr (.inl (some (77))))), some (.inl n)]) (st' := [.inl n]) (h' := h) rfl ?_
  refine wq_k1 (p' := 4) (ck_157 _ _ rfl) rfl ⟨by omega, by omega⟩ (fun c1 => ?_) (fun c2 => ?_)
  · have c1 : n < (0) := c1
    refine av_wp_sqF ck_157 1 (pc' := 14) (lv' := [some (.inr (.inr (.inl (some (77))))), some (.inl n)]) (st' := [.inl (-2)]) (h' := h) rfl ?_
    refine av_wp_ret (v := some (.inl (-2))) (ck_157 _ _ rfl) rfl rfl ?_
    exact hqA (by omega)
  · have c2 : (0) ≤ n := c2
    refine av_wp_sqF ck_157 2 (pc' := 6) (lv' := [some (.inr (.inr (.inl (some (77))))), some (.inl n)]) (st' := [.inr (.inr (.inl (some (77)))), .inl n]) (h' := h) rfl ?_
    refine wq_gi (p' := 9) (ck_157 _ _ rfl) rfl (congrArg Prod.fst (ly_k L 77 rfl)) rfl (hl) ?_
    refine wq_k2 (p' := 12) (ck_157 _ _ rfl) rfl ⟨by omega, by omega⟩ ⟨by omega, by omega⟩ (fun c3 => ?_) (fun c4 => ?_)
    · have c3 : n ≤ len := c3
      refine av_wp_sqF ck_157 1 (pc' := 16) (lv' := [some (.inr (.inr (.inl (some (77))))), some (.inl n)]) (st' := [.inr (.inr (.inl (some (77))))]) (h' := h) rfl ?_
      refine wq_gr (p' := 19) (ck_157 _ _ rfl) rfl (congrArg Prod.fst (ly_k L 77 rfl)) rfl (ly_g L 77 2 80 rfl) ?_
      refine av_wp_sqF ck_157 1 (pc' := 20) (lv' := [some (.inr (.inr (.inl (some (77))))), some (.inl n)]) (st' := [.inl (0), .inr (.inr (.inl (some (80))))]) (h' := h) rfl ?_
      refine wq_al (p' := 21) (n := 5) (ck_157 _ _ rfl) rfl (ly_k L 80 rfl) (by omega) (hc) ?_
      refine av_wp_sqF ck_157 1 (pc' := 23) (lv' := [some (.inr (.inr (.inl (some (77))))), some (.inl n)]) (st' := [.inl (6), .inl l]) (h' := h) rfl ?_
      refine wq_k2 (p' := 26) (ck_157 _ _ rfl) rfl ⟨by omega, by omega⟩ ⟨by omega, by omega⟩ (fun c5 => ?_) (fun c6 => ?_)
      · have c5 : l ≠ (6) := c5
        refine av_wp_sqF ck_157 2 (pc' := 31) (lv' := [some (.inr (.inr (.inl (some (77))))), some (.inl n)]) (st' := [.inl n, .inr (.inr (.inl (some (77))))]) (h' := h) rfl ?_
        refine wq_cv (p' := 34) (av_qc (.invokevirtual 293) 136 1 0 8) 2 cd_136 [.inl n] (77) 8 [some (.inr (.inr (.inl (some (77))))), some (.inl n)] (ck_157 _ _ rfl) rfl rfl pp_136 rfl rfl rfl (congrArg Prod.fst (ly_k L 77 rfl)) rfl rfl rfl rfl ?_
        refine ct_136 L hb bv n n.toNat (by omega) (by omega) (fun h1 N1 F1 => ?_)
        have ea1 : hA h1 = hA h := ns_A N1.1
        show av_wp _ cd_157 34 [some (.inr (.inr (.inl (some (77))))), some (.inl n)] [] h1 _
        have gt0 := (tok_f (adv b n.toNat (0, 0, 0, -1)) N1.2.1.2.2.2.1).2.2.1
        have gtr := (tok_f (adv b n.toNat (0, 0, 0, -1)) N1.2.1.2.2.2.1).2.2.2.2
        refine av_wp_sqF ck_157 1 (pc' := 35) (lv' := [some (.inr (.inr (.inl (some (77))))), some (.inl n)]) (st' := [.inr (.inr (.inl (some (77))))]) (h' := h1) rfl ?_
        refine wq_gi (p' := 38) (ck_157 _ _ rfl) rfl (congrArg Prod.fst (ly_k N1.1.1 77 rfl)) rfl ((ns_22 N1.1)) ?_
        refine wq_k1 (p' := 41) (ck_157 _ _ rfl) rfl ⟨by omega, by omega⟩ (fun c7 => ?_) (fun c8 => ?_)
        · have c7 : (tokv (adv b n.toNat (0, 0, 0, -1))) ≠ (0) := c7
          refine av_wp_sqF ck_157 4 (pc' := 51) (lv' := [some (.inr (.inr (.inl (some (77))))), some (.inl n)]) (st' := [.inr (.inr (.inl (some (77)))), .inl (14), .inl (112), .inr (.inr (.inl (some (77))))]) (h' := h1) rfl ?_
          refine wq_gr (p' := 54) (ck_157 _ _ rfl) rfl (congrArg Prod.fst (ly_k N1.1.1 77 rfl)) rfl (ly_g N1.1.1 77 2 80 rfl) ?_
          refine av_wp_sqF ck_157 1 (pc' := 55) (lv' := [some (.inr (.inr (.inl (some (77))))), some (.inl n)]) (st' := [.inl (0), .inr (.inr (.inl (some (80)))), .inl (14), .inl (112), .inr (.inr (.inl (some (77))))]) (h' := h1) rfl ?_
          refine wq_al (p' := 56) (n := 5) (ck_157 _ _ rfl) rfl (ly_k N1.1.1 80 rfl) (by omega) (((congrFun (congrFun ea1 80) 0).trans hc)) ?_
          refine av_wp_sqF ck_157 2 (pc' := 58) (lv' := [some (.inr (.inr (.inl (some (77))))), some (.inl n)]) (st' := [.inl ((112) + ((14) * l)), .inr (.inr (.inl (some (77))))]) (h' := h1) rfl ?_
          refine wq_cv (p' := 61) (av_qc (.invokevirtual 342) 155 1 0 8) 3 cd_155 [.inl ((112) + ((14) * l))] (77) 8 [some (.inr (.inr (.inl (some (77))))), some (.inl ((112) + ((14) * l))), none] (ck_157 _ _ rfl) rfl rfl pp_155 rfl rfl rfl (congrArg Prod.fst (ly_k N1.1.1 77 rfl)) rfl rfl rfl rfl ?_
          have m0 := ml_0 (at0 := 112 + 14 * l.toNat) (by rw [ea1]; exact N1 : MT b n.toNat (adv b n.toNat (0, 0, 0, -1)) 0 (hA h1) h1)
          refine ct_155 m0 F1 (by omega) d (((112) + ((14) * l))) (by omega) (fun v h2 R2 M2 F2 X2 P2 V2 => ?_)
          have g1 := rlf_1 (b := b) (lim := n.toNat) (t := (adv b n.toNat (0, 0, 0, -1))) (d := ufil d 0 14 (-2)) rfl (by omega)
          have hX : (rlA b n.toNat 1 (adv b n.toNat (0, 0, 0, -1)) d).2.1 = (rlf b n.toNat 21 0 (adv b n.toNat (0, 0, 0, -1)) (ufil d 0 14 (-2))).2.1 ∧ (rlA b n.toNat 1 (adv b n.toNat (0, 0, 0, -1)) d).2.2 = av_u1 (rlf b n.toNat 21 0 (adv b n.toNat (0, 0, 0, -1)) (ufil d 0 14 (-2))).2.2 13 ((rlf b n.toNat 21 0 (adv b n.toNat (0, 0, 0, -1)) (ufil d 0 14 (-2))).1 : Int) := ⟨if_neg (by omega), rfl⟩
          rw [← hX.1] at M2 X2 P2 V2
          have qv : ((rlA b n.toNat 1 (adv b n.toNat (0, 0, 0, -1)) d).2.1.2.2.2 = -1 ∧ v = 1) ∨ ((rlA b n.toNat 1 (adv b n.toNat (0, 0, 0, -1)) d).2.1.2.2.2 ≠ -1 ∧ v = 0) := by omega
          have W2 : ∀ a j, ¬ (a = 93 ∧ 112 + 14 * l.toNat ≤ j ∧ j < 112 + 14 * l.toNat + 14) → hA h2 a j = hA h a j := fun a j hj => by rw [← ea1]; exact M2.2.2 a j hj
          show av_wp _ cd_157 61 [some (.inr (.inr (.inl (some (77))))), some (.inl n)] [.inl v] h2 _
          refine wq_k1 (p' := 64) (ck_157 _ _ rfl) rfl ⟨by omega, by omega⟩ (fun c9 => ?_) (fun c10 => ?_)
          · have c9 : v ≠ (0) := c9
            refine av_wp_sqF ck_157 1 (pc' := 67) (lv' := [some (.inr (.inr (.inl (some (77))))), some (.inl n)]) (st' := [.inr (.inr (.inl (some (77))))]) (h' := h2) rfl ?_
            refine wq_gr (p' := 70) (ck_157 _ _ rfl) rfl (congrArg Prod.fst (ly_k M2.1.1.1 77 rfl)) rfl (ly_g M2.1.1.1 77 2 80 rfl) ?_
            refine av_wp_sqF ck_157 2 (pc' := 72) (lv' := [some (.inr (.inr (.inl (some (77))))), some (.inl n)]) (st' := [.inl (0), .inr (.inr (.inl (some (80)))), .inl (0), .inr (.inr (.inl (some (80))))]) (h' := h2) rfl ?_
            refine wq_al (p' := 73) (n := 5) (ck_157 _ _ rfl) rfl (ly_k M2.1.1.1 80 rfl) (by omega) (((congrFun (FD_A F2 (a := 80) rfl) 0).trans hc)) ?_
            refine av_wp_sqF ck_157 2 (pc' := 75) (lv' := [some (.inr (.inr (.inl (some (77))))), some (.inl n)]) (st' := [.inl (l + (1)), .inl (0), .inr (.inr (.inl (some (80))))]) (h' := h2) rfl ?_
            refine wq_as (p' := 76) (n := 5) (ck_157 _ _ rfl) rfl (ly_k M2.1.1.1 80 rfl) (by omega) ?_
            refine av_wp_sqF ck_157 1 (pc' := 77) (lv' := [some (.inr (.inr (.inl (some (77))))), some (.inl n)]) (st' := [.inr (.inr (.inl (some (77))))]) (h' := (hwA h2 80 (Int.toNat ((0))) (l + (1)))) rfl ?_
            refine wq_gr (p' := 80) (ck_157 _ _ rfl) rfl (congrArg Prod.fst (ly_k M2.1.1.1 77 rfl)) rfl (ly_g M2.1.1.1 77 2 80 rfl) ?_
            refine av_wp_sqF ck_157 1 (pc' := 81) (lv' := [some (.inr (.inr (.inl (some (77))))), some (.inl n)]) (st' := [.inl (0), .inr (.inr (.inl (some (80))))]) (h' := (hwA h2 80 (Int.toNat ((0))) (l + (1)))) rfl ?_
            refine wq_al (p' := 82) (n := 5) (ck_157 _ _ rfl) rfl (ly_k M2.1.1.1 80 rfl) (by omega) (rfl) ?_
            refine av_wp_sqF ck_157 2 (pc' := 84) (lv' := [some (.inr (.inr (.inl (some (77))))), some (.inl n)]) (st' := [.inl ((l + (1)) - (1))]) (h' := (hwA h2 80 (Int.toNat ((0))) (l + (1)))) rfl ?_
            refine av_wp_ret (v := some (.inl ((l + (1)) - (1)))) (ck_157 _ _ rfl) rfl rfl ?_
            have z : (rlA b n.toNat 1 (adv b n.toNat (0, 0, 0, -1)) d).2.1.2.2.2 = -1 := by omega
            rw [show l + 1 - 1 = l by omega]
            refine hq1 (by omega) (by omega) (by omega) z h2 M2.1 F2 W2 (fun o ho => ?_)
            rw [M2.2.1 o ho, hX.2]
            by_cases c : o = 13
            · subst c; rw [u1_eq]; exact P2 z
            · rw [u1_ne c]; exact X2 z o (by omega)
          · have c10 : v = (0) := c10
            refine av_wp_sqF ck_157 1 (pc' := 65) (lv' := [some (.inr (.inr (.inl (some (77))))), some (.inl n)]) (st' := [.inl (-1)]) (h' := h2) rfl ?_
            refine av_wp_ret (v := some (.inl (-1))) (ck_157 _ _ rfl) rfl rfl ?_
            exact hq0 (by omega) (by omega) (by omega) (by omega) h2 M2.1 F2 W2
        · have c8 : (tokv (adv b n.toNat (0, 0, 0, -1))) = (0) := c8
          refine av_wp_sqF ck_157 1 (pc' := 42) (lv' := [some (.inr (.inr (.inl (some (77))))), some (.inl n)]) (st' := [.inr (.inr (.inl (some (77))))]) (h' := h1) rfl ?_
          refine wq_cv (p' := 45) (av_qc (.invokevirtual 194) 131 0 0 8) 1 cd_131 [] (77) 8 [some (.inr (.inr (.inl (some (77)))))] (ck_157 _ _ rfl) rfl rfl pp_131 rfl rfl rfl (congrArg Prod.fst (ly_k N1.1.1 77 rfl)) rfl rfl rfl rfl ?_
          refine ct_131 N1 F1 (fun h1 N1 F1 => ?_)
          have ea1 : hA h1 = hA h := ns_A N1.1
          show av_wp _ cd_157 45 [some (.inr (.inr (.inl (some (77))))), some (.inl n)] [] h1 _
          refine av_wp_sqF ck_157 4 (pc' := 51) (lv' := [some (.inr (.inr (.inl (some (77))))), some (.inl n)]) (st' := [.inr (.inr (.inl (some (77)))), .inl (14), .inl (112), .inr (.inr (.inl (some (77))))]) (h' := h1) rfl ?_
          refine wq_gr (p' := 54) (ck_157 _ _ rfl) rfl (congrArg Prod.fst (ly_k N1.1.1 77 rfl)) rfl (ly_g N1.1.1 77 2 80 rfl) ?_
          refine av_wp_sqF ck_157 1 (pc' := 55) (lv' := [some (.inr (.inr (.inl (some (77))))), some (.inl n)]) (st' := [.inl (0), .inr (.inr (.inl (some (80)))), .inl (14), .inl (112), .inr (.inr (.inl (some (77))))]) (h' := h1) rfl ?_
          refine wq_al (p' := 56) (n := 5) (ck_157 _ _ rfl) rfl (ly_k N1.1.1 80 rfl) (by omega) (((congrFun (congrFun ea1 80) 0).trans hc)) ?_
          refine av_wp_sqF ck_157 2 (pc' := 58) (lv' := [some (.inr (.inr (.inl (some (77))))), some (.inl n)]) (st' := [.inl ((112) + ((14) * l)), .inr (.inr (.inl (some (77))))]) (h' := h1) rfl ?_
          refine wq_cv (p' := 61) (av_qc (.invokevirtual 342) 155 1 0 8) 3 cd_155 [.inl ((112) + ((14) * l))] (77) 8 [some (.inr (.inr (.inl (some (77))))), some (.inl ((112) + ((14) * l))), none] (ck_157 _ _ rfl) rfl rfl pp_155 rfl rfl rfl (congrArg Prod.fst (ly_k N1.1.1 77 rfl)) rfl rfl rfl rfl ?_
          have m0 := ml_0 (at0 := 112 + 14 * l.toNat) (by rw [ea1]; exact N1 : MT b n.toNat (fal (adv b n.toNat (0, 0, 0, -1))) 0 (hA h1) h1)
          refine ct_155 m0 F1 (by omega) d (((112) + ((14) * l))) (by omega) (fun v h2 R2 M2 F2 X2 P2 V2 => ?_)
          have e0 : rlf b n.toNat 21 0 (adv b n.toNat (0, 0, 0, -1)) (ufil d 0 14 (-2)) = (0, (adv b n.toNat (0, 0, 0, -1)), ufil d 0 14 (-2)) := rlf_e (Or.inr (by omega))
          have e1 : (rlf b n.toNat 21 0 (fal (adv b n.toNat (0, 0, 0, -1))) (ufil d 0 14 (-2))) = (0, fal (adv b n.toNat (0, 0, 0, -1)), ufil d 0 14 (-2)) := rlf_e (Or.inl fal_ne)
          have hX : (rlA b n.toNat 1 (adv b n.toNat (0, 0, 0, -1)) d).2.1 = (rlf b n.toNat 21 0 (fal (adv b n.toNat (0, 0, 0, -1))) (ufil d 0 14 (-2))).2.1 ∧ (rlA b n.toNat 1 (adv b n.toNat (0, 0, 0, -1)) d).2.2 = av_u1 (rlf b n.toNat 21 0 (fal (adv b n.toNat (0, 0, 0, -1))) (ufil d 0 14 (-2))).2.2 13 ((rlf b n.toNat 21 0 (fal (adv b n.toNat (0, 0, 0, -1))) (ufil d 0 14 (-2))).1 : Int) := by rw [e1]; exact ⟨by simp only [rlA, e0]; exact if_pos (by decide), by simp only [rlA, e0]⟩
          rw [← hX.1] at M2 X2 P2 V2
          have qv : ((rlA b n.toNat 1 (adv b n.toNat (0, 0, 0, -1)) d).2.1.2.2.2 = -1 ∧ v = 1) ∨ ((rlA b n.toNat 1 (adv b n.toNat (0, 0, 0, -1)) d).2.1.2.2.2 ≠ -1 ∧ v = 0) := by omega
          have W2 : ∀ a j, ¬ (a = 93 ∧ 112 + 14 * l.toNat ≤ j ∧ j < 112 + 14 * l.toNat + 14) → hA h2 a j = hA h a j := fun a j hj => by rw [← ea1]; exact M2.2.2 a j hj
          show av_wp _ cd_157 61 [some (.inr (.inr (.inl (some (77))))), some (.inl n)] [.inl v] h2 _
          refine wq_k1 (p' := 64) (ck_157 _ _ rfl) rfl ⟨by omega, by omega⟩ (fun c11 => ?_) (fun c12 => ?_)
          · have c11 : v ≠ (0) := c11
            refine av_wp_sqF ck_157 1 (pc' := 67) (lv' := [some (.inr (.inr (.inl (some (77))))), some (.inl n)]) (st' := [.inr (.inr (.inl (some (77))))]) (h' := h2) rfl ?_
            refine wq_gr (p' := 70) (ck_157 _ _ rfl) rfl (congrArg Prod.fst (ly_k M2.1.1.1 77 rfl)) rfl (ly_g M2.1.1.1 77 2 80 rfl) ?_
            refine av_wp_sqF ck_157 2 (pc' := 72) (lv' := [some (.inr (.inr (.inl (some (77))))), some (.inl n)]) (st' := [.inl (0), .inr (.inr (.inl (some (80)))), .inl (0), .inr (.inr (.inl (some (80))))]) (h' := h2) rfl ?_
            refine wq_al (p' := 73) (n := 5) (ck_157 _ _ rfl) rfl (ly_k M2.1.1.1 80 rfl) (by omega) (((congrFun (FD_A F2 (a := 80) rfl) 0).trans hc)) ?_
            refine av_wp_sqF ck_157 2 (pc' := 75) (lv' := [some (.inr (.inr (.inl (some (77))))), some (.inl n)]) (st' := [.inl (l + (1)), .inl (0), .inr (.inr (.inl (some (80))))]) (h' := h2) rfl ?_
            refine wq_as (p' := 76) (n := 5) (ck_157 _ _ rfl) rfl (ly_k M2.1.1.1 80 rfl) (by omega) ?_
            refine av_wp_sqF ck_157 1 (pc' := 77) (lv' := [some (.inr (.inr (.inl (some (77))))), some (.inl n)]) (st' := [.inr (.inr (.inl (some (77))))]) (h' := (hwA h2 80 (Int.toNat ((0))) (l + (1)))) rfl ?_
            refine wq_gr (p' := 80) (ck_157 _ _ rfl) rfl (congrArg Prod.fst (ly_k M2.1.1.1 77 rfl)) rfl (ly_g M2.1.1.1 77 2 80 rfl) ?_
            refine av_wp_sqF ck_157 1 (pc' := 81) (lv' := [some (.inr (.inr (.inl (some (77))))), some (.inl n)]) (st' := [.inl (0), .inr (.inr (.inl (some (80))))]) (h' := (hwA h2 80 (Int.toNat ((0))) (l + (1)))) rfl ?_
            refine wq_al (p' := 82) (n := 5) (ck_157 _ _ rfl) rfl (ly_k M2.1.1.1 80 rfl) (by omega) (rfl) ?_
            refine av_wp_sqF ck_157 2 (pc' := 84) (lv' := [some (.inr (.inr (.inl (some (77))))), some (.inl n)]) (st' := [.inl ((l + (1)) - (1))]) (h' := (hwA h2 80 (Int.toNat ((0))) (l + (1)))) rfl ?_
            refine av_wp_ret (v := some (.inl ((l + (1)) - (1)))) (ck_157 _ _ rfl) rfl rfl ?_
            have z : (rlA b n.toNat 1 (adv b n.toNat (0, 0, 0, -1)) d).2.1.2.2.2 = -1 := by omega
            rw [show l + 1 - 1 = l by omega]
            refine hq1 (by omega) (by omega) (by omega) z h2 M2.1 F2 W2 (fun o ho => ?_)
            rw [M2.2.1 o ho, hX.2]
            by_cases c : o = 13
            · subst c; rw [u1_eq]; exact P2 z
            · rw [u1_ne c]; exact X2 z o (by omega)
          · have c12 : v = (0) := c12
            refine av_wp_sqF ck_157 1 (pc' := 65) (lv' := [some (.inr (.inr (.inl (some (77))))), some (.inl n)]) (st' := [.inl (-1)]) (h' := h2) rfl ?_
            refine av_wp_ret (v := some (.inl (-1))) (ck_157 _ _ rfl) rfl rfl ?_
            exact hq0 (by omega) (by omega) (by omega) (by omega) h2 M2.1 F2 W2
      · have c6 : l = (6) := c6
        refine av_wp_sqF ck_157 1 (pc' := 28) (lv' := [some (.inr (.inr (.inl (some (77))))), some (.inl n)]) (st' := [.inl (-3)]) (h' := h) rfl ?_
        refine av_wp_ret (v := some (.inl (-3))) (ck_157 _ _ rfl) rfl rfl ?_
        exact hqB (by omega) (by omega) (by omega)
    · have c4 : len < n := c4
      refine av_wp_sqF ck_157 1 (pc' := 14) (lv' := [some (.inr (.inr (.inl (some (77))))), some (.inl n)]) (st' := [.inl (-2)]) (h' := h) rfl ?_
      refine av_wp_ret (v := some (.inl (-2))) (ck_157 _ _ rfl) rfl rfl ?_
      exact hqA (by omega)

set_option maxRecDepth 100000 in
set_option maxHeartbeats 4000000 in
theorem ct_214 {h : av_H} (L : LY h) {m : Int} (hm : hF h 77 62 = m) (qm : 0 ≤ m ∧ m ≤ 4) {Q : Option av_V → av_H → Prop} (hqA : m = 4 → Q (some (.inl (-1))) h) (hq : m < 4 → Q (some (.inl m)) (hwF (stA h (cpL (hA h) (0) (m.toNat + 1) czt)) 77 62 (m + 1))) : av_wp none cd_214 0 [some (.inr (.inr (.inl (some (77)))))] [] h Q := by
  refine av_wp_sqF ck_214 1 (pc' := 1) (lv' := [some (.inr (.inr (.inl (some (77)))))]) (st' := [.inr (.inr (.inl (some (77))))]) (h' := h) rfl ?_
  refine wq_gi (p' := 4) (ck_214 _ _ rfl) rfl (congrArg Prod.fst (ly_k L 77 rfl)) rfl (hm) ?_
  refine av_wp_sqF ck_214 1 (pc' := 5) (lv' := [some (.inr (.inr (.inl (some (77)))))]) (st' := [.inl (4), .inl m]) (h' := h) rfl ?_
  refine wq_k2 (p' := 8) (ck_214 _ _ rfl) rfl ⟨by omega, by omega⟩ ⟨by omega, by omega⟩ (fun c1 => ?_) (fun c2 => ?_)
  · have c1 : m ≠ (4) := c1
    refine av_wp_sqF ck_214 3 (pc' := 13) (lv' := [some (.inr (.inr (.inl (some (77)))))]) (st' := [.inr (.inr (.inl (some (77)))), .inl (0), .inr (.inr (.inl (some (77))))]) (h' := h) rfl ?_
    refine wq_gi (p' := 16) (ck_214 _ _ rfl) rfl (congrArg Prod.fst (ly_k L 77 rfl)) rfl (hm) ?_
    refine av_wp_sqF ck_214 2 (pc' := 18) (lv' := [some (.inr (.inr (.inl (some (77)))))]) (st' := [.inl (m + (1)), .inl (0), .inr (.inr (.inl (some (77))))]) (h' := h) rfl ?_
    refine wq_cv (p' := 21) (av_qc (.invokevirtual 485) 213 2 0 8) 4 cd_213 [.inl (m + (1)), .inl (0)] (77) 8 [some (.inr (.inr (.inl (some (77))))), some (.inl (0)), some (.inl (m + (1))), none] (ck_214 _ _ rfl) rfl rfl pp_213 rfl rfl rfl (congrArg Prod.fst (ly_k L 77 rfl)) rfl rfl rfl rfl ?_
    refine ct_213 L (0) (m.toNat + 1) (by omega) (by omega) (by omega) ((0)) ((m + (1))) (by omega) (by omega) ?_
    show av_wp _ cd_214 21 [some (.inr (.inr (.inl (some (77)))))] [] (stA h (cpL (hA h) (0) (m.toNat + 1) czt)) _
    refine av_wp_sqF ck_214 2 (pc' := 23) (lv' := [some (.inr (.inr (.inl (some (77)))))]) (st' := [.inr (.inr (.inl (some (77)))), .inr (.inr (.inl (some (77))))]) (h' := (stA h (cpL (hA h) (0) (m.toNat + 1) czt))) rfl ?_
    refine wq_gi (p' := 26) (ck_214 _ _ rfl) rfl (congrArg Prod.fst (ly_k L 77 rfl)) rfl (hm) ?_
    refine av_wp_sqF ck_214 2 (pc' := 28) (lv' := [some (.inr (.inr (.inl (some (77)))))]) (st' := [.inl (m + (1)), .inr (.inr (.inl (some (77))))]) (h' := (stA h (cpL (hA h) (0) (m.toNat + 1) czt))) rfl ?_
    refine wq_pi (p' := 31) (ck_214 _ _ rfl) rfl (congrArg Prod.fst (ly_k L 77 rfl)) rfl ?_
    refine av_wp_sqF ck_214 1 (pc' := 32) (lv' := [some (.inr (.inr (.inl (some (77)))))]) (st' := [.inr (.inr (.inl (some (77))))]) (h' := (hwF (stA h (cpL (hA h) (0) (m.toNat + 1) czt)) 77 62 (m + (1)))) rfl ?_
    refine wq_gi (p' := 35) (ck_214 _ _ rfl) rfl (congrArg Prod.fst (ly_k L 77 rfl)) rfl (rfl) ?_
    refine av_wp_sqF ck_214 2 (pc' := 37) (lv' := [some (.inr (.inr (.inl (some (77)))))]) (st' := [.inl ((m + (1)) - (1))]) (h' := (hwF (stA h (cpL (hA h) (0) (m.toNat + 1) czt)) 77 62 (m + (1)))) rfl ?_
    refine av_wp_ret (v := some (.inl ((m + (1)) - (1)))) (ck_214 _ _ rfl) rfl rfl ?_
    rw [show m + 1 - 1 = m by omega]
    exact hq (by omega)
  · have c2 : m = (4) := c2
    refine av_wp_sqF ck_214 1 (pc' := 9) (lv' := [some (.inr (.inr (.inl (some (77)))))]) (st' := [.inl (-1)]) (h' := h) rfl ?_
    refine av_wp_ret (v := some (.inl (-1))) (ck_214 _ _ rfl) rfl rfl ?_
    exact hqA (by omega)

set_option maxRecDepth 100000 in
set_option maxHeartbeats 4000000 in
theorem ct_215 {h : av_H} (L : LY h) {m : Int} (hm : hF h 77 62 = m) (qm : 0 ≤ m ∧ m ≤ 4) (k : Int) (qk : -2147483648 ≤ k ∧ k ≤ 2147483647) {Q : Option av_V → av_H → Prop} (hqA : (k < 0 ∨ m ≤ k) → Q (some (.inl 0)) h) (hq : 0 ≤ k → k < m → Q (some (.inl 1)) (stA h (cpL (hA h) (k.toNat + 1) (0) czt))) : av_wp none cd_215 0 [some (.inr (.inr (.inl (some (77))))), some (.inl k)] [] h Q := by
  refine av_wp_sqF ck_215 3 (pc' := 3) (lv' := [some (.inr (.inr (.inl (some (77))))), some (.inl k)]) (st' := [.inr (.inr (.inl (some (77)))), .inl (0), .inl k]) (h' := h) rfl ?_
  refine wq_gi (p' := 6) (ck_215 _ _ rfl) rfl (congrArg Prod.fst (ly_k L 77 rfl)) rfl (hm) ?_
  refine av_wp_sqF ck_215 2 (pc' := 8) (lv' := [some (.inr (.inr (.inl (some (77))))), some (.inl k)]) (st' := [.inl (m - (1)), .inl (0), .inl k]) (h' := h) rfl ?_
  refine wq_cs (p' := 11) (av_qc (.invokestatic 176) 127 3 2 8) 3 cd_127 [.inl k, .inl (0), .inl (m - (1))] [.inl (m - (1)), .inl (0), .inl k] [some (.inl k), some (.inl (0)), some (.inl (m - (1)))] (ck_215 _ _ rfl) rfl rfl pp_127 (fun _ => rfl) rfl rfl ?_
  refine ct_127 (g := h) (k) (by omega) ((0)) (by omega) ((m - (1))) (by omega) (fun v1 p2 => ?_)
  show av_wp _ cd_215 11 [some (.inr (.inr (.inl (some (77))))), some (.inl k)] [.inl v1] h _
  refine wq_k1 (p' := 14) (ck_215 _ _ rfl) rfl ⟨by omega, by omega⟩ (fun c3 => ?_) (fun c4 => ?_)
  · have c3 : v1 ≠ (0) := c3
    refine av_wp_sqF ck_215 5 (pc' := 21) (lv' := [some (.inr (.inr (.inl (some (77))))), some (.inl k)]) (st' := [.inl (0), .inl (k + (1)), .inr (.inr (.inl (some (77))))]) (h' := h) rfl ?_
    refine wq_cv (p' := 24) (av_qc (.invokevirtual 485) 213 2 0 8) 4 cd_213 [.inl (0), .inl (k + (1))] (77) 8 [some (.inr (.inr (.inl (some (77))))), some (.inl (k + (1))), some (.inl (0)), none] (ck_215 _ _ rfl) rfl rfl pp_213 rfl rfl rfl (congrArg Prod.fst (ly_k L 77 rfl)) rfl rfl rfl rfl ?_
    refine ct_213 L (k.toNat + 1) (0) (by omega) (by omega) (by omega) ((k + (1))) ((0)) (by omega) (by omega) ?_
    show av_wp _ cd_215 24 [some (.inr (.inr (.inl (some (77))))), some (.inl k)] [] (stA h (cpL (hA h) (k.toNat + 1) (0) czt)) _
    refine av_wp_sqF ck_215 1 (pc' := 25) (lv' := [some (.inr (.inr (.inl (some (77))))), some (.inl k)]) (st' := [.inl (1)]) (h' := (stA h (cpL (hA h) (k.toNat + 1) (0) czt))) rfl ?_
    refine av_wp_ret (v := some (.inl (1))) (ck_215 _ _ rfl) rfl rfl ?_
    exact hq (by omega) (by omega)
  · have c4 : v1 = (0) := c4
    refine av_wp_sqF ck_215 1 (pc' := 15) (lv' := [some (.inr (.inr (.inl (some (77))))), some (.inl k)]) (st' := [.inl (0)]) (h' := h) rfl ?_
    refine av_wp_ret (v := some (.inl (0))) (ck_215 _ _ rfl) rfl rfl ?_
    exact hqA (by omega)
end
section
/-! THE BOOK BUILT AGAIN -/
theorem sh_cw {h : av_H} (x : ∀ i, i < 16 → CW h 3 i) : SH h := fun i hi => by
  rcases x i hi with e | ⟨t, c, s, f, y⟩
  · exact Or.inl e
  · exact Or.inr ⟨t, c, s, cbv f s, y.1, cx_co y.2.1 y.2.2.1 (Or.inr (Or.inr y.2.2.2.2.2.1))⟩
theorem rwc_bA {a : Nat} (h : rwc a = true) (h2 : bA a = true) : a = 25 ∨ (6 ≤ a ∧ a ≤ 13) ∨ (15 ≤ a ∧ a ≤ 20) := by
  have h3 := rwc_lt h
  have hh : ∀ a, a < 122 → rwc a = true → bA a = true → a = 25 ∨ (6 ≤ a ∧ a ≤ 13) ∨ (15 ≤ a ∧ a ≤ 20) := by decide
  exact hh a h3 h h2
/-- the class's part behind one of its operations -/
theorem IC_op {eA eR : Nat → Prop} {eF : Nat → Nat → Prop} {g h : av_H} {n m : Nat} (G : av_Gd g) (I : IC g) (F : FQ eA eR eF nun2 g h n m) (h1 : ∀ q, eA q → bA q = true) (h2 : ∀ q, eR q → bR q = true) (h3 : ∀ q j, eF q j → bF q j = true) (K : KT h) (r : SLr h 3) (c : CN h) : IC h := by
  refine IC_fb G I (FQ_fb F h1 h2 h3 (fun _ _ z => z)) (fun a ha hb j => ?_) (sh_cw r.1) c
  obtain ⟨⟨lim, t, C⟩, _⟩ := K
  rcases rwc_bA ha hb with e | e | e
  · subst e; exact ct_dv C j
  · have := r.2.1 (a - 6) (by omega) j
    rw [show 3 + 3 + (a - 6) = a by omega] at this
    exact this
  · have := r.2.2 (a - 15) (by omega) j
    rw [show 3 + 12 + (a - 15) = a by omega] at this
    exact this
theorem rdF2_bF {x : Nat} (hx : 3 ≤ x ∧ x ≤ 5) : ∀ q j, rdF2 x q j → bF q j = true := fun q j e => by
  rcases e with e | e | e | e
  · subst e; rfl
  · subst e; rfl
  · obtain ⟨e1, e2⟩ := e; subst e1; subst e2; rfl
  · obtain ⟨e1, e2⟩ := e
    subst e1; subst e2
    rcases (show j = 3 ∨ j = 4 ∨ j = 5 by omega) with e | e | e <;> subst e <;> rfl
theorem rdF2_low {x : Nat} {q j : Nat} (e : rdF2 x q j) : q < 122 := by unfold rdF2 at e; omega
theorem mo_low {x : Nat} : LOW moA (fun q => q = 4) (rdF2 x) nun2 := ⟨fun q e => by unfold moA at e; omega, fun q e => by omega, fun q j e => rdF2_low e, fun q j e => e.elim⟩
theorem lw_low {x y : Nat} (hy : y < 122) : LOW (lwA y) nun1 (rdF2 x) nun2 := ⟨fun q e => by unfold lwA at e; omega, fun q e => e.elim, fun q j e => rdF2_low e, fun q j e => e.elim⟩
/-- the reference's part -/
theorem IMF_of {n a m : Int} {g h : av_H} (x : IMF n a m g) (L : LY h) (eA : ∀ q, 95 ≤ q → q ≤ 121 → hA h q = hA g q) (eF : ∀ k, mF 77 k = true → hF h 77 k = hF g 77 k) (V : MV h) : IMF n a m h := by
  obtain ⟨⟨⟨_, x2, x3, x4, x5⟩, x6⟩, x7, x8, x9⟩ := x
  refine ⟨⟨⟨L, V, fun q h1 h2 j => ?_, ?_, ?_⟩, WR_A x6 (eA 96 (by omega) (by omega)) (eA 100 (by omega) (by omega))⟩, (eF 27 rfl).trans x7, (eF 28 rfl).trans x8, (eF 29 rfl).trans x9⟩
  · rw [eA q (by omega) (by omega)]; exact x3 q h1 h2 j
  · unfold AK at x4 ⊢
    rw [eF 28 rfl, eF 29 rfl, eA 108 (by omega) (by omega)]
    exact x4
  · unfold NF at x5 ⊢
    rw [eF 27 rfl, eF 50 rfl, eF 51 rfl, eF 52 rfl]
    exact x5
theorem MV_of {h : av_H} (B : BN (hA h)) (m : ∀ j, 0 ≤ hA h 81 j ∧ hA h 81 j ≤ 12) (S : SL h (hA h) 3 0) : MV h := by
  obtain ⟨⟨⟨c1, c2, c3⟩, b1, b2, b3⟩, _, s3, _⟩ := S
  refine ⟨B, by rw [← c1]; exact b1, by rw [← c2]; exact b2, by rw [← c3]; exact b3, m, fun c k hc hk h2 => ?_⟩
  obtain ⟨t, cc, s, f, x1, x2, x3⟩ := s3 c (by omega) (by rw [c1]; exact hc)
  rw [show 16 * 0 + c = c by omega] at x2
  rw [x2] at hk
  have y := (x3 k (by omega) rfl).1
  have y0 : hA h 82 (1 * (192 * 0 + 12 * c + k) + 0) = f (k * 21 + 0) := y 0 (by omega) (by omega)
  have y3 : hA h 85 (1 * (192 * 0 + 12 * c + k) + 0) = f (k * 21 + 3) := y 3 (by omega) (by omega)
  rw [show 1 * (192 * 0 + 12 * c + k) + 0 = 12 * c + k by omega] at y0 y3
  rw [y0] at h2
  rw [y3]
  exact x1.2.2.2.1 k (by omega) h2
theorem im_bn {n a m : Int} {h : av_H} (x : IMF n a m h) : BN (hA h) := x.1.1.2.1.1
theorem im_m81 {n a m : Int} {h : av_H} (x : IMF n a m h) : ∀ j, 0 ≤ hA h 81 j ∧ hA h 81 j ≤ 12 := x.1.1.2.1.2.2.2.2.1
/-! the reference's reading changes rows of one case alone -/
theorem FR2_a {c k0 : Nat} {A A' : Nat → Nat → Int} (f : FR2 c k0 A A') {a : Nat} (ha : a < 82 ∨ 92 < a) : A' a = A a := by
  funext j
  exact f a j (fun k o _ _ ho z => by have := vq_in o ho; omega)
theorem CS_ag2 {h : av_H} {A A' : Nat → Nat → Int} {o b i : Nat} (x : CS h A o b i) (e1 : A' 81 (16 * b + i) = A 81 (16 * b + i)) (e2 : ∀ j : Nat, (j : Int) < A 81 (16 * b + i) → j < 12 → ∀ q, q < 19 → rwA A' (192 * b + 12 * i + j) q = rwA A (192 * b + 12 * i + j) q) : CS h A' o b i := by
  obtain ⟨t, c, s, f, x1, x2, x3⟩ := x
  have s12 : s ≤ 12 := x1.2.2.1.1
  exact ⟨t, c, s, f, x1, e1.trans x2, fun j hj => ry_eq (x3 j hj) (e2 j (by rw [x2]; omega) (by omega)) (fun _ _ => rfl)⟩
theorem AGB_fr2 {c k0 b : Nat} {A A' : Nat → Nat → Int} (f : FR2 c k0 A A') (hc : c ≤ 15) (hb : 1 ≤ b) : AGB b A A' := by
  refine ⟨⟨by rw [FR2_a f (by omega)], by rw [FR2_a f (by omega)], by rw [FR2_a f (by omega)]⟩, fun i _ => by rw [FR2_a f (by omega)], fun i hi o ho => FR2_row f (fun k h1 h2 => by omega) o ho, fun k _ => by rw [FR2_a f (by omega)]⟩
theorem SL_fr2 {h : av_H} {c k0 : Nat} {A A' : Nat → Nat → Int} (x : SL h A 3 0) (f : FR2 c k0 A A') (hc : c ≤ 15) (hk : (c : Int) < hF h 3 3 → A 81 c ≤ (k0 : Int)) : SL h A' 3 0 := by
  obtain ⟨x1, x2, x3, x4, x5⟩ := x
  refine ⟨by unfold SLn at x1 ⊢; rw [FR2_a f (a := 78) (by omega), FR2_a f (a := 79) (by omega), FR2_a f (a := 80) (by omega)]; exact x1, x2, fun i hi h1 => CS_ag2 (x3 i hi h1) (by rw [FR2_a f (a := 81) (by omega)]) (fun j hj h12 q hq => FR2_row f (fun k h2 h3 => ?_) q hq), fun l hl h1 => LW_ag (x4 l hl h1) (fun k _ => by rw [FR2_a f (a := 93) (by omega)]), fun l hl h1 => QW_ag (x5 l hl h1) (fun k _ => by rw [FR2_a f (a := 93) (by omega)])⟩
  intro z
  have ec : c = i := by omega
  subst ec
  have := hk h1
  rw [show 16 * 0 + c = c by omega] at hj
  omega
def fdA2 (a : Nat) : Prop := 82 ≤ a ∧ a ≤ 93
def fdF2 (o f : Nat) : Prop := o = 77 ∧ 17 ≤ f ∧ f ≤ 25
theorem FQ_FD {g h : av_H} (F : FD g h) : FQ fdA2 nun1 fdF2 nun2 g h 0 0 := ⟨F.1, F.2.1, fun q _ => ⟨congrFun F.2.2.1 q, fun j _ => congrFun (congrFun F.2.2.2.2.1 q) j, fun e => F.2.2.2.2.2.2 q (by
  cases z : rdA q with
  | false => rfl
  | true =>
    simp only [rdA, Bool.and_eq_true] at z
    exact absurd ⟨Nat.le_of_ble_eq_true z.1, Nat.le_of_ble_eq_true z.2⟩ e), fun _ => congrFun F.2.2.2.1 q, fun j e => F.2.2.2.2.2.1 q j (by
  cases z : rdF q j with
  | false => rfl
  | true =>
    simp only [rdF, Bool.and_eq_true] at z
    exact absurd ⟨Nat.eq_of_beq_eq_true z.1, Nat.le_of_ble_eq_true z.2.1, Nat.le_of_ble_eq_true z.2.2⟩ e)⟩⟩
theorem fd_low : LOW fdA2 nun1 fdF2 nun2 := ⟨fun q e => by unfold fdA2 at e; omega, fun q e => e.elim, fun q j e => by unfold fdF2 at e; omega, fun q j e => e.elim⟩
theorem IC_FD {g h : av_H} (F : FD g h) (x : IC g) : IC h := by
  have Q := FQ_FD F
  refine IC_eq ⟨fun q hq => by rw [F.2.2.1]; exact x.1.1 q hq, fun o f q e => by rw [F.2.2.2.2.1]; exact x.1.2.1 o f q e, fun i hi => by rw [F.2.2.2.1]; exact x.1.2.2.1 i hi, fun i hi => by rw [F.2.2.2.1]; exact x.1.2.2.2 i hi⟩ (fun q => congrFun F.2.2.1 q) (fun q hq => F.2.2.2.2.2.2 q (by
    cases z : rdA q with
    | false => rfl
    | true =>
      simp only [rdA, Bool.and_eq_true] at z
      have h1 := Nat.le_of_ble_eq_true z.1
      have h2 := Nat.le_of_ble_eq_true z.2
      omega)) (fun q k hq => F.2.2.2.2.2.1 q k (by simp only [rdF, nbeq hq, Bool.false_and])) (fun q => congrFun F.2.2.2.2.1 q) (fun q => congrFun F.2.2.2.1 q) x
end
section
/-! TELL AND MORE KEEP THE BOOK -/
def RM (h h2 : av_H) : Prop := h2.1 ≤ h.1 + 20 ∧ h2.2.1 ≤ h.2.1 + 600
def OPr (cm : List (Nat × av_E)) (lm : av_L) (h : av_H) (P : Int → Int → Prop) (v : Option av_V) (h1 : av_H) : Prop := ∃ x : Int, v = some (.inl x) ∧ hK h1 77 = (8, 0) ∧ av_wp none cm 0 lm [] h1 (fun w h2 => ∃ y : Int, w = some (.inl y) ∧ P x y ∧ BK h2 ∧ RM h h2)
def rdF0 (o f : Nat) : Prop := o = 1 ∨ o = 22 ∨ (o = 0 ∧ f = 8)
theorem rd_low1 : LOW rdA2 nun1 rdF0 nun2 := ⟨fun q e => by unfold rdA2 at e; omega, fun q e => e.elim, fun q j e => by unfold rdF0 at e; omega, fun q j e => e.elim⟩
theorem FQ_sh {x n m : Nat} {g h : av_H} (a : FQ rdA2 (fun q => q = 4) (rdF2 x) nun2 g h n m) (e1 : hF h 3 x = hF g 3 x) (e2 : hR h 4 = hR g 4) : FQ rdA2 nun1 rdF0 nun2 g h n m := ⟨a.1, a.2.1, fun q hq => by
  obtain ⟨a1, a2, a3, a4, a5⟩ := a.2.2 q hq
  refine ⟨a1, a2, a3, fun _ => ?_, fun j e => ?_⟩
  · by_cases c : q = 4
    · rw [c]; exact e2
    · exact a4 c
  · by_cases c : q = 3 ∧ j = x
    · rw [c.1, c.2]; exact e1
    · exact a5 j (fun z => by unfold rdF2 at z; unfold rdF0 at e; omega)⟩
theorem FQ_s0 {x n m : Nat} {g h : av_H} (a : FQ rdA2 nun1 (rdF2 x) nun2 g h n m) (e1 : hF h 3 x = hF g 3 x) : FQ rdA2 nun1 rdF0 nun2 g h n m := ⟨a.1, a.2.1, fun q hq => by
  obtain ⟨a1, a2, a3, a4, a5⟩ := a.2.2 q hq
  refine ⟨a1, a2, a3, a4, fun j e => ?_⟩
  by_cases c : q = 3 ∧ j = x
  · rw [c.1, c.2]; exact e1
  · exact a5 j (fun z => by unfold rdF2 at z; unfold rdF0 at e; omega)⟩
/-- the book between the class's call and the reference's -/
def BM (h : av_H) : Prop := IC h ∧ KT h ∧ (∃ n a m, IMF n a m h) ∧ hA h 94 = hA h 2 ∧ SL h (hA h) 3 0 ∧ XI h (hA h)
theorem cn_sl {h : av_H} {A : Nat → Nat → Int} (S : SL h A 3 0) : CN h := S.1.2
theorem BM_read {g h : av_H} (G : av_Gd g) (B : BK g) (F : FQ rdA2 nun1 rdF0 nun2 g h 0 0) (K : KT h) : BM h := by
  obtain ⟨I, _, ⟨n0, a0, m0, M⟩, ⟨p1, _, _⟩, S, X⟩ := B
  have L := I.1
  have l : ∀ {q : Nat}, q < 122 → q < g.1 := fun hq => ly_lt G L hq
  have l18 : 3 + 18 ≤ g.1 := by have := l (q := 100) (by omega); omega
  have ea : ∀ a, a < 122 → a ≠ 23 → a ≠ 25 → hA h a = hA g a := fun a h1 h2 h3 => (F.2.2 a (l h1)).2.2.1 (fun z => by unfold rdA2 at z; omega)
  have S1 : SL h (hA h) 3 0 := SL_ag (SL_fq G rd_low1 F l18 (fun j z => by unfold rdF0 at z; omega) (fun z => z) (fun j h1 h2 z => by unfold rdA2 at z; omega) S) (AGB_eq 0 (fun a h1 h2 => ea a (by omega) (by omega) (by omega)))
  have I1 : IC h := IC_op G I F (fun q e => by rcases e with e | e <;> subst e <;> rfl) (fun q e => e.elim) (fun q j e => by
    rcases e with e | e | e
    · subst e; rfl
    · subst e; rfl
    · obtain ⟨e1, e2⟩ := e; subst e1; subst e2; rfl) K S1.2.1 (cn_sl S1)
  refine ⟨I1, K, ⟨n0, a0, m0, IMF_eq I1.1 (fun q h1 h2 => ea q (by omega) (by omega) (by omega)) (fun k _ => (F.2.2 77 (l (by omega))).2.2.2.2 k (fun z => by unfold rdF0 at z; omega)) M⟩, ?_, S1, ?_⟩
  · rw [ea 94 (by omega) (by omega) (by omega), ea 2 (by omega) (by omega) (by omega)]
    exact p1
  · exact XI_ag (XI_fq G L rd_low1 F (fun z => by unfold rdF0 at z; omega) (fun z => by unfold rdF0 at z; omega) (fun z => z) X) (fun i _ _ => AGB_eq (i + 1) (fun a h1 h2 => ea a (by omega) (by omega) (by omega)))
theorem mF_rdF {k : Nat} (e : mF 77 k = true) : rdF 77 k = false := by
  have h1 : k = 27 ∨ k = 28 ∨ k = 29 ∨ k = 50 ∨ k = 51 ∨ k = 52 ∨ k = 53 ∨ k = 60 ∨ k = 61 := by
    simp only [mF, Bool.and_eq_true, Bool.or_eq_true] at e
    rcases e.2 with (((((((h | h) | h) | h) | h) | h) | h) | h) | h <;> (have := Nat.eq_of_beq_eq_true h; omega)
  rcases h1 with e | e | e | e | e | e | e | e | e <;> subst e <;> rfl
theorem rdA_big {q : Nat} (h : 93 < q ∨ q < 82) : rdA q = false := by
  rcases h with h | h
  · simp only [rdA, nble (show 93 < q by omega), Bool.and_false]
  · simp only [rdA, nble (show q < 82 by omega), Bool.false_and]
/-- the reference finds the fault too -/
theorem BM_fault {h1 h2 : av_H} {b : Nat → Int} {lim c k0 : Nat} {t : TT} (G : av_Gd h1) (B : BM h1) (N : MT b lim t 0 (hA h2) h2) (F : FD h1 h2) (BN2 : BN (hA h2)) (W : FR2 c k0 (hA h1) (hA h2)) (hc : c ≤ 15) (hk : (c : Int) < hF h1 3 3 → hA h1 81 c ≤ (k0 : Int)) (l1 : hF h1 1 1 = 0) (w1 : hF h1 0 8 = t.2.2.2) : BK h2 := by
  obtain ⟨I, K, ⟨n0, a0, m0, M⟩, p1, S, X⟩ := B
  have L := I.1
  have l : ∀ {q : Nat}, q < 122 → q < h1.1 := fun hq => ly_lt G L hq
  have l18 : 3 + 18 ≤ h1.1 := by have := l (q := 100) (by omega); omega
  have Q := FQ_FD F
  have I2 : IC h2 := IC_FD F I
  have fF : ∀ q k, q ≠ 77 → hF h2 q k = hF h1 q k := fun q k hq => F.2.2.2.2.2.1 q k (by simp only [rdF, nbeq hq, Bool.false_and])
  have S2 : SL h2 (hA h2) 3 0 := SL_fq G fd_low Q l18 (fun j z => by unfold fdF2 at z; omega) (fun z => z) (fun j h1 h2 z => by unfold fdA2 at z; omega) (SL_fr2 S W hc hk)
  refine ⟨I2, KT_fq G L I2.1 Q (fun z => by unfold fdA2 at z; omega) (fun z => by unfold fdA2 at z; omega) (fun z => by unfold fdA2 at z; omega) (fun z => by unfold fdA2 at z; omega) (fun j z => by unfold fdF2 at z; omega) (fun j z => by unfold fdF2 at z; omega) (fun j z => z) K, ⟨n0, a0, m0, IMF_of M I2.1 (fun q h1 _ => F.2.2.2.2.2.2 q (rdA_big (by omega))) (fun k hk => F.2.2.2.2.2.1 77 k (mF_rdF hk)) (MV_of BN2 (fun j => by rw [F.2.2.2.2.2.2 81 rfl]; exact im_m81 M j) S2)⟩, ⟨?_, ?_, ?_⟩, S2, ?_⟩
  · rw [F.2.2.2.2.2.2 94 rfl, F.2.2.2.2.2.2 2 rfl]; exact p1
  · rw [ns_17 N.1, fF 1 1 (by decide), l1]
  · rw [ns_18 N.1, fF 0 8 (by decide), w1]
  · exact XI_fq G L fd_low Q (fun z => by unfold fdF2 at z; omega) (fun z => by unfold fdF2 at z; omega) (fun z => z) (XI_ag X (fun i _ _ => AGB_fr2 W hc (by omega)))
def mdA (a : Nat) : Prop := 78 ≤ a ∧ a ≤ 93
theorem md_low : LOW mdA nun1 fdF2 nun2 := ⟨fun q e => by unfold mdA at e; omega, fun q e => e.elim, fun q j e => by unfold fdF2 at e; omega, fun q j e => e.elim⟩
/-- a case is new, or is told on -/
theorem BK_rok {h h1 g2 h2 : av_H} {b : Nat → Int} {lim c k0 s t tc nn mm : Nat} {ta : TT} {f r' : Nat → Int} {A2 : Nat → Nat → Int} (G : av_Gd h) (G1 : av_Gd h1) (B : BK h) (F1 : FQ moA (fun q => q = 4) (rdF2 3) nun2 h h1 nn mm) (K1 : KT h1) (l1 : hF h1 1 1 = 0) (w1 : hF h1 0 8 = -1) (hc : c ≤ 15) (c1 : 0 ≤ hF h1 3 3 ∧ hF h1 3 3 ≤ 16) (c2 : ∀ i : Nat, (i : Int) < hF h1 3 3 → i = c ∨ (i : Int) < hF h 3 3) (r1 : hR h1 4 = av_u1 (hR h 4) c (some t)) (cc : CC h1 (some t) t tc s f)
    (N : MT b lim ta 0 (hA g2) g2) (hta : ta.2.2.2 = -1) (F2 : FD h1 g2) (B2 : BN (hA g2)) (W2 : FR2 c k0 (hA h1) (hA g2)) (Y2 : ∀ j, j < s → RY (rwA (hA g2) (12 * c + j)) r' (j * 21)) (fj : ∀ j, j < 21 * s → f j = r' j)
    (e2 : h2 = stA g2 A2) (e81 : A2 81 = av_u1 (hA g2 81) c (s : Int)) (e78 : A2 78 0 = hF h1 3 3) (e78b : ∀ j, 1 ≤ j → A2 78 j = hA g2 78 j) (eo : ∀ a, a ≠ 78 → a ≠ 81 → A2 a = hA g2 a) : BK h2 := by
  subst e2
  obtain ⟨I, K, ⟨n0, a0, m0, M⟩, ⟨p1, _, _⟩, S, X⟩ := B
  have L := I.1
  have l : ∀ {q : Nat}, q < 122 → q < h.1 := fun hq => ly_lt G L hq
  have l18 : 3 + 18 ≤ h.1 := by have := l (q := 100) (by omega); omega
  have ea1 : ∀ a, a < 122 → a ≠ 23 → a ≠ 25 → a ≠ 27 → hA h1 a = hA h a := fun a z1 z2 z3 z4 => (F1.2.2 a (l z1)).2.2.1 (fun z => by unfold moA at z; omega)
  have ef1 : ∀ k, k ≠ 3 → hF h1 3 k = hF h 3 k := fun k hk => (F1.2.2 3 (l (by omega))).2.2.2.2 k (fun z => by unfold rdF2 at z; omega)
  have er1 : ∀ i, i ≠ c → hR h1 4 i = hR h 4 i := fun i hi => by rw [r1]; exact if_neg hi
  have erc : hR h1 4 c = some t := by rw [r1]; exact if_pos rfl
  have s12 : s ≤ 12 := cc.2.2.1.1
  -- the class's part
  have cw1 : ∀ i, i < 16 → CW h1 3 i := fun i hi => by
    by_cases e : i = c
    · subst e
      exact Or.inr ⟨t, tc, s, f, by rw [erc]; exact cc⟩
    · exact CW_fq G mo_low F1 (er1 i e) (S.2.1.1 i hi)
  have sr1 : SLr h1 3 := by
    refine ⟨cw1, fun q hq k => ?_, fun q hq k => ?_⟩
    · rw [ea1 (3 + 3 + q) (by omega) (by omega) (by omega) (by omega)]; exact S.2.1.2.1 q hq k
    · rw [ea1 (3 + 12 + q) (by omega) (by omega) (by omega) (by omega)]; exact S.2.1.2.2 q hq k
  have cn1 : CN h1 := by
    refine ⟨c1, ?_, ?_⟩
    · rw [ef1 4 (by decide)]; exact S.1.2.2.1
    · rw [ef1 5 (by decide)]; exact S.1.2.2.2
  have I1 : IC h1 := IC_op G I F1 (fun q e => by rcases e with e | e | e <;> subst e <;> rfl) (fun q e => by subst e; rfl) (rdF2_bF (by omega)) K1 sr1 cn1
  have L1 := I1.1
  have l1' : ∀ {q : Nat}, q < 122 → q < h1.1 := fun hq => ly_lt G1 L1 hq
  -- the reference's part
  have I2g : IC g2 := IC_FD F2 I1
  have Q2 : FQ mdA nun1 fdF2 nun2 h1 (stA g2 A2) 0 0 := FQ_tr (FQ_mo (FQ_FD F2) (fun q e => by unfold fdA2 at e; unfold mdA; omega) (fun _ e => e) (fun _ _ e => e) (fun _ _ e => e)) (FQ_A (fun q hq => eo q (fun z => hq (by unfold mdA; omega)) (fun z => hq (by unfold mdA; omega))))
  have I2 : IC (stA g2 A2) := IC_eq (g := g2) (h := stA g2 A2) I2g.1 (fun _ => rfl) (fun q hq => eo q (by omega) (by omega)) (fun _ _ _ => rfl) (fun _ => rfl) (fun _ => rfl) I2g
  have fF : ∀ q k, q ≠ 77 → hF (stA g2 A2) q k = hF h1 q k := fun q k hq => F2.2.2.2.2.2.1 q k (by simp only [rdF, nbeq hq, Bool.false_and])
  have eR : hR (stA g2 A2) = hR h1 := F2.2.2.2.1
  have eA : ∀ a, (a < 78 ∨ 93 < a) → hA (stA g2 A2) a = hA h1 a := fun a ha => (eo a (by omega) (by omega)).trans (F2.2.2.2.2.2.2 a (rdA_big (by omega)))
  have rw2 : ∀ i o, o < 19 → rwA A2 i o = rwA (hA g2) i o := fun i o ho => by
    have := vq_in o ho
    show A2 (vq o) _ = hA g2 (vq o) _
    rw [eo (vq o) (by omega) (by omega)]
  have a93 : A2 93 = hA h 93 := (eo 93 (by decide) (by decide)).trans ((FR2_a W2 (by omega)).trans (ea1 93 (by omega) (by omega) (by omega) (by omega)))
  have a81 : ∀ i, i ≠ c → A2 81 i = hA h 81 i := fun i hi => by
    rw [e81, u1_ne hi, FR2_a W2 (a := 81) (by omega), ea1 81 (by omega) (by omega) (by omega) (by omega)]
  have rwo : ∀ i o, o < 19 → (∀ k, k0 ≤ k → k < 12 → 12 * c + k ≠ i) → rwA A2 i o = rwA (hA h) i o := fun i o ho hi => by
    rw [rw2 i o ho, FR2_row W2 hi o ho]
    have := vq_in o ho
    show hA h1 (vq o) _ = hA h (vq o) _
    rw [ea1 (vq o) (by omega) (by omega) (by omega) (by omega)]
  have S2 : SL (stA g2 A2) A2 3 0 := by
    refine ⟨⟨⟨?_, ?_, ?_⟩, ?_, ?_, ?_⟩, ⟨fun i hi => CW_fq G1 md_low Q2 (congrFun (congrFun eR _) _) (cw1 i hi), fun q hq k => ?_, fun q hq k => ?_⟩, fun i hi h1 => ?_, fun q hq h1 => ?_, fun q hq h1 => ?_⟩
    · rw [fF 3 3 (by decide), e78]
    · rw [fF 3 4 (by decide), ef1 4 (by decide), eo 79 (by decide) (by decide), FR2_a W2 (a := 79) (by omega), ea1 79 (by omega) (by omega) (by omega) (by omega)]; exact S.1.1.2.1
    · rw [fF 3 5 (by decide), ef1 5 (by decide), eo 80 (by decide) (by decide), FR2_a W2 (a := 80) (by omega), ea1 80 (by omega) (by omega) (by omega) (by omega)]; exact S.1.1.2.2
    · rw [fF 3 3 (by decide)]; exact c1
    · rw [fF 3 4 (by decide)]; exact cn1.2.1
    · rw [fF 3 5 (by decide)]; exact cn1.2.2
    · rw [eA (3 + 3 + q) (by omega)]; exact sr1.2.1 q hq k
    · rw [eA (3 + 12 + q) (by omega)]; exact sr1.2.2 q hq k
    · rw [fF 3 3 (by decide)] at h1
      by_cases e : i = c
      · subst e
        refine ⟨t, tc, s, f, ?_, ?_, fun j hj => ?_⟩
        · rw [show hR (stA g2 A2) (3 + 1) i = some t from (congrFun (congrFun eR 4) i).trans erc]
          exact CC_fq G1 md_low Q2 cc
        · rw [show 16 * 0 + i = i by omega, e81, u1_eq]
        · rw [show 192 * 0 + 12 * i + j = 12 * i + j by omega]
          exact ry_eq (Y2 j hj) (fun o ho => rw2 _ o ho) (fun o ho => fj _ (by omega))
      · have h3 := c2 i h1
        have x := S.2.2.1 i hi (by omega)
        refine CS_fq G1 md_low Q2 (congrFun (congrFun eR _) _) (CS_ag2 (CS_fq G mo_low F1 (er1 i e) x) ?_ (fun j hj h12 q hq => ?_))
        · rw [show 16 * 0 + i = i by omega]; exact a81 i e
        · exact rwo _ q hq (fun k h4 h5 => by omega)
    · rw [fF 3 4 (by decide), ef1 4 (by decide)] at h1
      have x := S.2.2.2.1 q hq h1
      have e1 : hA (stA g2 A2) (3 + 3 + q) = hA h (3 + 3 + q) := (eA _ (by omega)).trans (ea1 _ (by omega) (by omega) (by omega) (by omega))
      unfold LW at x ⊢
      rw [e1, a93]
      exact x
    · rw [fF 3 5 (by decide), ef1 5 (by decide)] at h1
      have x := S.2.2.2.2 q hq h1
      have e1 : hA (stA g2 A2) (3 + 12 + q) = hA h (3 + 12 + q) := (eA _ (by omega)).trans (ea1 _ (by omega) (by omega) (by omega) (by omega))
      unfold QW at x ⊢
      rw [e1, a93]
      exact x
  refine ⟨I2, KT_fq G1 L1 I2.1 Q2 (fun z => by unfold mdA at z; omega) (fun z => by unfold mdA at z; omega) (fun z => by unfold mdA at z; omega) (fun z => by unfold mdA at z; omega) (fun j z => by unfold fdF2 at z; omega) (fun j z => by unfold fdF2 at z; omega) (fun j z => z) K1, ⟨n0, a0, m0, IMF_of M I2.1 (fun q z1 z2 => (eA q (by omega)).trans (ea1 q (by omega) (by omega) (by omega) (by omega))) (fun k hk => (F2.2.2.2.2.2.1 77 k (mF_rdF hk)).trans ((F1.2.2 77 (l (by omega))).2.2.2.2 k (fun z => by unfold rdF2 at z; omega))) (MV_of (fun a z1 z2 j => by rw [show hA (stA g2 A2) a = hA g2 a from eo a (by omega) (by omega)]; exact B2 a z1 z2 j) (fun j => ?_) S2)⟩, ⟨?_, ?_, ?_⟩, S2, ?_⟩
  · by_cases e : j = c
    · subst e
      rw [show hA (stA g2 A2) 81 j = (s : Int) by show A2 81 j = _; rw [e81, u1_eq]]
      omega
    · rw [show hA (stA g2 A2) 81 j = hA h 81 j from a81 j e]
      exact im_m81 M j
  · rw [eA 94 (by omega), eA 2 (by omega), ea1 94 (by omega) (by omega) (by omega) (by omega), ea1 2 (by omega) (by omega) (by omega) (by omega)]
    exact p1
  · rw [fF 1 1 (by decide), l1]
    exact (show hF g2 77 17 = 0 from ns_17 N.1)
  · rw [fF 0 8 (by decide), w1, ← hta]
    exact (show hF g2 77 18 = ta.2.2.2 from ns_18 N.1)
  · have X1 : XI h1 (hA h) := XI_fq G L mo_low F1 (fun z => by unfold rdF2 at z; omega) (fun z => by unfold rdF2 at z; omega) (fun z => by omega) X
    refine XI_fq G1 L1 md_low Q2 (fun z => by unfold fdF2 at z; omega) (fun z => by unfold fdF2 at z; omega) (fun z => z) (XI_ag X1 (fun i hi _ => ⟨⟨?_, ?_, ?_⟩, fun q hq => ?_, fun q hq o ho => rwo _ o ho (fun k z1 z2 => by omega), fun k hk => by rw [show hA (stA g2 A2) 93 = hA h 93 from a93]⟩))
    · rw [show hA (stA g2 A2) 78 (i + 1) = hA g2 78 (i + 1) from e78b _ (by omega), FR2_a W2 (a := 78) (by omega), ea1 78 (by omega) (by omega) (by omega) (by omega)]
    · rw [show hA (stA g2 A2) 79 = hA g2 79 from eo 79 (by decide) (by decide), FR2_a W2 (a := 79) (by omega), ea1 79 (by omega) (by omega) (by omega) (by omega)]
    · rw [show hA (stA g2 A2) 80 = hA g2 80 from eo 80 (by decide) (by decide), FR2_a W2 (a := 80) (by omega), ea1 80 (by omega) (by omega) (by omega) (by omega)]
    · exact a81 _ (by omega)
end
section
/-! TELL, MORE: class and reference, one behind the other -/
theorem kt_bv {h : av_H} (K : KT h) : ∀ j, -128 ≤ hA h 2 j ∧ hA h 2 j ≤ 127 := by
  obtain ⟨⟨lim, t, C⟩, _⟩ := K
  exact C.2.2.1
theorem kt_L {h : av_H} (K : KT h) : LY h := by
  obtain ⟨⟨lim, t, C⟩, _⟩ := K
  exact C.1
theorem RM_0 {h h2 : av_H} (e1 : h2.1 = h.1) (e2 : h2.2.1 = h.2.1) : RM h h2 := ⟨by omega, by omega⟩
theorem op_tell {h : av_H} (B : BK h) (n : Int) (qn : -2147483648 ≤ n ∧ n ≤ 2147483647) : av_wp none cd_95 0 [some (.inr (.inr (.inl (some (0))))), some (.inl n), none] [] h (OPr cd_148 [some (.inr (.inr (.inl (some (77))))), some (.inl n), none] h (fun x y => x = y)) := by
  refine gd_of (fun hg => ?_)
  have B0 := B
  obtain ⟨I, K, ⟨n0, a0, m0, M⟩, ⟨p1, p2, p3⟩, S, X⟩ := B
  have L := I.1
  have bv := kt_bv K
  have ql := K.2.1
  have qc := S.1.2.1
  have l : ∀ {q : Nat}, q < 122 → q < h.1 := fun hq => ly_lt hg L hq
  refine ct_95 I K n qn (fun zA => ?_) (fun z1 z2 z3 => ?_) (fun z1 z2 z3 z4 h1 F1 K1 l1 w1 c1 r1 d1 => ?_) (fun z1 z2 z3 z4 h1 t tc f F1 K1 l1 w1 c1 r1 cc fj d1 => ?_)
  · refine ⟨-2, rfl, ly_k L 77 rfl, ?_⟩
    exact ct_148 L p1 bv p2 ql S.1.1.1.symm qc (im_bn M) (hA h 23) n qn (fun _ => ⟨-2, rfl, rfl, B0, RM_0 rfl rfl⟩) (fun _ _ _ => by exfalso; omega) (fun _ _ _ _ => by exfalso; omega) (fun _ _ _ _ => by exfalso; omega)
  · refine ⟨-3, rfl, ly_k L 77 rfl, ?_⟩
    exact ct_148 L p1 bv p2 ql S.1.1.1.symm qc (im_bn M) (hA h 23) n qn (fun _ => by exfalso; omega) (fun _ _ _ => ⟨-3, rfl, rfl, B0, RM_0 rfl rfl⟩) (fun _ _ _ _ => by exfalso; omega) (fun _ _ _ _ => by exfalso; omega)
  · refine ⟨-1, rfl, ly_k (kt_L K1) 77 rfl, gd_of (fun hg1 => ?_)⟩
    have M1 := BM_read hg B0 (FQ_sh F1 c1 r1) K1
    have ea : ∀ a, a < 122 → a ≠ 23 → a ≠ 25 → hA h1 a = hA h a := fun a z1 z2 z3 => (F1.2.2 a (l z1)).2.2.1 (fun z => by unfold rdA2 at z; omega)
    have e17 : hF h1 77 17 = hF h 1 1 := ((F1.2.2 77 (l (by omega))).2.2.2.2 17 (fun z => by unfold rdF2 at z; omega)).trans p2
    obtain ⟨n1, a1, m1, M1b⟩ := M1.2.2.1
    refine ct_148 (kt_L K1) ((ea 94 (by omega) (by omega) (by omega)).trans p1) bv e17 ql ((congrFun (ea 78 (by omega) (by omega) (by omega)) 0).trans S.1.1.1.symm) qc (im_bn M1b) (hA h 23) n qn (fun _ => by exfalso; omega) (fun _ _ _ => by exfalso; omega) (fun _ _ _ _ h2 N2 F2 B2 W2 => ⟨-1, rfl, rfl, ?_, ?_⟩) (fun _ _ _ y => absurd y z4)
    · refine BM_fault hg1 M1 N2 F2 B2 W2 (by omega) (fun z => ?_) l1 w1
      rw [c1] at z
      exfalso
      omega
    · exact RM_0 (F2.1.trans F1.1) (F2.2.1.trans F1.2.1)
  · refine ⟨hF h 3 3, rfl, ly_k (kt_L K1) 77 rfl, gd_of (fun hg1 => ?_)⟩
    have ea : ∀ a, a < 122 → a ≠ 23 → a ≠ 25 → hA h1 a = hA h a := fun a z1 z2 z3 => (F1.2.2 a (l z1)).2.2.1 (fun z => by unfold rdA2 at z; omega)
    have e17 : hF h1 77 17 = hF h 1 1 := ((F1.2.2 77 (l (by omega))).2.2.2.2 17 (fun z => by unfold rdF2 at z; omega)).trans p2
    have bn1 : BN (hA h1) := fun a z1 z2 j => by rw [ea a (by omega) (by omega) (by omega)]; exact im_bn M a z1 z2 j
    refine ct_148 (kt_L K1) ((ea 94 (by omega) (by omega) (by omega)).trans p1) bv e17 ql ((congrFun (ea 78 (by omega) (by omega) (by omega)) 0).trans S.1.1.1.symm) qc bn1 (hA h 23) n qn (fun _ => by exfalso; omega) (fun _ _ _ => by exfalso; omega) (fun _ _ _ y => absurd z4 y) (fun _ _ _ _ g2 N2 F2 B2 W2 Y2 => ⟨hF h 3 3, rfl, rfl, ?_, ?_⟩)
    · refine BK_rok (c := (hF h 3 3).toNat) hg hg1 B0 (rd_mo F1) K1 l1 w1 (by omega) (by rw [c1]; omega) (fun i hi => by rw [c1] at hi; omega) r1 cc N2 z4 F2 B2 W2 Y2 fj (A2 := av_u2 (av_u2 (hA g2) 81 (Int.toNat (hF h 3 3)) _) 78 0 (hF h 3 3 + 1)) rfl ?_ ?_ ?_ ?_
      · rw [av_u2_ne (by decide)]
        funext j
        unfold av_u2 av_u1
        by_cases e : j = (hF h 3 3).toNat
        · rw [if_pos ⟨rfl, e⟩, if_pos e]
        · rw [if_neg (fun z => e z.2), if_neg e]
      · rw [av_u2_self, c1]
      · intro j hj
        rw [av_u2_oth (by omega), av_u2_ne (by decide)]
      · intro a e1 e2
        rw [av_u2_ne e1, av_u2_ne e2]
    · have e1 := F2.1
      have e2 := F2.2.1
      have e3 := F1.1
      have e4 := F1.2.1
      have s12 := cc.2.2.1.1
      exact ⟨by show g2.1 ≤ _; omega, by show g2.2.1 ≤ _; omega⟩
theorem CC_uni {h : av_H} {v : Option Nat} {t c s t' c' s' : Nat} {f f' : Nat → Int} (x : CC h v t c s f) (y : CC h v t' c' s' f') : t = t' ∧ c = c' ∧ s = s' := by
  have e1 : t = t' := by
    have h1 := x.1
    rw [y.1] at h1
    cases h1
    rfl
  subst e1
  have e2 : c = c' := by
    have h1 := x.2.1.2.2.2.1
    rw [y.2.1.2.2.2.1] at h1
    cases h1
    rfl
  have e3 : s = s' := by
    have h1 := x.2.1.2.1
    rw [y.2.1.2.1] at h1
    omega
  exact ⟨rfl, e2, e3⟩
theorem cs_more {h : av_H} {A : Nat → Nat → Int} {i t c s : Nat} {f : Nat → Int} (r : Nat → Int) (x : CS h A 3 0 i) (y : CC h (hR h 4 i) t c s f) : A 81 i = (s : Int) ∧ ∀ j, j < s → RY (rwA A (12 * i + j)) (cpr h c s r) (j * 21) := by
  obtain ⟨t', c', s', f', x1, x2, x3⟩ := x
  obtain ⟨e1, e2, e3⟩ := CC_uni y x1
  subst e1
  subst e2
  subst e3
  rw [show 16 * 0 + i = i by omega] at x2
  refine ⟨x2, fun j hj => ?_⟩
  have y3 := x3 j hj
  rw [show 192 * 0 + 12 * i + j = 12 * i + j by omega] at y3
  refine ry_eq y3 (fun _ _ => rfl) (fun o ho => ?_)
  have e : cpr h c s r (j * 21 + o) = hA h c (j * 21 + o) := if_pos (by omega)
  rw [e, x1.2.1.2.2.2.2.2, ctn_o (by omega)]
theorem op_more {h : av_H} (B : BK h) (k n : Int) (qk : -2147483648 ≤ k ∧ k ≤ 2147483647) (qn : -2147483648 ≤ n ∧ n ≤ 2147483647) : av_wp none cd_96 0 [some (.inr (.inr (.inl (some (0))))), some (.inl k), some (.inl n), none, none] [] h (OPr cd_151 [some (.inr (.inr (.inl (some (77))))), some (.inl k), some (.inl n), none] h (fun x y => x = y)) := by
  refine gd_of (fun hg => ?_)
  have B0 := B
  obtain ⟨I, K, ⟨n0, a0, m0, M⟩, ⟨p1, p2, p3⟩, S, X⟩ := B
  have L := I.1
  have bv := kt_bv K
  have ql := K.2.1
  have qc := S.1.2.1
  have l : ∀ {q : Nat}, q < 122 → q < h.1 := fun hq => ly_lt hg L hq
  have hcs : ∀ i : Nat, i < 16 → (i : Int) < hF h 3 3 → ∃ t c s f, CC h (hR h 4 i) t c s f := fun i z1 z2 => by
    obtain ⟨t, c, s, f, x1, _⟩ := S.2.2.1 i z1 z2
    exact ⟨t, c, s, f, x1⟩
  refine ct_96 I K hcs k n qk qn (fun zA => ?_) (fun z1 z2 z3 z4 ot oc os of occ z5 h1 F1 K1 l1 w1 c1 r1 d1 => ?_) (fun z1 z2 z3 z4 ot oc os of occ z5 h1 t tc f F1 K1 l1 w1 c1 r1 cc fj d1 => ?_)
  · refine ⟨-2, rfl, ly_k L 77 rfl, ?_⟩
    by_cases hk : 0 ≤ k ∧ k < hF h 3 3
    · obtain ⟨ot, oc, os, of, occ⟩ := hcs k.toNat (by omega) (by omega)
      have cm := cs_more (hA h 23) (S.2.2.1 k.toNat (by omega) (by omega)) occ
      exact ct_151 L p1 bv p2 ql S.1.1.1.symm qc (im_bn M) (im_m81 M) (cpr h oc os (hA h 23)) k n qk qn (fun _ _ s hs j hj => cm.2 j (by omega)) (fun _ => ⟨-2, rfl, rfl, B0, RM_0 rfl rfl⟩) (fun _ _ _ _ => by exfalso; omega) (fun _ _ _ _ => by exfalso; omega)
    · exact ct_151 L p1 bv p2 ql S.1.1.1.symm qc (im_bn M) (im_m81 M) (hA h 23) k n qk qn (fun _ _ => by exfalso; omega) (fun _ => ⟨-2, rfl, rfl, B0, RM_0 rfl rfl⟩) (fun _ _ => by exfalso; omega) (fun _ _ => by exfalso; omega)
  · refine ⟨-1, rfl, ly_k (kt_L K1) 77 rfl, gd_of (fun hg1 => ?_)⟩
    have cm := cs_more (hA h 23) (S.2.2.1 k.toNat (by omega) (by omega)) occ
    have M1 := BM_read hg B0 (FQ_sh F1 c1 r1) K1
    have ea : ∀ a, a < 122 → a ≠ 23 → a ≠ 25 → hA h1 a = hA h a := fun a z1 z2 z3 => (F1.2.2 a (l z1)).2.2.1 (fun z => by unfold rdA2 at z; omega)
    have e17 : hF h1 77 17 = hF h 1 1 := ((F1.2.2 77 (l (by omega))).2.2.2.2 17 (fun z => by unfold rdF2 at z; omega)).trans p2
    obtain ⟨n1, a1, m1, M1b⟩ := M1.2.2.1
    have e81 : hA h1 81 k.toNat = (os : Int) := (congrFun (ea 81 (by omega) (by omega) (by omega)) _).trans cm.1
    have erw : ∀ i o, o < 19 → rwA (hA h1) i o = rwA (hA h) i o := fun i o ho => by
      have := vq_in o ho
      show hA h1 (vq o) _ = hA h (vq o) _
      rw [ea (vq o) (by omega) (by omega) (by omega)]
    refine ct_151 (kt_L K1) ((ea 94 (by omega) (by omega) (by omega)).trans p1) bv e17 ql ((congrFun (ea 78 (by omega) (by omega) (by omega)) 0).trans S.1.1.1.symm) qc (im_bn M1b) (im_m81 M1b) (cpr h oc os (hA h 23)) k n qk qn (fun _ _ s hs j hj => ry_eq (cm.2 j (by omega)) (fun o ho => erw _ o ho) (fun _ _ => rfl)) (fun _ => by exfalso; omega) (fun _ _ _ _ _ h2 N2 F2 B2 W2 => ⟨-1, rfl, rfl, ?_, ?_⟩) (fun _ _ _ _ y => by rw [e81, show ((os : Nat) : Int).toNat = os from rfl] at y; exact absurd y z5)
    · rw [e81, show ((os : Nat) : Int).toNat = os from rfl] at N2 W2
      exact BM_fault hg1 M1 N2 F2 B2 W2 (by omega) (fun z => by rw [e81]; omega) l1 w1
    · exact RM_0 (F2.1.trans F1.1) (F2.2.1.trans F1.2.1)
  · refine ⟨_, rfl, ly_k (kt_L K1) 77 rfl, gd_of (fun hg1 => ?_)⟩
    have cm := cs_more (hA h 23) (S.2.2.1 k.toNat (by omega) (by omega)) occ
    have ea : ∀ a, a < 122 → a ≠ 23 → a ≠ 25 → a ≠ 27 → hA h1 a = hA h a := fun a z1 z2 z3 z4 => (F1.2.2 a (l z1)).2.2.1 (fun z => by unfold moA at z; omega)
    have e17 : hF h1 77 17 = hF h 1 1 := ((F1.2.2 77 (l (by omega))).2.2.2.2 17 (fun z => by unfold rdF2 at z; omega)).trans p2
    have bn1 : BN (hA h1) := fun a z1 z2 j => by rw [ea a (by omega) (by omega) (by omega) (by omega)]; exact im_bn M a z1 z2 j
    have m81 : ∀ j, 0 ≤ hA h1 81 j ∧ hA h1 81 j ≤ 12 := fun j => by rw [ea 81 (by omega) (by omega) (by omega) (by omega)]; exact im_m81 M j
    have e81 : hA h1 81 k.toNat = (os : Int) := (congrFun (ea 81 (by omega) (by omega) (by omega) (by omega)) _).trans cm.1
    have erw : ∀ i o, o < 19 → rwA (hA h1) i o = rwA (hA h) i o := fun i o ho => by
      have := vq_in o ho
      show hA h1 (vq o) _ = hA h (vq o) _
      rw [ea (vq o) (by omega) (by omega) (by omega) (by omega)]
    refine ct_151 (kt_L K1) ((ea 94 (by omega) (by omega) (by omega) (by omega)).trans p1) bv e17 ql ((congrFun (ea 78 (by omega) (by omega) (by omega) (by omega)) 0).trans S.1.1.1.symm) qc bn1 m81 (cpr h oc os (hA h 23)) k n qk qn (fun _ _ s hs j hj => ry_eq (cm.2 j (by omega)) (fun o ho => erw _ o ho) (fun _ _ => rfl)) (fun _ => by exfalso; omega) (fun _ _ _ _ y => by rw [e81, show ((os : Nat) : Int).toNat = os from rfl] at y; exact absurd z5 y) (fun _ _ _ _ _ g2 N2 F2 B2 W2 Y2 => ?_)
    rw [e81, show ((os : Nat) : Int).toNat = os from rfl] at N2 W2 Y2 ⊢
    refine ⟨_, rfl, rfl, ?_, ?_⟩
    · refine BK_rok (c := k.toNat) hg hg1 B0 F1 K1 l1 w1 (by omega) (by rw [c1]; exact qc) (fun i hi => by rw [c1] at hi; omega) r1 cc N2 z5 F2 B2 W2 Y2 fj (A2 := av_u2 (hA g2) 81 (Int.toNat k) _) rfl ?_ ?_ ?_ ?_
      · funext j
        unfold av_u2 av_u1
        by_cases e : j = k.toNat
        · rw [if_pos ⟨rfl, e⟩, if_pos e]
        · rw [if_neg (fun z => e z.2), if_neg e]
      · rw [av_u2_ne (by decide), FR2_a W2 (a := 78) (by omega), ea 78 (by omega) (by omega) (by omega) (by omega), c1]
        exact S.1.1.1.symm
      · intro j hj
        rw [av_u2_ne (by decide)]
      · intro a e1 e2
        rw [av_u2_ne e2]
    · have e1 := F2.1
      have e2 := F2.2.1
      have e3 := F1.1
      have e4 := F1.2.1
      have s12 := cc.2.2.1.1
      exact ⟨by show g2.1 ≤ _; omega, by show g2.2.1 ≤ _; omega⟩
end
