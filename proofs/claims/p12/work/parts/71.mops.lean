/-! THE REFERENCE'S OPERATIONS -/
theorem rlf_ge {b : Nat → Int} {lim : Nat} : ∀ (f n : Nat) (t : TT) (d : Nat → Int), n ≤ (rlf b lim f n t d).1 := by
  intro f
  induction f with
  | zero => intro n t d; exact Nat.le_refl n
  | succ f ih =>
    intro n t d
    unfold rlf
    split
    · split
      · exact Nat.le_refl n
      · exact Nat.le_trans (Nat.le_succ n) (ih (n + 1) _ _)
    · exact Nat.le_refl n
theorem rlf_1 {b : Nat → Int} {lim : Nat} {t : TT} {d : Nat → Int} (h : t.2.2.2 = -1) (h2 : t.2.2.1 ≠ 0) : 1 ≤ (rlf b lim 21 0 t d).1 := by
  unfold rlf
  rw [if_pos ⟨h, h2⟩, if_neg (by decide)]
  exact rlf_ge 20 1 _ _
theorem rlf_e {b : Nat → Int} {lim f n : Nat} {t : TT} {d : Nat → Int} (h : t.2.2.2 ≠ -1 ∨ t.2.2.1 = 0) : rlf b lim f n t d = (n, t, d) := by
  cases f with
  | zero => rfl
  | succ f =>
    unfold rlf
    rw [if_neg (by omega)]
theorem rlA_0 {b : Nat → Int} {lim : Nat} {t : TT} {d : Nat → Int} : (rlA b lim 0 t d).2.1 = (rlf b lim 21 0 t (ufil d 0 14 (-2))).2.1 := by
  unfold rlA
  generalize rlf b lim 21 0 t (ufil d 0 14 (-2)) = x
  obtain ⟨n, t1, d1⟩ := x
  show (if (n : Int) < 0 then fal t1 else t1) = t1
  rw [if_neg (by omega)]
theorem FD_A {g h : av_H} (F : FD g h) {a : Nat} (e : rdA a = false) : hA h a = hA g a := F.2.2.2.2.2.2 a e

set_option maxRecDepth 100000 in
set_option maxHeartbeats 4000000 in
theorem ct_149x {h : av_H} (L : LY h) {cnt : Int} (hc : hA h 78 0 = cnt) (qc : 0 ≤ cnt ∧ cnt ≤ 16) (k : Int) (qk : -2147483648 ≤ k ∧ k ≤ 2147483647) {Q : Option av_V → av_H → Prop} (hq0 : (k < 0 ∨ cnt ≤ k) → Q (some (.inl 0)) h) (hq1 : 0 ≤ k → k < cnt → Q (some (.inl 1)) h) : av_wp none cd_149 0 [some (.inr (.inr (.inl (some (77))))), some (.inl k)] [] h Q := by
  refine av_wp_seq 1 (pc' := 1) (lv' := [some (.inr (.inr (.inl (some (77))))), some (.inl k)]) (st' := [.inl k]) (h' := h) rfl ?_
  refine wq_k1 (p' := 4) rfl rfl ⟨by omega, by omega⟩ (fun c1 => ?_) (fun c2 => ?_)
  · have c1 : k < (0) := c1
    refine av_wp_seq 1 (pc' := 19) (lv' := [some (.inr (.inr (.inl (some (77))))), some (.inl k)]) (st' := [.inl (0)]) (h' := h) rfl ?_
    refine av_wp_ret (v := some (.inl (0))) rfl rfl rfl ?_
    exact hq0 (by omega)
  · have c2 : (0) ≤ k := c2
    refine av_wp_seq 2 (pc' := 6) (lv' := [some (.inr (.inr (.inl (some (77))))), some (.inl k)]) (st' := [.inr (.inr (.inl (some (77)))), .inl k]) (h' := h) rfl ?_
    refine wq_gr (p' := 9) rfl rfl (congrArg Prod.fst (ly_k L 77 rfl)) rfl (ly_g L 77 0 78 rfl) ?_
    refine av_wp_seq 1 (pc' := 10) (lv' := [some (.inr (.inr (.inl (some (77))))), some (.inl k)]) (st' := [.inl (0), .inr (.inr (.inl (some (78)))), .inl k]) (h' := h) rfl ?_
    refine wq_al (p' := 11) (n := 5) rfl rfl (ly_k L 78 rfl) (by omega) (hc) ?_
    refine wq_k2 (p' := 14) rfl rfl ⟨by omega, by omega⟩ ⟨by omega, by omega⟩ (fun c3 => ?_) (fun c4 => ?_)
    · have c3 : cnt ≤ k := c3
      refine av_wp_seq 1 (pc' := 19) (lv' := [some (.inr (.inr (.inl (some (77))))), some (.inl k)]) (st' := [.inl (0)]) (h' := h) rfl ?_
      refine av_wp_ret (v := some (.inl (0))) rfl rfl rfl ?_
      exact hq0 (by omega)
    · have c4 : k < cnt := c4
      refine av_wp_seq 2 (pc' := 19) (lv' := [some (.inr (.inr (.inl (some (77))))), some (.inl k)]) (st' := [.inl (1)]) (h' := h) rfl ?_
      refine av_wp_ret (v := some (.inl (1))) rfl rfl rfl ?_
      exact hq1 (by omega) (by omega)

theorem rbf_12 {b : Nat → Int} {lim : Nat} {ah : Int} : ∀ (f k : Nat) (t : TT) (r : Nat → Int), k ≤ 12 → (rbf b lim ah f k t r).1 ≤ 12 := by
  intro f
  induction f with
  | zero => intro k t r hk; exact hk
  | succ f ih =>
    intro k t r hk
    unfold rbf
    split
    · split
      · exact hk
      · exact ih (k + 1) _ _ (by omega)
    · exact hk
theorem rbA_12 {b : Nat → Int} {lim : Nat} {ah : Int} {k : Nat} {t : TT} {r : Nat → Int} (hk : k ≤ 12) : (rbA b lim ah k t r).1 ≤ 12 := rbf_12 _ _ _ _ hk

set_option maxRecDepth 100000 in
set_option maxHeartbeats 4000000 in
theorem ct_148 {h : av_H} (L : LY h) {b : Nat → Int} (hb : hA h 94 = b) (bv : ∀ j, -128 ≤ b j ∧ b j ≤ 127) {len : Int} (hl : hF h 77 17 = len) (ql : 0 ≤ len ∧ len ≤ 900) {cnt : Int} (hc : hA h 78 0 = cnt) (qc : 0 ≤ cnt ∧ cnt ≤ 16) (B : BN (hA h)) (r : Nat → Int) (n : Int) (qn : -2147483648 ≤ n ∧ n ≤ 2147483647) {Q : Option av_V → av_H → Prop} (hqA : (n < 0 ∨ len < n) → Q (some (.inl (-2))) h) (hqB : 0 ≤ n → n ≤ len → cnt = 16 → Q (some (.inl (-3))) h) (hq0 : 0 ≤ n → n ≤ len → cnt < 16 → (rbA b n.toNat cnt 0 (adv b n.toNat (0, 0, 0, -1)) r).2.1.2.2.2 ≠ -1 → ∀ h', MT b n.toNat (rbA b n.toNat cnt 0 (adv b n.toNat (0, 0, 0, -1)) r).2.1 0 (hA h') h' → FD h h' → BN (hA h') → FR2 cnt.toNat 0 (hA h) (hA h') → Q (some (.inl (-1))) h') (hq1 : 0 ≤ n → n ≤ len → cnt < 16 → (rbA b n.toNat cnt 0 (adv b n.toNat (0, 0, 0, -1)) r).2.1.2.2.2 = -1 → ∀ h1, MT b n.toNat (rbA b n.toNat cnt 0 (adv b n.toNat (0, 0, 0, -1)) r).2.1 0 (hA h1) h1 → FD h h1 → BN (hA h1) → FR2 cnt.toNat 0 (hA h) (hA h1) → (∀ j, j < (rbA b n.toNat cnt 0 (adv b n.toNat (0, 0, 0, -1)) r).1 → RY (rwA (hA h1) (12 * cnt.toNat + j)) (rbA b n.toNat cnt 0 (adv b n.toNat (0, 0, 0, -1)) r).2.2 (j * 21)) → Q (some (.inl cnt)) (hwA (hwA h1 81 (Int.toNat cnt) ((rbA b n.toNat cnt 0 (adv b n.toNat (0, 0, 0, -1)) r).1 : Int)) 78 0 (cnt + 1))) : av_wp none cd_148 0 [some (.inr (.inr (.inl (some (77))))), some (.inl n), none] [] h Q := by
  refine av_wp_seq 1 (pc' := 1) (lv' := [some (.inr (.inr (.inl (some (77))))), some (.inl n), none]) (st' := [.inl n]) (h' := h) rfl ?_
  refine wq_k1 (p' := 4) rfl rfl ⟨by omega, by omega⟩ (fun c1 => ?_) (fun c2 => ?_)
  · have c1 : n < (0) := c1
    refine av_wp_seq 1 (pc' := 14) (lv' := [some (.inr (.inr (.inl (some (77))))), some (.inl n), none]) (st' := [.inl (-2)]) (h' := h) rfl ?_
    refine av_wp_ret (v := some (.inl (-2))) rfl rfl rfl ?_
    exact hqA (by omega)
  · have c2 : (0) ≤ n := c2
    refine av_wp_seq 2 (pc' := 6) (lv' := [some (.inr (.inr (.inl (some (77))))), some (.inl n), none]) (st' := [.inr (.inr (.inl (some (77)))), .inl n]) (h' := h) rfl ?_
    refine wq_gi (p' := 9) rfl rfl (congrArg Prod.fst (ly_k L 77 rfl)) rfl (hl) ?_
    refine wq_k2 (p' := 12) rfl rfl ⟨by omega, by omega⟩ ⟨by omega, by omega⟩ (fun c3 => ?_) (fun c4 => ?_)
    · have c3 : n ≤ len := c3
      refine av_wp_seq 1 (pc' := 16) (lv' := [some (.inr (.inr (.inl (some (77))))), some (.inl n), none]) (st' := [.inr (.inr (.inl (some (77))))]) (h' := h) rfl ?_
      refine wq_gr (p' := 19) rfl rfl (congrArg Prod.fst (ly_k L 77 rfl)) rfl (ly_g L 77 0 78 rfl) ?_
      refine av_wp_seq 1 (pc' := 20) (lv' := [some (.inr (.inr (.inl (some (77))))), some (.inl n), none]) (st' := [.inl (0), .inr (.inr (.inl (some (78))))]) (h' := h) rfl ?_
      refine wq_al (p' := 21) (n := 5) rfl rfl (ly_k L 78 rfl) (by omega) (hc) ?_
      refine av_wp_seq 1 (pc' := 23) (lv' := [some (.inr (.inr (.inl (some (77))))), some (.inl n), none]) (st' := [.inl (16), .inl cnt]) (h' := h) rfl ?_
      refine wq_k2 (p' := 26) rfl rfl ⟨by omega, by omega⟩ ⟨by omega, by omega⟩ (fun c5 => ?_) (fun c6 => ?_)
      · have c5 : cnt ≠ (16) := c5
        refine av_wp_seq 2 (pc' := 31) (lv' := [some (.inr (.inr (.inl (some (77))))), some (.inl n), none]) (st' := [.inl n, .inr (.inr (.inl (some (77))))]) (h' := h) rfl ?_
        refine wq_cv (p' := 34) (av_qc (.invokevirtual 293) 136 1 0 8) 2 cd_136 [.inl n] (77) 8 [some (.inr (.inr (.inl (some (77))))), some (.inl n)] rfl rfl rfl pp_136 rfl rfl rfl (congrArg Prod.fst (ly_k L 77 rfl)) rfl rfl rfl rfl ?_
        refine ct_136 L hb bv n n.toNat (by omega) (by omega) (fun h1 N1 F1 => ?_)
        have ea1 : hA h1 = hA h := ns_A N1.1
        show av_wp _ cd_148 34 [some (.inr (.inr (.inl (some (77))))), some (.inl n), none] [] h1 _
        refine av_wp_seq 2 (pc' := 36) (lv' := [some (.inr (.inr (.inl (some (77))))), some (.inl n), none]) (st' := [.inr (.inr (.inl (some (77)))), .inr (.inr (.inl (some (77))))]) (h' := h1) rfl ?_
        refine wq_gr (p' := 39) rfl rfl (congrArg Prod.fst (ly_k N1.1.1 77 rfl)) rfl (ly_g N1.1.1 77 0 78 rfl) ?_
        refine av_wp_seq 1 (pc' := 40) (lv' := [some (.inr (.inr (.inl (some (77))))), some (.inl n), none]) (st' := [.inl (0), .inr (.inr (.inl (some (78)))), .inr (.inr (.inl (some (77))))]) (h' := h1) rfl ?_
        refine wq_al (p' := 41) (n := 5) rfl rfl (ly_k N1.1.1 78 rfl) (by omega) (((congrFun (congrFun ea1 78) 0).trans hc)) ?_
        refine av_wp_seq 1 (pc' := 42) (lv' := [some (.inr (.inr (.inl (some (77))))), some (.inl n), none]) (st' := [.inl (0), .inl cnt, .inr (.inr (.inl (some (77))))]) (h' := h1) rfl ?_
        refine wq_cv (p' := 45) (av_qc (.invokevirtual 296) 147 2 0 8) 4 cd_147 [.inl (0), .inl cnt] (77) 8 [some (.inr (.inr (.inl (some (77))))), some (.inl cnt), some (.inl (0)), none] rfl rfl rfl pp_147 rfl rfl rfl (congrArg Prod.fst (ly_k N1.1.1 77 rfl)) rfl rfl rfl rfl ?_
        refine ct_147 (by rw [ea1]; exact N1 : MT b n.toNat (adv b n.toNat (0, 0, 0, -1)) 0 (hA h1) h1) F1 (by rw [ea1]; exact B) cnt.toNat 0 (by omega) (by omega) rfl (cnt) ((0)) (by omega) (by omega) (r := r) (fun j hj => by omega) (fun v h2 N2 F2 B2 W2 Y2 Y3 => ?_)
        rw [ea1] at W2
        rw [show ((cnt.toNat : Nat) : Int) = cnt by omega] at N2 Y2 Y3
        have qv : ((rbA b n.toNat cnt 0 (adv b n.toNat (0, 0, 0, -1)) r).2.1.2.2.2 = -1 ∧ v = ((rbA b n.toNat cnt 0 (adv b n.toNat (0, 0, 0, -1)) r).1 : Int)) ∨ ((rbA b n.toNat cnt 0 (adv b n.toNat (0, 0, 0, -1)) r).2.1.2.2.2 ≠ -1 ∧ v = -1) := by
          by_cases z : (rbA b n.toNat cnt 0 (adv b n.toNat (0, 0, 0, -1)) r).2.1.2.2.2 = -1
          · exact Or.inl ⟨z, (Y2 z).1⟩
          · exact Or.inr ⟨z, Y3 z⟩
        have q12 : (rbA b n.toNat cnt 0 (adv b n.toNat (0, 0, 0, -1)) r).1 ≤ 12 := rbA_12 (by omega)
        show av_wp _ cd_148 45 [some (.inr (.inr (.inl (some (77))))), some (.inl n), none] [.inl v] h2 _
        refine av_wp_seq 2 (pc' := 47) (lv' := [some (.inr (.inr (.inl (some (77))))), some (.inl n), some (.inl v)]) (st' := [.inl v]) (h' := h2) rfl ?_
        refine wq_k1 (p' := 50) rfl rfl ⟨by omega, by omega⟩ (fun c7 => ?_) (fun c8 => ?_)
        · have c7 : (0) ≤ v := c7
          refine av_wp_seq 1 (pc' := 53) (lv' := [some (.inr (.inr (.inl (some (77))))), some (.inl n), some (.inl v)]) (st' := [.inr (.inr (.inl (some (77))))]) (h' := h2) rfl ?_
          refine wq_gr (p' := 56) rfl rfl (congrArg Prod.fst (ly_k N2.1.1 77 rfl)) rfl (ly_g N2.1.1 77 3 81 rfl) ?_
          refine av_wp_seq 1 (pc' := 57) (lv' := [some (.inr (.inr (.inl (some (77))))), some (.inl n), some (.inl v)]) (st' := [.inr (.inr (.inl (some (77)))), .inr (.inr (.inl (some (81))))]) (h' := h2) rfl ?_
          refine wq_gr (p' := 60) rfl rfl (congrArg Prod.fst (ly_k N2.1.1 77 rfl)) rfl (ly_g N2.1.1 77 0 78 rfl) ?_
          refine av_wp_seq 1 (pc' := 61) (lv' := [some (.inr (.inr (.inl (some (77))))), some (.inl n), some (.inl v)]) (st' := [.inl (0), .inr (.inr (.inl (some (78)))), .inr (.inr (.inl (some (81))))]) (h' := h2) rfl ?_
          refine wq_al (p' := 62) (n := 5) rfl rfl (ly_k N2.1.1 78 rfl) (by omega) (((congrFun (FD_A F2 (a := 78) rfl) 0).trans hc)) ?_
          refine av_wp_seq 1 (pc' := 63) (lv' := [some (.inr (.inr (.inl (some (77))))), some (.inl n), some (.inl v)]) (st' := [.inl v, .inl cnt, .inr (.inr (.inl (some (81))))]) (h' := h2) rfl ?_
          refine wq_as (p' := 64) (n := 80) rfl rfl (ly_k N2.1.1 81 rfl) (by omega) ?_
          refine av_wp_seq 1 (pc' := 65) (lv' := [some (.inr (.inr (.inl (some (77))))), some (.inl n), some (.inl v)]) (st' := [.inr (.inr (.inl (some (77))))]) (h' := (hwA h2 81 (Int.toNat (cnt)) v)) rfl ?_
          refine wq_gr (p' := 68) rfl rfl (congrArg Prod.fst (ly_k N2.1.1 77 rfl)) rfl (ly_g N2.1.1 77 0 78 rfl) ?_
          refine av_wp_seq 2 (pc' := 70) (lv' := [some (.inr (.inr (.inl (some (77))))), some (.inl n), some (.inl v)]) (st' := [.inl (0), .inr (.inr (.inl (some (78)))), .inl (0), .inr (.inr (.inl (some (78))))]) (h' := (hwA h2 81 (Int.toNat (cnt)) v)) rfl ?_
          refine wq_al (p' := 71) (n := 5) rfl rfl (ly_k N2.1.1 78 rfl) (by omega) (((congrFun (FD_A F2 (a := 78) rfl) 0).trans hc)) ?_
          refine av_wp_seq 2 (pc' := 73) (lv' := [some (.inr (.inr (.inl (some (77))))), some (.inl n), some (.inl v)]) (st' := [.inl (cnt + (1)), .inl (0), .inr (.inr (.inl (some (78))))]) (h' := (hwA h2 81 (Int.toNat (cnt)) v)) rfl ?_
          refine wq_as (p' := 74) (n := 5) rfl rfl (ly_k N2.1.1 78 rfl) (by omega) ?_
          refine av_wp_seq 1 (pc' := 75) (lv' := [some (.inr (.inr (.inl (some (77))))), some (.inl n), some (.inl v)]) (st' := [.inr (.inr (.inl (some (77))))]) (h' := (hwA (hwA h2 81 (Int.toNat (cnt)) v) 78 (Int.toNat ((0))) (cnt + (1)))) rfl ?_
          refine wq_gr (p' := 78) rfl rfl (congrArg Prod.fst (ly_k N2.1.1 77 rfl)) rfl (ly_g N2.1.1 77 0 78 rfl) ?_
          refine av_wp_seq 1 (pc' := 79) (lv' := [some (.inr (.inr (.inl (some (77))))), some (.inl n), some (.inl v)]) (st' := [.inl (0), .inr (.inr (.inl (some (78))))]) (h' := (hwA (hwA h2 81 (Int.toNat (cnt)) v) 78 (Int.toNat ((0))) (cnt + (1)))) rfl ?_
          refine wq_al (p' := 80) (n := 5) rfl rfl (ly_k N2.1.1 78 rfl) (by omega) (rfl) ?_
          refine av_wp_seq 2 (pc' := 82) (lv' := [some (.inr (.inr (.inl (some (77))))), some (.inl n), some (.inl v)]) (st' := [.inl ((cnt + (1)) - (1))]) (h' := (hwA (hwA h2 81 (Int.toNat (cnt)) v) 78 (Int.toNat ((0))) (cnt + (1)))) rfl ?_
          refine av_wp_ret (v := some (.inl ((cnt + (1)) - (1)))) rfl rfl rfl ?_
          have z : (rbA b n.toNat cnt 0 (adv b n.toNat (0, 0, 0, -1)) r).2.1.2.2.2 = -1 := by omega
          have e1 := (Y2 z).1
          subst e1
          rw [show cnt + 1 - 1 = cnt by omega]
          exact hq1 (by omega) (by omega) (by omega) z h2 N2 F2 B2 W2 (Y2 z).2
        · have c8 : v < (0) := c8
          refine av_wp_seq 1 (pc' := 51) (lv' := [some (.inr (.inr (.inl (some (77))))), some (.inl n), some (.inl v)]) (st' := [.inl (-1)]) (h' := h2) rfl ?_
          refine av_wp_ret (v := some (.inl (-1))) rfl rfl rfl ?_
          exact hq0 (by omega) (by omega) (by omega) (by omega) h2 N2 F2 B2 W2
      · have c6 : cnt = (16) := c6
        refine av_wp_seq 1 (pc' := 28) (lv' := [some (.inr (.inr (.inl (some (77))))), some (.inl n), none]) (st' := [.inl (-3)]) (h' := h) rfl ?_
        refine av_wp_ret (v := some (.inl (-3))) rfl rfl rfl ?_
        exact hqB (by omega) (by omega) (by omega)
    · have c4 : len < n := c4
      refine av_wp_seq 1 (pc' := 14) (lv' := [some (.inr (.inr (.inl (some (77))))), some (.inl n), none]) (st' := [.inl (-2)]) (h' := h) rfl ?_
      refine av_wp_ret (v := some (.inl (-2))) rfl rfl rfl ?_
      exact hqA (by omega)

set_option maxRecDepth 100000 in
set_option maxHeartbeats 4000000 in
theorem ct_151 {h : av_H} (L : LY h) {b : Nat → Int} (hb : hA h 94 = b) (bv : ∀ j, -128 ≤ b j ∧ b j ≤ 127) {len : Int} (hl : hF h 77 17 = len) (ql : 0 ≤ len ∧ len ≤ 900) {cnt : Int} (hc : hA h 78 0 = cnt) (qc : 0 ≤ cnt ∧ cnt ≤ 16) (B : BN (hA h)) (hsv : ∀ j, 0 ≤ hA h 81 j ∧ hA h 81 j ≤ 12) (r : Nat → Int) (k n : Int) (qk : -2147483648 ≤ k ∧ k ≤ 2147483647) (qn : -2147483648 ≤ n ∧ n ≤ 2147483647) (rel : 0 ≤ k → k < cnt → ∀ s, hA h 81 k.toNat = s → ∀ j, j < s.toNat → RY (rwA (hA h) (12 * k.toNat + j)) r (j * 21)) {Q : Option av_V → av_H → Prop} (hqA : (k < 0 ∨ cnt ≤ k ∨ n < 0 ∨ len < n) → Q (some (.inl (-2))) h) (hq0 : 0 ≤ k → k < cnt → 0 ≤ n → n ≤ len → (rbA b n.toNat k (hA h 81 k.toNat).toNat (adv b n.toNat (0, 0, 0, -1)) r).2.1.2.2.2 ≠ -1 → ∀ h', MT b n.toNat (rbA b n.toNat k (hA h 81 k.toNat).toNat (adv b n.toNat (0, 0, 0, -1)) r).2.1 0 (hA h') h' → FD h h' → BN (hA h') → FR2 k.toNat (hA h 81 k.toNat).toNat (hA h) (hA h') → Q (some (.inl (-1))) h') (hq1 : 0 ≤ k → k < cnt → 0 ≤ n → n ≤ len → (rbA b n.toNat k (hA h 81 k.toNat).toNat (adv b n.toNat (0, 0, 0, -1)) r).2.1.2.2.2 = -1 → ∀ h1, MT b n.toNat (rbA b n.toNat k (hA h 81 k.toNat).toNat (adv b n.toNat (0, 0, 0, -1)) r).2.1 0 (hA h1) h1 → FD h h1 → BN (hA h1) → FR2 k.toNat (hA h 81 k.toNat).toNat (hA h) (hA h1) → (∀ j, j < (rbA b n.toNat k (hA h 81 k.toNat).toNat (adv b n.toNat (0, 0, 0, -1)) r).1 → RY (rwA (hA h1) (12 * k.toNat + j)) (rbA b n.toNat k (hA h 81 k.toNat).toNat (adv b n.toNat (0, 0, 0, -1)) r).2.2 (j * 21)) → Q (some (.inl ((rbA b n.toNat k (hA h 81 k.toNat).toNat (adv b n.toNat (0, 0, 0, -1)) r).1 : Int))) (hwA h1 81 (Int.toNat k) ((rbA b n.toNat k (hA h 81 k.toNat).toNat (adv b n.toNat (0, 0, 0, -1)) r).1 : Int))) : av_wp none cd_151 0 [some (.inr (.inr (.inl (some (77))))), some (.inl k), some (.inl n), none] [] h Q := by
  refine av_wp_seq 2 (pc' := 2) (lv' := [some (.inr (.inr (.inl (some (77))))), some (.inl k), some (.inl n), none]) (st' := [.inl k, .inr (.inr (.inl (some (77))))]) (h' := h) rfl ?_
  refine wq_cv (p' := 5) (av_qc (.invokevirtual 299) 149 1 0 8) 2 cd_149 [.inl k] (77) 8 [some (.inr (.inr (.inl (some (77))))), some (.inl k)] rfl rfl rfl pp_149 rfl rfl rfl (congrArg Prod.fst (ly_k L 77 rfl)) rfl rfl rfl rfl ?_
  refine ct_149x L hc qc k (by omega) (fun z0 => ?_) (fun z1 z2 => ?_)
  · show av_wp _ cd_151 5 [some (.inr (.inr (.inl (some (77))))), some (.inl k), some (.inl n), none] [.inl (0)] h _
    refine av_wp_seq 2 (pc' := 22) (lv' := [some (.inr (.inr (.inl (some (77))))), some (.inl k), some (.inl n), none]) (st' := [.inl (-2)]) (h' := h) rfl ?_
    refine av_wp_ret (v := some (.inl (-2))) rfl rfl rfl ?_
    exact hqA (by omega)
  · obtain ⟨s, hs⟩ : ∃ v, hA h 81 k.toNat = v := ⟨_, rfl⟩
    have qs := hsv k.toNat
    rw [hs] at qs hq0 hq1
    have rel := rel (by omega) (by omega) s hs
    show av_wp _ cd_151 5 [some (.inr (.inr (.inl (some (77))))), some (.inl k), some (.inl n), none] [.inl (1)] h _
    refine av_wp_seq 2 (pc' := 9) (lv' := [some (.inr (.inr (.inl (some (77))))), some (.inl k), some (.inl n), none]) (st' := [.inl n]) (h' := h) rfl ?_
    refine wq_k1 (p' := 12) rfl rfl ⟨by omega, by omega⟩ (fun c1 => ?_) (fun c2 => ?_)
    · have c1 : n < (0) := c1
      refine av_wp_seq 1 (pc' := 22) (lv' := [some (.inr (.inr (.inl (some (77))))), some (.inl k), some (.inl n), none]) (st' := [.inl (-2)]) (h' := h) rfl ?_
      refine av_wp_ret (v := some (.inl (-2))) rfl rfl rfl ?_
      exact hqA (by omega)
    · have c2 : (0) ≤ n := c2
      refine av_wp_seq 2 (pc' := 14) (lv' := [some (.inr (.inr (.inl (some (77))))), some (.inl k), some (.inl n), none]) (st' := [.inr (.inr (.inl (some (77)))), .inl n]) (h' := h) rfl ?_
      refine wq_gi (p' := 17) rfl rfl (congrArg Prod.fst (ly_k L 77 rfl)) rfl (hl) ?_
      refine wq_k2 (p' := 20) rfl rfl ⟨by omega, by omega⟩ ⟨by omega, by omega⟩ (fun c3 => ?_) (fun c4 => ?_)
      · have c3 : n ≤ len := c3
        refine av_wp_seq 2 (pc' := 25) (lv' := [some (.inr (.inr (.inl (some (77))))), some (.inl k), some (.inl n), none]) (st' := [.inl n, .inr (.inr (.inl (some (77))))]) (h' := h) rfl ?_
        refine wq_cv (p' := 28) (av_qc (.invokevirtual 293) 136 1 0 8) 2 cd_136 [.inl n] (77) 8 [some (.inr (.inr (.inl (some (77))))), some (.inl n)] rfl rfl rfl pp_136 rfl rfl rfl (congrArg Prod.fst (ly_k L 77 rfl)) rfl rfl rfl rfl ?_
        refine ct_136 L hb bv n n.toNat (by omega) (by omega) (fun h1 N1 F1 => ?_)
        have ea1 : hA h1 = hA h := ns_A N1.1
        show av_wp _ cd_151 28 [some (.inr (.inr (.inl (some (77))))), some (.inl k), some (.inl n), none] [] h1 _
        refine av_wp_seq 3 (pc' := 31) (lv' := [some (.inr (.inr (.inl (some (77))))), some (.inl k), some (.inl n), none]) (st' := [.inr (.inr (.inl (some (77)))), .inl k, .inr (.inr (.inl (some (77))))]) (h' := h1) rfl ?_
        refine wq_gr (p' := 34) rfl rfl (congrArg Prod.fst (ly_k N1.1.1 77 rfl)) rfl (ly_g N1.1.1 77 3 81 rfl) ?_
        refine av_wp_seq 1 (pc' := 35) (lv' := [some (.inr (.inr (.inl (some (77))))), some (.inl k), some (.inl n), none]) (st' := [.inl k, .inr (.inr (.inl (some (81)))), .inl k, .inr (.inr (.inl (some (77))))]) (h' := h1) rfl ?_
        refine wq_al (p' := 36) (n := 80) rfl rfl (ly_k N1.1.1 81 rfl) (by omega) (((congrFun (congrFun ea1 81) _).trans hs)) ?_
        refine wq_cv (p' := 39) (av_qc (.invokevirtual 296) 147 2 0 8) 4 cd_147 [.inl s, .inl k] (77) 8 [some (.inr (.inr (.inl (some (77))))), some (.inl k), some (.inl s), none] rfl rfl rfl pp_147 rfl rfl rfl (congrArg Prod.fst (ly_k N1.1.1 77 rfl)) rfl rfl rfl rfl ?_
        refine ct_147 (by rw [ea1]; exact N1 : MT b n.toNat (adv b n.toNat (0, 0, 0, -1)) 0 (hA h1) h1) F1 (by rw [ea1]; exact B) k.toNat s.toNat (by omega) (by omega) rfl (k) (s) (by omega) (by omega) (r := r) (fun j hj => by rw [ea1]; exact rel j hj) (fun v h2 N2 F2 B2 W2 Y2 Y3 => ?_)
        rw [ea1] at W2
        rw [show ((k.toNat : Nat) : Int) = k by omega] at N2 Y2 Y3
        have qv : ((rbA b n.toNat k s.toNat (adv b n.toNat (0, 0, 0, -1)) r).2.1.2.2.2 = -1 ∧ v = ((rbA b n.toNat k s.toNat (adv b n.toNat (0, 0, 0, -1)) r).1 : Int)) ∨ ((rbA b n.toNat k s.toNat (adv b n.toNat (0, 0, 0, -1)) r).2.1.2.2.2 ≠ -1 ∧ v = -1) := by
          by_cases z : (rbA b n.toNat k s.toNat (adv b n.toNat (0, 0, 0, -1)) r).2.1.2.2.2 = -1
          · exact Or.inl ⟨z, (Y2 z).1⟩
          · exact Or.inr ⟨z, Y3 z⟩
        have q12 : (rbA b n.toNat k s.toNat (adv b n.toNat (0, 0, 0, -1)) r).1 ≤ 12 := rbA_12 (by omega)
        show av_wp _ cd_151 39 [some (.inr (.inr (.inl (some (77))))), some (.inl k), some (.inl n), none] [.inl v] h2 _
        refine av_wp_seq 2 (pc' := 41) (lv' := [some (.inr (.inr (.inl (some (77))))), some (.inl k), some (.inl n), some (.inl v)]) (st' := [.inl v]) (h' := h2) rfl ?_
        refine wq_k1 (p' := 44) rfl rfl ⟨by omega, by omega⟩ (fun c5 => ?_) (fun c6 => ?_)
        · have c5 : (0) ≤ v := c5
          refine av_wp_seq 1 (pc' := 47) (lv' := [some (.inr (.inr (.inl (some (77))))), some (.inl k), some (.inl n), some (.inl v)]) (st' := [.inr (.inr (.inl (some (77))))]) (h' := h2) rfl ?_
          refine wq_gr (p' := 50) rfl rfl (congrArg Prod.fst (ly_k N2.1.1 77 rfl)) rfl (ly_g N2.1.1 77 3 81 rfl) ?_
          refine av_wp_seq 2 (pc' := 52) (lv' := [some (.inr (.inr (.inl (some (77))))), some (.inl k), some (.inl n), some (.inl v)]) (st' := [.inl v, .inl k, .inr (.inr (.inl (some (81))))]) (h' := h2) rfl ?_
          refine wq_as (p' := 53) (n := 80) rfl rfl (ly_k N2.1.1 81 rfl) (by omega) ?_
          refine av_wp_seq 1 (pc' := 54) (lv' := [some (.inr (.inr (.inl (some (77))))), some (.inl k), some (.inl n), some (.inl v)]) (st' := [.inl v]) (h' := (hwA h2 81 (Int.toNat (k)) v)) rfl ?_
          refine av_wp_ret (v := some (.inl v)) rfl rfl rfl ?_
          have z : (rbA b n.toNat k s.toNat (adv b n.toNat (0, 0, 0, -1)) r).2.1.2.2.2 = -1 := by omega
          have e1 := (Y2 z).1
          subst e1
          exact hq1 (by omega) (by omega) (by omega) (by omega) z h2 N2 F2 B2 W2 (Y2 z).2
        · have c6 : v < (0) := c6
          refine av_wp_seq 1 (pc' := 45) (lv' := [some (.inr (.inr (.inl (some (77))))), some (.inl k), some (.inl n), some (.inl v)]) (st' := [.inl (-1)]) (h' := h2) rfl ?_
          refine av_wp_ret (v := some (.inl (-1))) rfl rfl rfl ?_
          exact hq0 (by omega) (by omega) (by omega) (by omega) (by omega) h2 N2 F2 B2 W2
      · have c4 : len < n := c4
        refine av_wp_seq 1 (pc' := 22) (lv' := [some (.inr (.inr (.inl (some (77))))), some (.inl k), some (.inl n), none]) (st' := [.inl (-2)]) (h' := h) rfl ?_
        refine av_wp_ret (v := some (.inl (-2))) rfl rfl rfl ?_
        exact hqA (by omega)

set_option maxRecDepth 100000 in
set_option maxHeartbeats 4000000 in
theorem ct_156 {h : av_H} (L : LY h) {b : Nat → Int} (hb : hA h 94 = b) (bv : ∀ j, -128 ≤ b j ∧ b j ≤ 127) {len : Int} (hl : hF h 77 17 = len) (ql : 0 ≤ len ∧ len ≤ 900) {l : Int} (hc : hA h 79 0 = l) (qc : 0 ≤ l ∧ l ≤ 8) (d : Nat → Int) (n : Int) (qn : -2147483648 ≤ n ∧ n ≤ 2147483647) {Q : Option av_V → av_H → Prop} (hqA : (n < 0 ∨ len < n) → Q (some (.inl (-2))) h) (hqB : 0 ≤ n → n ≤ len → l = 8 → Q (some (.inl (-3))) h) (hq0 : 0 ≤ n → n ≤ len → l < 8 → (rlA b n.toNat 0 (adv b n.toNat (0, 0, 0, -1)) d).2.1.2.2.2 ≠ -1 → ∀ h', MT b n.toNat (rlA b n.toNat 0 (adv b n.toNat (0, 0, 0, -1)) d).2.1 0 (hA h') h' → FD h h' → (∀ a j, ¬ (a = 93 ∧ 14 * l.toNat ≤ j ∧ j < 14 * l.toNat + 14) → hA h' a j = hA h a j) → Q (some (.inl (-1))) h') (hq1 : 0 ≤ n → n ≤ len → l < 8 → (rlA b n.toNat 0 (adv b n.toNat (0, 0, 0, -1)) d).2.1.2.2.2 = -1 → ∀ h1, MT b n.toNat (rlA b n.toNat 0 (adv b n.toNat (0, 0, 0, -1)) d).2.1 0 (hA h1) h1 → FD h h1 → (∀ a j, ¬ (a = 93 ∧ 14 * l.toNat ≤ j ∧ j < 14 * l.toNat + 14) → hA h1 a j = hA h a j) → (∀ o, o < 14 → hA h1 93 (14 * l.toNat + o) = (rlA b n.toNat 0 (adv b n.toNat (0, 0, 0, -1)) d).2.2 o) → Q (some (.inl l)) (hwA h1 79 0 (l + 1))) : av_wp none cd_156 0 [some (.inr (.inr (.inl (some (77))))), some (.inl n)] [] h Q := by
  refine av_wp_seq 1 (pc' := 1) (lv' := [some (.inr (.inr (.inl (some (77))))), some (.inl n)]) (st' := [.inl n]) (h' := h) rfl ?_
  refine wq_k1 (p' := 4) rfl rfl ⟨by omega, by omega⟩ (fun c1 => ?_) (fun c2 => ?_)
  · have c1 : n < (0) := c1
    refine av_wp_seq 1 (pc' := 14) (lv' := [some (.inr (.inr (.inl (some (77))))), some (.inl n)]) (st' := [.inl (-2)]) (h' := h) rfl ?_
    refine av_wp_ret (v := some (.inl (-2))) rfl rfl rfl ?_
    exact hqA (by omega)
  · have c2 : (0) ≤ n := c2
    refine av_wp_seq 2 (pc' := 6) (lv' := [some (.inr (.inr (.inl (some (77))))), some (.inl n)]) (st' := [.inr (.inr (.inl (some (77)))), .inl n]) (h' := h) rfl ?_
    refine wq_gi (p' := 9) rfl rfl (congrArg Prod.fst (ly_k L 77 rfl)) rfl (hl) ?_
    refine wq_k2 (p' := 12) rfl rfl ⟨by omega, by omega⟩ ⟨by omega, by omega⟩ (fun c3 => ?_) (fun c4 => ?_)
    · have c3 : n ≤ len := c3
      refine av_wp_seq 1 (pc' := 16) (lv' := [some (.inr (.inr (.inl (some (77))))), some (.inl n)]) (st' := [.inr (.inr (.inl (some (77))))]) (h' := h) rfl ?_
      refine wq_gr (p' := 19) rfl rfl (congrArg Prod.fst (ly_k L 77 rfl)) rfl (ly_g L 77 1 79 rfl) ?_
      refine av_wp_seq 1 (pc' := 20) (lv' := [some (.inr (.inr (.inl (some (77))))), some (.inl n)]) (st' := [.inl (0), .inr (.inr (.inl (some (79))))]) (h' := h) rfl ?_
      refine wq_al (p' := 21) (n := 5) rfl rfl (ly_k L 79 rfl) (by omega) (hc) ?_
      refine av_wp_seq 1 (pc' := 23) (lv' := [some (.inr (.inr (.inl (some (77))))), some (.inl n)]) (st' := [.inl (8), .inl l]) (h' := h) rfl ?_
      refine wq_k2 (p' := 26) rfl rfl ⟨by omega, by omega⟩ ⟨by omega, by omega⟩ (fun c5 => ?_) (fun c6 => ?_)
      · have c5 : l ≠ (8) := c5
        refine av_wp_seq 2 (pc' := 31) (lv' := [some (.inr (.inr (.inl (some (77))))), some (.inl n)]) (st' := [.inl n, .inr (.inr (.inl (some (77))))]) (h' := h) rfl ?_
        refine wq_cv (p' := 34) (av_qc (.invokevirtual 293) 136 1 0 8) 2 cd_136 [.inl n] (77) 8 [some (.inr (.inr (.inl (some (77))))), some (.inl n)] rfl rfl rfl pp_136 rfl rfl rfl (congrArg Prod.fst (ly_k L 77 rfl)) rfl rfl rfl rfl ?_
        refine ct_136 L hb bv n n.toNat (by omega) (by omega) (fun h1 N1 F1 => ?_)
        have ea1 : hA h1 = hA h := ns_A N1.1
        show av_wp _ cd_156 34 [some (.inr (.inr (.inl (some (77))))), some (.inl n)] [] h1 _
        refine av_wp_seq 3 (pc' := 38) (lv' := [some (.inr (.inr (.inl (some (77))))), some (.inl n)]) (st' := [.inr (.inr (.inl (some (77)))), .inl (14), .inr (.inr (.inl (some (77))))]) (h' := h1) rfl ?_
        refine wq_gr (p' := 41) rfl rfl (congrArg Prod.fst (ly_k N1.1.1 77 rfl)) rfl (ly_g N1.1.1 77 1 79 rfl) ?_
        refine av_wp_seq 1 (pc' := 42) (lv' := [some (.inr (.inr (.inl (some (77))))), some (.inl n)]) (st' := [.inl (0), .inr (.inr (.inl (some (79)))), .inl (14), .inr (.inr (.inl (some (77))))]) (h' := h1) rfl ?_
        refine wq_al (p' := 43) (n := 5) rfl rfl (ly_k N1.1.1 79 rfl) (by omega) (((congrFun (congrFun ea1 79) 0).trans hc)) ?_
        refine av_wp_seq 1 (pc' := 44) (lv' := [some (.inr (.inr (.inl (some (77))))), some (.inl n)]) (st' := [.inl ((14) * l), .inr (.inr (.inl (some (77))))]) (h' := h1) rfl ?_
        refine wq_cv (p' := 47) (av_qc (.invokevirtual 342) 155 1 0 8) 3 cd_155 [.inl ((14) * l)] (77) 8 [some (.inr (.inr (.inl (some (77))))), some (.inl ((14) * l)), none] rfl rfl rfl pp_155 rfl rfl rfl (congrArg Prod.fst (ly_k N1.1.1 77 rfl)) rfl rfl rfl rfl ?_
        have m0 := ml_0 (at0 := 14 * l.toNat) (by rw [ea1]; exact N1 : MT b n.toNat (adv b n.toNat (0, 0, 0, -1)) 0 (hA h1) h1)
        refine ct_155 m0 F1 (by omega) d (((14) * l)) (by omega) (fun v h2 R2 M2 F2 X2 P2 V2 => ?_)
        have hX : (rlA b n.toNat 0 (adv b n.toNat (0, 0, 0, -1)) d).2.1 = (rlf b n.toNat 21 0 (adv b n.toNat (0, 0, 0, -1)) (ufil d 0 14 (-2))).2.1 ∧ (rlA b n.toNat 0 (adv b n.toNat (0, 0, 0, -1)) d).2.2 = av_u1 (rlf b n.toNat 21 0 (adv b n.toNat (0, 0, 0, -1)) (ufil d 0 14 (-2))).2.2 13 ((rlf b n.toNat 21 0 (adv b n.toNat (0, 0, 0, -1)) (ufil d 0 14 (-2))).1 : Int) := by
          exact ⟨rlA_0, rfl⟩
        rw [← hX.1] at M2 X2 P2 V2
        have qv : ((rlA b n.toNat 0 (adv b n.toNat (0, 0, 0, -1)) d).2.1.2.2.2 = -1 ∧ v = 1) ∨ ((rlA b n.toNat 0 (adv b n.toNat (0, 0, 0, -1)) d).2.1.2.2.2 ≠ -1 ∧ v = 0) := by omega
        have W2 : ∀ a j, ¬ (a = 93 ∧ 14 * l.toNat ≤ j ∧ j < 14 * l.toNat + 14) → hA h2 a j = hA h a j := fun a j hj => by rw [← ea1]; exact M2.2.2 a j hj
        show av_wp _ cd_156 47 [some (.inr (.inr (.inl (some (77))))), some (.inl n)] [.inl v] h2 _
        refine wq_k1 (p' := 50) rfl rfl ⟨by omega, by omega⟩ (fun c7 => ?_) (fun c8 => ?_)
        · have c7 : v ≠ (0) := c7
          refine av_wp_seq 1 (pc' := 53) (lv' := [some (.inr (.inr (.inl (some (77))))), some (.inl n)]) (st' := [.inr (.inr (.inl (some (77))))]) (h' := h2) rfl ?_
          refine wq_gr (p' := 56) rfl rfl (congrArg Prod.fst (ly_k M2.1.1.1 77 rfl)) rfl (ly_g M2.1.1.1 77 1 79 rfl) ?_
          refine av_wp_seq 2 (pc' := 58) (lv' := [some (.inr (.inr (.inl (some (77))))), some (.inl n)]) (st' := [.inl (0), .inr (.inr (.inl (some (79)))), .inl (0), .inr (.inr (.inl (some (79))))]) (h' := h2) rfl ?_
          refine wq_al (p' := 59) (n := 5) rfl rfl (ly_k M2.1.1.1 79 rfl) (by omega) (((congrFun (FD_A F2 (a := 79) rfl) 0).trans hc)) ?_
          refine av_wp_seq 2 (pc' := 61) (lv' := [some (.inr (.inr (.inl (some (77))))), some (.inl n)]) (st' := [.inl (l + (1)), .inl (0), .inr (.inr (.inl (some (79))))]) (h' := h2) rfl ?_
          refine wq_as (p' := 62) (n := 5) rfl rfl (ly_k M2.1.1.1 79 rfl) (by omega) ?_
          refine av_wp_seq 1 (pc' := 63) (lv' := [some (.inr (.inr (.inl (some (77))))), some (.inl n)]) (st' := [.inr (.inr (.inl (some (77))))]) (h' := (hwA h2 79 (Int.toNat ((0))) (l + (1)))) rfl ?_
          refine wq_gr (p' := 66) rfl rfl (congrArg Prod.fst (ly_k M2.1.1.1 77 rfl)) rfl (ly_g M2.1.1.1 77 1 79 rfl) ?_
          refine av_wp_seq 1 (pc' := 67) (lv' := [some (.inr (.inr (.inl (some (77))))), some (.inl n)]) (st' := [.inl (0), .inr (.inr (.inl (some (79))))]) (h' := (hwA h2 79 (Int.toNat ((0))) (l + (1)))) rfl ?_
          refine wq_al (p' := 68) (n := 5) rfl rfl (ly_k M2.1.1.1 79 rfl) (by omega) (rfl) ?_
          refine av_wp_seq 2 (pc' := 70) (lv' := [some (.inr (.inr (.inl (some (77))))), some (.inl n)]) (st' := [.inl ((l + (1)) - (1))]) (h' := (hwA h2 79 (Int.toNat ((0))) (l + (1)))) rfl ?_
          refine av_wp_ret (v := some (.inl ((l + (1)) - (1)))) rfl rfl rfl ?_
          have z : (rlA b n.toNat 0 (adv b n.toNat (0, 0, 0, -1)) d).2.1.2.2.2 = -1 := by omega
          rw [show l + 1 - 1 = l by omega]
          refine hq1 (by omega) (by omega) (by omega) z h2 M2.1 F2 W2 (fun o ho => ?_)
          rw [M2.2.1 o ho, hX.2]
          by_cases c : o = 13
          · subst c; rw [u1_eq]; exact P2 z
          · rw [u1_ne c]; exact X2 z o (by omega)
        · have c8 : v = (0) := c8
          refine av_wp_seq 1 (pc' := 51) (lv' := [some (.inr (.inr (.inl (some (77))))), some (.inl n)]) (st' := [.inl (-1)]) (h' := h2) rfl ?_
          refine av_wp_ret (v := some (.inl (-1))) rfl rfl rfl ?_
          exact hq0 (by omega) (by omega) (by omega) (by omega) h2 M2.1 F2 W2
      · have c6 : l = (8) := c6
        refine av_wp_seq 1 (pc' := 28) (lv' := [some (.inr (.inr (.inl (some (77))))), some (.inl n)]) (st' := [.inl (-3)]) (h' := h) rfl ?_
        refine av_wp_ret (v := some (.inl (-3))) rfl rfl rfl ?_
        exact hqB (by omega) (by omega) (by omega)
    · have c4 : len < n := c4
      refine av_wp_seq 1 (pc' := 14) (lv' := [some (.inr (.inr (.inl (some (77))))), some (.inl n)]) (st' := [.inl (-2)]) (h' := h) rfl ?_
      refine av_wp_ret (v := some (.inl (-2))) rfl rfl rfl ?_
      exact hqA (by omega)

set_option maxRecDepth 100000 in
set_option maxHeartbeats 4000000 in
theorem ct_157 {h : av_H} (L : LY h) {b : Nat → Int} (hb : hA h 94 = b) (bv : ∀ j, -128 ≤ b j ∧ b j ≤ 127) {len : Int} (hl : hF h 77 17 = len) (ql : 0 ≤ len ∧ len ≤ 900) {l : Int} (hc : hA h 80 0 = l) (qc : 0 ≤ l ∧ l ≤ 6) (d : Nat → Int) (n : Int) (qn : -2147483648 ≤ n ∧ n ≤ 2147483647) {Q : Option av_V → av_H → Prop} (hqA : (n < 0 ∨ len < n) → Q (some (.inl (-2))) h) (hqB : 0 ≤ n → n ≤ len → l = 6 → Q (some (.inl (-3))) h) (hq0 : 0 ≤ n → n ≤ len → l < 6 → (rlA b n.toNat 1 (adv b n.toNat (0, 0, 0, -1)) d).2.1.2.2.2 ≠ -1 → ∀ h', MT b n.toNat (rlA b n.toNat 1 (adv b n.toNat (0, 0, 0, -1)) d).2.1 0 (hA h') h' → FD h h' → (∀ a j, ¬ (a = 93 ∧ 112 + 14 * l.toNat ≤ j ∧ j < 112 + 14 * l.toNat + 14) → hA h' a j = hA h a j) → Q (some (.inl (-1))) h') (hq1 : 0 ≤ n → n ≤ len → l < 6 → (rlA b n.toNat 1 (adv b n.toNat (0, 0, 0, -1)) d).2.1.2.2.2 = -1 → ∀ h1, MT b n.toNat (rlA b n.toNat 1 (adv b n.toNat (0, 0, 0, -1)) d).2.1 0 (hA h1) h1 → FD h h1 → (∀ a j, ¬ (a = 93 ∧ 112 + 14 * l.toNat ≤ j ∧ j < 112 + 14 * l.toNat + 14) → hA h1 a j = hA h a j) → (∀ o, o < 14 → hA h1 93 (112 + 14 * l.toNat + o) = (rlA b n.toNat 1 (adv b n.toNat (0, 0, 0, -1)) d).2.2 o) → Q (some (.inl l)) (hwA h1 80 0 (l + 1))) : av_wp none cd_157 0 [some (.inr (.inr (.inl (some (77))))), some (.inl n)] [] h Q := by
  refine av_wp_seq 1 (pc' := 1) (lv' := [some (.inr (.inr (.inl (some (77))))), some (.inl n)]) (st' := [.inl n]) (h' := h) rfl ?_
  refine wq_k1 (p' := 4) rfl rfl ⟨by omega, by omega⟩ (fun c1 => ?_) (fun c2 => ?_)
  · have c1 : n < (0) := c1
    refine av_wp_seq 1 (pc' := 14) (lv' := [some (.inr (.inr (.inl (some (77))))), some (.inl n)]) (st' := [.inl (-2)]) (h' := h) rfl ?_
    refine av_wp_ret (v := some (.inl (-2))) rfl rfl rfl ?_
    exact hqA (by omega)
  · have c2 : (0) ≤ n := c2
    refine av_wp_seq 2 (pc' := 6) (lv' := [some (.inr (.inr (.inl (some (77))))), some (.inl n)]) (st' := [.inr (.inr (.inl (some (77)))), .inl n]) (h' := h) rfl ?_
    refine wq_gi (p' := 9) rfl rfl (congrArg Prod.fst (ly_k L 77 rfl)) rfl (hl) ?_
    refine wq_k2 (p' := 12) rfl rfl ⟨by omega, by omega⟩ ⟨by omega, by omega⟩ (fun c3 => ?_) (fun c4 => ?_)
    · have c3 : n ≤ len := c3
      refine av_wp_seq 1 (pc' := 16) (lv' := [some (.inr (.inr (.inl (some (77))))), some (.inl n)]) (st' := [.inr (.inr (.inl (some (77))))]) (h' := h) rfl ?_
      refine wq_gr (p' := 19) rfl rfl (congrArg Prod.fst (ly_k L 77 rfl)) rfl (ly_g L 77 2 80 rfl) ?_
      refine av_wp_seq 1 (pc' := 20) (lv' := [some (.inr (.inr (.inl (some (77))))), some (.inl n)]) (st' := [.inl (0), .inr (.inr (.inl (some (80))))]) (h' := h) rfl ?_
      refine wq_al (p' := 21) (n := 5) rfl rfl (ly_k L 80 rfl) (by omega) (hc) ?_
      refine av_wp_seq 1 (pc' := 23) (lv' := [some (.inr (.inr (.inl (some (77))))), some (.inl n)]) (st' := [.inl (6), .inl l]) (h' := h) rfl ?_
      refine wq_k2 (p' := 26) rfl rfl ⟨by omega, by omega⟩ ⟨by omega, by omega⟩ (fun c5 => ?_) (fun c6 => ?_)
      · have c5 : l ≠ (6) := c5
        refine av_wp_seq 2 (pc' := 31) (lv' := [some (.inr (.inr (.inl (some (77))))), some (.inl n)]) (st' := [.inl n, .inr (.inr (.inl (some (77))))]) (h' := h) rfl ?_
        refine wq_cv (p' := 34) (av_qc (.invokevirtual 293) 136 1 0 8) 2 cd_136 [.inl n] (77) 8 [some (.inr (.inr (.inl (some (77))))), some (.inl n)] rfl rfl rfl pp_136 rfl rfl rfl (congrArg Prod.fst (ly_k L 77 rfl)) rfl rfl rfl rfl ?_
        refine ct_136 L hb bv n n.toNat (by omega) (by omega) (fun h1 N1 F1 => ?_)
        have ea1 : hA h1 = hA h := ns_A N1.1
        show av_wp _ cd_157 34 [some (.inr (.inr (.inl (some (77))))), some (.inl n)] [] h1 _
        have gt0 := (tok_f (adv b n.toNat (0, 0, 0, -1)) N1.2.1.2.2.2.1).2.2.1
        have gtr := (tok_f (adv b n.toNat (0, 0, 0, -1)) N1.2.1.2.2.2.1).2.2.2.2
        refine av_wp_seq 1 (pc' := 35) (lv' := [some (.inr (.inr (.inl (some (77))))), some (.inl n)]) (st' := [.inr (.inr (.inl (some (77))))]) (h' := h1) rfl ?_
        refine wq_gi (p' := 38) rfl rfl (congrArg Prod.fst (ly_k N1.1.1 77 rfl)) rfl ((ns_22 N1.1)) ?_
        refine wq_k1 (p' := 41) rfl rfl ⟨by omega, by omega⟩ (fun c7 => ?_) (fun c8 => ?_)
        · have c7 : (tokv (adv b n.toNat (0, 0, 0, -1))) ≠ (0) := c7
          refine av_wp_seq 4 (pc' := 51) (lv' := [some (.inr (.inr (.inl (some (77))))), some (.inl n)]) (st' := [.inr (.inr (.inl (some (77)))), .inl (14), .inl (112), .inr (.inr (.inl (some (77))))]) (h' := h1) rfl ?_
          refine wq_gr (p' := 54) rfl rfl (congrArg Prod.fst (ly_k N1.1.1 77 rfl)) rfl (ly_g N1.1.1 77 2 80 rfl) ?_
          refine av_wp_seq 1 (pc' := 55) (lv' := [some (.inr (.inr (.inl (some (77))))), some (.inl n)]) (st' := [.inl (0), .inr (.inr (.inl (some (80)))), .inl (14), .inl (112), .inr (.inr (.inl (some (77))))]) (h' := h1) rfl ?_
          refine wq_al (p' := 56) (n := 5) rfl rfl (ly_k N1.1.1 80 rfl) (by omega) (((congrFun (congrFun ea1 80) 0).trans hc)) ?_
          refine av_wp_seq 2 (pc' := 58) (lv' := [some (.inr (.inr (.inl (some (77))))), some (.inl n)]) (st' := [.inl ((112) + ((14) * l)), .inr (.inr (.inl (some (77))))]) (h' := h1) rfl ?_
          refine wq_cv (p' := 61) (av_qc (.invokevirtual 342) 155 1 0 8) 3 cd_155 [.inl ((112) + ((14) * l))] (77) 8 [some (.inr (.inr (.inl (some (77))))), some (.inl ((112) + ((14) * l))), none] rfl rfl rfl pp_155 rfl rfl rfl (congrArg Prod.fst (ly_k N1.1.1 77 rfl)) rfl rfl rfl rfl ?_
          have m0 := ml_0 (at0 := 112 + 14 * l.toNat) (by rw [ea1]; exact N1 : MT b n.toNat (adv b n.toNat (0, 0, 0, -1)) 0 (hA h1) h1)
          refine ct_155 m0 F1 (by omega) d (((112) + ((14) * l))) (by omega) (fun v h2 R2 M2 F2 X2 P2 V2 => ?_)
          have g1 := rlf_1 (b := b) (lim := n.toNat) (t := (adv b n.toNat (0, 0, 0, -1))) (d := ufil d 0 14 (-2)) rfl (by omega)
          have hX : (rlA b n.toNat 1 (adv b n.toNat (0, 0, 0, -1)) d).2.1 = (rlf b n.toNat 21 0 (adv b n.toNat (0, 0, 0, -1)) (ufil d 0 14 (-2))).2.1 ∧ (rlA b n.toNat 1 (adv b n.toNat (0, 0, 0, -1)) d).2.2 = av_u1 (rlf b n.toNat 21 0 (adv b n.toNat (0, 0, 0, -1)) (ufil d 0 14 (-2))).2.2 13 ((rlf b n.toNat 21 0 (adv b n.toNat (0, 0, 0, -1)) (ufil d 0 14 (-2))).1 : Int) := ⟨if_neg (by omega), rfl⟩
          rw [← hX.1] at M2 X2 P2 V2
          have qv : ((rlA b n.toNat 1 (adv b n.toNat (0, 0, 0, -1)) d).2.1.2.2.2 = -1 ∧ v = 1) ∨ ((rlA b n.toNat 1 (adv b n.toNat (0, 0, 0, -1)) d).2.1.2.2.2 ≠ -1 ∧ v = 0) := by omega
          have W2 : ∀ a j, ¬ (a = 93 ∧ 112 + 14 * l.toNat ≤ j ∧ j < 112 + 14 * l.toNat + 14) → hA h2 a j = hA h a j := fun a j hj => by rw [← ea1]; exact M2.2.2 a j hj
          show av_wp _ cd_157 61 [some (.inr (.inr (.inl (some (77))))), some (.inl n)] [.inl v] h2 _
          refine wq_k1 (p' := 64) rfl rfl ⟨by omega, by omega⟩ (fun c9 => ?_) (fun c10 => ?_)
          · have c9 : v ≠ (0) := c9
            refine av_wp_seq 1 (pc' := 67) (lv' := [some (.inr (.inr (.inl (some (77))))), some (.inl n)]) (st' := [.inr (.inr (.inl (some (77))))]) (h' := h2) rfl ?_
            refine wq_gr (p' := 70) rfl rfl (congrArg Prod.fst (ly_k M2.1.1.1 77 rfl)) rfl (ly_g M2.1.1.1 77 2 80 rfl) ?_
            refine av_wp_seq 2 (pc' := 72) (lv' := [some (.inr (.inr (.inl (some (77))))), some (.inl n)]) (st' := [.inl (0), .inr (.inr (.inl (some (80)))), .inl (0), .inr (.inr (.inl (some (80))))]) (h' := h2) rfl ?_
            refine wq_al (p' := 73) (n := 5) rfl rfl (ly_k M2.1.1.1 80 rfl) (by omega) (((congrFun (FD_A F2 (a := 80) rfl) 0).trans hc)) ?_
            refine av_wp_seq 2 (pc' := 75) (lv' := [some (.inr (.inr (.inl (some (77))))), some (.inl n)]) (st' := [.inl (l + (1)), .inl (0), .inr (.inr (.inl (some (80))))]) (h' := h2) rfl ?_
            refine wq_as (p' := 76) (n := 5) rfl rfl (ly_k M2.1.1.1 80 rfl) (by omega) ?_
            refine av_wp_seq 1 (pc' := 77) (lv' := [some (.inr (.inr (.inl (some (77))))), some (.inl n)]) (st' := [.inr (.inr (.inl (some (77))))]) (h' := (hwA h2 80 (Int.toNat ((0))) (l + (1)))) rfl ?_
            refine wq_gr (p' := 80) rfl rfl (congrArg Prod.fst (ly_k M2.1.1.1 77 rfl)) rfl (ly_g M2.1.1.1 77 2 80 rfl) ?_
            refine av_wp_seq 1 (pc' := 81) (lv' := [some (.inr (.inr (.inl (some (77))))), some (.inl n)]) (st' := [.inl (0), .inr (.inr (.inl (some (80))))]) (h' := (hwA h2 80 (Int.toNat ((0))) (l + (1)))) rfl ?_
            refine wq_al (p' := 82) (n := 5) rfl rfl (ly_k M2.1.1.1 80 rfl) (by omega) (rfl) ?_
            refine av_wp_seq 2 (pc' := 84) (lv' := [some (.inr (.inr (.inl (some (77))))), some (.inl n)]) (st' := [.inl ((l + (1)) - (1))]) (h' := (hwA h2 80 (Int.toNat ((0))) (l + (1)))) rfl ?_
            refine av_wp_ret (v := some (.inl ((l + (1)) - (1)))) rfl rfl rfl ?_
            have z : (rlA b n.toNat 1 (adv b n.toNat (0, 0, 0, -1)) d).2.1.2.2.2 = -1 := by omega
            rw [show l + 1 - 1 = l by omega]
            refine hq1 (by omega) (by omega) (by omega) z h2 M2.1 F2 W2 (fun o ho => ?_)
            rw [M2.2.1 o ho, hX.2]
            by_cases c : o = 13
            · subst c; rw [u1_eq]; exact P2 z
            · rw [u1_ne c]; exact X2 z o (by omega)
          · have c10 : v = (0) := c10
            refine av_wp_seq 1 (pc' := 65) (lv' := [some (.inr (.inr (.inl (some (77))))), some (.inl n)]) (st' := [.inl (-1)]) (h' := h2) rfl ?_
            refine av_wp_ret (v := some (.inl (-1))) rfl rfl rfl ?_
            exact hq0 (by omega) (by omega) (by omega) (by omega) h2 M2.1 F2 W2
        · have c8 : (tokv (adv b n.toNat (0, 0, 0, -1))) = (0) := c8
          refine av_wp_seq 1 (pc' := 42) (lv' := [some (.inr (.inr (.inl (some (77))))), some (.inl n)]) (st' := [.inr (.inr (.inl (some (77))))]) (h' := h1) rfl ?_
          refine wq_cv (p' := 45) (av_qc (.invokevirtual 194) 131 0 0 8) 1 cd_131 [] (77) 8 [some (.inr (.inr (.inl (some (77)))))] rfl rfl rfl pp_131 rfl rfl rfl (congrArg Prod.fst (ly_k N1.1.1 77 rfl)) rfl rfl rfl rfl ?_
          refine ct_131 N1 F1 (fun h1 N1 F1 => ?_)
          have ea1 : hA h1 = hA h := ns_A N1.1
          show av_wp _ cd_157 45 [some (.inr (.inr (.inl (some (77))))), some (.inl n)] [] h1 _
          refine av_wp_seq 4 (pc' := 51) (lv' := [some (.inr (.inr (.inl (some (77))))), some (.inl n)]) (st' := [.inr (.inr (.inl (some (77)))), .inl (14), .inl (112), .inr (.inr (.inl (some (77))))]) (h' := h1) rfl ?_
          refine wq_gr (p' := 54) rfl rfl (congrArg Prod.fst (ly_k N1.1.1 77 rfl)) rfl (ly_g N1.1.1 77 2 80 rfl) ?_
          refine av_wp_seq 1 (pc' := 55) (lv' := [some (.inr (.inr (.inl (some (77))))), some (.inl n)]) (st' := [.inl (0), .inr (.inr (.inl (some (80)))), .inl (14), .inl (112), .inr (.inr (.inl (some (77))))]) (h' := h1) rfl ?_
          refine wq_al (p' := 56) (n := 5) rfl rfl (ly_k N1.1.1 80 rfl) (by omega) (((congrFun (congrFun ea1 80) 0).trans hc)) ?_
          refine av_wp_seq 2 (pc' := 58) (lv' := [some (.inr (.inr (.inl (some (77))))), some (.inl n)]) (st' := [.inl ((112) + ((14) * l)), .inr (.inr (.inl (some (77))))]) (h' := h1) rfl ?_
          refine wq_cv (p' := 61) (av_qc (.invokevirtual 342) 155 1 0 8) 3 cd_155 [.inl ((112) + ((14) * l))] (77) 8 [some (.inr (.inr (.inl (some (77))))), some (.inl ((112) + ((14) * l))), none] rfl rfl rfl pp_155 rfl rfl rfl (congrArg Prod.fst (ly_k N1.1.1 77 rfl)) rfl rfl rfl rfl ?_
          have m0 := ml_0 (at0 := 112 + 14 * l.toNat) (by rw [ea1]; exact N1 : MT b n.toNat (fal (adv b n.toNat (0, 0, 0, -1))) 0 (hA h1) h1)
          refine ct_155 m0 F1 (by omega) d (((112) + ((14) * l))) (by omega) (fun v h2 R2 M2 F2 X2 P2 V2 => ?_)
          have e0 : rlf b n.toNat 21 0 (adv b n.toNat (0, 0, 0, -1)) (ufil d 0 14 (-2)) = (0, (adv b n.toNat (0, 0, 0, -1)), ufil d 0 14 (-2)) := rlf_e (Or.inr (by omega))
          have e1 : (rlf b n.toNat 21 0 (fal (adv b n.toNat (0, 0, 0, -1))) (ufil d 0 14 (-2))) = (0, fal (adv b n.toNat (0, 0, 0, -1)), ufil d 0 14 (-2)) := rlf_e (Or.inl fal_ne)
          have hX : (rlA b n.toNat 1 (adv b n.toNat (0, 0, 0, -1)) d).2.1 = (rlf b n.toNat 21 0 (fal (adv b n.toNat (0, 0, 0, -1))) (ufil d 0 14 (-2))).2.1 ∧ (rlA b n.toNat 1 (adv b n.toNat (0, 0, 0, -1)) d).2.2 = av_u1 (rlf b n.toNat 21 0 (fal (adv b n.toNat (0, 0, 0, -1))) (ufil d 0 14 (-2))).2.2 13 ((rlf b n.toNat 21 0 (fal (adv b n.toNat (0, 0, 0, -1))) (ufil d 0 14 (-2))).1 : Int) := by rw [e1]; exact ⟨by simp only [rlA, e0]; exact if_pos (by decide), by simp only [rlA, e0]⟩
          rw [← hX.1] at M2 X2 P2 V2
          have qv : ((rlA b n.toNat 1 (adv b n.toNat (0, 0, 0, -1)) d).2.1.2.2.2 = -1 ∧ v = 1) ∨ ((rlA b n.toNat 1 (adv b n.toNat (0, 0, 0, -1)) d).2.1.2.2.2 ≠ -1 ∧ v = 0) := by omega
          have W2 : ∀ a j, ¬ (a = 93 ∧ 112 + 14 * l.toNat ≤ j ∧ j < 112 + 14 * l.toNat + 14) → hA h2 a j = hA h a j := fun a j hj => by rw [← ea1]; exact M2.2.2 a j hj
          show av_wp _ cd_157 61 [some (.inr (.inr (.inl (some (77))))), some (.inl n)] [.inl v] h2 _
          refine wq_k1 (p' := 64) rfl rfl ⟨by omega, by omega⟩ (fun c11 => ?_) (fun c12 => ?_)
          · have c11 : v ≠ (0) := c11
            refine av_wp_seq 1 (pc' := 67) (lv' := [some (.inr (.inr (.inl (some (77))))), some (.inl n)]) (st' := [.inr (.inr (.inl (some (77))))]) (h' := h2) rfl ?_
            refine wq_gr (p' := 70) rfl rfl (congrArg Prod.fst (ly_k M2.1.1.1 77 rfl)) rfl (ly_g M2.1.1.1 77 2 80 rfl) ?_
            refine av_wp_seq 2 (pc' := 72) (lv' := [some (.inr (.inr (.inl (some (77))))), some (.inl n)]) (st' := [.inl (0), .inr (.inr (.inl (some (80)))), .inl (0), .inr (.inr (.inl (some (80))))]) (h' := h2) rfl ?_
            refine wq_al (p' := 73) (n := 5) rfl rfl (ly_k M2.1.1.1 80 rfl) (by omega) (((congrFun (FD_A F2 (a := 80) rfl) 0).trans hc)) ?_
            refine av_wp_seq 2 (pc' := 75) (lv' := [some (.inr (.inr (.inl (some (77))))), some (.inl n)]) (st' := [.inl (l + (1)), .inl (0), .inr (.inr (.inl (some (80))))]) (h' := h2) rfl ?_
            refine wq_as (p' := 76) (n := 5) rfl rfl (ly_k M2.1.1.1 80 rfl) (by omega) ?_
            refine av_wp_seq 1 (pc' := 77) (lv' := [some (.inr (.inr (.inl (some (77))))), some (.inl n)]) (st' := [.inr (.inr (.inl (some (77))))]) (h' := (hwA h2 80 (Int.toNat ((0))) (l + (1)))) rfl ?_
            refine wq_gr (p' := 80) rfl rfl (congrArg Prod.fst (ly_k M2.1.1.1 77 rfl)) rfl (ly_g M2.1.1.1 77 2 80 rfl) ?_
            refine av_wp_seq 1 (pc' := 81) (lv' := [some (.inr (.inr (.inl (some (77))))), some (.inl n)]) (st' := [.inl (0), .inr (.inr (.inl (some (80))))]) (h' := (hwA h2 80 (Int.toNat ((0))) (l + (1)))) rfl ?_
            refine wq_al (p' := 82) (n := 5) rfl rfl (ly_k M2.1.1.1 80 rfl) (by omega) (rfl) ?_
            refine av_wp_seq 2 (pc' := 84) (lv' := [some (.inr (.inr (.inl (some (77))))), some (.inl n)]) (st' := [.inl ((l + (1)) - (1))]) (h' := (hwA h2 80 (Int.toNat ((0))) (l + (1)))) rfl ?_
            refine av_wp_ret (v := some (.inl ((l + (1)) - (1)))) rfl rfl rfl ?_
            have z : (rlA b n.toNat 1 (adv b n.toNat (0, 0, 0, -1)) d).2.1.2.2.2 = -1 := by omega
            rw [show l + 1 - 1 = l by omega]
            refine hq1 (by omega) (by omega) (by omega) z h2 M2.1 F2 W2 (fun o ho => ?_)
            rw [M2.2.1 o ho, hX.2]
            by_cases c : o = 13
            · subst c; rw [u1_eq]; exact P2 z
            · rw [u1_ne c]; exact X2 z o (by omega)
          · have c12 : v = (0) := c12
            refine av_wp_seq 1 (pc' := 65) (lv' := [some (.inr (.inr (.inl (some (77))))), some (.inl n)]) (st' := [.inl (-1)]) (h' := h2) rfl ?_
            refine av_wp_ret (v := some (.inl (-1))) rfl rfl rfl ?_
            exact hq0 (by omega) (by omega) (by omega) (by omega) h2 M2.1 F2 W2
      · have c6 : l = (6) := c6
        refine av_wp_seq 1 (pc' := 28) (lv' := [some (.inr (.inr (.inl (some (77))))), some (.inl n)]) (st' := [.inl (-3)]) (h' := h) rfl ?_
        refine av_wp_ret (v := some (.inl (-3))) rfl rfl rfl ?_
        exact hqB (by omega) (by omega) (by omega)
    · have c4 : len < n := c4
      refine av_wp_seq 1 (pc' := 14) (lv' := [some (.inr (.inr (.inl (some (77))))), some (.inl n)]) (st' := [.inl (-2)]) (h' := h) rfl ?_
      refine av_wp_ret (v := some (.inl (-2))) rfl rfl rfl ?_
      exact hqA (by omega)

set_option maxRecDepth 100000 in
set_option maxHeartbeats 4000000 in
theorem ct_214 {h : av_H} (L : LY h) {m : Int} (hm : hF h 77 62 = m) (qm : 0 ≤ m ∧ m ≤ 4) {Q : Option av_V → av_H → Prop} (hqA : m = 4 → Q (some (.inl (-1))) h) (hq : m < 4 → Q (some (.inl m)) (hwF (stA h (cpL (hA h) (0) (m.toNat + 1) czt)) 77 62 (m + 1))) : av_wp none cd_214 0 [some (.inr (.inr (.inl (some (77)))))] [] h Q := by
  refine av_wp_seq 1 (pc' := 1) (lv' := [some (.inr (.inr (.inl (some (77)))))]) (st' := [.inr (.inr (.inl (some (77))))]) (h' := h) rfl ?_
  refine wq_gi (p' := 4) rfl rfl (congrArg Prod.fst (ly_k L 77 rfl)) rfl (hm) ?_
  refine av_wp_seq 1 (pc' := 5) (lv' := [some (.inr (.inr (.inl (some (77)))))]) (st' := [.inl (4), .inl m]) (h' := h) rfl ?_
  refine wq_k2 (p' := 8) rfl rfl ⟨by omega, by omega⟩ ⟨by omega, by omega⟩ (fun c1 => ?_) (fun c2 => ?_)
  · have c1 : m ≠ (4) := c1
    refine av_wp_seq 3 (pc' := 13) (lv' := [some (.inr (.inr (.inl (some (77)))))]) (st' := [.inr (.inr (.inl (some (77)))), .inl (0), .inr (.inr (.inl (some (77))))]) (h' := h) rfl ?_
    refine wq_gi (p' := 16) rfl rfl (congrArg Prod.fst (ly_k L 77 rfl)) rfl (hm) ?_
    refine av_wp_seq 2 (pc' := 18) (lv' := [some (.inr (.inr (.inl (some (77)))))]) (st' := [.inl (m + (1)), .inl (0), .inr (.inr (.inl (some (77))))]) (h' := h) rfl ?_
    refine wq_cv (p' := 21) (av_qc (.invokevirtual 485) 213 2 0 8) 4 cd_213 [.inl (m + (1)), .inl (0)] (77) 8 [some (.inr (.inr (.inl (some (77))))), some (.inl (0)), some (.inl (m + (1))), none] rfl rfl rfl pp_213 rfl rfl rfl (congrArg Prod.fst (ly_k L 77 rfl)) rfl rfl rfl rfl ?_
    refine ct_213 L (0) (m.toNat + 1) (by omega) (by omega) (by omega) ((0)) ((m + (1))) (by omega) (by omega) ?_
    show av_wp _ cd_214 21 [some (.inr (.inr (.inl (some (77)))))] [] (stA h (cpL (hA h) (0) (m.toNat + 1) czt)) _
    refine av_wp_seq 2 (pc' := 23) (lv' := [some (.inr (.inr (.inl (some (77)))))]) (st' := [.inr (.inr (.inl (some (77)))), .inr (.inr (.inl (some (77))))]) (h' := (stA h (cpL (hA h) (0) (m.toNat + 1) czt))) rfl ?_
    refine wq_gi (p' := 26) rfl rfl (congrArg Prod.fst (ly_k L 77 rfl)) rfl (hm) ?_
    refine av_wp_seq 2 (pc' := 28) (lv' := [some (.inr (.inr (.inl (some (77)))))]) (st' := [.inl (m + (1)), .inr (.inr (.inl (some (77))))]) (h' := (stA h (cpL (hA h) (0) (m.toNat + 1) czt))) rfl ?_
    refine wq_pi (p' := 31) rfl rfl (congrArg Prod.fst (ly_k L 77 rfl)) rfl ?_
    refine av_wp_seq 1 (pc' := 32) (lv' := [some (.inr (.inr (.inl (some (77)))))]) (st' := [.inr (.inr (.inl (some (77))))]) (h' := (hwF (stA h (cpL (hA h) (0) (m.toNat + 1) czt)) 77 62 (m + (1)))) rfl ?_
    refine wq_gi (p' := 35) rfl rfl (congrArg Prod.fst (ly_k L 77 rfl)) rfl (rfl) ?_
    refine av_wp_seq 2 (pc' := 37) (lv' := [some (.inr (.inr (.inl (some (77)))))]) (st' := [.inl ((m + (1)) - (1))]) (h' := (hwF (stA h (cpL (hA h) (0) (m.toNat + 1) czt)) 77 62 (m + (1)))) rfl ?_
    refine av_wp_ret (v := some (.inl ((m + (1)) - (1)))) rfl rfl rfl ?_
    rw [show m + 1 - 1 = m by omega]
    exact hq (by omega)
  · have c2 : m = (4) := c2
    refine av_wp_seq 1 (pc' := 9) (lv' := [some (.inr (.inr (.inl (some (77)))))]) (st' := [.inl (-1)]) (h' := h) rfl ?_
    refine av_wp_ret (v := some (.inl (-1))) rfl rfl rfl ?_
    exact hqA (by omega)

set_option maxRecDepth 100000 in
set_option maxHeartbeats 4000000 in
theorem ct_215 {h : av_H} (L : LY h) {m : Int} (hm : hF h 77 62 = m) (qm : 0 ≤ m ∧ m ≤ 4) (k : Int) (qk : -2147483648 ≤ k ∧ k ≤ 2147483647) {Q : Option av_V → av_H → Prop} (hqA : (k < 0 ∨ m ≤ k) → Q (some (.inl 0)) h) (hq : 0 ≤ k → k < m → Q (some (.inl 1)) (stA h (cpL (hA h) (k.toNat + 1) (0) czt))) : av_wp none cd_215 0 [some (.inr (.inr (.inl (some (77))))), some (.inl k)] [] h Q := by
  refine av_wp_seq 3 (pc' := 3) (lv' := [some (.inr (.inr (.inl (some (77))))), some (.inl k)]) (st' := [.inr (.inr (.inl (some (77)))), .inl (0), .inl k]) (h' := h) rfl ?_
  refine wq_gi (p' := 6) rfl rfl (congrArg Prod.fst (ly_k L 77 rfl)) rfl (hm) ?_
  refine av_wp_seq 2 (pc' := 8) (lv' := [some (.inr (.inr (.inl (some (77))))), some (.inl k)]) (st' := [.inl (m - (1)), .inl (0), .inl k]) (h' := h) rfl ?_
  refine wq_cs (p' := 11) (av_qc (.invokestatic 176) 127 3 2 8) 3 cd_127 [.inl k, .inl (0), .inl (m - (1))] [.inl (m - (1)), .inl (0), .inl k] [some (.inl k), some (.inl (0)), some (.inl (m - (1)))] rfl rfl rfl pp_127 (fun _ => rfl) rfl rfl ?_
  refine ct_127 (g := h) (k) (by omega) ((0)) (by omega) ((m - (1))) (by omega) (fun v1 p2 => ?_)
  show av_wp _ cd_215 11 [some (.inr (.inr (.inl (some (77))))), some (.inl k)] [.inl v1] h _
  refine wq_k1 (p' := 14) rfl rfl ⟨by omega, by omega⟩ (fun c3 => ?_) (fun c4 => ?_)
  · have c3 : v1 ≠ (0) := c3
    refine av_wp_seq 5 (pc' := 21) (lv' := [some (.inr (.inr (.inl (some (77))))), some (.inl k)]) (st' := [.inl (0), .inl (k + (1)), .inr (.inr (.inl (some (77))))]) (h' := h) rfl ?_
    refine wq_cv (p' := 24) (av_qc (.invokevirtual 485) 213 2 0 8) 4 cd_213 [.inl (0), .inl (k + (1))] (77) 8 [some (.inr (.inr (.inl (some (77))))), some (.inl (k + (1))), some (.inl (0)), none] rfl rfl rfl pp_213 rfl rfl rfl (congrArg Prod.fst (ly_k L 77 rfl)) rfl rfl rfl rfl ?_
    refine ct_213 L (k.toNat + 1) (0) (by omega) (by omega) (by omega) ((k + (1))) ((0)) (by omega) (by omega) ?_
    show av_wp _ cd_215 24 [some (.inr (.inr (.inl (some (77))))), some (.inl k)] [] (stA h (cpL (hA h) (k.toNat + 1) (0) czt)) _
    refine av_wp_seq 1 (pc' := 25) (lv' := [some (.inr (.inr (.inl (some (77))))), some (.inl k)]) (st' := [.inl (1)]) (h' := (stA h (cpL (hA h) (k.toNat + 1) (0) czt))) rfl ?_
    refine av_wp_ret (v := some (.inl (1))) rfl rfl rfl ?_
    exact hq (by omega) (by omega)
  · have c4 : v1 = (0) := c4
    refine av_wp_seq 1 (pc' := 15) (lv' := [some (.inr (.inr (.inl (some (77))))), some (.inl k)]) (st' := [.inl (0)]) (h' := h) rfl ?_
    refine av_wp_ret (v := some (.inl (0))) rfl rfl rfl ?_
    exact hqA (by omega)
