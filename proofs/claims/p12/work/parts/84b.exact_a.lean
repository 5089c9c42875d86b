/-! THE SMALL LOOKS, exactly -/
theorem cs_co {h : av_H} {v : Option Nat} {t c s : Nat} {f : Nat → Int} (x : CC h v t c s f) : CO h t c s (cbv f s) := cx_co x.2.1 x.2.2.1 (Or.inr (Or.inr x.2.2.2.2.2.1))
set_option maxRecDepth 100000 in
set_option maxHeartbeats 4000000 in
theorem cx_100 {h : av_H} (I : IC h) {Q : Option av_V → av_H → Prop} (hq : Q (some (.inl (hF h 0 8))) h) : av_wp none cd_100 0 [some (.inr (.inr (.inl (some (0)))))] [] h Q := by
  have F := Fr1_rf h
  refine av_wp_seq 1 (pc' := 1) (lv' := [some (.inr (.inr (.inl (some (0)))))]) (st' := [.inr (.inr (.inl (some (0))))]) (h' := h) rfl ?_
  obtain ⟨v1, e2⟩ : ∃ v, hF h 0 8 = v := ⟨_, rfl⟩
  refine wq_gi (p' := 4) rfl rfl (congrArg Prod.fst (ly_k I.1 0 rfl)) rfl (e2) ?_
  refine av_wp_ret (v := some (.inl v1)) rfl rfl rfl ?_
  rw [← e2]
  exact hq

set_option maxRecDepth 100000 in
set_option maxHeartbeats 4000000 in
theorem cx_69 {h : av_H} (I : IC h) {A : Nat → Nat → Int} (SS : SL h A 3 0) (k : Int) (qk : -2147483648 ≤ k ∧ k ≤ 2147483647) {Q : Option av_V → av_H → Prop} (hq0 : (k < 0 ∨ hF h 3 3 ≤ k) → Q (some (.inr (.inr (.inl none)))) h) (hq1 : 0 ≤ k → k < hF h 3 3 → k ≤ 15 → ∀ t c s f, CC h (some t) t c s f → A 81 (Int.toNat k) = (s : Int) → (∀ j, j < s → RY (rwA A (12 * Int.toNat k + j)) f (j * 21)) → Q (some (.inr (.inr (.inl (some t))))) h) : av_wp none cd_69 0 [some (.inr (.inr (.inl (some (3))))), some (.inl k)] [] h Q := by
  have F := Fr1_rf h
  refine av_wp_seq 1 (pc' := 1) (lv' := [some (.inr (.inr (.inl (some (3))))), some (.inl k)]) (st' := [.inl k]) (h' := h) rfl ?_
  refine wq_k1 (p' := 4) rfl rfl ⟨by omega, by omega⟩ (fun c1 => ?_) (fun c2 => ?_)
  · have c1 : k < (0) := c1
    refine av_wp_seq 1 (pc' := 22) (lv' := [some (.inr (.inr (.inl (some (3))))), some (.inl k)]) (st' := [.inr (.inr (.inl none))]) (h' := h) rfl ?_
    refine av_wp_ret (v := some (.inr (.inr (.inl none)))) rfl rfl rfl ?_
    exact hq0 (by omega)
  · have c2 : (0) ≤ k := c2
    refine av_wp_seq 2 (pc' := 6) (lv' := [some (.inr (.inr (.inl (some (3))))), some (.inl k)]) (st' := [.inr (.inr (.inl (some (3)))), .inl k]) (h' := h) rfl ?_
    obtain ⟨v3, e4⟩ : ∃ v, hF h 3 3 = v := ⟨_, rfl⟩
    have g5 := ic_cc I
    rw [e4] at g5
    refine wq_gi (p' := 9) rfl rfl (congrArg Prod.fst (ly_k I.1 3 rfl)) rfl (e4) ?_
    refine wq_k2 (p' := 12) rfl rfl ⟨by omega, by omega⟩ ⟨by omega, by omega⟩ (fun c6 => ?_) (fun c7 => ?_)
    · have c6 : v3 ≤ k := c6
      refine av_wp_seq 1 (pc' := 22) (lv' := [some (.inr (.inr (.inl (some (3))))), some (.inl k)]) (st' := [.inr (.inr (.inl none))]) (h' := h) rfl ?_
      refine av_wp_ret (v := some (.inr (.inr (.inl none)))) rfl rfl rfl ?_
      exact hq0 (by omega)
    · have c7 : k < v3 := c7
      refine av_wp_seq 1 (pc' := 13) (lv' := [some (.inr (.inr (.inl (some (3))))), some (.inl k)]) (st' := [.inr (.inr (.inl (some (3))))]) (h' := h) rfl ?_
      refine wq_gr (p' := 16) rfl rfl (congrArg Prod.fst (ly_k I.1 3 rfl)) rfl (ly_g I.1 3 0 4 rfl) ?_
      refine av_wp_seq 1 (pc' := 17) (lv' := [some (.inr (.inr (.inl (some (3))))), some (.inl k)]) (st' := [.inl k, .inr (.inr (.inl (some (4))))]) (h' := h) rfl ?_
      obtain ⟨t8, c9, s10, f11, x12, x13, x14⟩ := SS.2.2.1 (Int.toNat (k)) (by omega) (by omega)
      refine wq_ar (p' := 18) (n := 16) (k := 30) rfl rfl (ly_k I.1 4 rfl) (by omega) (by omega) x12.1 ?_
      have g15 := co_s12 (cs_co x12)
      have g16 := co_cbr (cs_co x12)
      refine av_wp_seq 1 (pc' := 22) (lv' := [some (.inr (.inr (.inl (some (3))))), some (.inl k)]) (st' := [.inr (.inr (.inl (some (t8))))]) (h' := h) rfl ?_
      refine av_wp_ret (v := some (.inr (.inr (.inl (some (t8)))))) rfl rfl rfl ?_
      exact hq1 (by omega) (by omega) (by omega) _ _ _ _ ⟨rfl, x12.2⟩ (by rw [← x13]; congr 1; omega) (fun j hj => by have y := x14 j hj; rw [show 192 * 0 + 12 * Int.toNat k + j = 12 * Int.toNat k + j by omega] at y; exact y)

set_option maxRecDepth 100000 in
set_option maxHeartbeats 4000000 in
theorem cx_29 {h : av_H} {t c s : Nat} {cb : Int} (o : CO h t c s cb) (k : Int) (qk : -2147483648 ≤ k ∧ k ≤ 2147483647) (w : Int) (qw : -2147483648 ≤ w ∧ w ≤ 2147483647) {Q : Option av_V → av_H → Prop} (hq : Q (some (.inl (cel (hA h c) s k w))) h) : av_wp none cd_29 0 [some (.inr (.inr (.inl (some (t))))), some (.inl k), some (.inl w)] [] h Q := by
  have F := Fr1_rf h
  have g1 := co_s12 o
  have g2 := co_cbr o
  refine av_wp_seq 2 (pc' := 2) (lv' := [some (.inr (.inr (.inl (some (t))))), some (.inl k), some (.inl w)]) (st' := [.inl k, .inr (.inr (.inl (some (t))))]) (h' := h) rfl ?_
  refine wq_cv (p' := 5) (av_qc (.invokevirtual 40) 28 1 0 1) 2 cd_28 [.inl k] (t) 1 [some (.inr (.inr (.inl (some (t))))), some (.inl k)] rfl rfl rfl pp_28 rfl rfl rfl (congrArg Prod.fst (co_kt o)) rfl rfl rfl rfl ?_
  refine ct_28 o (k) (by omega) (fun v3 p4 => ?_)
  show av_wp _ cd_29 5 [some (.inr (.inr (.inl (some (t))))), some (.inl k), some (.inl w)] [.inl v3] h _
  refine wq_k1 (p' := 8) rfl rfl ⟨by omega, by omega⟩ (fun c5 => ?_) (fun c6 => ?_)
  · have c5 : v3 = (0) := c5
    refine av_wp_seq 1 (pc' := 19) (lv' := [some (.inr (.inr (.inl (some (t))))), some (.inl k), some (.inl w)]) (st' := [.inl (-1)]) (h' := h) rfl ?_
    refine av_wp_ret (v := some (.inl (-1))) rfl rfl rfl ?_
    have z : cel (hA h c) s k w = -1 := if_neg (by omega)
    rw [← z]
    exact hq
  · have c6 : v3 ≠ (0) := c6
    refine av_wp_seq 1 (pc' := 9) (lv' := [some (.inr (.inr (.inl (some (t))))), some (.inl k), some (.inl w)]) (st' := [.inl w]) (h' := h) rfl ?_
    refine wq_k1 (p' := 12) rfl rfl ⟨by omega, by omega⟩ (fun c7 => ?_) (fun c8 => ?_)
    · have c7 : w < (0) := c7
      refine av_wp_seq 1 (pc' := 19) (lv' := [some (.inr (.inr (.inl (some (t))))), some (.inl k), some (.inl w)]) (st' := [.inl (-1)]) (h' := h) rfl ?_
      refine av_wp_ret (v := some (.inl (-1))) rfl rfl rfl ?_
      have z : cel (hA h c) s k w = -1 := if_neg (by omega)
      rw [← z]
      exact hq
    · have c8 : (0) ≤ w := c8
      refine av_wp_seq 2 (pc' := 15) (lv' := [some (.inr (.inr (.inl (some (t))))), some (.inl k), some (.inl w)]) (st' := [.inl (21), .inl w]) (h' := h) rfl ?_
      refine wq_k2 (p' := 18) rfl rfl ⟨by omega, by omega⟩ ⟨by omega, by omega⟩ (fun c9 => ?_) (fun c10 => ?_)
      · have c9 : w < (21) := c9
        refine av_wp_seq 1 (pc' := 21) (lv' := [some (.inr (.inr (.inl (some (t))))), some (.inl k), some (.inl w)]) (st' := [.inr (.inr (.inl (some (t))))]) (h' := h) rfl ?_
        refine wq_gr (p' := 24) rfl rfl (congrArg Prod.fst (co_kt o)) rfl (co_c o) ?_
        refine av_wp_seq 5 (pc' := 30) (lv' := [some (.inr (.inr (.inl (some (t))))), some (.inl k), some (.inl w)]) (st' := [.inl ((k * (21)) + w), .inr (.inr (.inl (some (c))))]) (h' := h) rfl ?_
        obtain ⟨v11, e12⟩ : ∃ v, hA h (c) (Int.toNat (((k * (21)) + w))) = v := ⟨_, rfl⟩
        have g13 := co_v o (Int.toNat (((k * (21)) + w)))
        rw [e12] at g13
        refine wq_al (p' := 31) (n := 21 * s) rfl rfl (co_kc o) (by omega) (e12) ?_
        refine av_wp_ret (v := some (.inl v11)) rfl rfl rfl ?_
        have z : cel (hA h c) s k w = v11 := (if_pos (by omega)).trans e12
        rw [← z]
        exact hq
      · have c10 : (21) ≤ w := c10
        refine av_wp_seq 1 (pc' := 19) (lv' := [some (.inr (.inr (.inl (some (t))))), some (.inl k), some (.inl w)]) (st' := [.inl (-1)]) (h' := h) rfl ?_
        refine av_wp_ret (v := some (.inl (-1))) rfl rfl rfl ?_
        have z : cel (hA h c) s k w = -1 := if_neg (by omega)
        rw [← z]
        exact hq

set_option maxRecDepth 100000 in
set_option maxHeartbeats 4000000 in
theorem cx_101 {h : av_H} (I : IC h) {A : Nat → Nat → Int} (SS : SL h A 3 0) (n : Int) (qn : -2147483648 ≤ n ∧ n ≤ 2147483647) (k : Int) (qk : -2147483648 ≤ k ∧ k ≤ 2147483647) (w : Int) (qw : -2147483648 ≤ w ∧ w ≤ 2147483647) {Q : Option av_V → av_H → Prop} (hq0 : (n < 0 ∨ hF h 3 3 ≤ n ∨ k < 0 ∨ A 81 (Int.toNat n) ≤ k ∨ w < 0 ∨ (6 < w ∧ w < 10) ∨ 14 < w) → Q (some (.inl (-2))) h) (hq1 : 0 ≤ n → n < hF h 3 3 → n ≤ 15 → ∀ t c s f, CC h (some t) t c s f → A 81 (Int.toNat n) = (s : Int) → (∀ j, j < s → RY (rwA A (12 * Int.toNat n + j)) f (j * 21)) → 0 ≤ k → k < (s : Int) → ((0 ≤ w ∧ w ≤ 6) ∨ (10 ≤ w ∧ w ≤ 14)) → Q (some (.inl (cel (hA h c) s k w))) h) : av_wp none cd_101 0 [some (.inr (.inr (.inl (some (0))))), some (.inl n), some (.inl k), some (.inl w), none, none] [] h Q := by
  have F := Fr1_rf h
  refine av_wp_seq 1 (pc' := 1) (lv' := [some (.inr (.inr (.inl (some (0))))), some (.inl n), some (.inl k), some (.inl w), none, none]) (st' := [.inr (.inr (.inl (some (0))))]) (h' := h) rfl ?_
  refine wq_gr (p' := 4) rfl rfl (congrArg Prod.fst (ly_k I.1 0 rfl)) rfl (ly_g I.1 0 1 3 rfl) ?_
  refine av_wp_seq 1 (pc' := 5) (lv' := [some (.inr (.inr (.inl (some (0))))), some (.inl n), some (.inl k), some (.inl w), none, none]) (st' := [.inl n, .inr (.inr (.inl (some (3))))]) (h' := h) rfl ?_
  refine wq_cv (p' := 8) (av_qc (.invokevirtual 96) 69 1 0 5) 2 cd_69 [.inl n] (3) 5 [some (.inr (.inr (.inl (some (3))))), some (.inl n)] rfl rfl rfl pp_69 rfl rfl rfl (congrArg Prod.fst (ly_k I.1 3 rfl)) rfl rfl rfl rfl ?_
  refine cx_69 I SS (n) (by omega) (fun z8 => ?_) (fun z8 z9 z10 t1 c2 s3 f4 x5 x6 x7 => ?_)
  · show av_wp _ cd_101 8 [some (.inr (.inr (.inl (some (0))))), some (.inl n), some (.inl k), some (.inl w), none, none] [.inr (.inr (.inl none))] h _
    refine av_wp_seq 2 (pc' := 11) (lv' := [some (.inr (.inr (.inl (some (0))))), some (.inl n), some (.inl k), some (.inl w), some (.inr (.inr (.inl none))), none]) (st' := [.inl w]) (h' := h) rfl ?_
    refine wq_k1 (p' := 14) rfl rfl ⟨by omega, by omega⟩ (fun c12 => ?_) (fun c13 => ?_)
    · have c12 : w < (0) := c12
      refine av_wp_seq 1 (pc' := 21) (lv' := [some (.inr (.inr (.inl (some (0))))), some (.inl n), some (.inl k), some (.inl w), some (.inr (.inr (.inl none))), none]) (st' := [.inl w]) (h' := h) rfl ?_
      refine wq_cs (p' := 24) (av_qc (.invokestatic 133) 102 1 2 7) 1 cd_102 [.inl w] [.inl w] [some (.inl w)] rfl rfl rfl pp_102 (fun _ => rfl) rfl rfl ?_
      refine ct_102 (w) (by omega) (fun v14 p15 => ?_)
      show av_wp _ cd_101 24 [some (.inr (.inr (.inl (some (0))))), some (.inl n), some (.inl k), some (.inl w), some (.inr (.inr (.inl none))), none] [.inl v14] h _
      refine wq_k1 (p' := 27) rfl rfl ⟨by omega, by omega⟩ (fun c16 => ?_) (fun c17 => ?_)
      · have c16 : v14 = (0) := c16
        refine av_wp_seq 5 (pc' := 55) (lv' := [some (.inr (.inr (.inl (some (0))))), some (.inl n), some (.inl k), some (.inl w), some (.inr (.inr (.inl none))), some (.inl (0))]) (st' := [.inl (-2)]) (h' := h) rfl ?_
        refine av_wp_ret (v := some (.inl (-2))) rfl rfl rfl ?_
        exact hq0 (by omega)
      · have c17 : v14 ≠ (0) := c17
        refine av_wp_seq 6 (pc' := 55) (lv' := [some (.inr (.inr (.inl (some (0))))), some (.inl n), some (.inl k), some (.inl w), some (.inr (.inr (.inl none))), some (.inl (1))]) (st' := [.inl (-2)]) (h' := h) rfl ?_
        refine av_wp_ret (v := some (.inl (-2))) rfl rfl rfl ?_
        exact hq0 (by omega)
    · have c13 : (0) ≤ w := c13
      refine av_wp_seq 2 (pc' := 17) (lv' := [some (.inr (.inr (.inl (some (0))))), some (.inl n), some (.inl k), some (.inl w), some (.inr (.inr (.inl none))), none]) (st' := [.inl (6), .inl w]) (h' := h) rfl ?_
      refine wq_k2 (p' := 20) rfl rfl ⟨by omega, by omega⟩ ⟨by omega, by omega⟩ (fun c18 => ?_) (fun c19 => ?_)
      · have c18 : w ≤ (6) := c18
        refine av_wp_seq 6 (pc' := 55) (lv' := [some (.inr (.inr (.inl (some (0))))), some (.inl n), some (.inl k), some (.inl w), some (.inr (.inr (.inl none))), some (.inl (1))]) (st' := [.inl (-2)]) (h' := h) rfl ?_
        refine av_wp_ret (v := some (.inl (-2))) rfl rfl rfl ?_
        exact hq0 (by omega)
      · have c19 : (6) < w := c19
        refine av_wp_seq 1 (pc' := 21) (lv' := [some (.inr (.inr (.inl (some (0))))), some (.inl n), some (.inl k), some (.inl w), some (.inr (.inr (.inl none))), none]) (st' := [.inl w]) (h' := h) rfl ?_
        refine wq_cs (p' := 24) (av_qc (.invokestatic 133) 102 1 2 7) 1 cd_102 [.inl w] [.inl w] [some (.inl w)] rfl rfl rfl pp_102 (fun _ => rfl) rfl rfl ?_
        refine ct_102 (w) (by omega) (fun v20 p21 => ?_)
        show av_wp _ cd_101 24 [some (.inr (.inr (.inl (some (0))))), some (.inl n), some (.inl k), some (.inl w), some (.inr (.inr (.inl none))), none] [.inl v20] h _
        refine wq_k1 (p' := 27) rfl rfl ⟨by omega, by omega⟩ (fun c22 => ?_) (fun c23 => ?_)
        · have c22 : v20 = (0) := c22
          refine av_wp_seq 5 (pc' := 55) (lv' := [some (.inr (.inr (.inl (some (0))))), some (.inl n), some (.inl k), some (.inl w), some (.inr (.inr (.inl none))), some (.inl (0))]) (st' := [.inl (-2)]) (h' := h) rfl ?_
          refine av_wp_ret (v := some (.inl (-2))) rfl rfl rfl ?_
          exact hq0 (by omega)
        · have c23 : v20 ≠ (0) := c23
          refine av_wp_seq 6 (pc' := 55) (lv' := [some (.inr (.inr (.inl (some (0))))), some (.inl n), some (.inl k), some (.inl w), some (.inr (.inr (.inl none))), some (.inl (1))]) (st' := [.inl (-2)]) (h' := h) rfl ?_
          refine av_wp_ret (v := some (.inl (-2))) rfl rfl rfl ?_
          exact hq0 (by omega)
  · have g11 := co_s12 (cs_co x5)
    show av_wp _ cd_101 8 [some (.inr (.inr (.inl (some (0))))), some (.inl n), some (.inl k), some (.inl w), none, none] [.inr (.inr (.inl (some (t1))))] h _
    refine av_wp_seq 2 (pc' := 11) (lv' := [some (.inr (.inr (.inl (some (0))))), some (.inl n), some (.inl k), some (.inl w), some (.inr (.inr (.inl (some (t1))))), none]) (st' := [.inl w]) (h' := h) rfl ?_
    refine wq_k1 (p' := 14) rfl rfl ⟨by omega, by omega⟩ (fun c24 => ?_) (fun c25 => ?_)
    · have c24 : w < (0) := c24
      refine av_wp_seq 1 (pc' := 21) (lv' := [some (.inr (.inr (.inl (some (0))))), some (.inl n), some (.inl k), some (.inl w), some (.inr (.inr (.inl (some (t1))))), none]) (st' := [.inl w]) (h' := h) rfl ?_
      refine wq_cs (p' := 24) (av_qc (.invokestatic 133) 102 1 2 7) 1 cd_102 [.inl w] [.inl w] [some (.inl w)] rfl rfl rfl pp_102 (fun _ => rfl) rfl rfl ?_
      refine ct_102 (w) (by omega) (fun v26 p27 => ?_)
      show av_wp _ cd_101 24 [some (.inr (.inr (.inl (some (0))))), some (.inl n), some (.inl k), some (.inl w), some (.inr (.inr (.inl (some (t1))))), none] [.inl v26] h _
      refine wq_k1 (p' := 27) rfl rfl ⟨by omega, by omega⟩ (fun c28 => ?_) (fun c29 => ?_)
      · have c28 : v26 = (0) := c28
        refine av_wp_seq 6 (pc' := 42) (lv' := [some (.inr (.inr (.inl (some (0))))), some (.inl n), some (.inl k), some (.inl w), some (.inr (.inr (.inl (some (t1))))), some (.inl (0))]) (st' := [.inl k, .inr (.inr (.inl (some (t1))))]) (h' := h) rfl ?_
        refine wq_cv (p' := 45) (av_qc (.invokevirtual 136) 28 1 0 1) 2 cd_28 [.inl k] (t1) 1 [some (.inr (.inr (.inl (some (t1))))), some (.inl k)] rfl rfl rfl pp_28 rfl rfl rfl (congrArg Prod.fst (co_kt (cs_co x5))) rfl rfl rfl rfl ?_
        refine ct_28 (cs_co x5) (k) (by omega) (fun v30 p31 => ?_)
        show av_wp _ cd_101 45 [some (.inr (.inr (.inl (some (0))))), some (.inl n), some (.inl k), some (.inl w), some (.inr (.inr (.inl (some (t1))))), some (.inl (0))] [.inl v30] h _
        refine wq_k1 (p' := 48) rfl rfl ⟨by omega, by omega⟩ (fun c32 => ?_) (fun c33 => ?_)
        · have c32 : v30 = (0) := c32
          refine av_wp_seq 1 (pc' := 55) (lv' := [some (.inr (.inr (.inl (some (0))))), some (.inl n), some (.inl k), some (.inl w), some (.inr (.inr (.inl (some (t1))))), some (.inl (0))]) (st' := [.inl (-2)]) (h' := h) rfl ?_
          refine av_wp_ret (v := some (.inl (-2))) rfl rfl rfl ?_
          exact hq0 (by omega)
        · have c33 : v30 ≠ (0) := c33
          refine av_wp_seq 3 (pc' := 55) (lv' := [some (.inr (.inr (.inl (some (0))))), some (.inl n), some (.inl k), some (.inl w), some (.inr (.inr (.inl (some (t1))))), some (.inl (0))]) (st' := [.inl (-2)]) (h' := h) rfl ?_
          refine av_wp_ret (v := some (.inl (-2))) rfl rfl rfl ?_
          exact hq0 (by omega)
      · have c29 : v26 ≠ (0) := c29
        refine av_wp_seq 7 (pc' := 42) (lv' := [some (.inr (.inr (.inl (some (0))))), some (.inl n), some (.inl k), some (.inl w), some (.inr (.inr (.inl (some (t1))))), some (.inl (1))]) (st' := [.inl k, .inr (.inr (.inl (some (t1))))]) (h' := h) rfl ?_
        refine wq_cv (p' := 45) (av_qc (.invokevirtual 136) 28 1 0 1) 2 cd_28 [.inl k] (t1) 1 [some (.inr (.inr (.inl (some (t1))))), some (.inl k)] rfl rfl rfl pp_28 rfl rfl rfl (congrArg Prod.fst (co_kt (cs_co x5))) rfl rfl rfl rfl ?_
        refine ct_28 (cs_co x5) (k) (by omega) (fun v34 p35 => ?_)
        show av_wp _ cd_101 45 [some (.inr (.inr (.inl (some (0))))), some (.inl n), some (.inl k), some (.inl w), some (.inr (.inr (.inl (some (t1))))), some (.inl (1))] [.inl v34] h _
        refine wq_k1 (p' := 48) rfl rfl ⟨by omega, by omega⟩ (fun c36 => ?_) (fun c37 => ?_)
        · have c36 : v34 = (0) := c36
          refine av_wp_seq 1 (pc' := 55) (lv' := [some (.inr (.inr (.inl (some (0))))), some (.inl n), some (.inl k), some (.inl w), some (.inr (.inr (.inl (some (t1))))), some (.inl (1))]) (st' := [.inl (-2)]) (h' := h) rfl ?_
          refine av_wp_ret (v := some (.inl (-2))) rfl rfl rfl ?_
          exact hq0 (by omega)
        · have c37 : v34 ≠ (0) := c37
          refine av_wp_seq 5 (pc' := 60) (lv' := [some (.inr (.inr (.inl (some (0))))), some (.inl n), some (.inl k), some (.inl w), some (.inr (.inr (.inl (some (t1))))), some (.inl (1))]) (st' := [.inl w, .inl k, .inr (.inr (.inl (some (t1))))]) (h' := h) rfl ?_
          refine wq_cv (p' := 63) (av_qc (.invokevirtual 139) 29 2 0 1) 3 cd_29 [.inl w, .inl k] (t1) 1 [some (.inr (.inr (.inl (some (t1))))), some (.inl k), some (.inl w)] rfl rfl rfl pp_29 rfl rfl rfl (congrArg Prod.fst (co_kt (cs_co x5))) rfl rfl rfl rfl ?_
          refine cx_29 (cs_co x5) (k) (by omega) (w) (by omega) ?_
          show av_wp _ cd_101 63 [some (.inr (.inr (.inl (some (0))))), some (.inl n), some (.inl k), some (.inl w), some (.inr (.inr (.inl (some (t1))))), some (.inl (1))] [.inl (cel (hA h c2) s3 k w)] h _
          refine av_wp_ret (v := some (.inl (cel (hA h c2) s3 k w))) rfl rfl rfl ?_
          exact hq1 (by omega) (by omega) (by omega) _ _ _ _ x5 x6 x7 (by omega) (by omega) (by omega)
    · have c25 : (0) ≤ w := c25
      refine av_wp_seq 2 (pc' := 17) (lv' := [some (.inr (.inr (.inl (some (0))))), some (.inl n), some (.inl k), some (.inl w), some (.inr (.inr (.inl (some (t1))))), none]) (st' := [.inl (6), .inl w]) (h' := h) rfl ?_
      refine wq_k2 (p' := 20) rfl rfl ⟨by omega, by omega⟩ ⟨by omega, by omega⟩ (fun c38 => ?_) (fun c39 => ?_)
      · have c38 : w ≤ (6) := c38
        refine av_wp_seq 7 (pc' := 42) (lv' := [some (.inr (.inr (.inl (some (0))))), some (.inl n), some (.inl k), some (.inl w), some (.inr (.inr (.inl (some (t1))))), some (.inl (1))]) (st' := [.inl k, .inr (.inr (.inl (some (t1))))]) (h' := h) rfl ?_
        refine wq_cv (p' := 45) (av_qc (.invokevirtual 136) 28 1 0 1) 2 cd_28 [.inl k] (t1) 1 [some (.inr (.inr (.inl (some (t1))))), some (.inl k)] rfl rfl rfl pp_28 rfl rfl rfl (congrArg Prod.fst (co_kt (cs_co x5))) rfl rfl rfl rfl ?_
        refine ct_28 (cs_co x5) (k) (by omega) (fun v40 p41 => ?_)
        show av_wp _ cd_101 45 [some (.inr (.inr (.inl (some (0))))), some (.inl n), some (.inl k), some (.inl w), some (.inr (.inr (.inl (some (t1))))), some (.inl (1))] [.inl v40] h _
        refine wq_k1 (p' := 48) rfl rfl ⟨by omega, by omega⟩ (fun c42 => ?_) (fun c43 => ?_)
        · have c42 : v40 = (0) := c42
          refine av_wp_seq 1 (pc' := 55) (lv' := [some (.inr (.inr (.inl (some (0))))), some (.inl n), some (.inl k), some (.inl w), some (.inr (.inr (.inl (some (t1))))), some (.inl (1))]) (st' := [.inl (-2)]) (h' := h) rfl ?_
          refine av_wp_ret (v := some (.inl (-2))) rfl rfl rfl ?_
          exact hq0 (by omega)
        · have c43 : v40 ≠ (0) := c43
          refine av_wp_seq 5 (pc' := 60) (lv' := [some (.inr (.inr (.inl (some (0))))), some (.inl n), some (.inl k), some (.inl w), some (.inr (.inr (.inl (some (t1))))), some (.inl (1))]) (st' := [.inl w, .inl k, .inr (.inr (.inl (some (t1))))]) (h' := h) rfl ?_
          refine wq_cv (p' := 63) (av_qc (.invokevirtual 139) 29 2 0 1) 3 cd_29 [.inl w, .inl k] (t1) 1 [some (.inr (.inr (.inl (some (t1))))), some (.inl k), some (.inl w)] rfl rfl rfl pp_29 rfl rfl rfl (congrArg Prod.fst (co_kt (cs_co x5))) rfl rfl rfl rfl ?_
          refine cx_29 (cs_co x5) (k) (by omega) (w) (by omega) ?_
          show av_wp _ cd_101 63 [some (.inr (.inr (.inl (some (0))))), some (.inl n), some (.inl k), some (.inl w), some (.inr (.inr (.inl (some (t1))))), some (.inl (1))] [.inl (cel (hA h c2) s3 k w)] h _
          refine av_wp_ret (v := some (.inl (cel (hA h c2) s3 k w))) rfl rfl rfl ?_
          exact hq1 (by omega) (by omega) (by omega) _ _ _ _ x5 x6 x7 (by omega) (by omega) (by omega)
      · have c39 : (6) < w := c39
        refine av_wp_seq 1 (pc' := 21) (lv' := [some (.inr (.inr (.inl (some (0))))), some (.inl n), some (.inl k), some (.inl w), some (.inr (.inr (.inl (some (t1))))), none]) (st' := [.inl w]) (h' := h) rfl ?_
        refine wq_cs (p' := 24) (av_qc (.invokestatic 133) 102 1 2 7) 1 cd_102 [.inl w] [.inl w] [some (.inl w)] rfl rfl rfl pp_102 (fun _ => rfl) rfl rfl ?_
        refine ct_102 (w) (by omega) (fun v44 p45 => ?_)
        show av_wp _ cd_101 24 [some (.inr (.inr (.inl (some (0))))), some (.inl n), some (.inl k), some (.inl w), some (.inr (.inr (.inl (some (t1))))), none] [.inl v44] h _
        refine wq_k1 (p' := 27) rfl rfl ⟨by omega, by omega⟩ (fun c46 => ?_) (fun c47 => ?_)
        · have c46 : v44 = (0) := c46
          refine av_wp_seq 6 (pc' := 42) (lv' := [some (.inr (.inr (.inl (some (0))))), some (.inl n), some (.inl k), some (.inl w), some (.inr (.inr (.inl (some (t1))))), some (.inl (0))]) (st' := [.inl k, .inr (.inr (.inl (some (t1))))]) (h' := h) rfl ?_
          refine wq_cv (p' := 45) (av_qc (.invokevirtual 136) 28 1 0 1) 2 cd_28 [.inl k] (t1) 1 [some (.inr (.inr (.inl (some (t1))))), some (.inl k)] rfl rfl rfl pp_28 rfl rfl rfl (congrArg Prod.fst (co_kt (cs_co x5))) rfl rfl rfl rfl ?_
          refine ct_28 (cs_co x5) (k) (by omega) (fun v48 p49 => ?_)
          show av_wp _ cd_101 45 [some (.inr (.inr (.inl (some (0))))), some (.inl n), some (.inl k), some (.inl w), some (.inr (.inr (.inl (some (t1))))), some (.inl (0))] [.inl v48] h _
          refine wq_k1 (p' := 48) rfl rfl ⟨by omega, by omega⟩ (fun c50 => ?_) (fun c51 => ?_)
          · have c50 : v48 = (0) := c50
            refine av_wp_seq 1 (pc' := 55) (lv' := [some (.inr (.inr (.inl (some (0))))), some (.inl n), some (.inl k), some (.inl w), some (.inr (.inr (.inl (some (t1))))), some (.inl (0))]) (st' := [.inl (-2)]) (h' := h) rfl ?_
            refine av_wp_ret (v := some (.inl (-2))) rfl rfl rfl ?_
            exact hq0 (by omega)
          · have c51 : v48 ≠ (0) := c51
            refine av_wp_seq 3 (pc' := 55) (lv' := [some (.inr (.inr (.inl (some (0))))), some (.inl n), some (.inl k), some (.inl w), some (.inr (.inr (.inl (some (t1))))), some (.inl (0))]) (st' := [.inl (-2)]) (h' := h) rfl ?_
            refine av_wp_ret (v := some (.inl (-2))) rfl rfl rfl ?_
            exact hq0 (by omega)
        · have c47 : v44 ≠ (0) := c47
          refine av_wp_seq 7 (pc' := 42) (lv' := [some (.inr (.inr (.inl (some (0))))), some (.inl n), some (.inl k), some (.inl w), some (.inr (.inr (.inl (some (t1))))), some (.inl (1))]) (st' := [.inl k, .inr (.inr (.inl (some (t1))))]) (h' := h) rfl ?_
          refine wq_cv (p' := 45) (av_qc (.invokevirtual 136) 28 1 0 1) 2 cd_28 [.inl k] (t1) 1 [some (.inr (.inr (.inl (some (t1))))), some (.inl k)] rfl rfl rfl pp_28 rfl rfl rfl (congrArg Prod.fst (co_kt (cs_co x5))) rfl rfl rfl rfl ?_
          refine ct_28 (cs_co x5) (k) (by omega) (fun v52 p53 => ?_)
          show av_wp _ cd_101 45 [some (.inr (.inr (.inl (some (0))))), some (.inl n), some (.inl k), some (.inl w), some (.inr (.inr (.inl (some (t1))))), some (.inl (1))] [.inl v52] h _
          refine wq_k1 (p' := 48) rfl rfl ⟨by omega, by omega⟩ (fun c54 => ?_) (fun c55 => ?_)
          · have c54 : v52 = (0) := c54
            refine av_wp_seq 1 (pc' := 55) (lv' := [some (.inr (.inr (.inl (some (0))))), some (.inl n), some (.inl k), some (.inl w), some (.inr (.inr (.inl (some (t1))))), some (.inl (1))]) (st' := [.inl (-2)]) (h' := h) rfl ?_
            refine av_wp_ret (v := some (.inl (-2))) rfl rfl rfl ?_
            exact hq0 (by omega)
          · have c55 : v52 ≠ (0) := c55
            refine av_wp_seq 5 (pc' := 60) (lv' := [some (.inr (.inr (.inl (some (0))))), some (.inl n), some (.inl k), some (.inl w), some (.inr (.inr (.inl (some (t1))))), some (.inl (1))]) (st' := [.inl w, .inl k, .inr (.inr (.inl (some (t1))))]) (h' := h) rfl ?_
            refine wq_cv (p' := 63) (av_qc (.invokevirtual 139) 29 2 0 1) 3 cd_29 [.inl w, .inl k] (t1) 1 [some (.inr (.inr (.inl (some (t1))))), some (.inl k), some (.inl w)] rfl rfl rfl pp_29 rfl rfl rfl (congrArg Prod.fst (co_kt (cs_co x5))) rfl rfl rfl rfl ?_
            refine cx_29 (cs_co x5) (k) (by omega) (w) (by omega) ?_
            show av_wp _ cd_101 63 [some (.inr (.inr (.inl (some (0))))), some (.inl n), some (.inl k), some (.inl w), some (.inr (.inr (.inl (some (t1))))), some (.inl (1))] [.inl (cel (hA h c2) s3 k w)] h _
            refine av_wp_ret (v := some (.inl (cel (hA h c2) s3 k w))) rfl rfl rfl ?_
            exact hq1 (by omega) (by omega) (by omega) _ _ _ _ x5 x6 x7 (by omega) (by omega) (by omega)

set_option maxRecDepth 100000 in
set_option maxHeartbeats 4000000 in
theorem cx_70 {h : av_H} (I : IC h) (k : Int) (qk : -2147483648 ≤ k ∧ k ≤ 2147483647) {Q : Option av_V → av_H → Prop} (hq : ∀ v : Int, ((v = 1 ∧ 0 ≤ k ∧ k < hF h 3 4) ∨ (v = 0 ∧ (k < 0 ∨ hF h 3 4 ≤ k))) → Q (some (.inl v)) h) : av_wp none cd_70 0 [some (.inr (.inr (.inl (some (3))))), some (.inl k)] [] h Q := by
  have F := Fr1_rf h
  refine av_wp_seq 1 (pc' := 1) (lv' := [some (.inr (.inr (.inl (some (3))))), some (.inl k)]) (st' := [.inl k]) (h' := h) rfl ?_
  refine wq_k1 (p' := 4) rfl rfl ⟨by omega, by omega⟩ (fun c1 => ?_) (fun c2 => ?_)
  · have c1 : k < (0) := c1
    refine av_wp_seq 1 (pc' := 17) (lv' := [some (.inr (.inr (.inl (some (3))))), some (.inl k)]) (st' := [.inl (0)]) (h' := h) rfl ?_
    refine av_wp_ret (v := some (.inl (0))) rfl rfl rfl ?_
    exact hq _ (by omega)
  · have c2 : (0) ≤ k := c2
    refine av_wp_seq 2 (pc' := 6) (lv' := [some (.inr (.inr (.inl (some (3))))), some (.inl k)]) (st' := [.inr (.inr (.inl (some (3)))), .inl k]) (h' := h) rfl ?_
    obtain ⟨v3, e4⟩ : ∃ v, hF h 3 4 = v := ⟨_, rfl⟩
    have g5 := ic_lc I
    rw [e4] at g5
    refine wq_gi (p' := 9) rfl rfl (congrArg Prod.fst (ly_k I.1 3 rfl)) rfl (e4) ?_
    refine wq_k2 (p' := 12) rfl rfl ⟨by omega, by omega⟩ ⟨by omega, by omega⟩ (fun c6 => ?_) (fun c7 => ?_)
    · have c6 : v3 ≤ k := c6
      refine av_wp_seq 1 (pc' := 17) (lv' := [some (.inr (.inr (.inl (some (3))))), some (.inl k)]) (st' := [.inl (0)]) (h' := h) rfl ?_
      refine av_wp_ret (v := some (.inl (0))) rfl rfl rfl ?_
      exact hq _ (by omega)
    · have c7 : k < v3 := c7
      refine av_wp_seq 2 (pc' := 17) (lv' := [some (.inr (.inr (.inl (some (3))))), some (.inl k)]) (st' := [.inl (1)]) (h' := h) rfl ?_
      refine av_wp_ret (v := some (.inl (1))) rfl rfl rfl ?_
      exact hq _ (by omega)

set_option maxRecDepth 100000 in
set_option maxHeartbeats 4000000 in
theorem cx_105 {h : av_H} (I : IC h) (l : Int) (ql : -2147483648 ≤ l ∧ l ≤ 2147483647) (w : Int) (qw : -2147483648 ≤ w ∧ w ≤ 2147483647) {Q : Option av_V → av_H → Prop} (hq0 : (l < 0 ∨ hF h 3 4 ≤ l ∨ w < 0 ∨ 13 < w) → Q (some (.inl (-2))) h) (hq1 : ∀ v : Int, 0 ≤ l → l < hF h 3 4 → 0 ≤ w → w ≤ 13 → v = hA h (6 + Int.toNat l) (Int.toNat w) → Q (some (.inl v)) h) : av_wp none cd_105 0 [some (.inr (.inr (.inl (some (0))))), some (.inl l), some (.inl w)] [] h Q := by
  have F := Fr1_rf h
  refine av_wp_seq 1 (pc' := 1) (lv' := [some (.inr (.inr (.inl (some (0))))), some (.inl l), some (.inl w)]) (st' := [.inr (.inr (.inl (some (0))))]) (h' := h) rfl ?_
  refine wq_gr (p' := 4) rfl rfl (congrArg Prod.fst (ly_k I.1 0 rfl)) rfl (ly_g I.1 0 1 3 rfl) ?_
  refine av_wp_seq 1 (pc' := 5) (lv' := [some (.inr (.inr (.inl (some (0))))), some (.inl l), some (.inl w)]) (st' := [.inl l, .inr (.inr (.inl (some (3))))]) (h' := h) rfl ?_
  refine wq_cv (p' := 8) (av_qc (.invokevirtual 153) 70 1 0 5) 2 cd_70 [.inl l] (3) 5 [some (.inr (.inr (.inl (some (3))))), some (.inl l)] rfl rfl rfl pp_70 rfl rfl rfl (congrArg Prod.fst (ly_k I.1 3 rfl)) rfl rfl rfl rfl ?_
  refine cx_70 I (l) (by omega) (fun v1 p2 => ?_)
  have g3 := ic_lc I
  show av_wp _ cd_105 8 [some (.inr (.inr (.inl (some (0))))), some (.inl l), some (.inl w)] [.inl v1] h _
  refine wq_k1 (p' := 11) rfl rfl ⟨by omega, by omega⟩ (fun c4 => ?_) (fun c5 => ?_)
  · have c4 : v1 = (0) := c4
    refine av_wp_seq 1 (pc' := 23) (lv' := [some (.inr (.inr (.inl (some (0))))), some (.inl l), some (.inl w)]) (st' := [.inl (-2)]) (h' := h) rfl ?_
    refine av_wp_ret (v := some (.inl (-2))) rfl rfl rfl ?_
    exact hq0 (by omega)
  · have c5 : v1 ≠ (0) := c5
    refine av_wp_seq 1 (pc' := 12) (lv' := [some (.inr (.inr (.inl (some (0))))), some (.inl l), some (.inl w)]) (st' := [.inl w]) (h' := h) rfl ?_
    refine wq_k1 (p' := 15) rfl rfl ⟨by omega, by omega⟩ (fun c6 => ?_) (fun c7 => ?_)
    · have c6 : w < (0) := c6
      refine av_wp_seq 1 (pc' := 23) (lv' := [some (.inr (.inr (.inl (some (0))))), some (.inl l), some (.inl w)]) (st' := [.inl (-2)]) (h' := h) rfl ?_
      refine av_wp_ret (v := some (.inl (-2))) rfl rfl rfl ?_
      exact hq0 (by omega)
    · have c7 : (0) ≤ w := c7
      refine av_wp_seq 2 (pc' := 18) (lv' := [some (.inr (.inr (.inl (some (0))))), some (.inl l), some (.inl w)]) (st' := [.inl (14), .inl w]) (h' := h) rfl ?_
      refine wq_k2 (p' := 21) rfl rfl ⟨by omega, by omega⟩ ⟨by omega, by omega⟩ (fun c8 => ?_) (fun c9 => ?_)
      · have c8 : w < (14) := c8
        refine av_wp_seq 1 (pc' := 25) (lv' := [some (.inr (.inr (.inl (some (0))))), some (.inl l), some (.inl w)]) (st' := [.inr (.inr (.inl (some (0))))]) (h' := h) rfl ?_
        refine wq_gr (p' := 28) rfl rfl (congrArg Prod.fst (ly_k I.1 0 rfl)) rfl (ly_g I.1 0 1 3 rfl) ?_
        refine wq_gr (p' := 31) rfl rfl (congrArg Prod.fst (ly_k I.1 3 rfl)) rfl (ly_g I.1 3 1 5 rfl) ?_
        refine av_wp_seq 1 (pc' := 32) (lv' := [some (.inr (.inr (.inl (some (0))))), some (.inl l), some (.inl w)]) (st' := [.inl l, .inr (.inr (.inl (some (5))))]) (h' := h) rfl ?_
        have u10 : (Int.toNat (l)) < 8 := by omega
        refine wq_ar (p' := 33) (n := 8) (k := 32) rfl rfl (ly_k I.1 5 rfl) (by omega) (by omega) (I.1.2.2.1 _ u10) ?_
        refine av_wp_seq 1 (pc' := 34) (lv' := [some (.inr (.inr (.inl (some (0))))), some (.inl l), some (.inl w)]) (st' := [.inl w, .inr (.inr (.inl (some (6 + (Int.toNat (l))))))]) (h' := h) rfl ?_
        obtain ⟨v11, e12⟩ : ∃ v, hA h (6 + (Int.toNat (l))) (Int.toNat (w)) = v := ⟨_, rfl⟩
        have g13 := I.2.1 _ (rwc_l u10) (Int.toNat (w))
        rw [e12] at g13
        refine wq_al (p' := 35) (n := 14) rfl rfl (ly_l I.1 u10) (by omega) (e12) ?_
        refine av_wp_ret (v := some (.inl v11)) rfl rfl rfl ?_
        exact hq1 _ (by omega) (by omega) (by omega) (by omega) e12.symm
      · have c9 : (14) ≤ w := c9
        refine av_wp_seq 1 (pc' := 23) (lv' := [some (.inr (.inr (.inl (some (0))))), some (.inl l), some (.inl w)]) (st' := [.inl (-2)]) (h' := h) rfl ?_
        refine av_wp_ret (v := some (.inl (-2))) rfl rfl rfl ?_
        exact hq0 (by omega)

set_option maxRecDepth 100000 in
set_option maxHeartbeats 4000000 in
theorem cx_76 {h : av_H} (I : IC h) {A : Nat → Nat → Int} (SS : SL h A 3 0)  {Q : Option av_V → av_H → Prop} (hq : Q (some (.inl (sumv (A 81) (Int.toNat (hF h 3 3))))) h) : av_wp none cd_76 0 [some (.inr (.inr (.inl (some (3))))), none, none, none] [] h Q := by
  have F := Fr1_rf h
  have cc0 := ic_cc I
  refine av_wp_seq 4 (pc' := 4) (lv' := [some (.inr (.inr (.inl (some (3))))), some (.inl (0)), some (.inl (0)), none]) (st' := []) (h' := h) rfl ?_
  have L5 : ∀ (m4 : Nat) (k1 : Int) (k2 : Int) (a3 : Option av_V), av_lg a3 = false → k1 = sumv (A 81) (Int.toNat k2) → k2 ≤ hF h 3 3 → (0 ≤ k2 ∧ k2 ≤ 16) → (16 - k2).toNat = m4 → av_wp none cd_76 4 [some (.inr (.inr (.inl (some (3))))), some (.inl k1), some (.inl k2), a3] [] h Q := by
    intro m4
    induction m4 using Nat.strongRecOn with
    | _ m4 I6 =>
      intro k1 k2 a3 g8 g9 g10 g11 e7
      have la3 := g8
      refine av_wp_seq 2 (pc' := 6) (lv' := [some (.inr (.inr (.inl (some (3))))), some (.inl k1), some (.inl k2), a3]) (st' := [.inr (.inr (.inl (some (3)))), .inl k2]) (h' := h) rfl ?_
      obtain ⟨v12, e13⟩ : ∃ v, hF h 3 3 = v := ⟨_, rfl⟩
      have g14 := ic_cc I
      rw [e13] at g14
      refine wq_gi (p' := 9) rfl rfl (congrArg Prod.fst (ly_k I.1 3 rfl)) rfl (e13) ?_
      refine wq_k2 (p' := 12) rfl rfl ⟨by omega, by omega⟩ ⟨by omega, by omega⟩ (fun c15 => ?_) (fun c16 => ?_)
      · have c15 : v12 ≤ k2 := c15
        refine av_wp_seq 1 (pc' := 40) (lv' := [some (.inr (.inr (.inl (some (3))))), some (.inl k1), some (.inl k2), a3]) (st' := [.inl k1]) (h' := h) rfl ?_
        refine av_wp_ret (v := some (.inl k1)) rfl rfl rfl ?_
        rw [g9, show k2 = hF h 3 3 by omega]
        exact hq
      · have c16 : k2 < v12 := c16
        refine av_wp_seq 2 (pc' := 14) (lv' := [some (.inr (.inr (.inl (some (3))))), some (.inl k1), some (.inl k2), a3]) (st' := [.inl k2, .inr (.inr (.inl (some (3))))]) (h' := h) rfl ?_
        refine wq_cv (p' := 17) (av_qc (.invokevirtual 53) 69 1 0 5) 2 cd_69 [.inl k2] (3) 5 [some (.inr (.inr (.inl (some (3))))), some (.inl k2)] rfl rfl rfl pp_69 rfl rfl rfl (congrArg Prod.fst (ly_k I.1 3 rfl)) rfl rfl rfl rfl ?_
        refine cx_69 I SS (k2) (by omega) (fun z24 => ?_) (fun z24 z25 z26 t17 c18 s19 f20 x21 x22 x23 => ?_)
        · show av_wp _ cd_76 17 [some (.inr (.inr (.inl (some (3))))), some (.inl k1), some (.inl k2), a3] [.inr (.inr (.inl none))] h _
          refine av_wp_seq 6 (pc' := 31) (lv' := [some (.inr (.inr (.inl (some (3))))), some (.inl k1), some (.inl k2), some (.inr (.inr (.inl none)))]) (st' := [.inl (0), .inl k1]) (h' := h) rfl ?_
          exfalso; omega
        · have g27 := co_s12 (cs_co x21)
          show av_wp _ cd_76 17 [some (.inr (.inr (.inl (some (3))))), some (.inl k1), some (.inl k2), a3] [.inr (.inr (.inl (some (t17))))] h _
          refine av_wp_seq 5 (pc' := 28) (lv' := [some (.inr (.inr (.inl (some (3))))), some (.inl k1), some (.inl k2), some (.inr (.inr (.inl (some (t17)))))]) (st' := [.inr (.inr (.inl (some (t17)))), .inl k1]) (h' := h) rfl ?_
          refine wq_gi (p' := 31) rfl rfl (congrArg Prod.fst (co_kt (cs_co x21))) rfl (co_s (cs_co x21)) ?_
          have u28 := sumv_s (a := A 81) (k := k2) (by omega) g9 x22
          refine av_wp_seq 4 (pc' := 4) (lv' := [some (.inr (.inr (.inl (some (3))))), some (.inl (k1 + (s19 : Int))), some (.inl (k2 + (1))), some (.inr (.inr (.inl (some (t17)))))]) (st' := []) (h' := h) rfl ?_
          exact I6 _ (by omega) ((k1 + (s19 : Int))) ((k2 + (1))) (some (.inr (.inr (.inl (some (t17)))))) rfl u28 (by omega) (by omega) rfl
  exact L5 _ ((0)) ((0)) (none) rfl rfl (by omega) (by omega) rfl

set_option maxRecDepth 100000 in
set_option maxHeartbeats 4000000 in
theorem cx_125 {h : av_H} (I : IC h) {A : Nat → Nat → Int} (SS : SL h A 3 0) (w : Int) (qw : -2147483648 ≤ w ∧ w ≤ 2147483647) {Q : Option av_V → av_H → Prop} (hq : ∀ v : Int, ((w = 0 ∧ v = hF h 3 3) ∨ (w = 1 ∧ v = hF h 3 4) ∨ (w = 2 ∧ v = hF h 3 5) ∨ (w = 3 ∧ v = hF h 1 1) ∨ (w = 4 ∧ v = sumv (A 81) (Int.toNat (hF h 3 3))) ∨ (w = 5 ∧ v = hF h 0 7) ∨ ((w < 0 ∨ 5 < w) ∧ v = -1)) → Q (some (.inl v)) h) : av_wp none cd_125 0 [some (.inr (.inr (.inl (some (0))))), some (.inl w)] [] h Q := by
  have F := Fr1_rf h
  refine av_wp_seq 1 (pc' := 1) (lv' := [some (.inr (.inr (.inl (some (0))))), some (.inl w)]) (st' := [.inl w]) (h' := h) rfl ?_
  rcases (show w = 0 ∨ w = 1 ∨ w = 2 ∨ w = 3 ∨ w = 4 ∨ w = 5 ∨ (w < 0 ∨ 5 < w) by omega) with e1 | e1 | e1 | e1 | e1 | e1 | e1
  · refine wq_tc (t := 40) rfl e1 rfl ?_
    refine av_wp_seq 1 (pc' := 41) (lv' := [some (.inr (.inr (.inl (some (0))))), some (.inl w)]) (st' := [.inr (.inr (.inl (some (0))))]) (h' := h) rfl ?_
    refine wq_gr (p' := 44) rfl rfl (congrArg Prod.fst (ly_k I.1 0 rfl)) rfl (ly_g I.1 0 1 3 rfl) ?_
    obtain ⟨v2, e3⟩ : ∃ v, hF h 3 3 = v := ⟨_, rfl⟩
    have g4 := ic_cc I
    rw [e3] at g4
    refine wq_gi (p' := 47) rfl rfl (congrArg Prod.fst (ly_k I.1 3 rfl)) rfl (e3) ?_
    refine av_wp_ret (v := some (.inl v2)) rfl rfl rfl ?_
    exact hq _ (by omega)
  · refine wq_tc (t := 48) rfl e1 rfl ?_
    refine av_wp_seq 1 (pc' := 49) (lv' := [some (.inr (.inr (.inl (some (0))))), some (.inl w)]) (st' := [.inr (.inr (.inl (some (0))))]) (h' := h) rfl ?_
    refine wq_gr (p' := 52) rfl rfl (congrArg Prod.fst (ly_k I.1 0 rfl)) rfl (ly_g I.1 0 1 3 rfl) ?_
    obtain ⟨v5, e6⟩ : ∃ v, hF h 3 4 = v := ⟨_, rfl⟩
    have g7 := ic_lc I
    rw [e6] at g7
    refine wq_gi (p' := 55) rfl rfl (congrArg Prod.fst (ly_k I.1 3 rfl)) rfl (e6) ?_
    refine av_wp_ret (v := some (.inl v5)) rfl rfl rfl ?_
    exact hq _ (by omega)
  · refine wq_tc (t := 56) rfl e1 rfl ?_
    refine av_wp_seq 1 (pc' := 57) (lv' := [some (.inr (.inr (.inl (some (0))))), some (.inl w)]) (st' := [.inr (.inr (.inl (some (0))))]) (h' := h) rfl ?_
    refine wq_gr (p' := 60) rfl rfl (congrArg Prod.fst (ly_k I.1 0 rfl)) rfl (ly_g I.1 0 1 3 rfl) ?_
    obtain ⟨v8, e9⟩ : ∃ v, hF h 3 5 = v := ⟨_, rfl⟩
    have g10 := ic_kc I
    rw [e9] at g10
    refine wq_gi (p' := 63) rfl rfl (congrArg Prod.fst (ly_k I.1 3 rfl)) rfl (e9) ?_
    refine av_wp_ret (v := some (.inl v8)) rfl rfl rfl ?_
    exact hq _ (by omega)
  · refine wq_tc (t := 64) rfl e1 rfl ?_
    refine av_wp_seq 1 (pc' := 65) (lv' := [some (.inr (.inr (.inl (some (0))))), some (.inl w)]) (st' := [.inr (.inr (.inl (some (0))))]) (h' := h) rfl ?_
    refine wq_gr (p' := 68) rfl rfl (congrArg Prod.fst (ly_k I.1 0 rfl)) rfl (ly_g I.1 0 0 1 rfl) ?_
    obtain ⟨v11, e12⟩ : ∃ v, hF h 1 1 = v := ⟨_, rfl⟩
    refine wq_gi (p' := 71) rfl rfl (congrArg Prod.fst (ly_k I.1 1 rfl)) rfl (e12) ?_
    refine av_wp_ret (v := some (.inl v11)) rfl rfl rfl ?_
    exact hq _ (by omega)
  · refine wq_tc (t := 72) rfl e1 rfl ?_
    refine av_wp_seq 1 (pc' := 73) (lv' := [some (.inr (.inr (.inl (some (0))))), some (.inl w)]) (st' := [.inr (.inr (.inl (some (0))))]) (h' := h) rfl ?_
    refine wq_gr (p' := 76) rfl rfl (congrArg Prod.fst (ly_k I.1 0 rfl)) rfl (ly_g I.1 0 1 3 rfl) ?_
    refine wq_cv (p' := 79) (av_qc (.invokevirtual 269) 76 0 0 5) 4 cd_76 [] (3) 5 [some (.inr (.inr (.inl (some (3))))), none, none, none] rfl rfl rfl pp_76 rfl rfl rfl (congrArg Prod.fst (ly_k I.1 3 rfl)) rfl rfl rfl rfl ?_
    refine cx_76 I SS ?_
    show av_wp _ cd_125 79 [some (.inr (.inr (.inl (some (0))))), some (.inl w)] [.inl (sumv (A 81) (Int.toNat (hF h 3 3)))] h _
    refine av_wp_ret (v := some (.inl (sumv (A 81) (Int.toNat (hF h 3 3))))) rfl rfl rfl ?_
    exact hq _ (by omega)
  · refine wq_tc (t := 80) rfl e1 rfl ?_
    refine av_wp_seq 1 (pc' := 81) (lv' := [some (.inr (.inr (.inl (some (0))))), some (.inl w)]) (st' := [.inr (.inr (.inl (some (0))))]) (h' := h) rfl ?_
    obtain ⟨v13, e14⟩ : ∃ v, hF h 0 7 = v := ⟨_, rfl⟩
    refine wq_gi (p' := 84) rfl rfl (congrArg Prod.fst (ly_k I.1 0 rfl)) rfl (e14) ?_
    refine av_wp_ret (v := some (.inl v13)) rfl rfl rfl ?_
    exact hq _ (by omega)
  · refine wq_td (t := 85) rfl ⟨by omega, by omega⟩ e1 rfl ?_
    refine av_wp_seq 1 (pc' := 86) (lv' := [some (.inr (.inr (.inl (some (0))))), some (.inl w)]) (st' := [.inl (-1)]) (h' := h) rfl ?_
    refine av_wp_ret (v := some (.inl (-1))) rfl rfl rfl ?_
    exact hq _ (by omega)

set_option maxRecDepth 100000 in
set_option maxHeartbeats 4000000 in
theorem cx_158 {h : av_H} (I : IM h)   {Q : Option av_V → av_H → Prop} (hq : Q (some (.inl (hF h 77 18))) h) : av_wp none cd_158 0 [some (.inr (.inr (.inl (some (77)))))] [] h Q := by
  refine av_wp_seq 1 (pc' := 1) (lv' := [some (.inr (.inr (.inl (some (77)))))]) (st' := [.inr (.inr (.inl (some (77))))]) (h' := h) rfl ?_
  obtain ⟨v1, e2⟩ : ∃ v, hF h 77 18 = v := ⟨_, rfl⟩
  refine wq_gi (p' := 4) rfl rfl (congrArg Prod.fst (ly_k I.1.1 77 rfl)) rfl (e2) ?_
  refine av_wp_ret (v := some (.inl v1)) rfl rfl rfl ?_
  rw [← e2]
  exact hq

set_option maxRecDepth 100000 in
set_option maxHeartbeats 4000000 in
theorem cx_149 {h : av_H} (I : IM h)  (x : Int) (qx : -2147483648 ≤ x ∧ x ≤ 2147483647) {Q : Option av_V → av_H → Prop} (hq : ∀ v : Int, ((v = 1 ∧ 0 ≤ x ∧ x < hA h 78 0) ∨ (v = 0 ∧ (x < 0 ∨ hA h 78 0 ≤ x))) → Q (some (.inl v)) h) : av_wp none cd_149 0 [some (.inr (.inr (.inl (some (77))))), some (.inl x)] [] h Q := by
  refine av_wp_seq 1 (pc' := 1) (lv' := [some (.inr (.inr (.inl (some (77))))), some (.inl x)]) (st' := [.inl x]) (h' := h) rfl ?_
  refine wq_k1 (p' := 4) rfl rfl ⟨by omega, by omega⟩ (fun c1 => ?_) (fun c2 => ?_)
  · have c1 : x < (0) := c1
    refine av_wp_seq 1 (pc' := 19) (lv' := [some (.inr (.inr (.inl (some (77))))), some (.inl x)]) (st' := [.inl (0)]) (h' := h) rfl ?_
    refine av_wp_ret (v := some (.inl (0))) rfl rfl rfl ?_
    exact hq _ (by omega)
  · have c2 : (0) ≤ x := c2
    refine av_wp_seq 2 (pc' := 6) (lv' := [some (.inr (.inr (.inl (some (77))))), some (.inl x)]) (st' := [.inr (.inr (.inl (some (77)))), .inl x]) (h' := h) rfl ?_
    refine wq_gr (p' := 9) rfl rfl (congrArg Prod.fst (ly_k I.1.1 77 rfl)) rfl (ly_g I.1.1 77 0 78 rfl) ?_
    refine av_wp_seq 1 (pc' := 10) (lv' := [some (.inr (.inr (.inl (some (77))))), some (.inl x)]) (st' := [.inl (0), .inr (.inr (.inl (some (78)))), .inl x]) (h' := h) rfl ?_
    obtain ⟨v3, e4⟩ : ∃ v, hA h 78 (Int.toNat ((0))) = v := ⟨_, rfl⟩
    have g5 : 0 ≤ hA h 78 0 ∧ hA h 78 0 ≤ 16 := I.1.2.1.2.1
    have e4 : hA h 78 0 = v3 := e4
    rw [e4] at g5
    refine wq_al (p' := 11) (n := 5) rfl rfl (ly_k I.1.1 78 rfl) (by omega) (e4) ?_
    refine wq_k2 (p' := 14) rfl rfl ⟨by omega, by omega⟩ ⟨by omega, by omega⟩ (fun c6 => ?_) (fun c7 => ?_)
    · have c6 : v3 ≤ x := c6
      refine av_wp_seq 1 (pc' := 19) (lv' := [some (.inr (.inr (.inl (some (77))))), some (.inl x)]) (st' := [.inl (0)]) (h' := h) rfl ?_
      refine av_wp_ret (v := some (.inl (0))) rfl rfl rfl ?_
      exact hq _ (by omega)
    · have c7 : x < v3 := c7
      refine av_wp_seq 2 (pc' := 19) (lv' := [some (.inr (.inr (.inl (some (77))))), some (.inl x)]) (st' := [.inl (1)]) (h' := h) rfl ?_
      refine av_wp_ret (v := some (.inl (1))) rfl rfl rfl ?_
      exact hq _ (by omega)

set_option maxRecDepth 100000 in
set_option maxHeartbeats 4000000 in
theorem cx_150 {h : av_H} (I : IM h)  (x : Int) (qx : -2147483648 ≤ x ∧ x ≤ 2147483647) {Q : Option av_V → av_H → Prop} (hq : ∀ v : Int, ((v = 1 ∧ 0 ≤ x ∧ x < hA h 79 0) ∨ (v = 0 ∧ (x < 0 ∨ hA h 79 0 ≤ x))) → Q (some (.inl v)) h) : av_wp none cd_150 0 [some (.inr (.inr (.inl (some (77))))), some (.inl x)] [] h Q := by
  refine av_wp_seq 1 (pc' := 1) (lv' := [some (.inr (.inr (.inl (some (77))))), some (.inl x)]) (st' := [.inl x]) (h' := h) rfl ?_
  refine wq_k1 (p' := 4) rfl rfl ⟨by omega, by omega⟩ (fun c1 => ?_) (fun c2 => ?_)
  · have c1 : x < (0) := c1
    refine av_wp_seq 1 (pc' := 19) (lv' := [some (.inr (.inr (.inl (some (77))))), some (.inl x)]) (st' := [.inl (0)]) (h' := h) rfl ?_
    refine av_wp_ret (v := some (.inl (0))) rfl rfl rfl ?_
    exact hq _ (by omega)
  · have c2 : (0) ≤ x := c2
    refine av_wp_seq 2 (pc' := 6) (lv' := [some (.inr (.inr (.inl (some (77))))), some (.inl x)]) (st' := [.inr (.inr (.inl (some (77)))), .inl x]) (h' := h) rfl ?_
    refine wq_gr (p' := 9) rfl rfl (congrArg Prod.fst (ly_k I.1.1 77 rfl)) rfl (ly_g I.1.1 77 1 79 rfl) ?_
    refine av_wp_seq 1 (pc' := 10) (lv' := [some (.inr (.inr (.inl (some (77))))), some (.inl x)]) (st' := [.inl (0), .inr (.inr (.inl (some (79)))), .inl x]) (h' := h) rfl ?_
    obtain ⟨v3, e4⟩ : ∃ v, hA h 79 (Int.toNat ((0))) = v := ⟨_, rfl⟩
    have g5 : 0 ≤ hA h 79 0 ∧ hA h 79 0 ≤ 8 := I.1.2.1.2.2.1
    have e4 : hA h 79 0 = v3 := e4
    rw [e4] at g5
    refine wq_al (p' := 11) (n := 5) rfl rfl (ly_k I.1.1 79 rfl) (by omega) (e4) ?_
    refine wq_k2 (p' := 14) rfl rfl ⟨by omega, by omega⟩ ⟨by omega, by omega⟩ (fun c6 => ?_) (fun c7 => ?_)
    · have c6 : v3 ≤ x := c6
      refine av_wp_seq 1 (pc' := 19) (lv' := [some (.inr (.inr (.inl (some (77))))), some (.inl x)]) (st' := [.inl (0)]) (h' := h) rfl ?_
      refine av_wp_ret (v := some (.inl (0))) rfl rfl rfl ?_
      exact hq _ (by omega)
    · have c7 : x < v3 := c7
      refine av_wp_seq 2 (pc' := 19) (lv' := [some (.inr (.inr (.inl (some (77))))), some (.inl x)]) (st' := [.inl (1)]) (h' := h) rfl ?_
      refine av_wp_ret (v := some (.inl (1))) rfl rfl rfl ?_
      exact hq _ (by omega)

set_option maxRecDepth 100000 in
set_option maxHeartbeats 4000000 in
theorem cx_161 {h : av_H} (I : IM h)  (x : Int) (qx : -2147483648 ≤ x ∧ x ≤ 2147483647) (k : Int) (qk : -2147483648 ≤ k ∧ k ≤ 2147483647) (w : Int) (qw : -2147483648 ≤ w ∧ w ≤ 2147483647) {Q : Option av_V → av_H → Prop} (hq0 : (x < 0 ∨ hA h 78 0 ≤ x ∨ k < 0 ∨ hA h 81 (Int.toNat x) ≤ k ∨ w < 0 ∨ (6 < w ∧ w < 10) ∨ 14 < w) → Q (some (.inl (-2))) h) (hq1 : ∀ v : Int, 0 ≤ x → x < hA h 78 0 → 0 ≤ k → k < hA h 81 (Int.toNat x) → ((0 ≤ w ∧ w ≤ 6) ∨ (10 ≤ w ∧ w ≤ 14)) → v = rwA (hA h) (12 * Int.toNat x + Int.toNat k) (Int.toNat w) → Q (some (.inl v)) h) : av_wp none cd_161 0 [some (.inr (.inr (.inl (some (77))))), some (.inl x), some (.inl k), some (.inl w), none] [] h Q := by
  refine av_wp_seq 2 (pc' := 2) (lv' := [some (.inr (.inr (.inl (some (77))))), some (.inl x), some (.inl k), some (.inl w), none]) (st' := [.inl x, .inr (.inr (.inl (some (77))))]) (h' := h) rfl ?_
  refine wq_cv (p' := 5) (av_qc (.invokevirtual 299) 149 1 0 8) 2 cd_149 [.inl x] (77) 8 [some (.inr (.inr (.inl (some (77))))), some (.inl x)] rfl rfl rfl pp_149 rfl rfl rfl (congrArg Prod.fst (ly_k I.1.1 77 rfl)) rfl rfl rfl rfl ?_
  refine cx_149 I (x) (by omega) (fun v1 p2 => ?_)
  have g3 := I.1.2.1.2.1
  show av_wp _ cd_161 5 [some (.inr (.inr (.inl (some (77))))), some (.inl x), some (.inl k), some (.inl w), none] [.inl v1] h _
  refine wq_k1 (p' := 8) rfl rfl ⟨by omega, by omega⟩ (fun c4 => ?_) (fun c5 => ?_)
  · have c4 : v1 = (0) := c4
    refine av_wp_seq 1 (pc' := 24) (lv' := [some (.inr (.inr (.inl (some (77))))), some (.inl x), some (.inl k), some (.inl w), none]) (st' := [.inl (-2)]) (h' := h) rfl ?_
    refine av_wp_ret (v := some (.inl (-2))) rfl rfl rfl ?_
    exact hq0 (by omega)
  · have c5 : v1 ≠ (0) := c5
    refine av_wp_seq 1 (pc' := 9) (lv' := [some (.inr (.inr (.inl (some (77))))), some (.inl x), some (.inl k), some (.inl w), none]) (st' := [.inl k]) (h' := h) rfl ?_
    refine wq_k1 (p' := 12) rfl rfl ⟨by omega, by omega⟩ (fun c6 => ?_) (fun c7 => ?_)
    · have c6 : k < (0) := c6
      refine av_wp_seq 1 (pc' := 24) (lv' := [some (.inr (.inr (.inl (some (77))))), some (.inl x), some (.inl k), some (.inl w), none]) (st' := [.inl (-2)]) (h' := h) rfl ?_
      refine av_wp_ret (v := some (.inl (-2))) rfl rfl rfl ?_
      exact hq0 (by omega)
    · have c7 : (0) ≤ k := c7
      refine av_wp_seq 2 (pc' := 14) (lv' := [some (.inr (.inr (.inl (some (77))))), some (.inl x), some (.inl k), some (.inl w), none]) (st' := [.inr (.inr (.inl (some (77)))), .inl k]) (h' := h) rfl ?_
      refine wq_gr (p' := 17) rfl rfl (congrArg Prod.fst (ly_k I.1.1 77 rfl)) rfl (ly_g I.1.1 77 3 81 rfl) ?_
      refine av_wp_seq 1 (pc' := 18) (lv' := [some (.inr (.inr (.inl (some (77))))), some (.inl x), some (.inl k), some (.inl w), none]) (st' := [.inl x, .inr (.inr (.inl (some (81)))), .inl k]) (h' := h) rfl ?_
      obtain ⟨v8, e9⟩ : ∃ v, hA h 81 (Int.toNat (x)) = v := ⟨_, rfl⟩
      have g10 := im_many I.1 (Int.toNat (x))
      rw [e9] at g10
      refine wq_al (p' := 19) (n := 80) rfl rfl (ly_k I.1.1 81 rfl) (by omega) (e9) ?_
      refine wq_k2 (p' := 22) rfl rfl ⟨by omega, by omega⟩ ⟨by omega, by omega⟩ (fun c11 => ?_) (fun c12 => ?_)
      · have c11 : k < v8 := c11
        refine av_wp_seq 9 (pc' := 38) (lv' := [some (.inr (.inr (.inl (some (77))))), some (.inl x), some (.inl k), some (.inl w), some (.inl (((12) * x) + k))]) (st' := [.inl (14), .inl (10), .inl w]) (h' := h) rfl ?_
        refine wq_cs (p' := 41) (av_qc (.invokestatic 176) 127 3 2 8) 3 cd_127 [.inl w, .inl (10), .inl (14)] [.inl (14), .inl (10), .inl w] [some (.inl w), some (.inl (10)), some (.inl (14))] rfl rfl rfl pp_127 (fun _ => rfl) rfl rfl ?_
        refine ct_127 (g := h) (w) (by omega) ((10)) (by omega) ((14)) (by omega) (fun v13 p14 => ?_)
        show av_wp _ cd_161 41 [some (.inr (.inr (.inl (some (77))))), some (.inl x), some (.inl k), some (.inl w), some (.inl (((12) * x) + k))] [.inl v13] h _
        refine wq_k1 (p' := 44) rfl rfl ⟨by omega, by omega⟩ (fun c15 => ?_) (fun c16 => ?_)
        · have c15 : v13 = (0) := c15
          refine av_wp_seq 1 (pc' := 60) (lv' := [some (.inr (.inr (.inl (some (77))))), some (.inl x), some (.inl k), some (.inl w), some (.inl (((12) * x) + k))]) (st' := [.inl w]) (h' := h) rfl ?_
          rcases (show w = 0 ∨ w = 1 ∨ w = 2 ∨ w = 3 ∨ w = 4 ∨ w = 5 ∨ w = 6 ∨ (w < 0 ∨ 6 < w) by omega) with e17 | e17 | e17 | e17 | e17 | e17 | e17 | e17
          · refine wq_tc (t := 104) rfl e17 rfl ?_
            refine av_wp_seq 1 (pc' := 105) (lv' := [some (.inr (.inr (.inl (some (77))))), some (.inl x), some (.inl k), some (.inl w), some (.inl (((12) * x) + k))]) (st' := [.inr (.inr (.inl (some (77))))]) (h' := h) rfl ?_
            refine wq_gr (p' := 108) rfl rfl (congrArg Prod.fst (ly_k I.1.1 77 rfl)) rfl (ly_g I.1.1 77 4 82 rfl) ?_
            refine av_wp_seq 1 (pc' := 110) (lv' := [some (.inr (.inr (.inl (some (77))))), some (.inl x), some (.inl k), some (.inl w), some (.inl (((12) * x) + k))]) (st' := [.inl (((12) * x) + k), .inr (.inr (.inl (some (82))))]) (h' := h) rfl ?_
            obtain ⟨v18, e19⟩ : ∃ v, hA h 82 (Int.toNat ((((12) * x) + k))) = v := ⟨_, rfl⟩
            have g20 : 0 ≤ hA h 82 (Int.toNat ((((12) * x) + k))) ∧ hA h 82 (Int.toNat ((((12) * x) + k))) ≤ 7 := im_m I.1 82 (by decide) (by decide) _
            rw [e19] at g20
            refine wq_al (p' := 111) (n := 960) rfl rfl (ly_k I.1.1 82 rfl) (by omega) (e19) ?_
            refine av_wp_ret (v := some (.inl v18)) rfl rfl rfl ?_
            exact hq1 _ (by omega) (by omega) (by omega) (by omega) (by omega) (rwx_f (A := hA h) 82 0 ⟨rfl, rfl, rfl⟩ (by omega) (by omega) (by omega) e19)
          · refine wq_tc (t := 112) rfl e17 rfl ?_
            refine av_wp_seq 1 (pc' := 113) (lv' := [some (.inr (.inr (.inl (some (77))))), some (.inl x), some (.inl k), some (.inl w), some (.inl (((12) * x) + k))]) (st' := [.inr (.inr (.inl (some (77))))]) (h' := h) rfl ?_
            refine wq_gr (p' := 116) rfl rfl (congrArg Prod.fst (ly_k I.1.1 77 rfl)) rfl (ly_g I.1.1 77 5 83 rfl) ?_
            refine av_wp_seq 1 (pc' := 118) (lv' := [some (.inr (.inr (.inl (some (77))))), some (.inl x), some (.inl k), some (.inl w), some (.inl (((12) * x) + k))]) (st' := [.inl (((12) * x) + k), .inr (.inr (.inl (some (83))))]) (h' := h) rfl ?_
            obtain ⟨v21, e22⟩ : ∃ v, hA h 83 (Int.toNat ((((12) * x) + k))) = v := ⟨_, rfl⟩
            have g23 : 0 ≤ hA h 83 (Int.toNat ((((12) * x) + k))) ∧ hA h 83 (Int.toNat ((((12) * x) + k))) ≤ 2 := im_m I.1 83 (by decide) (by decide) _
            rw [e22] at g23
            refine wq_al (p' := 119) (n := 960) rfl rfl (ly_k I.1.1 83 rfl) (by omega) (e22) ?_
            refine av_wp_ret (v := some (.inl v21)) rfl rfl rfl ?_
            exact hq1 _ (by omega) (by omega) (by omega) (by omega) (by omega) (rwx_f (A := hA h) 83 1 ⟨rfl, rfl, rfl⟩ (by omega) (by omega) (by omega) e22)
          · refine wq_tc (t := 120) rfl e17 rfl ?_
            refine av_wp_seq 1 (pc' := 121) (lv' := [some (.inr (.inr (.inl (some (77))))), some (.inl x), some (.inl k), some (.inl w), some (.inl (((12) * x) + k))]) (st' := [.inr (.inr (.inl (some (77))))]) (h' := h) rfl ?_
            refine wq_gr (p' := 124) rfl rfl (congrArg Prod.fst (ly_k I.1.1 77 rfl)) rfl (ly_g I.1.1 77 6 84 rfl) ?_
            refine av_wp_seq 1 (pc' := 126) (lv' := [some (.inr (.inr (.inl (some (77))))), some (.inl x), some (.inl k), some (.inl w), some (.inl (((12) * x) + k))]) (st' := [.inl (((12) * x) + k), .inr (.inr (.inl (some (84))))]) (h' := h) rfl ?_
            obtain ⟨v24, e25⟩ : ∃ v, hA h 84 (Int.toNat ((((12) * x) + k))) = v := ⟨_, rfl⟩
            have g26 : -1 ≤ hA h 84 (Int.toNat ((((12) * x) + k))) ∧ hA h 84 (Int.toNat ((((12) * x) + k))) ≤ 2 := im_m I.1 84 (by decide) (by decide) _
            rw [e25] at g26
            refine wq_al (p' := 127) (n := 960) rfl rfl (ly_k I.1.1 84 rfl) (by omega) (e25) ?_
            refine av_wp_ret (v := some (.inl v24)) rfl rfl rfl ?_
            exact hq1 _ (by omega) (by omega) (by omega) (by omega) (by omega) (rwx_f (A := hA h) 84 2 ⟨rfl, rfl, rfl⟩ (by omega) (by omega) (by omega) e25)
          · refine wq_tc (t := 128) rfl e17 rfl ?_
            refine av_wp_seq 1 (pc' := 129) (lv' := [some (.inr (.inr (.inl (some (77))))), some (.inl x), some (.inl k), some (.inl w), some (.inl (((12) * x) + k))]) (st' := [.inr (.inr (.inl (some (77))))]) (h' := h) rfl ?_
            refine wq_gr (p' := 132) rfl rfl (congrArg Prod.fst (ly_k I.1.1 77 rfl)) rfl (ly_g I.1.1 77 7 85 rfl) ?_
            refine av_wp_seq 1 (pc' := 134) (lv' := [some (.inr (.inr (.inl (some (77))))), some (.inl x), some (.inl k), some (.inl w), some (.inl (((12) * x) + k))]) (st' := [.inl (((12) * x) + k), .inr (.inr (.inl (some (85))))]) (h' := h) rfl ?_
            obtain ⟨v27, e28⟩ : ∃ v, hA h 85 (Int.toNat ((((12) * x) + k))) = v := ⟨_, rfl⟩
            have g29 : -1 ≤ hA h 85 (Int.toNat ((((12) * x) + k))) ∧ hA h 85 (Int.toNat ((((12) * x) + k))) ≤ 11 := im_m I.1 85 (by decide) (by decide) _
            rw [e28] at g29
            refine wq_al (p' := 135) (n := 960) rfl rfl (ly_k I.1.1 85 rfl) (by omega) (e28) ?_
            refine av_wp_ret (v := some (.inl v27)) rfl rfl rfl ?_
            exact hq1 _ (by omega) (by omega) (by omega) (by omega) (by omega) (rwx_f (A := hA h) 85 3 ⟨rfl, rfl, rfl⟩ (by omega) (by omega) (by omega) e28)
          · refine wq_tc (t := 136) rfl e17 rfl ?_
            refine av_wp_seq 1 (pc' := 137) (lv' := [some (.inr (.inr (.inl (some (77))))), some (.inl x), some (.inl k), some (.inl w), some (.inl (((12) * x) + k))]) (st' := [.inr (.inr (.inl (some (77))))]) (h' := h) rfl ?_
            refine wq_gr (p' := 140) rfl rfl (congrArg Prod.fst (ly_k I.1.1 77 rfl)) rfl (ly_g I.1.1 77 8 86 rfl) ?_
            refine av_wp_seq 1 (pc' := 142) (lv' := [some (.inr (.inr (.inl (some (77))))), some (.inl x), some (.inl k), some (.inl w), some (.inl (((12) * x) + k))]) (st' := [.inl (((12) * x) + k), .inr (.inr (.inl (some (86))))]) (h' := h) rfl ?_
            obtain ⟨v30, e31⟩ : ∃ v, hA h 86 (Int.toNat ((((12) * x) + k))) = v := ⟨_, rfl⟩
            have g32 : 0 ≤ hA h 86 (Int.toNat ((((12) * x) + k))) ∧ hA h 86 (Int.toNat ((((12) * x) + k))) ≤ 3 := im_m I.1 86 (by decide) (by decide) _
            rw [e31] at g32
            refine wq_al (p' := 143) (n := 960) rfl rfl (ly_k I.1.1 86 rfl) (by omega) (e31) ?_
            refine av_wp_ret (v := some (.inl v30)) rfl rfl rfl ?_
            exact hq1 _ (by omega) (by omega) (by omega) (by omega) (by omega) (rwx_f (A := hA h) 86 4 ⟨rfl, rfl, rfl⟩ (by omega) (by omega) (by omega) e31)
          · refine wq_tc (t := 144) rfl e17 rfl ?_
            refine av_wp_seq 1 (pc' := 145) (lv' := [some (.inr (.inr (.inl (some (77))))), some (.inl x), some (.inl k), some (.inl w), some (.inl (((12) * x) + k))]) (st' := [.inr (.inr (.inl (some (77))))]) (h' := h) rfl ?_
            refine wq_gr (p' := 148) rfl rfl (congrArg Prod.fst (ly_k I.1.1 77 rfl)) rfl (ly_g I.1.1 77 9 87 rfl) ?_
            refine av_wp_seq 1 (pc' := 150) (lv' := [some (.inr (.inr (.inl (some (77))))), some (.inl x), some (.inl k), some (.inl w), some (.inl (((12) * x) + k))]) (st' := [.inl (((12) * x) + k), .inr (.inr (.inl (some (87))))]) (h' := h) rfl ?_
            obtain ⟨v33, e34⟩ : ∃ v, hA h 87 (Int.toNat ((((12) * x) + k))) = v := ⟨_, rfl⟩
            have g35 : -1 ≤ hA h 87 (Int.toNat ((((12) * x) + k))) ∧ hA h 87 (Int.toNat ((((12) * x) + k))) ≤ 1999 := im_m I.1 87 (by decide) (by decide) _
            rw [e34] at g35
            refine wq_al (p' := 151) (n := 960) rfl rfl (ly_k I.1.1 87 rfl) (by omega) (e34) ?_
            refine av_wp_ret (v := some (.inl v33)) rfl rfl rfl ?_
            exact hq1 _ (by omega) (by omega) (by omega) (by omega) (by omega) (rwx_f (A := hA h) 87 5 ⟨rfl, rfl, rfl⟩ (by omega) (by omega) (by omega) e34)
          · refine wq_tc (t := 152) rfl e17 rfl ?_
            refine av_wp_seq 1 (pc' := 153) (lv' := [some (.inr (.inr (.inl (some (77))))), some (.inl x), some (.inl k), some (.inl w), some (.inl (((12) * x) + k))]) (st' := [.inr (.inr (.inl (some (77))))]) (h' := h) rfl ?_
            refine wq_gr (p' := 156) rfl rfl (congrArg Prod.fst (ly_k I.1.1 77 rfl)) rfl (ly_g I.1.1 77 10 88 rfl) ?_
            refine av_wp_seq 1 (pc' := 158) (lv' := [some (.inr (.inr (.inl (some (77))))), some (.inl x), some (.inl k), some (.inl w), some (.inl (((12) * x) + k))]) (st' := [.inl (((12) * x) + k), .inr (.inr (.inl (some (88))))]) (h' := h) rfl ?_
            obtain ⟨v36, e37⟩ : ∃ v, hA h 88 (Int.toNat ((((12) * x) + k))) = v := ⟨_, rfl⟩
            have g38 : -1 ≤ hA h 88 (Int.toNat ((((12) * x) + k))) ∧ hA h 88 (Int.toNat ((((12) * x) + k))) ≤ 15 := im_m I.1 88 (by decide) (by decide) _
            rw [e37] at g38
            refine wq_al (p' := 159) (n := 960) rfl rfl (ly_k I.1.1 88 rfl) (by omega) (e37) ?_
            refine av_wp_ret (v := some (.inl v36)) rfl rfl rfl ?_
            exact hq1 _ (by omega) (by omega) (by omega) (by omega) (by omega) (rwx_f (A := hA h) 88 6 ⟨rfl, rfl, rfl⟩ (by omega) (by omega) (by omega) e37)
          · refine wq_td (t := 160) rfl ⟨by omega, by omega⟩ e17 rfl ?_
            refine av_wp_seq 1 (pc' := 162) (lv' := [some (.inr (.inr (.inl (some (77))))), some (.inl x), some (.inl k), some (.inl w), some (.inl (((12) * x) + k))]) (st' := [.inl (-2)]) (h' := h) rfl ?_
            refine av_wp_ret (v := some (.inl (-2))) rfl rfl rfl ?_
            exact hq0 (by omega)
        · have c16 : v13 ≠ (0) := c16
          refine av_wp_seq 1 (pc' := 45) (lv' := [some (.inr (.inr (.inl (some (77))))), some (.inl x), some (.inl k), some (.inl w), some (.inl (((12) * x) + k))]) (st' := [.inr (.inr (.inl (some (77))))]) (h' := h) rfl ?_
          refine wq_gr (p' := 48) rfl rfl (congrArg Prod.fst (ly_k I.1.1 77 rfl)) rfl (ly_g I.1.1 77 12 90 rfl) ?_
          refine av_wp_seq 7 (pc' := 57) (lv' := [some (.inr (.inr (.inl (some (77))))), some (.inl x), some (.inl k), some (.inl w), some (.inl (((12) * x) + k))]) (st' := [.inl ((((5) * (((12) * x) + k)) + w) - (10)), .inr (.inr (.inl (some (90))))]) (h' := h) rfl ?_
          obtain ⟨v39, e40⟩ : ∃ v, hA h 90 (Int.toNat (((((5) * (((12) * x) + k)) + w) - (10)))) = v := ⟨_, rfl⟩
          have g41 : -1 ≤ hA h 90 (Int.toNat (((((5) * (((12) * x) + k)) + w) - (10)))) ∧ hA h 90 (Int.toNat (((((5) * (((12) * x) + k)) + w) - (10)))) ≤ 999 := im_m I.1 90 (by decide) (by decide) _
          rw [e40] at g41
          refine wq_al (p' := 58) (n := 4800) rfl rfl (ly_k I.1.1 90 rfl) (by omega) (e40) ?_
          refine av_wp_ret (v := some (.inl v39)) rfl rfl rfl ?_
          exact hq1 _ (by omega) (by omega) (by omega) (by omega) (by omega) (rwx_w (A := hA h) (by omega) (by omega) (by omega) e40)
      · have c12 : v8 ≤ k := c12
        refine av_wp_seq 1 (pc' := 24) (lv' := [some (.inr (.inr (.inl (some (77))))), some (.inl x), some (.inl k), some (.inl w), none]) (st' := [.inl (-2)]) (h' := h) rfl ?_
        refine av_wp_ret (v := some (.inl (-2))) rfl rfl rfl ?_
        exact hq0 (by omega)

set_option maxRecDepth 100000 in
set_option maxHeartbeats 4000000 in
theorem cx_216 {h : av_H} (I : IM h)   {Q : Option av_V → av_H → Prop} (hq : Q (some (.inl (sumv (hA h 81) (Int.toNat (hA h 78 0))))) h) : av_wp none cd_216 0 [some (.inr (.inr (.inl (some (77))))), none, none] [] h Q := by
  have y78 := I.1.2.1.2.1
  refine av_wp_seq 4 (pc' := 4) (lv' := [some (.inr (.inr (.inl (some (77))))), some (.inl (0)), some (.inl (0))]) (st' := []) (h' := h) rfl ?_
  have L4 : ∀ (m3 : Nat) (k1 : Int) (k2 : Int), k1 = sumv (hA h 81) (Int.toNat k2) → k2 ≤ hA h 78 0 → (0 ≤ k2 ∧ k2 ≤ 16) → (16 - k2).toNat = m3 → av_wp none cd_216 4 [some (.inr (.inr (.inl (some (77))))), some (.inl k1), some (.inl k2)] [] h Q := by
    intro m3
    induction m3 using Nat.strongRecOn with
    | _ m3 I5 =>
      intro k1 k2 g7 g8 g9 e6
      refine av_wp_seq 2 (pc' := 6) (lv' := [some (.inr (.inr (.inl (some (77))))), some (.inl k1), some (.inl k2)]) (st' := [.inr (.inr (.inl (some (77)))), .inl k2]) (h' := h) rfl ?_
      refine wq_gr (p' := 9) rfl rfl (congrArg Prod.fst (ly_k I.1.1 77 rfl)) rfl (ly_g I.1.1 77 0 78 rfl) ?_
      refine av_wp_seq 1 (pc' := 10) (lv' := [some (.inr (.inr (.inl (some (77))))), some (.inl k1), some (.inl k2)]) (st' := [.inl (0), .inr (.inr (.inl (some (78)))), .inl k2]) (h' := h) rfl ?_
      obtain ⟨v10, e11⟩ : ∃ v, hA h 78 (Int.toNat ((0))) = v := ⟨_, rfl⟩
      have g12 : 0 ≤ hA h 78 0 ∧ hA h 78 0 ≤ 16 := I.1.2.1.2.1
      have e11 : hA h 78 0 = v10 := e11
      rw [e11] at g12
      refine wq_al (p' := 11) (n := 5) rfl rfl (ly_k I.1.1 78 rfl) (by omega) (e11) ?_
      refine wq_k2 (p' := 14) rfl rfl ⟨by omega, by omega⟩ ⟨by omega, by omega⟩ (fun c13 => ?_) (fun c14 => ?_)
      · have c13 : v10 ≤ k2 := c13
        refine av_wp_seq 1 (pc' := 30) (lv' := [some (.inr (.inr (.inl (some (77))))), some (.inl k1), some (.inl k2)]) (st' := [.inl k1]) (h' := h) rfl ?_
        refine av_wp_ret (v := some (.inl k1)) rfl rfl rfl ?_
        rw [g7, show k2 = hA h 78 0 by omega]
        exact hq
      · have c14 : k2 < v10 := c14
        refine av_wp_seq 2 (pc' := 16) (lv' := [some (.inr (.inr (.inl (some (77))))), some (.inl k1), some (.inl k2)]) (st' := [.inr (.inr (.inl (some (77)))), .inl k1]) (h' := h) rfl ?_
        refine wq_gr (p' := 19) rfl rfl (congrArg Prod.fst (ly_k I.1.1 77 rfl)) rfl (ly_g I.1.1 77 3 81 rfl) ?_
        refine av_wp_seq 1 (pc' := 20) (lv' := [some (.inr (.inr (.inl (some (77))))), some (.inl k1), some (.inl k2)]) (st' := [.inl k2, .inr (.inr (.inl (some (81)))), .inl k1]) (h' := h) rfl ?_
        obtain ⟨v15, e16⟩ : ∃ v, hA h 81 (Int.toNat (k2)) = v := ⟨_, rfl⟩
        have g17 := im_many I.1 (Int.toNat (k2))
        rw [e16] at g17
        refine wq_al (p' := 21) (n := 80) rfl rfl (ly_k I.1.1 81 rfl) (by omega) (e16) ?_
        have u18 := sumv_s (a := hA h 81) (k := k2) (by omega) g7 e16
        refine av_wp_seq 4 (pc' := 4) (lv' := [some (.inr (.inr (.inl (some (77))))), some (.inl (k1 + v15)), some (.inl (k2 + (1)))]) (st' := []) (h' := h) rfl ?_
        exact I5 _ (by omega) ((k1 + v15)) ((k2 + (1))) u18 (by omega) (by omega) rfl
  exact L4 _ ((0)) ((0)) rfl (by omega) (by omega) rfl

set_option maxRecDepth 100000 in
set_option maxHeartbeats 4000000 in
theorem cx_217 {h : av_H} (I : IM h)  (w : Int) (qw : -2147483648 ≤ w ∧ w ≤ 2147483647) {Q : Option av_V → av_H → Prop} (hq : ∀ v : Int, ((w = 0 ∧ v = hA h 78 0) ∨ (w = 1 ∧ v = hA h 79 0) ∨ (w = 2 ∧ v = hA h 80 0) ∨ (w = 3 ∧ v = hF h 77 17) ∨ (w = 4 ∧ v = sumv (hA h 81) (Int.toNat (hA h 78 0))) ∨ (w = 5 ∧ v = hF h 77 62) ∨ ((w < 0 ∨ 5 < w) ∧ v = -1)) → Q (some (.inl v)) h) : av_wp none cd_217 0 [some (.inr (.inr (.inl (some (77))))), some (.inl w)] [] h Q := by
  refine av_wp_seq 1 (pc' := 1) (lv' := [some (.inr (.inr (.inl (some (77))))), some (.inl w)]) (st' := [.inl w]) (h' := h) rfl ?_
  rcases (show w = 0 ∨ w = 1 ∨ w = 2 ∨ w = 3 ∨ w = 4 ∨ w = 5 ∨ (w < 0 ∨ 5 < w) by omega) with e1 | e1 | e1 | e1 | e1 | e1 | e1
  · refine wq_tc (t := 40) rfl e1 rfl ?_
    refine av_wp_seq 1 (pc' := 41) (lv' := [some (.inr (.inr (.inl (some (77))))), some (.inl w)]) (st' := [.inr (.inr (.inl (some (77))))]) (h' := h) rfl ?_
    refine wq_gr (p' := 44) rfl rfl (congrArg Prod.fst (ly_k I.1.1 77 rfl)) rfl (ly_g I.1.1 77 0 78 rfl) ?_
    refine av_wp_seq 1 (pc' := 45) (lv' := [some (.inr (.inr (.inl (some (77))))), some (.inl w)]) (st' := [.inl (0), .inr (.inr (.inl (some (78))))]) (h' := h) rfl ?_
    obtain ⟨v2, e3⟩ : ∃ v, hA h 78 (Int.toNat ((0))) = v := ⟨_, rfl⟩
    have g4 : 0 ≤ hA h 78 0 ∧ hA h 78 0 ≤ 16 := I.1.2.1.2.1
    have e3 : hA h 78 0 = v2 := e3
    rw [e3] at g4
    refine wq_al (p' := 46) (n := 5) rfl rfl (ly_k I.1.1 78 rfl) (by omega) (e3) ?_
    refine av_wp_ret (v := some (.inl v2)) rfl rfl rfl ?_
    exact hq _ (by omega)
  · refine wq_tc (t := 47) rfl e1 rfl ?_
    refine av_wp_seq 1 (pc' := 48) (lv' := [some (.inr (.inr (.inl (some (77))))), some (.inl w)]) (st' := [.inr (.inr (.inl (some (77))))]) (h' := h) rfl ?_
    refine wq_gr (p' := 51) rfl rfl (congrArg Prod.fst (ly_k I.1.1 77 rfl)) rfl (ly_g I.1.1 77 1 79 rfl) ?_
    refine av_wp_seq 1 (pc' := 52) (lv' := [some (.inr (.inr (.inl (some (77))))), some (.inl w)]) (st' := [.inl (0), .inr (.inr (.inl (some (79))))]) (h' := h) rfl ?_
    obtain ⟨v5, e6⟩ : ∃ v, hA h 79 (Int.toNat ((0))) = v := ⟨_, rfl⟩
    have g7 : 0 ≤ hA h 79 0 ∧ hA h 79 0 ≤ 8 := I.1.2.1.2.2.1
    have e6 : hA h 79 0 = v5 := e6
    rw [e6] at g7
    refine wq_al (p' := 53) (n := 5) rfl rfl (ly_k I.1.1 79 rfl) (by omega) (e6) ?_
    refine av_wp_ret (v := some (.inl v5)) rfl rfl rfl ?_
    exact hq _ (by omega)
  · refine wq_tc (t := 54) rfl e1 rfl ?_
    refine av_wp_seq 1 (pc' := 55) (lv' := [some (.inr (.inr (.inl (some (77))))), some (.inl w)]) (st' := [.inr (.inr (.inl (some (77))))]) (h' := h) rfl ?_
    refine wq_gr (p' := 58) rfl rfl (congrArg Prod.fst (ly_k I.1.1 77 rfl)) rfl (ly_g I.1.1 77 2 80 rfl) ?_
    refine av_wp_seq 1 (pc' := 59) (lv' := [some (.inr (.inr (.inl (some (77))))), some (.inl w)]) (st' := [.inl (0), .inr (.inr (.inl (some (80))))]) (h' := h) rfl ?_
    obtain ⟨v8, e9⟩ : ∃ v, hA h 80 (Int.toNat ((0))) = v := ⟨_, rfl⟩
    have g10 : 0 ≤ hA h 80 0 ∧ hA h 80 0 ≤ 6 := I.1.2.1.2.2.2.1
    have e9 : hA h 80 0 = v8 := e9
    rw [e9] at g10
    refine wq_al (p' := 60) (n := 5) rfl rfl (ly_k I.1.1 80 rfl) (by omega) (e9) ?_
    refine av_wp_ret (v := some (.inl v8)) rfl rfl rfl ?_
    exact hq _ (by omega)
  · refine wq_tc (t := 61) rfl e1 rfl ?_
    refine av_wp_seq 1 (pc' := 62) (lv' := [some (.inr (.inr (.inl (some (77))))), some (.inl w)]) (st' := [.inr (.inr (.inl (some (77))))]) (h' := h) rfl ?_
    obtain ⟨v11, e12⟩ : ∃ v, hF h 77 17 = v := ⟨_, rfl⟩
    refine wq_gi (p' := 65) rfl rfl (congrArg Prod.fst (ly_k I.1.1 77 rfl)) rfl (e12) ?_
    refine av_wp_ret (v := some (.inl v11)) rfl rfl rfl ?_
    exact hq _ (by omega)
  · refine wq_tc (t := 66) rfl e1 rfl ?_
    refine av_wp_seq 1 (pc' := 67) (lv' := [some (.inr (.inr (.inl (some (77))))), some (.inl w)]) (st' := [.inr (.inr (.inl (some (77))))]) (h' := h) rfl ?_
    refine wq_cv (p' := 70) (av_qc (.invokevirtual 488) 216 0 0 8) 3 cd_216 [] (77) 8 [some (.inr (.inr (.inl (some (77))))), none, none] rfl rfl rfl pp_216 rfl rfl rfl (congrArg Prod.fst (ly_k I.1.1 77 rfl)) rfl rfl rfl rfl ?_
    refine cx_216 I ?_
    show av_wp _ cd_217 70 [some (.inr (.inr (.inl (some (77))))), some (.inl w)] [.inl (sumv (hA h 81) (Int.toNat (hA h 78 0)))] h _
    refine av_wp_ret (v := some (.inl (sumv (hA h 81) (Int.toNat (hA h 78 0))))) rfl rfl rfl ?_
    exact hq _ (by omega)
  · refine wq_tc (t := 71) rfl e1 rfl ?_
    refine av_wp_seq 1 (pc' := 72) (lv' := [some (.inr (.inr (.inl (some (77))))), some (.inl w)]) (st' := [.inr (.inr (.inl (some (77))))]) (h' := h) rfl ?_
    obtain ⟨v13, e14⟩ : ∃ v, hF h 77 62 = v := ⟨_, rfl⟩
    refine wq_gi (p' := 75) rfl rfl (congrArg Prod.fst (ly_k I.1.1 77 rfl)) rfl (e14) ?_
    refine av_wp_ret (v := some (.inl v13)) rfl rfl rfl ?_
    exact hq _ (by omega)
  · refine wq_td (t := 76) rfl ⟨by omega, by omega⟩ e1 rfl ?_
    refine av_wp_seq 1 (pc' := 77) (lv' := [some (.inr (.inr (.inl (some (77))))), some (.inl w)]) (st' := [.inl (-1)]) (h' := h) rfl ?_
    refine av_wp_ret (v := some (.inl (-1))) rfl rfl rfl ?_
    exact hq _ (by omega)

