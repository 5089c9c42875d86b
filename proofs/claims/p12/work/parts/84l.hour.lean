/-! THE CLASS'S HOUR, exactly -/
set_option maxRecDepth 100000 in
set_option maxHeartbeats 4000000 in
theorem cx_47 {h : av_H} (I : IC h) {t c s : Nat} {cb : Int} (o : CO h t c s cb) (x : Int) (qx : 0 ≤ x ∧ x ≤ 1023) (k : Int) (qk : 0 ≤ k ∧ k < (s : Int)) (w : Int) (qw : 0 ≤ w ∧ w ≤ 2) (tu : ∀ q, q < s → hA h c (21 * q + 20) = tnv (hA h c) q) {Q : Option av_V → av_H → Prop} (hq : ∀ h', IC h' → FY 35 h h' → Q (some (.inl (hrv (hA h c) x (Int.toNat k) (Int.toNat w)))) h') : av_wp none cd_47 0 [some (.inr (.inr (.inl (some (26))))), some (.inr (.inr (.inl (some (t))))), some (.inl x), some (.inl k), some (.inl w)] [] h Q := by
  have F := FX_rf 35 h
  have g1 := co_s12 o
  have g2 := co_cbr o
  refine av_wp_seq 1 (pc' := 1) (lv' := [some (.inr (.inr (.inl (some (26))))), some (.inr (.inr (.inl (some (t))))), some (.inl x), some (.inl k), some (.inl w)]) (st' := [.inr (.inr (.inl (some (26))))]) (h' := h) rfl ?_
  refine wq_gr (p' := 4) rfl rfl (congrArg Prod.fst (ly_k I.1 26 rfl)) rfl (ly_g I.1 26 1 35 rfl) ?_
  refine av_wp_seq 2 (pc' := 6) (lv' := [some (.inr (.inr (.inl (some (26))))), some (.inr (.inr (.inl (some (t))))), some (.inl x), some (.inl k), some (.inl w)]) (st' := [.inr (.inr (.inl (some (26)))), .inr (.inr (.inl (some (t)))), .inr (.inr (.inl (some (35))))]) (h' := h) rfl ?_
  refine wq_gr (p' := 9) rfl rfl (congrArg Prod.fst (ly_k I.1 26 rfl)) rfl (ly_g I.1 26 7 30 rfl) ?_
  refine av_wp_seq 1 (pc' := 10) (lv' := [some (.inr (.inr (.inl (some (26))))), some (.inr (.inr (.inl (some (t))))), some (.inl x), some (.inl k), some (.inl w)]) (st' := [.inr (.inr (.inl (some (26)))), .inr (.inr (.inl (some (30)))), .inr (.inr (.inl (some (t)))), .inr (.inr (.inl (some (35))))]) (h' := h) rfl ?_
  refine wq_gr (p' := 13) rfl rfl (congrArg Prod.fst (ly_k I.1 26 rfl)) rfl (ly_g I.1 26 4 27 rfl) ?_
  refine av_wp_seq 1 (pc' := 16) (lv' := [some (.inr (.inr (.inl (some (26))))), some (.inr (.inr (.inl (some (t))))), some (.inl x), some (.inl k), some (.inl w)]) (st' := [.inl (128), .inr (.inr (.inl (some (27)))), .inr (.inr (.inl (some (30)))), .inr (.inr (.inl (some (t)))), .inr (.inr (.inl (some (35))))]) (h' := h) rfl ?_
  refine wq_cv (p' := 19) (av_qc (.invokevirtual 64) 1 4 0 0) 9 cd_1 [.inl (128), .inr (.inr (.inl (some (27)))), .inr (.inr (.inl (some (30)))), .inr (.inr (.inl (some (t))))] (35) 0 [some (.inr (.inr (.inl (some (35))))), some (.inr (.inr (.inl (some (t))))), some (.inr (.inr (.inl (some (30))))), some (.inr (.inr (.inl (some (27))))), some (.inl (128)), none, none, none, none] rfl rfl rfl pp_1 rfl rfl rfl (congrArg Prod.fst (bn_k0 I.1 (Or.inl rfl))) rfl rfl rfl rfl ?_
  refine cx_1 I (Or.inl rfl) o (ly_k I.1 30 rfl) rfl ((128)) (by omega) (fun h3 a4 E5 Y6 T7 => ?_)
  show av_wp _ cd_47 19 [some (.inr (.inr (.inl (some (26))))), some (.inr (.inr (.inl (some (t))))), some (.inl x), some (.inl k), some (.inl w)] [] h3 _
  refine av_wp_seq 1 (pc' := 20) (lv' := [some (.inr (.inr (.inl (some (26))))), some (.inr (.inr (.inl (some (t))))), some (.inl x), some (.inl k), some (.inl w)]) (st' := [.inr (.inr (.inl (some (26))))]) (h' := h3) rfl ?_
  refine wq_gr (p' := 23) rfl rfl (congrArg Prod.fst (ly_k (ib_ic E5.1).1 26 rfl)) rfl (ly_g (ib_ic E5.1).1 26 1 35 rfl) ?_
  refine av_wp_seq 1 (pc' := 24) (lv' := [some (.inr (.inr (.inl (some (26))))), some (.inr (.inr (.inl (some (t))))), some (.inl x), some (.inl k), some (.inl w)]) (st' := [.inl x, .inr (.inr (.inl (some (35))))]) (h' := h3) rfl ?_
  refine wq_cv (p' := 27) (av_qc (.invokevirtual 68) 4 1 0 0) 6 cd_4 [.inl x] (35) 0 [some (.inr (.inr (.inl (some (35))))), some (.inl x), none, none, none, none] rfl rfl rfl pp_4 rfl rfl rfl (congrArg Prod.fst (bn_k0 (ib_ic E5.1).1 (Or.inl rfl))) rfl rfl rfl rfl ?_
  refine cx_4 E5 (FN_rf 35 h3) (x) (by omega) tu (fun q hq => Or.inl (T7.1 q hq)) (fun h8 a9 E10 F11 X12 Z13 J14 => ?_)
  have Y15 := FY_n Y6 F11
  show av_wp _ cd_47 27 [some (.inr (.inr (.inl (some (26))))), some (.inr (.inr (.inl (some (t))))), some (.inl x), some (.inl k), some (.inl w)] [] h8 _
  refine av_wp_seq 1 (pc' := 28) (lv' := [some (.inr (.inr (.inl (some (26))))), some (.inr (.inr (.inl (some (t))))), some (.inl x), some (.inl k), some (.inl w)]) (st' := [.inr (.inr (.inl (some (26))))]) (h' := h8) rfl ?_
  refine wq_gr (p' := 31) rfl rfl (congrArg Prod.fst (ly_k (ib_ic E10.1).1 26 rfl)) rfl (ly_g (ib_ic E10.1).1 26 1 35 rfl) ?_
  refine av_wp_seq 2 (pc' := 34) (lv' := [some (.inr (.inr (.inl (some (26))))), some (.inr (.inr (.inl (some (t))))), some (.inl x), some (.inl k), some (.inl w)]) (st' := [.inl w, .inl k, .inr (.inr (.inl (some (35))))]) (h' := h8) rfl ?_
  refine wq_cv (p' := 37) (av_qc (.invokevirtual 72) 6 2 0 0) 3 cd_6 [.inl w, .inl k] (35) 0 [some (.inr (.inr (.inl (some (35))))), some (.inl k), some (.inl w)] rfl rfl rfl pp_6 rfl rfl rfl (congrArg Prod.fst (bn_k0 (ib_ic E10.1).1 (Or.inl rfl))) rfl rfl rfl rfl ?_
  refine cx_6 E10 (FN_rf 35 h8) (k) (by omega) (w) (by omega) ?_
  rw [hof_x X12 qk.1 (by omega) qw]
  show av_wp _ cd_47 37 [some (.inr (.inr (.inl (some (26))))), some (.inr (.inr (.inl (some (t))))), some (.inl x), some (.inl k), some (.inl w)] [.inl (hrv (hA h c) x (Int.toNat k) (Int.toNat w))] h8 _
  refine av_wp_ret (v := some (.inl (hrv (hA h c) x (Int.toNat k) (Int.toNat w)))) rfl rfl rfl ?_
  exact hq h8 (ib_ic E10.1) Y15

set_option maxRecDepth 100000 in
set_option maxHeartbeats 4000000 in
theorem cx_104 {h : av_H} (I : IC h) {A : Nat → Nat → Int} (SS : SL h A 3 0) (n : Int) (qn : -2147483648 ≤ n ∧ n ≤ 2147483647) (x : Int) (qx : -2147483648 ≤ x ∧ x ≤ 2147483647) (k : Int) (qk : -2147483648 ≤ k ∧ k ≤ 2147483647) (w : Int) (qw : -2147483648 ≤ w ∧ w ≤ 2147483647) {Q : Option av_V → av_H → Prop} (hq00 : (n < 0 ∨ hF h 3 3 ≤ n) → Q (some (.inl (-2))) h) (hq0 : 0 ≤ n → n < hF h 3 3 → n ≤ 15 → ∀ t c s f, CC h (some t) t c s f → A 81 (Int.toNat n) = (s : Int) → (∀ j, j < s → RY (rwA A (12 * Int.toNat n + j)) f (j * 21)) → (k < 0 ∨ (s : Int) ≤ k ∨ x < 0 ∨ cbv f s ≤ x ∨ w < 0 ∨ 2 < w) → Q (some (.inl (-2))) h) (hq1 : 0 ≤ n → n < hF h 3 3 → n ≤ 15 → ∀ t c s f, CC h (some t) t c s f → A 81 (Int.toNat n) = (s : Int) → (∀ j, j < s → RY (rwA A (12 * Int.toNat n + j)) f (j * 21)) → (0 ≤ k ∧ k < (s : Int)) → (0 ≤ x ∧ x < cbv f s) → (0 ≤ w ∧ w ≤ 2) → ∀ h', IC h' → FY 35 h h' → Q (some (.inl (hrv (ctn f s) x (Int.toNat k) (Int.toNat w)))) h') : av_wp none cd_104 0 [some (.inr (.inr (.inl (some (0))))), some (.inl n), some (.inl x), some (.inl k), some (.inl w), none] [] h Q := by
  have F := Fr1_rf h
  refine av_wp_seq 1 (pc' := 1) (lv' := [some (.inr (.inr (.inl (some (0))))), some (.inl n), some (.inl x), some (.inl k), some (.inl w), none]) (st' := [.inr (.inr (.inl (some (0))))]) (h' := h) rfl ?_
  refine wq_gr (p' := 4) rfl rfl (congrArg Prod.fst (ly_k I.1 0 rfl)) rfl (ly_g I.1 0 1 3 rfl) ?_
  refine av_wp_seq 1 (pc' := 5) (lv' := [some (.inr (.inr (.inl (some (0))))), some (.inl n), some (.inl x), some (.inl k), some (.inl w), none]) (st' := [.inl n, .inr (.inr (.inl (some (3))))]) (h' := h) rfl ?_
  refine wq_cv (p' := 8) (av_qc (.invokevirtual 96) 69 1 0 5) 2 cd_69 [.inl n] (3) 5 [some (.inr (.inr (.inl (some (3))))), some (.inl n)] rfl rfl rfl pp_69 rfl rfl rfl (congrArg Prod.fst (ly_k I.1 3 rfl)) rfl rfl rfl rfl ?_
  refine cx_69 I SS (n) (by omega) (fun z8 => ?_) (fun z8 z9 z10 t1 c2 s3 f4 x5 x6 x7 => ?_)
  · show av_wp _ cd_104 8 [some (.inr (.inr (.inl (some (0))))), some (.inl n), some (.inl x), some (.inl k), some (.inl w), none] [.inr (.inr (.inl none))] h _
    refine av_wp_seq 4 (pc' := 50) (lv' := [some (.inr (.inr (.inl (some (0))))), some (.inl n), some (.inl x), some (.inl k), some (.inl w), some (.inr (.inr (.inl none)))]) (st' := [.inl (-2)]) (h' := h) rfl ?_
    refine av_wp_ret (v := some (.inl (-2))) rfl rfl rfl ?_
    exact hq00 (by omega)
  · have g11 := co_s12 (cs_co x5)
    have g12 := co_cbr (cs_co x5)
    show av_wp _ cd_104 8 [some (.inr (.inr (.inl (some (0))))), some (.inl n), some (.inl x), some (.inl k), some (.inl w), none] [.inr (.inr (.inl (some (t1))))] h _
    refine av_wp_seq 5 (pc' := 18) (lv' := [some (.inr (.inr (.inl (some (0))))), some (.inl n), some (.inl x), some (.inl k), some (.inl w), some (.inr (.inr (.inl (some (t1)))))]) (st' := [.inl k, .inr (.inr (.inl (some (t1))))]) (h' := h) rfl ?_
    refine wq_cv (p' := 21) (av_qc (.invokevirtual 136) 28 1 0 1) 2 cd_28 [.inl k] (t1) 1 [some (.inr (.inr (.inl (some (t1))))), some (.inl k)] rfl rfl rfl pp_28 rfl rfl rfl (congrArg Prod.fst (co_kt (cs_co x5))) rfl rfl rfl rfl ?_
    refine ct_28 (cs_co x5) (k) (by omega) (fun v13 p14 => ?_)
    show av_wp _ cd_104 21 [some (.inr (.inr (.inl (some (0))))), some (.inl n), some (.inl x), some (.inl k), some (.inl w), some (.inr (.inr (.inl (some (t1)))))] [.inl v13] h _
    refine wq_k1 (p' := 24) rfl rfl ⟨by omega, by omega⟩ (fun c15 => ?_) (fun c16 => ?_)
    · have c15 : v13 = (0) := c15
      refine av_wp_seq 1 (pc' := 50) (lv' := [some (.inr (.inr (.inl (some (0))))), some (.inl n), some (.inl x), some (.inl k), some (.inl w), some (.inr (.inr (.inl (some (t1)))))]) (st' := [.inl (-2)]) (h' := h) rfl ?_
      refine av_wp_ret (v := some (.inl (-2))) rfl rfl rfl ?_
      exact hq0 z8 z9 z10 _ _ _ _ x5 x6 x7 (by omega)
    · have c16 : v13 ≠ (0) := c16
      refine av_wp_seq 1 (pc' := 25) (lv' := [some (.inr (.inr (.inl (some (0))))), some (.inl n), some (.inl x), some (.inl k), some (.inl w), some (.inr (.inr (.inl (some (t1)))))]) (st' := [.inl x]) (h' := h) rfl ?_
      refine wq_k1 (p' := 28) rfl rfl ⟨by omega, by omega⟩ (fun c17 => ?_) (fun c18 => ?_)
      · have c17 : x < (0) := c17
        refine av_wp_seq 1 (pc' := 50) (lv' := [some (.inr (.inr (.inl (some (0))))), some (.inl n), some (.inl x), some (.inl k), some (.inl w), some (.inr (.inr (.inl (some (t1)))))]) (st' := [.inl (-2)]) (h' := h) rfl ?_
        refine av_wp_ret (v := some (.inl (-2))) rfl rfl rfl ?_
        exact hq0 z8 z9 z10 _ _ _ _ x5 x6 x7 (by omega)
      · have c18 : (0) ≤ x := c18
        refine av_wp_seq 2 (pc' := 31) (lv' := [some (.inr (.inr (.inl (some (0))))), some (.inl n), some (.inl x), some (.inl k), some (.inl w), some (.inr (.inr (.inl (some (t1)))))]) (st' := [.inr (.inr (.inl (some (t1)))), .inl x]) (h' := h) rfl ?_
        refine wq_gi (p' := 34) rfl rfl (congrArg Prod.fst (co_kt (cs_co x5))) rfl (co_cb (cs_co x5)) ?_
        refine wq_k2 (p' := 37) rfl rfl ⟨by omega, by omega⟩ ⟨by omega, by omega⟩ (fun c19 => ?_) (fun c20 => ?_)
        · have c19 : (cbv f4 s3) ≤ x := c19
          refine av_wp_seq 1 (pc' := 50) (lv' := [some (.inr (.inr (.inl (some (0))))), some (.inl n), some (.inl x), some (.inl k), some (.inl w), some (.inr (.inr (.inl (some (t1)))))]) (st' := [.inl (-2)]) (h' := h) rfl ?_
          refine av_wp_ret (v := some (.inl (-2))) rfl rfl rfl ?_
          exact hq0 z8 z9 z10 _ _ _ _ x5 x6 x7 (by omega)
        · have c20 : x < (cbv f4 s3) := c20
          refine av_wp_seq 1 (pc' := 39) (lv' := [some (.inr (.inr (.inl (some (0))))), some (.inl n), some (.inl x), some (.inl k), some (.inl w), some (.inr (.inr (.inl (some (t1)))))]) (st' := [.inl w]) (h' := h) rfl ?_
          refine wq_k1 (p' := 42) rfl rfl ⟨by omega, by omega⟩ (fun c21 => ?_) (fun c22 => ?_)
          · have c21 : w < (0) := c21
            refine av_wp_seq 1 (pc' := 50) (lv' := [some (.inr (.inr (.inl (some (0))))), some (.inl n), some (.inl x), some (.inl k), some (.inl w), some (.inr (.inr (.inl (some (t1)))))]) (st' := [.inl (-2)]) (h' := h) rfl ?_
            refine av_wp_ret (v := some (.inl (-2))) rfl rfl rfl ?_
            exact hq0 z8 z9 z10 _ _ _ _ x5 x6 x7 (by omega)
          · have c22 : (0) ≤ w := c22
            refine av_wp_seq 2 (pc' := 45) (lv' := [some (.inr (.inr (.inl (some (0))))), some (.inl n), some (.inl x), some (.inl k), some (.inl w), some (.inr (.inr (.inl (some (t1)))))]) (st' := [.inl (2), .inl w]) (h' := h) rfl ?_
            refine wq_k2 (p' := 48) rfl rfl ⟨by omega, by omega⟩ ⟨by omega, by omega⟩ (fun c23 => ?_) (fun c24 => ?_)
            · have c23 : w ≤ (2) := c23
              refine av_wp_seq 1 (pc' := 52) (lv' := [some (.inr (.inr (.inl (some (0))))), some (.inl n), some (.inl x), some (.inl k), some (.inl w), some (.inr (.inr (.inl (some (t1)))))]) (st' := [.inr (.inr (.inl (some (0))))]) (h' := h) rfl ?_
              refine wq_gr (p' := 55) rfl rfl (congrArg Prod.fst (ly_k I.1 0 rfl)) rfl (ly_g I.1 0 5 26 rfl) ?_
              refine av_wp_seq 4 (pc' := 61) (lv' := [some (.inr (.inr (.inl (some (0))))), some (.inl n), some (.inl x), some (.inl k), some (.inl w), some (.inr (.inr (.inl (some (t1)))))]) (st' := [.inl w, .inl k, .inl x, .inr (.inr (.inl (some (t1)))), .inr (.inr (.inl (some (26))))]) (h' := h) rfl ?_
              refine wq_cv (p' := 64) (av_qc (.invokevirtual 149) 47 4 0 3) 5 cd_47 [.inl w, .inl k, .inl x, .inr (.inr (.inl (some (t1))))] (26) 3 [some (.inr (.inr (.inl (some (26))))), some (.inr (.inr (.inl (some (t1))))), some (.inl x), some (.inl k), some (.inl w)] rfl rfl rfl pp_47 rfl rfl rfl (congrArg Prod.fst (ly_k I.1 26 rfl)) rfl rfl rfl rfl ?_
              refine cx_47 I (cs_co x5) x (by omega) k (by omega) w (by omega) (by rw [cc_u x5]; exact fun q hq => ctn_t hq) (fun h25 I26 Y27 => ?_)
              rw [cc_u x5]
              show av_wp _ cd_104 64 [some (.inr (.inr (.inl (some (0))))), some (.inl n), some (.inl x), some (.inl k), some (.inl w), some (.inr (.inr (.inl (some (t1)))))] [.inl (hrv (ctn f4 s3) x (Int.toNat k) (Int.toNat w))] h25 _
              refine av_wp_ret (v := some (.inl (hrv (ctn f4 s3) x (Int.toNat k) (Int.toNat w)))) rfl rfl rfl ?_
              exact hq1 z8 z9 z10 _ _ _ _ x5 x6 x7 (by omega) (by omega) (by omega) h25 I26 Y27
            · have c24 : (2) < w := c24
              refine av_wp_seq 1 (pc' := 50) (lv' := [some (.inr (.inr (.inl (some (0))))), some (.inl n), some (.inl x), some (.inl k), some (.inl w), some (.inr (.inr (.inl (some (t1)))))]) (st' := [.inl (-2)]) (h' := h) rfl ?_
              refine av_wp_ret (v := some (.inl (-2))) rfl rfl rfl ?_
              exact hq0 z8 z9 z10 _ _ _ _ x5 x6 x7 (by omega)

