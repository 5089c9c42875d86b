/-! SURE, exactly: the class counts -/
set_option maxRecDepth 100000 in
set_option maxHeartbeats 4000000 in
theorem cx_57 {h : av_H} {g : av_H} {U : Nat → Nat → Int} {S : Nat → Nat} {n : Int} {sr nd : Nat → Int} {t c s r : Nat} {cb : Int} {u ro bar : Nat → Int} {a : Nat → Nat → Int} {mb mo ma : Int} {t0 t1 t2 t3 t4 : Int} (X : SQ U S n sr nd t c s r cb u ro bar a mb mo ma t0 t1 t2 t3 t4 g h) (G : SEA u ro bar s) (b0 : 0 ≤ t0 ∧ t0 ≤ 1023) (b3 : -1 ≤ t3 ∧ t3 ≤ 9999) (b4 : -1 ≤ t4 ∧ t4 ≤ 9999) (bm : -1 ≤ ma ∧ ma ≤ 9999) (x : Int) (qx : 0 ≤ x ∧ x ≤ 1023) {Q : Option av_V → av_H → Prop} (hq : ∀ h', SQ U S n sr nd t c s r cb u ro bar a mb mo ma (t0 + (1)) (if t0 = 0 then x else t1) t2 (if t0 = 0 then ma else mn2 t3 ma) (mx2 t4 ma) g h' → Q none h') : av_wp none cd_57 0 [some (.inr (.inr (.inl (some (26))))), some (.inl x), none] [] h Q := by
  have s12 := co_s12 (ib_co X.2.1.1)
  have cbr := co_cbr (ib_co X.2.1.1)
  have mbr := eb_xr X.2.1
  have mor := eb_yr X.2.1
  refine av_wp_seq 1 (pc' := 1) (lv' := [some (.inr (.inr (.inl (some (26))))), some (.inl x), none]) (st' := [.inr (.inr (.inl (some (26))))]) (h' := h) rfl ?_
  refine wq_gr (p' := 4) rfl rfl (congrArg Prod.fst (ly_k X.1.1.1 26 rfl)) rfl (ly_g X.1.1.1 26 8 31 rfl) ?_
  refine av_wp_seq 1 (pc' := 5) (lv' := [some (.inr (.inr (.inl (some (26))))), some (.inl x), none]) (st' := [.inl (0), .inr (.inr (.inl (some (31))))]) (h' := h) rfl ?_
  refine wq_al (p' := 6) (n := 5) rfl rfl (ly_k X.1.1.1 31 rfl) (by omega) (X.2.2.2.2.2.1) ?_
  refine wq_k1 (p' := 9) rfl rfl ⟨by omega, by omega⟩ (fun c1 => ?_) (fun c2 => ?_)
  · have c1 : t0 ≠ (0) := c1
    refine av_wp_seq 3 (pc' := 16) (lv' := [some (.inr (.inr (.inl (some (26))))), some (.inl x), some (.inl (0))]) (st' := [.inr (.inr (.inl (some (26))))]) (h' := h) rfl ?_
    refine wq_gr (p' := 19) rfl rfl (congrArg Prod.fst (ly_k X.1.1.1 26 rfl)) rfl (ly_g X.1.1.1 26 8 31 rfl) ?_
    refine av_wp_seq 2 (pc' := 21) (lv' := [some (.inr (.inr (.inl (some (26))))), some (.inl x), some (.inl (0))]) (st' := [.inl (0), .inr (.inr (.inl (some (31)))), .inl (0), .inr (.inr (.inl (some (31))))]) (h' := h) rfl ?_
    refine wq_al (p' := 22) (n := 5) rfl rfl (ly_k X.1.1.1 31 rfl) (by omega) (X.2.2.2.2.2.1) ?_
    refine av_wp_seq 2 (pc' := 24) (lv' := [some (.inr (.inr (.inl (some (26))))), some (.inl x), some (.inl (0))]) (st' := [.inl (t0 + (1)), .inl (0), .inr (.inr (.inl (some (31))))]) (h' := h) rfl ?_
    refine xq_0 (p' := 25) rfl rfl X (fun h3 X4 => ?_)
    refine av_wp_seq 3 (pc' := 37) (lv' := [some (.inr (.inr (.inl (some (26))))), some (.inl x), some (.inl (0))]) (st' := [.inr (.inr (.inl (some (26))))]) (h' := h3) rfl ?_
    refine wq_gr (p' := 40) rfl rfl (congrArg Prod.fst (ly_k X4.1.1.1 26 rfl)) rfl (ly_g X4.1.1.1 26 8 31 rfl) ?_
    refine av_wp_seq 4 (pc' := 56) (lv' := [some (.inr (.inr (.inl (some (26))))), some (.inl x), some (.inl (0))]) (st' := [.inr (.inr (.inl (some (26)))), .inl (3), .inr (.inr (.inl (some (31))))]) (h' := h3) rfl ?_
    refine wq_gr (p' := 59) rfl rfl (congrArg Prod.fst (ly_k X4.1.1.1 26 rfl)) rfl (ly_g X4.1.1.1 26 8 31 rfl) ?_
    refine av_wp_seq 1 (pc' := 60) (lv' := [some (.inr (.inr (.inl (some (26))))), some (.inl x), some (.inl (0))]) (st' := [.inl (3), .inr (.inr (.inl (some (31)))), .inl (3), .inr (.inr (.inl (some (31))))]) (h' := h3) rfl ?_
    refine wq_al (p' := 61) (n := 5) rfl rfl (ly_k X4.1.1.1 31 rfl) (by omega) (X4.2.2.2.2.2.2.2.2.1) ?_
    refine av_wp_seq 1 (pc' := 62) (lv' := [some (.inr (.inr (.inl (some (26))))), some (.inl x), some (.inl (0))]) (st' := [.inr (.inr (.inl (some (26)))), .inl t3, .inl (3), .inr (.inr (.inl (some (31))))]) (h' := h3) rfl ?_
    refine wq_gr (p' := 65) rfl rfl (congrArg Prod.fst (ly_k X4.1.1.1 26 rfl)) rfl (ly_g X4.1.1.1 26 1 35 rfl) ?_
    refine wq_gi (p' := 68) rfl rfl (congrArg Prod.fst (bn_k0 X4.1.1.1 (Or.inl rfl))) rfl (X4.2.1.2.2.2.2.2.2) ?_
    refine wq_mn (p' := 71) rfl rfl rfl (fun _ _ => rfl) rfl (fun v5 e6 e7 => ?_)
    have e7 := e7 ⟨by omega, by omega⟩ ⟨by omega, by omega⟩
    refine xq_3 (p' := 72) rfl rfl X4 (fun h8 X9 => ?_)
    refine av_wp_seq 1 (pc' := 73) (lv' := [some (.inr (.inr (.inl (some (26))))), some (.inl x), some (.inl (0))]) (st' := [.inr (.inr (.inl (some (26))))]) (h' := h8) rfl ?_
    refine wq_gr (p' := 76) rfl rfl (congrArg Prod.fst (ly_k X9.1.1.1 26 rfl)) rfl (ly_g X9.1.1.1 26 8 31 rfl) ?_
    refine av_wp_seq 2 (pc' := 78) (lv' := [some (.inr (.inr (.inl (some (26))))), some (.inl x), some (.inl (0))]) (st' := [.inr (.inr (.inl (some (26)))), .inl (4), .inr (.inr (.inl (some (31))))]) (h' := h8) rfl ?_
    refine wq_gr (p' := 81) rfl rfl (congrArg Prod.fst (ly_k X9.1.1.1 26 rfl)) rfl (ly_g X9.1.1.1 26 8 31 rfl) ?_
    refine av_wp_seq 1 (pc' := 82) (lv' := [some (.inr (.inr (.inl (some (26))))), some (.inl x), some (.inl (0))]) (st' := [.inl (4), .inr (.inr (.inl (some (31)))), .inl (4), .inr (.inr (.inl (some (31))))]) (h' := h8) rfl ?_
    refine wq_al (p' := 83) (n := 5) rfl rfl (ly_k X9.1.1.1 31 rfl) (by omega) (X9.2.2.2.2.2.2.2.2.2) ?_
    refine av_wp_seq 1 (pc' := 84) (lv' := [some (.inr (.inr (.inl (some (26))))), some (.inl x), some (.inl (0))]) (st' := [.inr (.inr (.inl (some (26)))), .inl t4, .inl (4), .inr (.inr (.inl (some (31))))]) (h' := h8) rfl ?_
    refine wq_gr (p' := 87) rfl rfl (congrArg Prod.fst (ly_k X9.1.1.1 26 rfl)) rfl (ly_g X9.1.1.1 26 1 35 rfl) ?_
    refine wq_gi (p' := 90) rfl rfl (congrArg Prod.fst (bn_k0 X9.1.1.1 (Or.inl rfl))) rfl (X9.2.1.2.2.2.2.2.2) ?_
    refine wq_mx (p' := 93) rfl rfl rfl (fun _ _ => rfl) rfl (fun v10 e11 e12 => ?_)
    have e12 := e12 ⟨by omega, by omega⟩ ⟨by omega, by omega⟩
    refine xq_4 (p' := 94) rfl rfl X9 (fun h13 X14 => ?_)
    refine av_wp_ret (v := none) rfl rfl rfl ?_
    refine hq h13 (by rw [if_neg (by omega), if_neg (by omega), show mn2 t3 ma = v5 by unfold mn2; split <;> omega, show mx2 t4 ma = v10 by unfold mx2; split <;> omega]; exact X14)
  · have c2 : t0 = (0) := c2
    refine av_wp_seq 4 (pc' := 16) (lv' := [some (.inr (.inr (.inl (some (26))))), some (.inl x), some (.inl (1))]) (st' := [.inr (.inr (.inl (some (26))))]) (h' := h) rfl ?_
    refine wq_gr (p' := 19) rfl rfl (congrArg Prod.fst (ly_k X.1.1.1 26 rfl)) rfl (ly_g X.1.1.1 26 8 31 rfl) ?_
    refine av_wp_seq 2 (pc' := 21) (lv' := [some (.inr (.inr (.inl (some (26))))), some (.inl x), some (.inl (1))]) (st' := [.inl (0), .inr (.inr (.inl (some (31)))), .inl (0), .inr (.inr (.inl (some (31))))]) (h' := h) rfl ?_
    refine wq_al (p' := 22) (n := 5) rfl rfl (ly_k X.1.1.1 31 rfl) (by omega) (X.2.2.2.2.2.1) ?_
    refine av_wp_seq 2 (pc' := 24) (lv' := [some (.inr (.inr (.inl (some (26))))), some (.inl x), some (.inl (1))]) (st' := [.inl (t0 + (1)), .inl (0), .inr (.inr (.inl (some (31))))]) (h' := h) rfl ?_
    refine xq_0 (p' := 25) rfl rfl X (fun h15 X16 => ?_)
    refine av_wp_seq 3 (pc' := 30) (lv' := [some (.inr (.inr (.inl (some (26))))), some (.inl x), some (.inl (1))]) (st' := [.inr (.inr (.inl (some (26))))]) (h' := h15) rfl ?_
    refine wq_gr (p' := 33) rfl rfl (congrArg Prod.fst (ly_k X16.1.1.1 26 rfl)) rfl (ly_g X16.1.1.1 26 8 31 rfl) ?_
    refine av_wp_seq 2 (pc' := 35) (lv' := [some (.inr (.inr (.inl (some (26))))), some (.inl x), some (.inl (1))]) (st' := [.inl x, .inl (1), .inr (.inr (.inl (some (31))))]) (h' := h15) rfl ?_
    refine xq_1 (p' := 36) rfl rfl X16 (fun h17 X18 => ?_)
    refine av_wp_seq 1 (pc' := 37) (lv' := [some (.inr (.inr (.inl (some (26))))), some (.inl x), some (.inl (1))]) (st' := [.inr (.inr (.inl (some (26))))]) (h' := h17) rfl ?_
    refine wq_gr (p' := 40) rfl rfl (congrArg Prod.fst (ly_k X18.1.1.1 26 rfl)) rfl (ly_g X18.1.1.1 26 8 31 rfl) ?_
    refine av_wp_seq 4 (pc' := 46) (lv' := [some (.inr (.inr (.inl (some (26))))), some (.inl x), some (.inl (1))]) (st' := [.inr (.inr (.inl (some (26)))), .inl (3), .inr (.inr (.inl (some (31))))]) (h' := h17) rfl ?_
    refine wq_gr (p' := 49) rfl rfl (congrArg Prod.fst (ly_k X18.1.1.1 26 rfl)) rfl (ly_g X18.1.1.1 26 1 35 rfl) ?_
    refine wq_gi (p' := 52) rfl rfl (congrArg Prod.fst (bn_k0 X18.1.1.1 (Or.inl rfl))) rfl (X18.2.1.2.2.2.2.2.2) ?_
    refine av_wp_seq 1 (pc' := 71) (lv' := [some (.inr (.inr (.inl (some (26))))), some (.inl x), some (.inl (1))]) (st' := [.inl ma, .inl (3), .inr (.inr (.inl (some (31))))]) (h' := h17) rfl ?_
    refine xq_3 (p' := 72) rfl rfl X18 (fun h19 X20 => ?_)
    refine av_wp_seq 1 (pc' := 73) (lv' := [some (.inr (.inr (.inl (some (26))))), some (.inl x), some (.inl (1))]) (st' := [.inr (.inr (.inl (some (26))))]) (h' := h19) rfl ?_
    refine wq_gr (p' := 76) rfl rfl (congrArg Prod.fst (ly_k X20.1.1.1 26 rfl)) rfl (ly_g X20.1.1.1 26 8 31 rfl) ?_
    refine av_wp_seq 2 (pc' := 78) (lv' := [some (.inr (.inr (.inl (some (26))))), some (.inl x), some (.inl (1))]) (st' := [.inr (.inr (.inl (some (26)))), .inl (4), .inr (.inr (.inl (some (31))))]) (h' := h19) rfl ?_
    refine wq_gr (p' := 81) rfl rfl (congrArg Prod.fst (ly_k X20.1.1.1 26 rfl)) rfl (ly_g X20.1.1.1 26 8 31 rfl) ?_
    refine av_wp_seq 1 (pc' := 82) (lv' := [some (.inr (.inr (.inl (some (26))))), some (.inl x), some (.inl (1))]) (st' := [.inl (4), .inr (.inr (.inl (some (31)))), .inl (4), .inr (.inr (.inl (some (31))))]) (h' := h19) rfl ?_
    refine wq_al (p' := 83) (n := 5) rfl rfl (ly_k X20.1.1.1 31 rfl) (by omega) (X20.2.2.2.2.2.2.2.2.2) ?_
    refine av_wp_seq 1 (pc' := 84) (lv' := [some (.inr (.inr (.inl (some (26))))), some (.inl x), some (.inl (1))]) (st' := [.inr (.inr (.inl (some (26)))), .inl t4, .inl (4), .inr (.inr (.inl (some (31))))]) (h' := h19) rfl ?_
    refine wq_gr (p' := 87) rfl rfl (congrArg Prod.fst (ly_k X20.1.1.1 26 rfl)) rfl (ly_g X20.1.1.1 26 1 35 rfl) ?_
    refine wq_gi (p' := 90) rfl rfl (congrArg Prod.fst (bn_k0 X20.1.1.1 (Or.inl rfl))) rfl (X20.2.1.2.2.2.2.2.2) ?_
    refine wq_mx (p' := 93) rfl rfl rfl (fun _ _ => rfl) rfl (fun v21 e22 e23 => ?_)
    have e23 := e23 ⟨by omega, by omega⟩ ⟨by omega, by omega⟩
    refine xq_4 (p' := 94) rfl rfl X20 (fun h24 X25 => ?_)
    refine av_wp_ret (v := none) rfl rfl rfl ?_
    refine hq h24 (by rw [if_pos (by omega), if_pos (by omega), show mx2 t4 ma = v21 by unfold mx2; split <;> omega]; exact X25)

set_option maxRecDepth 100000 in
set_option maxHeartbeats 4000000 in
theorem cx_56 {h : av_H} {g : av_H} {U : Nat → Nat → Int} {S : Nat → Nat} {n : Int} {sr nd : Nat → Int} {t c s r : Nat} {cb : Int} {u ro bar : Nat → Int} {a : Nat → Nat → Int} {mb mo ma : Int} {t0 t1 t2 t3 t4 : Int} (X : SQ U S n sr nd t c s r cb u ro bar a mb mo ma t0 t1 t2 t3 t4 g h) (G : SEA u ro bar s) (HF : ∀ x : Int, 0 ≤ x → x ≤ 1023 → (bgn u ro bar s x).2.2 = 9999 ∨ (0 ≤ (bgn u ro bar s x).2.2 ∧ (bgn u ro bar s x).2.2 < 9999)) (hc : 0 ≤ cb) {Q : Option av_V → av_H → Prop} (hq : ∀ h' a' m1 m2 m3 s0 s1 s2 s3 s4, SQ U S n sr nd t c s r cb u ro bar a' m1 m2 m3 s0 s1 s2 s3 s4 g h' → (s0 = ta (fun q => (bgn u ro bar s q).2.2) (Int.toNat cb) 0 ∧ s1 = ta (fun q => (bgn u ro bar s q).2.2) (Int.toNat cb) 1 ∧ s2 = ta (fun q => (bgn u ro bar s q).2.2) (Int.toNat cb) 2 ∧ s3 = ta (fun q => (bgn u ro bar s q).2.2) (Int.toNat cb) 3 ∧ s4 = ta (fun q => (bgn u ro bar s q).2.2) (Int.toNat cb) 4) → Q none h') : av_wp none cd_56 0 [some (.inr (.inr (.inl (some (26))))), none] [] h Q := by
  have s12 := co_s12 (ib_co X.2.1.1)
  have cbr := co_cbr (ib_co X.2.1.1)
  have mbr := eb_xr X.2.1
  have mor := eb_yr X.2.1
  refine av_wp_seq 1 (pc' := 1) (lv' := [some (.inr (.inr (.inl (some (26))))), none]) (st' := [.inr (.inr (.inl (some (26))))]) (h' := h) rfl ?_
  refine wq_gr (p' := 4) rfl rfl (congrArg Prod.fst (ly_k X.1.1.1 26 rfl)) rfl (ly_g X.1.1.1 26 8 31 rfl) ?_
  refine av_wp_seq 2 (pc' := 6) (lv' := [some (.inr (.inr (.inl (some (26))))), none]) (st' := [.inl (0), .inl (0), .inr (.inr (.inl (some (31))))]) (h' := h) rfl ?_
  refine xq_0 (p' := 7) rfl rfl X (fun h1 X2 => ?_)
  refine av_wp_seq 1 (pc' := 8) (lv' := [some (.inr (.inr (.inl (some (26))))), none]) (st' := [.inr (.inr (.inl (some (26))))]) (h' := h1) rfl ?_
  refine wq_gr (p' := 11) rfl rfl (congrArg Prod.fst (ly_k X2.1.1.1 26 rfl)) rfl (ly_g X2.1.1.1 26 8 31 rfl) ?_
  refine av_wp_seq 3 (pc' := 14) (lv' := [some (.inr (.inr (.inl (some (26))))), none]) (st' := [.inl (-1), .inl (5), .inl (1), .inr (.inr (.inl (some (31))))]) (h' := h1) rfl ?_
  refine wq_cs (p' := 17) (av_qc (.invokestatic 126) 221 4 2 10) 5 cd_221 [.inr (.inr (.inl (some (31)))), .inl (1), .inl (5), .inl (-1)] [.inl (-1), .inl (5), .inl (1), .inr (.inr (.inl (some (31))))] [some (.inr (.inr (.inl (some (31))))), some (.inl (1)), some (.inl (5)), some (.inl (-1)), none] rfl rfl rfl pp_221 (fun _ => rfl) rfl rfl ?_
  refine ct_221 (n := 5) 1 5 rfl rfl (ly_k X2.1.1.1 31 rfl) (by decide) (by decide) (by decide) ?_
  have X3 := SQ_f (v := -1) X2
  show av_wp _ cd_56 17 [some (.inr (.inr (.inl (some (26))))), none] [] (hfil h1 31 1 5 (-1)) _
  refine av_wp_seq 2 (pc' := 19) (lv' := [some (.inr (.inr (.inl (some (26))))), some (.inl (0))]) (st' := []) (h' := (hfil h1 31 1 5 (-1))) rfl ?_
  have L18 : ∀ (m17 : Nat) (k4 : Int) (h5 : av_H) (a7 : Nat → Nat → Int) (m8 : Int) (m9 : Int) (m10 : Int) (t11 : Int) (t12 : Int) (t13 : Int) (t14 : Int) (t15 : Int), k4 ≤ cb → (0 ≤ k4 ∧ k4 ≤ 1024) → SQ U S n sr nd t c s r cb u ro bar a7 m8 m9 m10 t11 t12 t13 t14 t15 g h5 → t11 = ta (fun q => (bgn u ro bar s q).2.2) (Int.toNat k4) 0 ∧ t12 = ta (fun q => (bgn u ro bar s q).2.2) (Int.toNat k4) 1 ∧ t13 = ta (fun q => (bgn u ro bar s q).2.2) (Int.toNat k4) 2 ∧ t14 = ta (fun q => (bgn u ro bar s q).2.2) (Int.toNat k4) 3 ∧ t15 = ta (fun q => (bgn u ro bar s q).2.2) (Int.toNat k4) 4 → (1024 - k4).toNat = m17 → av_wp none cd_56 19 [some (.inr (.inr (.inl (some (26))))), some (.inl k4)] [] h5 Q := by
    intro m17
    induction m17 using Nat.strongRecOn with
    | _ m17 I19 =>
      intro k4 h5 a7 m8 m9 m10 t11 t12 t13 t14 t15 g21 g22 X6 Y16 e20
      refine av_wp_seq 2 (pc' := 21) (lv' := [some (.inr (.inr (.inl (some (26))))), some (.inl k4)]) (st' := [.inr (.inr (.inl (some (26)))), .inl k4]) (h' := h5) rfl ?_
      refine wq_gr (p' := 24) rfl rfl (congrArg Prod.fst (ly_k X6.1.1.1 26 rfl)) rfl (ly_g X6.1.1.1 26 1 35 rfl) ?_
      refine wq_gr (p' := 27) rfl rfl (congrArg Prod.fst (bn_k0 X6.1.1.1 (Or.inl rfl))) rfl (ib_t X6.2.1.1) ?_
      refine wq_gi (p' := 30) rfl rfl (congrArg Prod.fst (co_kt (ib_co X6.2.1.1))) rfl (co_cb (ib_co X6.2.1.1)) ?_
      refine wq_k2 (p' := 33) rfl rfl ⟨by omega, by omega⟩ ⟨by omega, by omega⟩ (fun c23 => ?_) (fun c24 => ?_)
      · have c23 : cb ≤ k4 := c23
        refine av_wp_ret (v := none) rfl rfl rfl ?_
        have z25 : Int.toNat k4 = Int.toNat cb := by omega
        rw [z25] at Y16
        exact hq h5 _ _ _ _ _ _ _ _ _ X6 Y16
      · have c24 : k4 < cb := c24
        have g26 := ta_r (f := (fun q => (bgn u ro bar s q).2.2)) HF (Int.toNat k4) (by omega)
        have g26Y := Y16
        obtain ⟨g26w0, g26w1, g26w2, g26w3, g26w4⟩ := g26Y
        rw [← g26w0, ← g26w1, ← g26w2, ← g26w3, ← g26w4] at g26
        refine av_wp_seq 1 (pc' := 34) (lv' := [some (.inr (.inr (.inl (some (26))))), some (.inl k4)]) (st' := [.inr (.inr (.inl (some (26))))]) (h' := h5) rfl ?_
        refine wq_gr (p' := 37) rfl rfl (congrArg Prod.fst (ly_k X6.1.1.1 26 rfl)) rfl (ly_g X6.1.1.1 26 1 35 rfl) ?_
        refine av_wp_seq 1 (pc' := 38) (lv' := [some (.inr (.inr (.inl (some (26))))), some (.inl k4)]) (st' := [.inl k4, .inr (.inr (.inl (some (35))))]) (h' := h5) rfl ?_
        refine wq_cv (p' := 41) (av_qc (.invokevirtual 89) 2 1 0 0) 2 cd_2 [.inl k4] (35) 0 [some (.inr (.inr (.inl (some (35))))), some (.inl k4)] rfl rfl rfl pp_2 rfl rfl rfl (congrArg Prod.fst (bn_k0 X6.1.1.1 (Or.inl rfl))) rfl rfl rfl rfl ?_
        refine cy_2 X6.2.1 (FN_rf 35 h5) G X6.2.2.1 X6.2.2.2.1 (k4) (by omega) (fun v27 h28 a29 m30 m31 m32 E33 F34 Z35 T36 D37 B38 R39 p40 => ?_)
        have X41 := SQ_2 X6 E33 F34 Z35 T36
        have g42 : (-1 ≤ m30 ∧ m30 ≤ 11) ∧ (-1 ≤ m31 ∧ m31 ≤ 11) ∧ (-1 ≤ m32 ∧ m32 ≤ 9999) := R39
        show av_wp _ cd_56 41 [some (.inr (.inr (.inl (some (26))))), some (.inl k4)] [.inl v27] h28 _
        refine wq_k1 (p' := 44) rfl rfl ⟨by omega, by omega⟩ (fun c43 => ?_) (fun c44 => ?_)
        · have c43 : v27 = (0) := c43
          refine av_wp_seq 1 (pc' := 53) (lv' := [some (.inr (.inr (.inl (some (26))))), some (.inl k4)]) (st' := [.inr (.inr (.inl (some (26))))]) (h' := h28) rfl ?_
          refine wq_gr (p' := 56) rfl rfl (congrArg Prod.fst (ly_k X41.1.1.1 26 rfl)) rfl (ly_g X41.1.1.1 26 8 31 rfl) ?_
          refine av_wp_seq 1 (pc' := 57) (lv' := [some (.inr (.inr (.inl (some (26))))), some (.inl k4)]) (st' := [.inl (2), .inr (.inr (.inl (some (31))))]) (h' := h28) rfl ?_
          refine wq_al (p' := 58) (n := 5) rfl rfl (ly_k X41.1.1.1 31 rfl) (by omega) (X41.2.2.2.2.2.2.2.1) ?_
          refine av_wp_seq 1 (pc' := 59) (lv' := [some (.inr (.inr (.inl (some (26))))), some (.inl k4)]) (st' := [.inl (-1), .inl t13]) (h' := h28) rfl ?_
          refine wq_k2 (p' := 62) rfl rfl ⟨by omega, by omega⟩ ⟨by omega, by omega⟩ (fun c45 => ?_) (fun c46 => ?_)
          · have c45 : t13 ≠ (-1) := c45
            refine av_wp_seq 2 (pc' := 19) (lv' := [some (.inr (.inr (.inl (some (26))))), some (.inl (k4 + (1)))]) (st' := []) (h' := h28) rfl ?_
            exact I19 _ (by omega) ((k4 + (1))) h28 a29 (m30) (m31) (m32) (t11) (t12) (t13) (t14) (t15) (by omega) (by omega) X41 (by obtain ⟨y0, y1, y2, y3, y4⟩ := ta_9s (f := (fun q => (bgn u ro bar s q).2.2)) ((show (bgn u ro bar s ((Int.toNat k4 : Nat) : Int)).2.2 = m32 by rw [show ((Int.toNat k4 : Nat) : Int) = k4 by omega, B38]).trans (by omega)); have WY := Y16; obtain ⟨w0, w1, w2, w3, w4⟩ := WY; rw [show Int.toNat (k4 + (1)) = Int.toNat k4 + 1 by omega, y0, y1, y2, y3, y4, ← w0, ← w1, ← w2, ← w3, ← w4, show ((Int.toNat k4 : Nat) : Int) = k4 by omega]; refine ⟨rfl, rfl, ?_, rfl, rfl⟩; split <;> omega) rfl
          · have c46 : t13 = (-1) := c46
            refine av_wp_seq 1 (pc' := 63) (lv' := [some (.inr (.inr (.inl (some (26))))), some (.inl k4)]) (st' := [.inr (.inr (.inl (some (26))))]) (h' := h28) rfl ?_
            refine wq_gr (p' := 66) rfl rfl (congrArg Prod.fst (ly_k X41.1.1.1 26 rfl)) rfl (ly_g X41.1.1.1 26 8 31 rfl) ?_
            refine av_wp_seq 2 (pc' := 68) (lv' := [some (.inr (.inr (.inl (some (26))))), some (.inl k4)]) (st' := [.inl k4, .inl (2), .inr (.inr (.inl (some (31))))]) (h' := h28) rfl ?_
            refine xq_2 (p' := 69) rfl rfl X41 (fun h47 X48 => ?_)
            refine av_wp_seq 2 (pc' := 19) (lv' := [some (.inr (.inr (.inl (some (26))))), some (.inl (k4 + (1)))]) (st' := []) (h' := h47) rfl ?_
            exact I19 _ (by omega) ((k4 + (1))) h47 a29 (m30) (m31) (m32) (t11) (t12) (k4) (t14) (t15) (by omega) (by omega) X48 (by obtain ⟨y0, y1, y2, y3, y4⟩ := ta_9s (f := (fun q => (bgn u ro bar s q).2.2)) ((show (bgn u ro bar s ((Int.toNat k4 : Nat) : Int)).2.2 = m32 by rw [show ((Int.toNat k4 : Nat) : Int) = k4 by omega, B38]).trans (by omega)); have WY := Y16; obtain ⟨w0, w1, w2, w3, w4⟩ := WY; rw [show Int.toNat (k4 + (1)) = Int.toNat k4 + 1 by omega, y0, y1, y2, y3, y4, ← w0, ← w1, ← w2, ← w3, ← w4, show ((Int.toNat k4 : Nat) : Int) = k4 by omega]; refine ⟨rfl, rfl, ?_, rfl, rfl⟩; split <;> omega) rfl
        · have c44 : v27 ≠ (0) := c44
          refine av_wp_seq 2 (pc' := 46) (lv' := [some (.inr (.inr (.inl (some (26))))), some (.inl k4)]) (st' := [.inl k4, .inr (.inr (.inl (some (26))))]) (h' := h28) rfl ?_
          refine wq_cv (p' := 49) (av_qc (.invokevirtual 129) 57 1 0 3) 3 cd_57 [.inl k4] (26) 3 [some (.inr (.inr (.inl (some (26))))), some (.inl k4), none] rfl rfl rfl pp_57 rfl rfl rfl (congrArg Prod.fst (ly_k X41.1.1.1 26 rfl)) rfl rfl rfl rfl ?_
          refine cx_57 X41 G (by omega) (by omega) (by omega) (by omega) (k4) (by omega) (fun h49 X50 => ?_)
          show av_wp _ cd_56 49 [some (.inr (.inr (.inl (some (26))))), some (.inl k4)] [] h49 _
          refine av_wp_seq 3 (pc' := 19) (lv' := [some (.inr (.inr (.inl (some (26))))), some (.inl (k4 + (1)))]) (st' := []) (h' := h49) rfl ?_
          exact I19 _ (by omega) ((k4 + (1))) h49 a29 (m30) (m31) (m32) ((t11 + (1))) ((if t11 = 0 then k4 else t12)) (t13) ((if t11 = 0 then m32 else mn2 t14 m32)) ((mx2 t15 m32)) (by omega) (by omega) X50 (by obtain ⟨y0, y1, y2, y3, y4⟩ := ta_bs (f := (fun q => (bgn u ro bar s q).2.2)) (show (bgn u ro bar s ((Int.toNat k4 : Nat) : Int)).2.2 = m32 by rw [show ((Int.toNat k4 : Nat) : Int) = k4 by omega, B38]) (by omega); have WY := Y16; obtain ⟨w0, w1, w2, w3, w4⟩ := WY; rw [show Int.toNat (k4 + (1)) = Int.toNat k4 + 1 by omega, y0, y1, y2, y3, y4, ← w0, ← w1, ← w2, ← w3, ← w4, show ((Int.toNat k4 : Nat) : Int) = k4 by omega]; exact ⟨rfl, rfl, rfl, rfl, rfl⟩) rfl
  exact L18 _ ((0)) (hfil h1 31 1 5 (-1)) a (mb) (mo) (ma) ((0)) ((-1)) ((-1)) ((-1)) ((-1)) (by omega) (by omega) X3 ⟨rfl, rfl, rfl, rfl, rfl⟩ rfl

