section
/-! HANG: the class's own book stays -/
theorem xq_29 {U : Nat → Nat → Int} {S : Nat → Nat} {n : Int} {sr nd : Nat → Int} {t c s r : Nat} {cb : Int} {u ro bar : Nat → Int} {a : Nat → Nat → Int} {x y z : Int} {t0 t1 t2 t3 t4 : Int} {g h : av_H} {sc : av_Sr} {cd : List (Nat × av_E)} {Q : Option av_V → av_H → Prop} {pc p' : Nat} {lv : av_L} {r' : List av_V} {i v : Int} (hx : cd.lookup pc = some (av_q (.bastore))) (hp : pc + 1 = p') (X : SQ U S n sr nd t c s r cb u ro bar a x y z t0 t1 t2 t3 t4 g h) (hi : 0 ≤ i ∧ i < 1024) (hv : v = 0 ∨ v = 1) (hw : ∀ h', SQ U S n sr nd t c s r cb u ro bar a x y z t0 t1 t2 t3 t4 g h' → av_wp sc cd p' lv r' h' Q) : av_wp sc cd pc lv (.inl v :: .inl i :: .inr (.inr (.inl (some 29))) :: r') h Q := by
  refine wq_zs (n := 1024) hx hp (ly_k X.1.1.1 29 rfl) (by omega) hv (hw _ ?_)
  obtain ⟨x1, x2, x3, x4, x5, x6⟩ := X
  have F : F1q 29 h (hwA h 29 i.toNat v) := F1q_w rfl
  have I : IC (hwA h 29 i.toNat v) := IC_wA x1.1 rfl (fun z => by cases z)
  exact ⟨CJ_q x1 F I (by decide) (by decide), EB_q x2 F I rfl (Or.inl rfl), x3, x4, Fr_tr x5 F.1.1, by rw [F.2.2 31 (by decide)]; exact x6⟩
set_option maxRecDepth 100000 in
set_option maxHeartbeats 4000000 in
theorem cx_58 {h : av_H} {g : av_H} {U : Nat → Nat → Int} {S : Nat → Nat} {n : Int} {sr nd : Nat → Int} {t c s r : Nat} {cb : Int} {u ro bar : Nat → Int} {a : Nat → Nat → Int} {mb mo ma : Int} {t0 t1 t2 t3 t4 : Int} (X : SQ U S n sr nd t c s r cb u ro bar a mb mo ma t0 t1 t2 t3 t4 g h) (G : SEA u ro bar s)  {Q : Option av_V → av_H → Prop} (hq : ∀ (v : Int) h' a' m1 m2 m3 s0 s1 s2 s3 s4, SQ U S n sr nd t c s r cb u ro bar a' m1 m2 m3 s0 s1 s2 s3 s4 g h' → Q (some (.inl v)) h') : av_wp none cd_58 0 [some (.inr (.inr (.inl (some (26))))), none, none, none, none, none, none] [] h Q := by
  have s12 := co_s12 (ib_co X.2.1.1)
  have cbr := co_cbr (ib_co X.2.1.1)
  have mbr := eb_xr X.2.1
  have mor := eb_yr X.2.1
  refine av_wp_sqF ck_58 1 (pc' := 1) (lv' := [some (.inr (.inr (.inl (some (26))))), none, none, none, none, none, none]) (st' := [.inr (.inr (.inl (some (26))))]) (h' := h) rfl ?_
  refine wq_gr (p' := 4) (ck_58 _ _ rfl) rfl (congrArg Prod.fst (ly_k X.1.1.1 26 rfl)) rfl (ly_g X.1.1.1 26 1 35 rfl) ?_
  refine wq_gr (p' := 7) (ck_58 _ _ rfl) rfl (congrArg Prod.fst (bn_k0 X.1.1.1 (Or.inl rfl))) rfl (ib_t X.2.1.1) ?_
  refine av_wp_sqF ck_58 3 (pc' := 10) (lv' := [some (.inr (.inr (.inl (some (26))))), some (.inr (.inr (.inl (some (t))))), some (.inl (0)), none, none, none, none]) (st' := []) (h' := h) rfl ?_
  have L15 : ∀ (m14 : Nat) (k1 : Int) (h2 : av_H) (a4 : Nat → Nat → Int) (m5 : Int) (m6 : Int) (m7 : Int) (t8 : Int) (t9 : Int) (t10 : Int) (t11 : Int) (t12 : Int), (0 ≤ k1 ∧ k1 ≤ 1024) → SQ U S n sr nd t c s r cb u ro bar a4 m5 m6 m7 t8 t9 t10 t11 t12 g h2 → True → (1024 - k1).toNat = m14 → av_wp none cd_58 10 [some (.inr (.inr (.inl (some (26))))), some (.inr (.inr (.inl (some (t))))), some (.inl k1), none, none, none, none] [] h2 Q := by
    intro m14
    induction m14 using Nat.strongRecOn with
    | _ m14 I16 =>
      intro k1 h2 a4 m5 m6 m7 t8 t9 t10 t11 t12 g18 X3 Y13 e17
      refine av_wp_sqF ck_58 2 (pc' := 12) (lv' := [some (.inr (.inr (.inl (some (26))))), some (.inr (.inr (.inl (some (t))))), some (.inl k1), none, none, none, none]) (st' := [.inr (.inr (.inl (some (t)))), .inl k1]) (h' := h2) rfl ?_
      refine wq_gi (p' := 15) (ck_58 _ _ rfl) rfl (congrArg Prod.fst (co_kt (ib_co X3.2.1.1))) rfl (co_cb (ib_co X3.2.1.1)) ?_
      refine wq_k2 (p' := 18) (ck_58 _ _ rfl) rfl ⟨by omega, by omega⟩ ⟨by omega, by omega⟩ (fun c19 => ?_) (fun c20 => ?_)
      · have c19 : cb ≤ k1 := c19
        refine av_wp_sqF ck_58 8 (pc' := 55) (lv' := [some (.inr (.inr (.inl (some (26))))), some (.inr (.inr (.inl (some (t))))), some (.inl (0)), some (.inl (1)), some (.inl (1)), some (.inl (0)), none]) (st' := []) (h' := h2) rfl ?_
        have L27 : ∀ (m26 : Nat) (k21 : Int) (k22 : Int) (k23 : Int) (k24 : Int) (a25 : Option av_V), av_lg a25 = false → k24 ≤ 4 * (s : Int) → (0 ≤ k24 ∧ k24 ≤ 48) → (48 - k24).toNat = m26 → av_wp none cd_58 55 [some (.inr (.inr (.inl (some (26))))), some (.inr (.inr (.inl (some (t))))), some (.inl k21), some (.inl k22), some (.inl k23), some (.inl k24), a25] [] h2 Q := by
          intro m26
          induction m26 using Nat.strongRecOn with
          | _ m26 I28 =>
            intro k21 k22 k23 k24 a25 g30 g31 g32 e29
            have la25 := g30
            refine av_wp_sqF ck_58 2 (pc' := 58) (lv' := [some (.inr (.inr (.inl (some (26))))), some (.inr (.inr (.inl (some (t))))), some (.inl k21), some (.inl k22), some (.inl k23), some (.inl k24), a25]) (st' := [.inr (.inr (.inl (some (t)))), .inl k24]) (h' := h2) rfl ?_
            refine wq_gi (p' := 61) (ck_58 _ _ rfl) rfl (congrArg Prod.fst (co_kt (ib_co X3.2.1.1))) rfl (co_s (ib_co X3.2.1.1)) ?_
            refine av_wp_sqF ck_58 2 (pc' := 63) (lv' := [some (.inr (.inr (.inl (some (26))))), some (.inr (.inr (.inl (some (t))))), some (.inl k21), some (.inl k22), some (.inl k23), some (.inl k24), a25]) (st' := [.inl ((s : Int) * (4)), .inl k24]) (h' := h2) rfl ?_
            refine wq_k2 (p' := 66) (ck_58 _ _ rfl) rfl ⟨by omega, by omega⟩ ⟨by omega, by omega⟩ (fun c33 => ?_) (fun c34 => ?_)
            · have c33 : ((s : Int) * (4)) ≤ k24 := c33
              refine av_wp_sqF ck_58 1 (pc' := 125) (lv' := [some (.inr (.inr (.inl (some (26))))), some (.inr (.inr (.inl (some (t))))), some (.inl k21), some (.inl k22), some (.inl k23), some (.inl k24), a25]) (st' := [.inl k21]) (h' := h2) rfl ?_
              refine av_wp_ret (v := some (.inl k21)) (ck_58 _ _ rfl) rfl rfl ?_
              exact hq _ h2 _ _ _ _ _ _ _ _ _ X3
            · have c34 : k24 < ((s : Int) * (4)) := c34
              refine av_wp_sqF ck_58 3 (pc' := 70) (lv' := [some (.inr (.inr (.inl (some (26))))), some (.inr (.inr (.inl (some (t))))), some (.inl k21), some (.inl k22), some (.inl k23), some (.inl k24), a25]) (st' := [.inl (4), .inl k24, .inr (.inr (.inl (some (t))))]) (h' := h2) rfl ?_
              refine wq_dv (p' := 71) (ck_58 _ _ rfl) rfl ⟨by omega, by omega⟩ (by omega) (fun v35 e36 => ?_)
              have e36 := e36 ⟨by omega, by omega⟩
              rw [Int.tdiv_eq_ediv_of_nonneg (by omega)] at e36
              refine av_wp_sqF ck_58 3 (pc' := 76) (lv' := [some (.inr (.inr (.inl (some (26))))), some (.inr (.inr (.inl (some (t))))), some (.inl k21), some (.inl k22), some (.inl k23), some (.inl k24), a25]) (st' := [.inl (4), .inl k24, .inl (15), .inl v35, .inr (.inr (.inl (some (t))))]) (h' := h2) rfl ?_
              refine wq_rm (p' := 77) (ck_58 _ _ rfl) rfl ⟨by omega, by omega⟩ (by omega) (fun v37 e38 => ?_)
              have e38 := e38 ⟨by omega, by omega⟩
              rw [Int.tmod_eq_emod_of_nonneg (by omega)] at e38
              refine av_wp_sqF ck_58 1 (pc' := 78) (lv' := [some (.inr (.inr (.inl (some (26))))), some (.inr (.inr (.inl (some (t))))), some (.inl k21), some (.inl k22), some (.inl k23), some (.inl k24), a25]) (st' := [.inl ((15) + v37), .inl v35, .inr (.inr (.inl (some (t))))]) (h' := h2) rfl ?_
              refine wq_cv (p' := 81) (av_qc (.invokevirtual 119) 29 2 0 1) 3 cd_29 [.inl ((15) + v37), .inl v35] (t) 1 [some (.inr (.inr (.inl (some (t))))), some (.inl v35), some (.inl ((15) + v37))] (ck_58 _ _ rfl) rfl rfl pp_29 rfl rfl rfl (congrArg Prod.fst (co_kt (ib_co X3.2.1.1))) rfl rfl rfl rfl ?_
              refine ct_29 (ib_co X3.2.1.1) (v35) (((15) + v37)) (by omega) (by omega) (fun v39 p40 => ?_)
              show av_wp _ cd_58 81 [some (.inr (.inr (.inl (some (26))))), some (.inr (.inr (.inl (some (t))))), some (.inl k21), some (.inl k22), some (.inl k23), some (.inl k24), a25] [.inl v39] h2 _
              refine av_wp_sqF ck_58 2 (pc' := 85) (lv' := [some (.inr (.inr (.inl (some (26))))), some (.inr (.inr (.inl (some (t))))), some (.inl k21), some (.inl k22), some (.inl k23), some (.inl k24), some (.inl v39)]) (st' := [.inl v39]) (h' := h2) rfl ?_
              refine wq_k1 (p' := 88) (ck_58 _ _ rfl) rfl ⟨by omega, by omega⟩ (fun c41 => ?_) (fun c42 => ?_)
              · have c41 : v39 ≤ (0) := c41
                refine av_wp_sqF ck_58 2 (pc' := 55) (lv' := [some (.inr (.inr (.inl (some (26))))), some (.inr (.inr (.inl (some (t))))), some (.inl k21), some (.inl k22), some (.inl k23), some (.inl (k24 + (1))), some (.inl v39)]) (st' := []) (h' := h2) rfl ?_
                exact I28 _ (by omega) (k21) (k22) (k23) ((k24 + (1))) (some (.inl v39)) rfl (by omega) (by omega) rfl
              · have c42 : (0) < v39 := c42
                refine av_wp_sqF ck_58 4 (pc' := 94) (lv' := [some (.inr (.inr (.inl (some (26))))), some (.inr (.inr (.inl (some (t))))), some (.inl k21), some (.inl k22), some (.inl k23), some (.inl k24), some (.inl v39)]) (st' := [.inl v39, .inl k23, .inr (.inr (.inl (some (26)))), .inl k21]) (h' := h2) rfl ?_
                refine wq_cv (p' := 97) (av_qc (.invokevirtual 143) 59 2 0 3) 4 cd_59 [.inl v39, .inl k23] (26) 3 [some (.inr (.inr (.inl (some (26))))), some (.inl k23), some (.inl v39), none] (ck_58 _ _ rfl) rfl rfl pp_59 rfl rfl rfl (congrArg Prod.fst (ly_k X3.1.1.1 26 rfl)) rfl rfl rfl rfl ?_
                refine ct_59 X3.2.1.1 (k23) (v39) (by omega) (fun v43 p44 => ?_)
                show av_wp _ cd_58 97 [some (.inr (.inr (.inl (some (26))))), some (.inr (.inr (.inl (some (t))))), some (.inl k21), some (.inl k22), some (.inl k23), some (.inl k24), some (.inl v39)] [.inl v43, .inl k21] h2 _
                refine wq_k1 (p' := 100) (ck_58 _ _ rfl) rfl ⟨by omega, by omega⟩ (fun c45 => ?_) (fun c46 => ?_)
                · have c45 : v43 = (0) := c45
                  refine av_wp_sqF ck_58 12 (pc' := 121) (lv' := [some (.inr (.inr (.inl (some (26))))), some (.inr (.inr (.inl (some (t))))), some (.inl (av_or k21 (0))), some (.inl (av_shl k22 (1))), some (.inl (k23 * v39)), some (.inl (k24 + (1))), some (.inl v39)]) (st' := []) (h' := h2) rfl ?_
                  refine av_wp_sqF ck_58 1 (pc' := 55) (lv' := [some (.inr (.inr (.inl (some (26))))), some (.inr (.inr (.inl (some (t))))), some (.inl (av_or k21 (0))), some (.inl (av_shl k22 (1))), some (.inl (k23 * v39)), some (.inl (k24 + (1))), some (.inl v39)]) (st' := []) (h' := h2) rfl ?_
                  exact I28 _ (by omega) ((av_or k21 (0))) ((av_shl k22 (1))) ((k23 * v39)) ((k24 + (1))) (some (.inl v39)) rfl (by omega) (by omega) rfl
                · have c46 : v43 ≠ (0) := c46
                  refine av_wp_sqF ck_58 12 (pc' := 118) (lv' := [some (.inr (.inr (.inl (some (26))))), some (.inr (.inr (.inl (some (t))))), some (.inl (av_or k21 k22)), some (.inl (av_shl k22 (1))), some (.inl (k23 * v39)), some (.inl k24), some (.inl v39)]) (st' := []) (h' := h2) rfl ?_
                  refine av_wp_sqF ck_58 2 (pc' := 55) (lv' := [some (.inr (.inr (.inl (some (26))))), some (.inr (.inr (.inl (some (t))))), some (.inl (av_or k21 k22)), some (.inl (av_shl k22 (1))), some (.inl (k23 * v39)), some (.inl (k24 + (1))), some (.inl v39)]) (st' := []) (h' := h2) rfl ?_
                  exact I28 _ (by omega) ((av_or k21 k22)) ((av_shl k22 (1))) ((k23 * v39)) ((k24 + (1))) (some (.inl v39)) rfl (by omega) (by omega) rfl
        exact L27 _ ((0)) ((1)) ((1)) ((0)) (none) rfl (by omega) (by omega) rfl
      · have c20 : k1 < cb := c20
        refine av_wp_sqF ck_58 2 (pc' := 22) (lv' := [some (.inr (.inr (.inl (some (26))))), some (.inr (.inr (.inl (some (t))))), some (.inl k1), none, none, none, none]) (st' := [.inl (1024), .inl k1]) (h' := h2) rfl ?_
        refine wq_k2 (p' := 25) (ck_58 _ _ rfl) rfl ⟨by omega, by omega⟩ ⟨by omega, by omega⟩ (fun c47 => ?_) (fun c48 => ?_)
        · have c47 : (1024) ≤ k1 := c47
          exfalso; omega
        · have c48 : k1 < (1024) := c48
          refine av_wp_sqF ck_58 1 (pc' := 26) (lv' := [some (.inr (.inr (.inl (some (26))))), some (.inr (.inr (.inl (some (t))))), some (.inl k1), none, none, none, none]) (st' := [.inr (.inr (.inl (some (26))))]) (h' := h2) rfl ?_
          refine wq_gr (p' := 29) (ck_58 _ _ rfl) rfl (congrArg Prod.fst (ly_k X3.1.1.1 26 rfl)) rfl (ly_g X3.1.1.1 26 6 29 rfl) ?_
          refine av_wp_sqF ck_58 2 (pc' := 31) (lv' := [some (.inr (.inr (.inl (some (26))))), some (.inr (.inr (.inl (some (t))))), some (.inl k1), none, none, none, none]) (st' := [.inr (.inr (.inl (some (26)))), .inl k1, .inr (.inr (.inl (some (29))))]) (h' := h2) rfl ?_
          refine wq_gr (p' := 34) (ck_58 _ _ rfl) rfl (congrArg Prod.fst (ly_k X3.1.1.1 26 rfl)) rfl (ly_g X3.1.1.1 26 1 35 rfl) ?_
          refine av_wp_sqF ck_58 1 (pc' := 35) (lv' := [some (.inr (.inr (.inl (some (26))))), some (.inr (.inr (.inl (some (t))))), some (.inl k1), none, none, none, none]) (st' := [.inl k1, .inr (.inr (.inl (some (35)))), .inl k1, .inr (.inr (.inl (some (29))))]) (h' := h2) rfl ?_
          refine wq_cv (p' := 38) (av_qc (.invokevirtual 89) 2 1 0 0) 2 cd_2 [.inl k1] (35) 0 [some (.inr (.inr (.inl (some (35))))), some (.inl k1)] (ck_58 _ _ rfl) rfl rfl pp_2 rfl rfl rfl (congrArg Prod.fst (bn_k0 X3.1.1.1 (Or.inl rfl))) rfl rfl rfl rfl ?_
          refine cy_2 X3.2.1 (FN_rf 35 h2) G X3.2.2.1 X3.2.2.2.1 (k1) (by omega) (fun v49 h50 a51 m52 m53 m54 E55 F56 Z57 T58 D59 B60 R61 p62 => ?_)
          have X63 := SQ_2 X3 E55 F56 Z57 T58
          have g64 : (-1 ≤ m52 ∧ m52 ≤ 11) ∧ (-1 ≤ m53 ∧ m53 ≤ 11) ∧ (-1 ≤ m54 ∧ m54 ≤ 9999) := R61
          show av_wp _ cd_58 38 [some (.inr (.inr (.inl (some (26))))), some (.inr (.inr (.inl (some (t))))), some (.inl k1), none, none, none, none] [.inl v49, .inl k1, .inr (.inr (.inl (some (29))))] h50 _
          refine xq_29 (p' := 39) rfl rfl X63 (by omega) (by omega) (fun h65 X66 => ?_)
          refine av_wp_sqF ck_58 2 (pc' := 10) (lv' := [some (.inr (.inr (.inl (some (26))))), some (.inr (.inr (.inl (some (t))))), some (.inl (k1 + (1))), none, none, none, none]) (st' := []) (h' := h65) rfl ?_
          exact I16 _ (by omega) ((k1 + (1))) h65 a51 (m52) (m53) (m54) (t8) (t9) (t10) (t11) (t12) (by omega) X66 trivial rfl
  exact L15 _ ((0)) h a (mb) (mo) (ma) (t0) (t1) (t2) (t3) (t4) (by omega) X trivial rfl

set_option maxRecDepth 100000 in
set_option maxHeartbeats 4000000 in
theorem cx_110 {h : av_H} {U : Nat → Nat → Int} {S : Nat → Nat} {n : Int} {sr nd : Nat → Int} (C : CJ U S n sr nd h) (k : Int) (qk : -2147483648 ≤ k ∧ k ≤ 2147483647) (l : Int) (ql : -2147483648 ≤ l ∧ l ≤ 2147483647) (CR : CRT U S n (hF h 3 4) (fun k => hA h (6 + k))) (SU : SUA U S n (hF h 3 4) (fun k => hA h (6 + k)) sr) {Q : Option av_V → av_H → Prop} (hq : ∀ (v : Int) h' sr' nd', CJ U S n sr' nd' h' → Fr h h' → SUA U S n (hF h 3 4) (fun k => hA h (6 + k)) sr' → Q (some (.inl v)) h') : av_wp none cd_110 0 [some (.inr (.inr (.inl (some (0))))), some (.inl k), some (.inl l)] [] h Q := by
  have F := Fr_rf h
  have nr := C.2.1.2.1
  refine av_wp_sqF ck_110 1 (pc' := 1) (lv' := [some (.inr (.inr (.inl (some (0))))), some (.inl k), some (.inl l)]) (st' := [.inr (.inr (.inl (some (0))))]) (h' := h) rfl ?_
  refine wq_gr (p' := 4) (ck_110 _ _ rfl) rfl (congrArg Prod.fst (ly_k C.1.1 0 rfl)) rfl (ly_g C.1.1 0 5 26 rfl) ?_
  refine av_wp_sqF ck_110 2 (pc' := 6) (lv' := [some (.inr (.inr (.inl (some (0))))), some (.inl k), some (.inl l)]) (st' := [.inl l, .inl k, .inr (.inr (.inl (some (26))))]) (h' := h) rfl ?_
  refine wq_cv (p' := 9) (av_qc (.invokevirtual 203) 49 2 0 3) 3 cd_49 [.inl l, .inl k] (26) 3 [some (.inr (.inr (.inl (some (26))))), some (.inl k), some (.inl l)] (ck_110 _ _ rfl) rfl rfl pp_49 rfl rfl rfl (congrArg Prod.fst (ly_k C.1.1 26 rfl)) rfl rfl rfl rfl ?_
  refine cx_49 C (k) (by omega) (l) (by omega) CR SU (fun z1 => ?_) (fun z1 z2 z3 h4 r5 n6 t7 c8 a9 C10 F11 U12 E13 Z14 T15 => ?_)
  · show av_wp _ cd_110 9 [some (.inr (.inr (.inl (some (0))))), some (.inl k), some (.inl l)] [.inl (0)] h _
    refine av_wp_sqF ck_110 2 (pc' := 32) (lv' := [some (.inr (.inr (.inl (some (0))))), some (.inl k), some (.inl l)]) (st' := [.inl (-2)]) (h' := h) rfl ?_
    refine av_wp_ret (v := some (.inl (-2))) (ck_110 _ _ rfl) rfl rfl ?_
    exact hq _ h _ _ C F SU
  · have X16 : SQ U S n r5 n6 t7 c8 (S (Int.toNat k)) (6 + Int.toNat l) (cbv (U (Int.toNat k)) (S (Int.toNat k))) (U (Int.toNat k)) (hA h (6 + Int.toNat l)) (bxx U S (hA h (6 + Int.toNat l)) (Int.toNat k)) a9 (hF h4 35 13) (hF h4 35 14) (hF h4 35 15) (hA h4 31 0) (hA h4 31 1) (hA h4 31 2) (hA h4 31 3) (hA h4 31 4) h h4 := ⟨C10, E13, T15, Z14, F11.1, rfl, rfl, rfl, rfl, rfl⟩
    have G17 := CWF_sea (ro := (hA h (6 + Int.toNat l))) (CR.1 (Int.toNat k) (by omega)) (rl_8 (CR.2.2.2 l (by omega) (by omega))).1 (brv_b (U (Int.toNat k)) (srt U S (hA h (6 + Int.toNat l)) (Int.toNat k)))
    have H18 : ∀ x : Int, 0 ≤ x → x ≤ 1023 → (bgn (U (Int.toNat k)) (hA h (6 + Int.toNat l)) (bxx U S (hA h (6 + Int.toNat l)) (Int.toNat k)) (S (Int.toNat k)) x).2.2 = 9999 ∨ (0 ≤ (bgn (U (Int.toNat k)) (hA h (6 + Int.toNat l)) (bxx U S (hA h (6 + Int.toNat l)) (Int.toNat k)) (S (Int.toNat k)) x).2.2 ∧ (bgn (U (Int.toNat k)) (hA h (6 + Int.toNat l)) (bxx U S (hA h (6 + Int.toNat l)) (Int.toNat k)) (S (Int.toNat k)) x).2.2 < 9999) := fun x h0 h1 => bgn_0 (HBd_g (x := x) (CR.1 (Int.toNat k) (by omega)).2.2.2.2.2 (fun q hq i hi => arr_0 (by have := (CR.1 (Int.toNat k) (by omega)).2.1.2; omega)) ⟨h0, h1⟩)
    have q19 := cbv_d (U (Int.toNat k)) (S (Int.toNat k))
    have q19a := CR.2.2.1 (Int.toNat k) (by omega)
    show av_wp _ cd_110 9 [some (.inr (.inr (.inl (some (0))))), some (.inl k), some (.inl l)] [.inl (1)] h4 _
    refine av_wp_sqF ck_110 2 (pc' := 13) (lv' := [some (.inr (.inr (.inl (some (0))))), some (.inl k), some (.inl l)]) (st' := [.inr (.inr (.inl (some (0))))]) (h' := h4) rfl ?_
    refine wq_gr (p' := 16) (ck_110 _ _ rfl) rfl (congrArg Prod.fst (ly_k C10.1.1 0 rfl)) rfl (ly_g C10.1.1 0 5 26 rfl) ?_
    refine wq_gr (p' := 19) (ck_110 _ _ rfl) rfl (congrArg Prod.fst (ly_k C10.1.1 26 rfl)) rfl (ly_g C10.1.1 26 1 35 rfl) ?_
    refine wq_gr (p' := 22) (ck_110 _ _ rfl) rfl (congrArg Prod.fst (bn_k0 C10.1.1 (Or.inl rfl))) rfl (ib_t X16.2.1.1) ?_
    obtain ⟨v20, e21⟩ : ∃ v, hF h4 t7 2 = v := ⟨_, rfl⟩
    refine wq_gi (p' := 25) (ck_110 _ _ rfl) rfl (congrArg Prod.fst (co_kt (ib_co X16.2.1.1))) rfl (e21) ?_
    refine av_wp_sqF ck_110 1 (pc' := 27) (lv' := [some (.inr (.inr (.inl (some (0))))), some (.inl k), some (.inl l)]) (st' := [.inl (12), .inl v20]) (h' := h4) rfl ?_
    refine wq_c2 (p' := 30) (ck_110 _ _ rfl) rfl ?_ ?_
    · refine av_wp_sqF ck_110 1 (pc' := 34) (lv' := [some (.inr (.inr (.inl (some (0))))), some (.inl k), some (.inl l)]) (st' := [.inr (.inr (.inl (some (0))))]) (h' := h4) rfl ?_
      refine wq_gr (p' := 37) (ck_110 _ _ rfl) rfl (congrArg Prod.fst (ly_k C10.1.1 0 rfl)) rfl (ly_g C10.1.1 0 5 26 rfl) ?_
      refine wq_cv (p' := 40) (av_qc (.invokevirtual 216) 58 0 0 3) 7 cd_58 [] (26) 3 [some (.inr (.inr (.inl (some (26))))), none, none, none, none, none, none] (ck_110 _ _ rfl) rfl rfl pp_58 rfl rfl rfl (congrArg Prod.fst (ly_k C10.1.1 26 rfl)) rfl rfl rfl rfl ?_
      refine cx_58 X16 G17 (fun v22 h23 a24 m25 m26 m27 t28 t29 t30 t31 t32 X33 => ?_)
      show av_wp _ cd_110 40 [some (.inr (.inr (.inl (some (0))))), some (.inl k), some (.inl l)] [.inl v22] h23 _
      refine av_wp_ret (v := some (.inl v22)) (ck_110 _ _ rfl) rfl rfl ?_
      exact hq _ h23 _ _ X33.1 X33.2.2.2.2.1 U12
    · refine av_wp_sqF ck_110 1 (pc' := 32) (lv' := [some (.inr (.inr (.inl (some (0))))), some (.inl k), some (.inl l)]) (st' := [.inl (-2)]) (h' := h4) rfl ?_
      refine av_wp_ret (v := some (.inl (-2))) (ck_110 _ _ rfl) rfl rfl ?_
      exact hq _ h4 _ _ X16.1 X16.2.2.2.2.1 U12
end
section
/-! WHAT A SAYING DOES -/
/-- the first that has the least hour, for reason c: t0 was there before -/
def FBI (g : Nat → Int) (c : Int) (t0 t : T3) (k : Nat) : Prop := (t = t0 ∧ ∀ j, j < k → g j ≠ -1 → ¬ (g j < t0.1 ∨ (g j = t0.1 ∧ c < t0.2.1))) ∨ (t.2.1 = c ∧ t.1 ≠ -1 ∧ (∃ i : Nat, i < k ∧ t.2.2 = (i : Int) ∧ g i = t.1 ∧ ∀ j, j < i → g j ≠ t.1) ∧ ∀ j, j < k → g j ≠ -1 → t.1 ≤ g j)
theorem FBI_0 {g : Nat → Int} {c : Int} {t : T3} : FBI g c t t 0 := Or.inl ⟨rfl, fun j hj => absurd hj (by omega)⟩
theorem FBI_s {g : Nat → Int} {c o : Int} {t0 t : T3} {k : Nat} (x : FBI g c t0 t k) (ho : o ≠ 0) : FBI g c t0 (ea t o (g k) c (k : Int)) (k + 1) := by
  unfold ea
  split
  · next u =>
    obtain ⟨_, u2, u3⟩ := u
    refine Or.inr ⟨rfl, u2, ⟨k, by omega, rfl, rfl, fun j hj => ?_⟩, fun j hj hv => ?_⟩
    · intro e
      have e : g j = g k := e
      rcases x with ⟨x1, x2⟩ | ⟨x1, x2, x3, x4⟩
      · rw [x1] at u3
        have := x2 j hj (by rw [e]; exact u2)
        rw [e] at this
        exact this u3
      · have := x4 j hj (by rw [e]; exact u2)
        omega
    · show g k ≤ g j
      by_cases c1 : j = k
      · rw [c1]
        exact Int.le_refl _
      · rcases x with ⟨x1, x2⟩ | ⟨x1, x2, x3, x4⟩
        · rw [x1] at u3
          have := x2 j (by omega) hv
          omega
        · have := x4 j (by omega) hv
          omega
  · next u =>
    rcases x with ⟨x1, x2⟩ | ⟨x1, x2, ⟨i, i1, i2, i3, i4⟩, x4⟩
    · refine Or.inl ⟨x1, fun j hj hv => ?_⟩
      by_cases c1 : j = k
      · rw [x1] at u
        rw [c1] at hv ⊢
        exact fun z => u ⟨ho, hv, z⟩
      · exact x2 j (by omega) hv
    · refine Or.inr ⟨x1, x2, ⟨i, by omega, i2, i3, i4⟩, fun j hj hv => ?_⟩
      by_cases c1 : j = k
      · rw [c1] at hv ⊢
        by_cases c2 : g k < t.1
        · exact absurd ⟨ho, hv, Or.inl c2⟩ u
        · omega
      · exact x4 j (by omega) hv
section
variable {u ro : Nat → Int} {a : Nat → Nat → Int} {s : Nat}
theorem ea_m (t : T3) (o c b : Int) : ea t o (-1) c b = t := if_neg (fun z => z.2.1 rfl)
theorem ebv_s (W : UW u s) (H : HBd s a) {k q : Nat} (hk : k < s) (hq : q < s) : ebv u ro a q (k + 1) = ea (ebv u ro a q k) (a 2 q) (bkv u ro a k (q : Int)) 1 (k : Int) := by
  have e : ebv u ro a q (k + 1) = if hB u ro a k ≠ -1 ∧ u (21 * k + 3) = (q : Int) ∧ fre u ro q ≤ hB u ro a k then ea (ebv u ro a q k) (a 2 q) (hB u ro a k) 1 (k : Int) else ebv u ro a q k := rfl
  rw [e]
  split
  · next c => rw [(bk_y W H hk c).1]
  · next c => rw [bk_n W H hk hq c, ea_m]
theorem eav_s (W : UW u s) (O : ∀ k, k < s → a 2 k = ofv u ro k) {k q : Nat} (hk : k < s) : eav u ro a s q (k + 1) = ea (eav u ro a s q k) (a 2 q) (nov u ro a k (q : Int)) 2 (k : Int) := by
  have e : eav u ro a s q (k + 1) = if ans u k = 1 ∧ u (21 * k + 3) = (q : Int) ∧ (u (21 * k + 0) = 4 ∨ a 2 k ≠ 0) then ea (eav u ro a s q k) (a 2 q) (hw a k (ro 5)) 2 (k : Int) else eav u ro a s q k := rfl
  have i := no_i (o := q) W hk (O k hk)
  rw [e]
  unfold nov
  by_cases c : noV u ro k = 1 ∧ u (21 * k + 3) = (q : Int)
  · rw [if_pos (i.mpr c), if_pos c]
  · rw [if_neg (fun z => c (i.mp z)), if_neg c, ea_m]
theorem ebv_f (W : UW u s) (H : HBd s a) {q : Nat} (hq : q < s) (h2 : a 2 q ≠ 0) : ∀ k, k ≤ s → FBI (fun i => bkv u ro a i (q : Int)) 1 (e0 u ro a q) (ebv u ro a q k) k := by
  intro k
  induction k with
  | zero => intro _; exact FBI_0
  | succ k ih =>
    intro hk
    rw [ebv_s W H (by omega) hq]
    exact FBI_s (ih (by omega)) h2
theorem eav_f (W : UW u s) (O : ∀ k, k < s → a 2 k = ofv u ro k) {q : Nat} (h2 : a 2 q ≠ 0) : ∀ k, k ≤ s → FBI (fun i => nov u ro a i (q : Int)) 2 (ebv u ro a q s) (eav u ro a s q k) k := by
  intro k
  induction k with
  | zero => intro _; exact FBI_0
  | succ k ih =>
    intro hk
    rw [eav_s W O (by omega)]
    exact FBI_s (ih (by omega)) h2
theorem e0_b (q : Nat) : (e0 u ro a q).2.2 = -1 ∧ (e0 u ro a q).2.1 ≠ 1 ∧ (e0 u ro a q).2.1 ≠ 2 := by
  have h : ∀ (h w : Int), w = 3 ∨ w = 4 → (ea (9999, 0, -1) (a 2 q) h w (-1)).2.2 = -1 ∧ (ea (9999, 0, -1) (a 2 q) h w (-1)).2.1 ≠ 1 ∧ (ea (9999, 0, -1) (a 2 q) h w (-1)).2.1 ≠ 2 := fun h w hw => by
    unfold ea
    split
    · exact ⟨rfl, by show w ≠ 1; omega, by show w ≠ 2; omega⟩
    · exact ⟨rfl, by show (0 : Int) ≠ 1; omega, by show (0 : Int) ≠ 2; omega⟩
  unfold e0
  (repeat' split)
  · exact h _ _ (Or.inl rfl)
  · exact h _ _ (Or.inr rfl)
  · exact ⟨rfl, by show (0 : Int) ≠ 1; omega, by show (0 : Int) ≠ 2; omega⟩
/-- by whom an offer ended -/
theorem eav_by (W : UW u s) (H : HBd s a) (O : ∀ k, k < s → a 2 k = ofv u ro k) {q : Nat} (hq : q < s) (h2 : a 2 q ≠ 0) : ((eav u ro a s q s).2.1 = 1 → (eav u ro a s q s).1 ≠ -1 ∧ ∃ i : Nat, i < s ∧ (eav u ro a s q s).2.2 = (i : Int) ∧ bkv u ro a i (q : Int) = (eav u ro a s q s).1 ∧ ∀ j, j < i → bkv u ro a j (q : Int) ≠ (eav u ro a s q s).1) ∧ ((eav u ro a s q s).2.1 = 2 → (eav u ro a s q s).1 ≠ -1 ∧ ∃ i : Nat, i < s ∧ (eav u ro a s q s).2.2 = (i : Int) ∧ nov u ro a i (q : Int) = (eav u ro a s q s).1 ∧ ∀ j, j < i → nov u ro a j (q : Int) ≠ (eav u ro a s q s).1) ∧ ((eav u ro a s q s).2.1 ≠ 1 → (eav u ro a s q s).2.1 ≠ 2 → (eav u ro a s q s).2.2 = -1) := by
  rcases eav_f W O h2 s (Nat.le_refl s) with ⟨x1, _⟩ | ⟨x1, x2, x3, _⟩
  · rw [x1]
    rcases ebv_f W H hq h2 s (Nat.le_refl s) with ⟨y1, _⟩ | ⟨y1, y2, y3, _⟩
    · rw [y1]
      have z := e0_b (u := u) (ro := ro) (a := a) q
      exact ⟨fun h => absurd h z.2.1, fun h => absurd h z.2.2, fun _ _ => z.1⟩
    · exact ⟨fun _ => ⟨y2, y3⟩, fun h => by omega, fun h => absurd y1 h⟩
  · exact ⟨fun h => by omega, fun _ => ⟨x2, x3⟩, fun _ h => absurd x1 h⟩
theorem ea_0 (t : T3) (h c b : Int) : ea t 0 h c b = t := if_neg (fun z => z.1 rfl)
/-- what is no offer doesn't end -/
theorem eav_n (W : UW u s) (H : HBd s a) (O : ∀ k, k < s → a 2 k = ofv u ro k) {q : Nat} (hq : q < s) (h2 : a 2 q = 0) : (eav u ro a s q s).2.2 = -1 := by
  have h1 : ∀ k, k ≤ s → ebv u ro a q k = e0 u ro a q := by
    intro k
    induction k with
    | zero => intro _; rfl
    | succ k ih => intro hk; rw [ebv_s W H (by omega) hq, h2, ea_0]; exact ih (by omega)
  have h3 : ∀ k, k ≤ s → eav u ro a s q k = e0 u ro a q := by
    intro k
    induction k with
    | zero => intro _; exact h1 s (Nat.le_refl s)
    | succ k ih => intro hk; rw [eav_s W O (by omega), h2, ea_0]; exact ih (by omega)
  rw [h3 s (Nat.le_refl s)]
  exact (e0_b q).1
theorem bkv_o (W : UW u s) {k q : Nat} (hk : k < s) (h : bkv u ro a k (q : Int) ≠ -1) : q < k := by
  unfold bkv at h
  split at h
  · next c =>
    have := (W k hk).2.1
    omega
  · exact absurd rfl h
theorem nov_o (W : UW u s) {k q : Nat} (hk : k < s) (h : nov u ro a k (q : Int) ≠ -1) : q < k := by
  unfold nov at h
  split at h
  · next c =>
    have := (W k hk).2.1
    omega
  · exact absurd rfl h
end
/-- the least behind q whose hour is e: as the reference looks for it, from above -/
def LIX (g : Nat → Int) (e : Int) (q s : Nat) (j v : Int) : Prop := (v = -1 ∧ ∀ i : Nat, j < (i : Int) → i < s → g i ≠ e) ∨ (j < v ∧ v < (s : Int) ∧ g v.toNat = e ∧ ∀ i : Nat, j < (i : Int) → (i : Int) < v → g i ≠ e)
theorem LIX_0 {g : Nat → Int} {e : Int} {q s : Nat} : LIX g e q s ((s : Int) - 1) (-1) := Or.inl ⟨rfl, fun i h1 h2 => by omega⟩
theorem LIX_y {g : Nat → Int} {e : Int} {q s : Nat} {j v : Int} (x : LIX g e q s j v) (hj : 0 ≤ j ∧ j < (s : Int)) (h : g j.toNat = e) : LIX g e q s (j - 1) j := Or.inr ⟨by omega, hj.2, h, fun i h1 h2 => by omega⟩
theorem LIX_n {g : Nat → Int} {e : Int} {q s : Nat} {j v : Int} (x : LIX g e q s j v) (hj : 0 ≤ j ∧ j < (s : Int)) (h : g j.toNat ≠ e) : LIX g e q s (j - 1) v := by
  have hh : ∀ i : Nat, (i : Int) = j → g i ≠ e := fun i hi => by
    rw [show i = j.toNat by omega]
    exact h
  rcases x with ⟨x1, x2⟩ | ⟨x1, x2, x3, x4⟩
  · refine Or.inl ⟨x1, fun i h1 h2 => ?_⟩
    by_cases c : (i : Int) = j
    · exact hh i c
    · exact x2 i (by omega) h2
  · refine Or.inr ⟨by omega, x2, x3, fun i h1 h2 => ?_⟩
    by_cases c : (i : Int) = j
    · exact hh i c
    · exact x4 i (by omega) h2
/-- both find the same -/
theorem LIX_e {g : Nat → Int} {e b v : Int} {q s : Nat} (x : LIX g e q s (q : Int) v) (y : ∃ i : Nat, i < s ∧ b = (i : Int) ∧ g i = e ∧ ∀ j, j < i → g j ≠ e) (h : ∀ i : Nat, i < s → g i = e → q < i) : v = b := by
  obtain ⟨i, i1, i2, i3, i4⟩ := y
  have qi := h i i1 i3
  rcases x with ⟨x1, x2⟩ | ⟨x1, x2, x3, x4⟩
  · exact absurd i3 (x2 i (by omega) i1)
  · rcases (show v.toNat = i ∨ v.toNat < i ∨ i < v.toNat by omega) with z | z | z
    · omega
    · exact absurd x3 (i4 _ z)
    · exact absurd i3 (x4 i (by omega) (by omega))
/-- does -/
def DC2 (u ro : Nat → Int) (a : Nat → Nat → Int) (s k : Nat) : Prop := (0 ≤ u (21 * k + 3) ∧ u (21 * k + 3) < (s : Int)) ∧ (eav u ro a s (u (21 * k + 3)).toNat s).2.2 = (k : Int)
def DC8 (u ro : Nat → Int) (a : Nat → Nat → Int) (s k : Nat) : Prop := u (21 * k + 0) = 5 ∧ (0 ≤ u (21 * k + 3) ∧ u (21 * k + 3) < (s : Int)) ∧ a 3 (u (21 * k + 3)).toNat ≠ 0 ∧ hw a k (ro 4) ≠ -1 ∧ hw a (u (21 * k + 3)).toNat (yw u ro (u (21 * k + 3)).toNat) ≠ -1 ∧ hw a k (ro 4) < hw a (u (21 * k + 3)).toNat (yw u ro (u (21 * k + 3)).toNat)
/-- the bits of a number below 16 -/
def BT4 (v : Int) (A B C D : Prop) : Prop := ∃ x y z w : Int, ((x = 1 ∧ A) ∨ (x = 0 ∧ ¬ A)) ∧ ((y = 1 ∧ B) ∨ (y = 0 ∧ ¬ B)) ∧ ((z = 1 ∧ C) ∨ (z = 0 ∧ ¬ C)) ∧ ((w = 1 ∧ D) ∨ (w = 0 ∧ ¬ D)) ∧ v = x + 2 * y + 4 * z + 8 * w
theorem BT4_u {v w : Int} {A B C D : Prop} (p : BT4 v A B C D) (q : BT4 w A B C D) : v = w := by
  obtain ⟨x, y, z, t, p1, p2, p3, p4, p5⟩ := p
  obtain ⟨x', y', z', t', q1, q2, q3, q4, q5⟩ := q
  have e : ∀ {P : Prop} {m n : Int}, ((m = 1 ∧ P) ∨ (m = 0 ∧ ¬ P)) → ((n = 1 ∧ P) ∨ (n = 0 ∧ ¬ P)) → m = n := fun a b => by
    rcases a with a | a <;> rcases b with b | b
    · exact a.1.trans b.1.symm
    · exact absurd a.2 b.2
    · exact absurd b.2 a.2
    · exact a.1.trans b.1.symm
  rw [p5, q5, e p1 q1, e p2 q2, e p3 q3, e p4 q4]
def DOV (u ro : Nat → Int) (a : Nat → Nat → Int) (s : Nat) (b : T3) (k : Nat) (v : Int) : Prop := BT4 v (o5 ro a k ≠ -1) (DC2 u ro a s k) (b.2.2 ≠ 9999 ∧ b.1 = (k : Int)) (DC8 u ro a s k)
theorem BT4_c {v : Int} {A B C D A' B' C' D' : Prop} (p : BT4 v A B C D) (ha : A ↔ A') (hb : B ↔ B') (hc : C ↔ C') (hd : D ↔ D') : BT4 v A' B' C' D' := by
  obtain ⟨x, y, z, t, p1, p2, p3, p4, p5⟩ := p
  rw [ha] at p1
  rw [hb] at p2
  rw [hc] at p3
  rw [hd] at p4
  exact ⟨x, y, z, t, p1, p2, p3, p4, p5⟩
/-- a bench's rows say so -/
theorem DOV_of {u ro bar : Nat → Int} {s : Nat} {x : Int} {a : Nat → Nat → Int} {b : T3} {k : Nat} {q v : Int} (hs : s ≤ 12) (T : TKR u ro bar s a) (D : DCD u ro bar s x a) (hk : k < s) (e : u (21 * k + 3) = q) (p : BT4 v (a 5 k ≠ -1) ((0 ≤ q ∧ q < (s : Int)) ∧ a 8 q.toNat = (k : Int)) (b.2.2 ≠ 9999 ∧ b.1 = (k : Int)) (u (21 * k + 0) = 5 ∧ (0 ≤ q ∧ q < (s : Int)) ∧ a 3 q.toNat ≠ 0 ∧ hw a k (ro 4) ≠ -1 ∧ hw a q.toNat (yw u ro q.toNat) ≠ -1 ∧ hw a k (ro 4) < hw a q.toNat (yw u ro q.toNat))) : DOV u ro (arr u ro bar x) s b k v := by
  have g := arr_g hs D.1 T
  subst e
  refine BT4_c p ?_ ?_ Iff.rfl ?_
  · rw [(D.2 k hk).2.2.1]
  · unfold DC2
    constructor
    · rintro ⟨z1, z2⟩
      refine ⟨z1, ?_⟩
      rw [← show a 8 (u (21 * k + 3)).toNat = _ from congrArg (fun t => t.2.2) (D.2 (u (21 * k + 3)).toNat (by omega)).2.1]
      exact z2
    · rintro ⟨z1, z2⟩
      refine ⟨z1, ?_⟩
      rw [show a 8 (u (21 * k + 3)).toNat = _ from congrArg (fun t => t.2.2) (D.2 (u (21 * k + 3)).toNat (by omega)).2.1]
      exact z2
  · unfold DC8
    by_cases c : 0 ≤ u (21 * k + 3) ∧ u (21 * k + 3) < (s : Int)
    · rw [(g _ (show (u (21 * k + 3)).toNat < s by omega)).2.2.1, hw_g g hk, hw_g g (show (u (21 * k + 3)).toNat < s by omega)]
    · exact ⟨fun z => absurd z.2.1 c, fun z => absurd z.2.1 c⟩
def gwh (u ro : Nat → Int) (a : Nat → Nat → Int) (w : Int) (q i : Nat) : Int := if w = 1 then bkv u ro a i (q : Int) else nov u ro a i (q : Int)
section
variable {u ro : Nat → Int} {a : Nat → Nat → Int} {s : Nat} {k q : Nat} {w e v : Int}
theorem DC2_v (W : UW u s) (H : HBd s a) (O : ∀ k, k < s → a 2 k = ofv u ro k) (hq : q < s) (h2 : a 2 q ≠ 0) (ew : (eav u ro a s q s).2.1 = w) (ee : (eav u ro a s q s).1 = e) (hw : w = 1 ∨ w = 2) (x : LIX (gwh u ro a w q) e q s (q : Int) v) : v = (eav u ro a s q s).2.2 := by
  obtain ⟨b1, b2, _⟩ := eav_by W H O hq h2
  rw [ew, ee] at b1 b2
  rcases hw with c | c
  · obtain ⟨c1, c2⟩ := b1 c
    have eg : ∀ i, gwh u ro a w q i = bkv u ro a i (q : Int) := fun i => if_pos c
    refine LIX_e x ?_ (fun i hi z => ?_)
    · obtain ⟨i, i1, i2, i3, i4⟩ := c2
      exact ⟨i, i1, i2, (eg i).trans i3, fun j hj z => i4 j hj ((eg j).symm.trans z)⟩
    · rw [eg] at z
      exact bkv_o W hi (by rw [z]; exact c1)
  · obtain ⟨c1, c2⟩ := b2 c
    have eg : ∀ i, gwh u ro a w q i = nov u ro a i (q : Int) := fun i => if_neg (by omega)
    refine LIX_e x ?_ (fun i hi z => ?_)
    · obtain ⟨i, i1, i2, i3, i4⟩ := c2
      exact ⟨i, i1, i2, (eg i).trans i3, fun j hj z => i4 j hj ((eg j).symm.trans z)⟩
    · rw [eg] at z
      exact nov_o W hi (by rw [z]; exact c1)
theorem DC2_w (W : UW u s) (H : HBd s a) (O : ∀ k, k < s → a 2 k = ofv u ro k) (hq : q < s) (h2 : a 2 q ≠ 0) (ew : (eav u ro a s q s).2.1 = w) (hw : w ≤ 0 ∨ 3 ≤ w) : (eav u ro a s q s).2.2 = -1 := by
  have b3 := (eav_by W H O hq h2).2.2
  rw [ew] at b3
  exact b3 (by omega) (by omega)
end
def BIT (v n : Int) (A : Prop) : Prop := (v = n ∧ A) ∨ (v = 0 ∧ ¬ A)
def BT2 (v : Int) (A B : Prop) : Prop := ∃ x y : Int, BIT x 1 A ∧ BIT y 2 B ∧ v = x + y
theorem BIT_r {v n : Int} {A : Prop} (x : BIT v n A) : v = n ∨ v = 0 := x.elim (fun z => Or.inl z.1) (fun z => Or.inr z.1)
theorem BT2_r {v : Int} {A B : Prop} (p : BT2 v A B) : 0 ≤ v ∧ v ≤ 3 := by
  obtain ⟨x, y, p1, p2, p3⟩ := p
  have := BIT_r p1
  have := BIT_r p2
  omega
theorem BT4_of {v x y z : Int} {A B C D : Prop} (p : BT2 x A B) (q : BIT y 4 C) (r : BIT z 8 D) (e : v = x + y + z) : BT4 v A B C D := by
  obtain ⟨a, b, p1, p2, p3⟩ := p
  refine ⟨a, if b = 2 then 1 else 0, if y = 4 then 1 else 0, if z = 8 then 1 else 0, p1, ?_, ?_, ?_, ?_⟩
  · rcases p2 with c | c
    · exact Or.inl ⟨if_pos c.1, c.2⟩
    · exact Or.inr ⟨if_neg (by omega), c.2⟩
  · rcases q with c | c
    · exact Or.inl ⟨if_pos c.1, c.2⟩
    · exact Or.inr ⟨if_neg (by omega), c.2⟩
  · rcases r with c | c
    · exact Or.inl ⟨if_pos c.1, c.2⟩
    · exact Or.inr ⟨if_neg (by omega), c.2⟩
  · have h2 := BIT_r p2
    have h4 := BIT_r q
    have h8 := BIT_r r
    (repeat' split) <;> omega
theorem or_p2 {x y : Int} (hx : 0 ≤ x ∧ x ≤ 1) (hy : y = 2 ∨ y = 0) : av_or x y = x + y := by
  rcases (show x = 0 ∨ x = 1 by omega) with e | e <;> subst e <;> rcases hy with d | d <;> subst d <;> decide +kernel
theorem or_p4 {x y : Int} (hx : 0 ≤ x ∧ x ≤ 3) (hy : y = 4 ∨ y = 0) : av_or x y = x + y := by
  rcases (show x = 0 ∨ x = 1 ∨ x = 2 ∨ x = 3 by omega) with e | e | e | e <;> subst e <;> rcases hy with d | d <;> subst d <;> decide +kernel
theorem or_p8 {x y : Int} (hx : 0 ≤ x ∧ x ≤ 7) (hy : y = 8 ∨ y = 0) : av_or x y = x + y := by
  rcases (show x = 0 ∨ x = 1 ∨ x = 2 ∨ x = 3 ∨ x = 4 ∨ x = 5 ∨ x = 6 ∨ x = 7 by omega) with e | e | e | e | e | e | e | e <;> subst e <;> rcases hy with d | d <;> subst d <;> decide +kernel
end
section
/-! DOES, exactly: the class -/
theorem eav_8 {u ro : Nat → Int} {a : Nat → Nat → Int} {s : Nat} (hs : s ≤ 12) (q : Nat) : -1 ≤ (eav u ro a s q s).2.2 ∧ (eav u ro a s q s).2.2 ≤ 11 := by
  have ee : ∀ (t : T3) (o h c b : Int), (-1 ≤ t.2.2 ∧ t.2.2 ≤ 11) → (-1 ≤ b ∧ b ≤ 11) → -1 ≤ (ea t o h c b).2.2 ∧ (ea t o h c b).2.2 ≤ 11 := fun t o h c b h1 h2 => by
    unfold ea
    split
    · exact h2
    · exact h1
  have h0 : -1 ≤ (e0 u ro a q).2.2 ∧ (e0 u ro a q).2.2 ≤ 11 := by
    rw [(e0_b q).1]
    omega
  have h1 : ∀ k, k ≤ s → -1 ≤ (ebv u ro a q k).2.2 ∧ (ebv u ro a q k).2.2 ≤ 11 := by
    intro k
    induction k with
    | zero => intro _; exact h0
    | succ k ih =>
      intro hk
      have e : ebv u ro a q (k + 1) = if hB u ro a k ≠ -1 ∧ u (21 * k + 3) = (q : Int) ∧ fre u ro q ≤ hB u ro a k then ea (ebv u ro a q k) (a 2 q) (hB u ro a k) 1 (k : Int) else ebv u ro a q k := rfl
      rw [e]
      split
      · exact ee _ _ _ _ _ (ih (by omega)) (by omega)
      · exact ih (by omega)
  have h2 : ∀ k, k ≤ s → -1 ≤ (eav u ro a s q k).2.2 ∧ (eav u ro a s q k).2.2 ≤ 11 := by
    intro k
    induction k with
    | zero => intro _; exact h1 s (Nat.le_refl s)
    | succ k ih =>
      intro hk
      have e : eav u ro a s q (k + 1) = if ans u k = 1 ∧ u (21 * k + 3) = (q : Int) ∧ (u (21 * k + 0) = 4 ∨ a 2 k ≠ 0) then ea (eav u ro a s q k) (a 2 q) (hw a k (ro 5)) 2 (k : Int) else eav u ro a s q k := rfl
      rw [e]
      split
      · exact ee _ _ _ _ _ (ih (by omega)) (by omega)
      · exact ih (by omega)
  exact h2 s (Nat.le_refl s)
set_option maxRecDepth 100000 in
set_option maxHeartbeats 4000000 in
theorem cx_22 {g h : av_H} {b t c s r : Nat} {cb : Int} {u ro : Nat → Int} {a : Nat → Nat → Int} {mb mo ma : Int} (E : EB b t c s r cb u ro a mb mo ma h) (F : FN b g h) (H : HBd s a) (R : RLW ro) (b3 : ∀ q, q < s → 0 ≤ a 3 q ∧ a 3 q ≤ 1) (b5 : ∀ q, q < s → -1 ≤ a 5 q ∧ a 5 q ≤ 9999) (b8 : ∀ q, q < s → -1 ≤ a 8 q ∧ a 8 q ≤ 11) (qm : -1 ≤ ma ∧ ma ≤ 9999) (k : Int) (qk : 0 ≤ k ∧ k < (s : Int)) (q : Int) (qq : -1 ≤ q ∧ q ≤ 11) {Q : Option av_V → av_H → Prop} (hq : ∀ v : Int, ((v = 1 ∧ ((0 ≤ q ∧ q < (s : Int)) ∧ a 3 (Int.toNat q) ≠ 0 ∧ hw a (Int.toNat k) (ro 4) ≠ -1 ∧ hw a (Int.toNat q) (yw u ro (Int.toNat q)) ≠ -1 ∧ hw a (Int.toNat k) (ro 4) < hw a (Int.toNat q) (yw u ro (Int.toNat q)))) ∨ (v = 0 ∧ ¬ ((0 ≤ q ∧ q < (s : Int)) ∧ a 3 (Int.toNat q) ≠ 0 ∧ hw a (Int.toNat k) (ro 4) ≠ -1 ∧ hw a (Int.toNat q) (yw u ro (Int.toNat q)) ≠ -1 ∧ hw a (Int.toNat k) (ro 4) < hw a (Int.toNat q) (yw u ro (Int.toNat q))))) → Q (some (.inl v)) h) : av_wp none cd_22 0 [some (.inr (.inr (.inl (some (b))))), some (.inl k), some (.inl q), none, none] [] h Q := by
  have s12 := co_s12 (ib_co E.1)
  have cbr := co_cbr (ib_co E.1)
  have mbr := eb_xr E
  have mor := eb_yr E
  refine av_wp_sqF ck_22 1 (pc' := 1) (lv' := [some (.inr (.inr (.inl (some (b))))), some (.inl k), some (.inl q), none, none]) (st' := [.inr (.inr (.inl (some (b))))]) (h' := h) rfl ?_
  refine wq_gr (p' := 4) (ck_22 _ _ rfl) rfl (congrArg Prod.fst (ib_k0 E.1)) rfl (ib_t E.1) ?_
  refine av_wp_sqF ck_22 1 (pc' := 5) (lv' := [some (.inr (.inr (.inl (some (b))))), some (.inl k), some (.inl q), none, none]) (st' := [.inl q, .inr (.inr (.inl (some (t))))]) (h' := h) rfl ?_
  refine wq_cv (p' := 8) (av_qc (.invokevirtual 136) 28 1 0 1) 2 cd_28 [.inl q] (t) 1 [some (.inr (.inr (.inl (some (t))))), some (.inl q)] (ck_22 _ _ rfl) rfl rfl pp_28 rfl rfl rfl (congrArg Prod.fst (co_kt (ib_co E.1))) rfl rfl rfl rfl ?_
  refine ct_28 (ib_co E.1) (q) (by omega) (fun v1 p2 => ?_)
  show av_wp _ cd_22 8 [some (.inr (.inr (.inl (some (b))))), some (.inl k), some (.inl q), none, none] [.inl v1] h _
  refine wq_k1 (p' := 11) (ck_22 _ _ rfl) rfl ⟨by omega, by omega⟩ (fun c3 => ?_) (fun c4 => ?_)
  · have c3 : v1 = (0) := c3
    refine av_wp_sqF ck_22 1 (pc' := 21) (lv' := [some (.inr (.inr (.inl (some (b))))), some (.inl k), some (.inl q), none, none]) (st' := [.inl (0)]) (h' := h) rfl ?_
    refine av_wp_ret (v := some (.inl (0))) (ck_22 _ _ rfl) rfl rfl ?_
    exact hq _ (Or.inr ⟨rfl, by omega⟩)
  · have c4 : v1 ≠ (0) := c4
    refine av_wp_sqF ck_22 1 (pc' := 12) (lv' := [some (.inr (.inr (.inl (some (b))))), some (.inl k), some (.inl q), none, none]) (st' := [.inr (.inr (.inl (some (b))))]) (h' := h) rfl ?_
    refine wq_gr (p' := 15) (ck_22 _ _ rfl) rfl (congrArg Prod.fst (ib_k0 E.1)) rfl (ib_g E.1 3 rfl) ?_
    refine av_wp_sqF ck_22 1 (pc' := 16) (lv' := [some (.inr (.inr (.inl (some (b))))), some (.inl k), some (.inl q), none, none]) (st' := [.inl q, .inr (.inr (.inl (some (b + 1 + 3))))]) (h' := h) rfl ?_
    obtain ⟨v6, e7⟩ : ∃ v, a 3 (Int.toNat (q)) = v := ⟨_, rfl⟩
    have g8 := b3 (Int.toNat (q)) (by omega)
    rw [e7] at g8
    refine wq_bl (p' := 17) (n := 12) (ck_22 _ _ rfl) rfl ((Or.inr (ib_k E.1 3 rfl))) (by omega) ((congrFun (eb_a E 3 rfl) _).trans e7) ?_
    refine wq_k1 (p' := 20) (ck_22 _ _ rfl) rfl ⟨by omega, by omega⟩ (fun c9 => ?_) (fun c10 => ?_)
    · have c9 : v6 ≠ (0) := c9
      refine av_wp_sqF ck_22 3 (pc' := 25) (lv' := [some (.inr (.inr (.inl (some (b))))), some (.inl k), some (.inl q), none, none]) (st' := [.inr (.inr (.inl (some (b)))), .inl k, .inr (.inr (.inl (some (b))))]) (h' := h) rfl ?_
      refine wq_gr (p' := 28) (ck_22 _ _ rfl) rfl (congrArg Prod.fst (ib_k0 E.1)) rfl (ib_r E.1) ?_
      refine av_wp_sqF ck_22 1 (pc' := 29) (lv' := [some (.inr (.inr (.inl (some (b))))), some (.inl k), some (.inl q), none, none]) (st' := [.inl (4), .inr (.inr (.inl (some (r)))), .inl k, .inr (.inr (.inl (some (b))))]) (h' := h) rfl ?_
      obtain ⟨v12, e13⟩ : ∃ v, ro 4 = v := ⟨_, rfl⟩
      have g11 := eb_rv E 4
      rw [e13] at g11
      have g14 := rl_4 R
      rw [e13] at g14
      refine wq_al (p' := 30) (n := 14) (ck_22 _ _ rfl) rfl (ib_kr E.1) (by omega) ((congrFun (eb_ro E) _).trans e13) ?_
      refine wq_cv (p' := 33) (av_qc (.invokevirtual 115) 6 2 0 0) 3 cd_6 [.inl v12, .inl k] (b) 0 [some (.inr (.inr (.inl (some (b))))), some (.inl k), some (.inl v12)] (ck_22 _ _ rfl) rfl rfl pp_6 rfl rfl rfl (congrArg Prod.fst (ib_k0 E.1)) rfl rfl rfl rfl ?_
      refine cx_6 E F (k) (by omega) (v12) (by omega) ?_
      rw [hof_c (a := a) rfl (by omega)]
      obtain ⟨v15, e16⟩ : ∃ v, hw a (Int.toNat (k)) v12 = v := ⟨_, rfl⟩
      have g17 := hw_r H (k := Int.toNat (k)) (by omega) v12
      rw [e16] at g17
      rw [e16]
      have hb : hw a (Int.toNat k) (ro 4) = v15 := by rw [e13]; exact e16
      show av_wp _ cd_22 33 [some (.inr (.inr (.inl (some (b))))), some (.inl k), some (.inl q), none, none] [.inl v15] h _
      refine av_wp_sqF ck_22 5 (pc' := 38) (lv' := [some (.inr (.inr (.inl (some (b))))), some (.inl k), some (.inl q), some (.inl v15), none]) (st' := [.inl q, .inr (.inr (.inl (some (b)))), .inl q, .inr (.inr (.inl (some (b))))]) (h' := h) rfl ?_
      refine wq_cv (p' := 41) (av_qc (.invokevirtual 129) 13 1 0 0) 3 cd_13 [.inl q] (b) 0 [some (.inr (.inr (.inl (some (b))))), some (.inl q), none] (ck_22 _ _ rfl) rfl rfl pp_13 rfl rfl rfl (congrArg Prod.fst (ib_k0 E.1)) rfl rfl rfl rfl ?_
      refine cx_13 E F (q) (by omega) ?_
      obtain ⟨v18, e19⟩ : ∃ v, yw u ro (Int.toNat (q)) = v := ⟨_, rfl⟩
      have g20 := yw_r E (Int.toNat (q))
      rw [e19] at g20
      rw [e19]
      show av_wp _ cd_22 41 [some (.inr (.inr (.inl (some (b))))), some (.inl k), some (.inl q), some (.inl v15), none] [.inl v18, .inl q, .inr (.inr (.inl (some (b))))] h _
      refine wq_cv (p' := 44) (av_qc (.invokevirtual 115) 6 2 0 0) 3 cd_6 [.inl v18, .inl q] (b) 0 [some (.inr (.inr (.inl (some (b))))), some (.inl q), some (.inl v18)] (ck_22 _ _ rfl) rfl rfl pp_6 rfl rfl rfl (congrArg Prod.fst (ib_k0 E.1)) rfl rfl rfl rfl ?_
      refine cx_6 E F (q) (by omega) (v18) (by omega) ?_
      rw [hof_c (a := a) rfl (by omega)]
      obtain ⟨v21, e22⟩ : ∃ v, hw a (Int.toNat (q)) v18 = v := ⟨_, rfl⟩
      have g23 := hw_r H (k := Int.toNat (q)) (by omega) v18
      rw [e22] at g23
      rw [e22]
      have hy : hw a (Int.toNat q) (yw u ro (Int.toNat q)) = v21 := by rw [e19]; exact e22
      show av_wp _ cd_22 44 [some (.inr (.inr (.inl (some (b))))), some (.inl k), some (.inl q), some (.inl v15), none] [.inl v21] h _
      refine av_wp_sqF ck_22 3 (pc' := 48) (lv' := [some (.inr (.inr (.inl (some (b))))), some (.inl k), some (.inl q), some (.inl v15), some (.inl v21)]) (st' := [.inl (-1), .inl v15]) (h' := h) rfl ?_
      refine wq_k2 (p' := 51) (ck_22 _ _ rfl) rfl ⟨by omega, by omega⟩ ⟨by omega, by omega⟩ (fun c24 => ?_) (fun c25 => ?_)
      · have c24 : v15 = (-1) := c24
        refine av_wp_sqF ck_22 1 (pc' := 68) (lv' := [some (.inr (.inr (.inl (some (b))))), some (.inl k), some (.inl q), some (.inl v15), some (.inl v21)]) (st' := [.inl (0)]) (h' := h) rfl ?_
        refine av_wp_ret (v := some (.inl (0))) (ck_22 _ _ rfl) rfl rfl ?_
        exact hq _ (Or.inr ⟨rfl, by omega⟩)
      · have c25 : v15 ≠ (-1) := c25
        refine av_wp_sqF ck_22 2 (pc' := 54) (lv' := [some (.inr (.inr (.inl (some (b))))), some (.inl k), some (.inl q), some (.inl v15), some (.inl v21)]) (st' := [.inl (-1), .inl v21]) (h' := h) rfl ?_
        refine wq_k2 (p' := 57) (ck_22 _ _ rfl) rfl ⟨by omega, by omega⟩ ⟨by omega, by omega⟩ (fun c26 => ?_) (fun c27 => ?_)
        · have c26 : v21 = (-1) := c26
          refine av_wp_sqF ck_22 1 (pc' := 68) (lv' := [some (.inr (.inr (.inl (some (b))))), some (.inl k), some (.inl q), some (.inl v15), some (.inl v21)]) (st' := [.inl (0)]) (h' := h) rfl ?_
          refine av_wp_ret (v := some (.inl (0))) (ck_22 _ _ rfl) rfl rfl ?_
          exact hq _ (Or.inr ⟨rfl, by omega⟩)
        · have c27 : v21 ≠ (-1) := c27
          refine av_wp_sqF ck_22 2 (pc' := 60) (lv' := [some (.inr (.inr (.inl (some (b))))), some (.inl k), some (.inl q), some (.inl v15), some (.inl v21)]) (st' := [.inl v21, .inl v15]) (h' := h) rfl ?_
          refine wq_k2 (p' := 63) (ck_22 _ _ rfl) rfl ⟨by omega, by omega⟩ ⟨by omega, by omega⟩ (fun c28 => ?_) (fun c29 => ?_)
          · have c28 : v21 ≤ v15 := c28
            refine av_wp_sqF ck_22 1 (pc' := 68) (lv' := [some (.inr (.inr (.inl (some (b))))), some (.inl k), some (.inl q), some (.inl v15), some (.inl v21)]) (st' := [.inl (0)]) (h' := h) rfl ?_
            refine av_wp_ret (v := some (.inl (0))) (ck_22 _ _ rfl) rfl rfl ?_
            exact hq _ (Or.inr ⟨rfl, by omega⟩)
          · have c29 : v15 < v21 := c29
            refine av_wp_sqF ck_22 2 (pc' := 68) (lv' := [some (.inr (.inr (.inl (some (b))))), some (.inl k), some (.inl q), some (.inl v15), some (.inl v21)]) (st' := [.inl (1)]) (h' := h) rfl ?_
            refine av_wp_ret (v := some (.inl (1))) (ck_22 _ _ rfl) rfl rfl ?_
            exact hq _ (Or.inl ⟨rfl, by omega⟩)
    · have c10 : v6 = (0) := c10
      refine av_wp_sqF ck_22 1 (pc' := 21) (lv' := [some (.inr (.inr (.inl (some (b))))), some (.inl k), some (.inl q), none, none]) (st' := [.inl (0)]) (h' := h) rfl ?_
      refine av_wp_ret (v := some (.inl (0))) (ck_22 _ _ rfl) rfl rfl ?_
      exact hq _ (Or.inr ⟨rfl, by omega⟩)
end
