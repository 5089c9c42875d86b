/-! HANG: the class's own book stays -/
theorem xq_29 {U : Nat → Nat → Int} {S : Nat → Nat} {n : Int} {sr nd : Nat → Int} {t c s r : Nat} {cb : Int} {u ro bar : Nat → Int} {a : Nat → Nat → Int} {x y z : Int} {t0 t1 t2 t3 t4 : Int} {g h : av_H} {sc : av_Sr} {cd : List (Nat × av_E)} {Q : Option av_V → av_H → Prop} {pc p' : Nat} {lv : av_L} {r' : List av_V} {i v : Int} (hx : cd.lookup pc = some (av_q (.bastore))) (hp : pc + 1 = p') (X : SQ U S n sr nd t c s r cb u ro bar a x y z t0 t1 t2 t3 t4 g h) (hi : 0 ≤ i ∧ i < 1024) (hv : v = 0 ∨ v = 1) (hw : ∀ h', SQ U S n sr nd t c s r cb u ro bar a x y z t0 t1 t2 t3 t4 g h' → av_wp sc cd p' lv r' h' Q) : av_wp sc cd pc lv (.inl v :: .inl i :: .inr (.inr (.inl (some 29))) :: r') h Q := by
  refine wq_zs (n := 1024) hx hp (ly_k X.1.1.1 29 rfl) (by omega) hv (hw _ ?_)
  obtain ⟨x1, x2, x3, x4, x5, x6⟩ := X
  have F : F1q 29 h (hwA h 29 i.toNat v) := F1q_w rfl
  have I : IC (hwA h 29 i.toNat v) := IC_wA x1.1 rfl (fun z => by cases z)
  exact ⟨CJ_q x1 F I (by decide) (by decide), EB_q x2 F I rfl (Or.inl rfl), x3, x4, Fr_tr x5 F.1.1, by rw [F.2.2 31 (by decide)]; exact x6⟩
set_option maxRecDepth 100000 in
set_option maxHeartbeats 4000000 in
theorem cx_58 {h : av_H} {g : av_H} {U : Nat → Nat → Int} {S : Nat → Nat} {n : Int} {sr nd : Nat → Int} {t c s r : Nat} {cb : Int} {u ro bar : Nat → Int} {a : Nat → Nat → Int} {mb mo ma : Int} {t0 t1 t2 t3 t4 : Int} (X : SQ U S n sr nd t c s r cb u ro bar a mb mo ma t0 t1 t2 t3 t4 g h) (G : SEA u ro bar s)  {Q : Option av_V → av_H → Prop} (hq : ∀ (v : Int) h' a' m1 m2 m3 s0 s1 s2 s3 s4, SQ U S n sr nd t c s r cb u ro bar a' m1 m2 m3 s0 s1 s2 s3 s4 g h' → Q (some (.inl v)) h') : av_wp none cd_58 0 [some (.inr (.inr (.inl (some (26))))), none, none, none, none, none, none] [] h Q := by
  have s12 := co_s12 (ib_co X.2.1.1)
  have cbr := co_cbr (ib_co X.2.1.1)
  have mbr := eb_xr X.2.1
  have mor := eb_yr X.2.1
  refine av_wp_seq 1 (pc' := 1) (lv' := [some (.inr (.inr (.inl (some (26))))), none, none, none, none, none, none]) (st' := [.inr (.inr (.inl (some (26))))]) (h' := h) rfl ?_
  refine wq_gr (p' := 4) rfl rfl (congrArg Prod.fst (ly_k X.1.1.1 26 rfl)) rfl (ly_g X.1.1.1 26 1 35 rfl) ?_
  refine wq_gr (p' := 7) rfl rfl (congrArg Prod.fst (bn_k0 X.1.1.1 (Or.inl rfl))) rfl (ib_t X.2.1.1) ?_
  refine av_wp_seq 3 (pc' := 10) (lv' := [some (.inr (.inr (.inl (some (26))))), some (.inr (.inr (.inl (some (t))))), some (.inl (0)), none, none, none, none]) (st' := []) (h' := h) rfl ?_
  have L15 : ∀ (m14 : Nat) (k1 : Int) (h2 : av_H) (a4 : Nat → Nat → Int) (m5 : Int) (m6 : Int) (m7 : Int) (t8 : Int) (t9 : Int) (t10 : Int) (t11 : Int) (t12 : Int), (0 ≤ k1 ∧ k1 ≤ 1024) → SQ U S n sr nd t c s r cb u ro bar a4 m5 m6 m7 t8 t9 t10 t11 t12 g h2 → True → (1024 - k1).toNat = m14 → av_wp none cd_58 10 [some (.inr (.inr (.inl (some (26))))), some (.inr (.inr (.inl (some (t))))), some (.inl k1), none, none, none, none] [] h2 Q := by
    intro m14
    induction m14 using Nat.strongRecOn with
    | _ m14 I16 =>
      intro k1 h2 a4 m5 m6 m7 t8 t9 t10 t11 t12 g18 X3 Y13 e17
      refine av_wp_seq 2 (pc' := 12) (lv' := [some (.inr (.inr (.inl (some (26))))), some (.inr (.inr (.inl (some (t))))), some (.inl k1), none, none, none, none]) (st' := [.inr (.inr (.inl (some (t)))), .inl k1]) (h' := h2) rfl ?_
      refine wq_gi (p' := 15) rfl rfl (congrArg Prod.fst (co_kt (ib_co X3.2.1.1))) rfl (co_cb (ib_co X3.2.1.1)) ?_
      refine wq_k2 (p' := 18) rfl rfl ⟨by omega, by omega⟩ ⟨by omega, by omega⟩ (fun c19 => ?_) (fun c20 => ?_)
      · have c19 : cb ≤ k1 := c19
        refine av_wp_seq 8 (pc' := 55) (lv' := [some (.inr (.inr (.inl (some (26))))), some (.inr (.inr (.inl (some (t))))), some (.inl (0)), some (.inl (1)), some (.inl (1)), some (.inl (0)), none]) (st' := []) (h' := h2) rfl ?_
        have L27 : ∀ (m26 : Nat) (k21 : Int) (k22 : Int) (k23 : Int) (k24 : Int) (a25 : Option av_V), av_lg a25 = false → k24 ≤ 4 * (s : Int) → (0 ≤ k24 ∧ k24 ≤ 48) → (48 - k24).toNat = m26 → av_wp none cd_58 55 [some (.inr (.inr (.inl (some (26))))), some (.inr (.inr (.inl (some (t))))), some (.inl k21), some (.inl k22), some (.inl k23), some (.inl k24), a25] [] h2 Q := by
          intro m26
          induction m26 using Nat.strongRecOn with
          | _ m26 I28 =>
            intro k21 k22 k23 k24 a25 g30 g31 g32 e29
            have la25 := g30
            refine av_wp_seq 2 (pc' := 58) (lv' := [some (.inr (.inr (.inl (some (26))))), some (.inr (.inr (.inl (some (t))))), some (.inl k21), some (.inl k22), some (.inl k23), some (.inl k24), a25]) (st' := [.inr (.inr (.inl (some (t)))), .inl k24]) (h' := h2) rfl ?_
            refine wq_gi (p' := 61) rfl rfl (congrArg Prod.fst (co_kt (ib_co X3.2.1.1))) rfl (co_s (ib_co X3.2.1.1)) ?_
            refine av_wp_seq 2 (pc' := 63) (lv' := [some (.inr (.inr (.inl (some (26))))), some (.inr (.inr (.inl (some (t))))), some (.inl k21), some (.inl k22), some (.inl k23), some (.inl k24), a25]) (st' := [.inl ((s : Int) * (4)), .inl k24]) (h' := h2) rfl ?_
            refine wq_k2 (p' := 66) rfl rfl ⟨by omega, by omega⟩ ⟨by omega, by omega⟩ (fun c33 => ?_) (fun c34 => ?_)
            · have c33 : ((s : Int) * (4)) ≤ k24 := c33
              refine av_wp_seq 1 (pc' := 125) (lv' := [some (.inr (.inr (.inl (some (26))))), some (.inr (.inr (.inl (some (t))))), some (.inl k21), some (.inl k22), some (.inl k23), some (.inl k24), a25]) (st' := [.inl k21]) (h' := h2) rfl ?_
              refine av_wp_ret (v := some (.inl k21)) rfl rfl rfl ?_
              exact hq _ h2 _ _ _ _ _ _ _ _ _ X3
            · have c34 : k24 < ((s : Int) * (4)) := c34
              refine av_wp_seq 3 (pc' := 70) (lv' := [some (.inr (.inr (.inl (some (26))))), some (.inr (.inr (.inl (some (t))))), some (.inl k21), some (.inl k22), some (.inl k23), some (.inl k24), a25]) (st' := [.inl (4), .inl k24, .inr (.inr (.inl (some (t))))]) (h' := h2) rfl ?_
              refine wq_dv (p' := 71) rfl rfl ⟨by omega, by omega⟩ (by omega) (fun v35 e36 => ?_)
              have e36 := e36 ⟨by omega, by omega⟩
              rw [Int.tdiv_eq_ediv_of_nonneg (by omega)] at e36
              refine av_wp_seq 3 (pc' := 76) (lv' := [some (.inr (.inr (.inl (some (26))))), some (.inr (.inr (.inl (some (t))))), some (.inl k21), some (.inl k22), some (.inl k23), some (.inl k24), a25]) (st' := [.inl (4), .inl k24, .inl (15), .inl v35, .inr (.inr (.inl (some (t))))]) (h' := h2) rfl ?_
              refine wq_rm (p' := 77) rfl rfl ⟨by omega, by omega⟩ (by omega) (fun v37 e38 => ?_)
              have e38 := e38 ⟨by omega, by omega⟩
              rw [Int.tmod_eq_emod_of_nonneg (by omega)] at e38
              refine av_wp_seq 1 (pc' := 78) (lv' := [some (.inr (.inr (.inl (some (26))))), some (.inr (.inr (.inl (some (t))))), some (.inl k21), some (.inl k22), some (.inl k23), some (.inl k24), a25]) (st' := [.inl ((15) + v37), .inl v35, .inr (.inr (.inl (some (t))))]) (h' := h2) rfl ?_
              refine wq_cv (p' := 81) (av_qc (.invokevirtual 119) 29 2 0 1) 3 cd_29 [.inl ((15) + v37), .inl v35] (t) 1 [some (.inr (.inr (.inl (some (t))))), some (.inl v35), some (.inl ((15) + v37))] rfl rfl rfl pp_29 rfl rfl rfl (congrArg Prod.fst (co_kt (ib_co X3.2.1.1))) rfl rfl rfl rfl ?_
              refine ct_29 (ib_co X3.2.1.1) (v35) (((15) + v37)) (by omega) (by omega) (fun v39 p40 => ?_)
              show av_wp _ cd_58 81 [some (.inr (.inr (.inl (some (26))))), some (.inr (.inr (.inl (some (t))))), some (.inl k21), some (.inl k22), some (.inl k23), some (.inl k24), a25] [.inl v39] h2 _
              refine av_wp_seq 2 (pc' := 85) (lv' := [some (.inr (.inr (.inl (some (26))))), some (.inr (.inr (.inl (some (t))))), some (.inl k21), some (.inl k22), some (.inl k23), some (.inl k24), some (.inl v39)]) (st' := [.inl v39]) (h' := h2) rfl ?_
              refine wq_k1 (p' := 88) rfl rfl ⟨by omega, by omega⟩ (fun c41 => ?_) (fun c42 => ?_)
              · have c41 : v39 ≤ (0) := c41
                refine av_wp_seq 2 (pc' := 55) (lv' := [some (.inr (.inr (.inl (some (26))))), some (.inr (.inr (.inl (some (t))))), some (.inl k21), some (.inl k22), some (.inl k23), some (.inl (k24 + (1))), some (.inl v39)]) (st' := []) (h' := h2) rfl ?_
                exact I28 _ (by omega) (k21) (k22) (k23) ((k24 + (1))) (some (.inl v39)) rfl (by omega) (by omega) rfl
              · have c42 : (0) < v39 := c42
                refine av_wp_seq 4 (pc' := 94) (lv' := [some (.inr (.inr (.inl (some (26))))), some (.inr (.inr (.inl (some (t))))), some (.inl k21), some (.inl k22), some (.inl k23), some (.inl k24), some (.inl v39)]) (st' := [.inl v39, .inl k23, .inr (.inr (.inl (some (26)))), .inl k21]) (h' := h2) rfl ?_
                refine wq_cv (p' := 97) (av_qc (.invokevirtual 143) 59 2 0 3) 4 cd_59 [.inl v39, .inl k23] (26) 3 [some (.inr (.inr (.inl (some (26))))), some (.inl k23), some (.inl v39), none] rfl rfl rfl pp_59 rfl rfl rfl (congrArg Prod.fst (ly_k X3.1.1.1 26 rfl)) rfl rfl rfl rfl ?_
                refine ct_59 X3.2.1.1 (k23) (v39) (by omega) (fun v43 p44 => ?_)
                show av_wp _ cd_58 97 [some (.inr (.inr (.inl (some (26))))), some (.inr (.inr (.inl (some (t))))), some (.inl k21), some (.inl k22), some (.inl k23), some (.inl k24), some (.inl v39)] [.inl v43, .inl k21] h2 _
                refine wq_k1 (p' := 100) rfl rfl ⟨by omega, by omega⟩ (fun c45 => ?_) (fun c46 => ?_)
                · have c45 : v43 = (0) := c45
                  refine av_wp_seq 12 (pc' := 121) (lv' := [some (.inr (.inr (.inl (some (26))))), some (.inr (.inr (.inl (some (t))))), some (.inl (av_or k21 (0))), some (.inl (av_shl k22 (1))), some (.inl (k23 * v39)), some (.inl (k24 + (1))), some (.inl v39)]) (st' := []) (h' := h2) rfl ?_
                  refine av_wp_seq 1 (pc' := 55) (lv' := [some (.inr (.inr (.inl (some (26))))), some (.inr (.inr (.inl (some (t))))), some (.inl (av_or k21 (0))), some (.inl (av_shl k22 (1))), some (.inl (k23 * v39)), some (.inl (k24 + (1))), some (.inl v39)]) (st' := []) (h' := h2) rfl ?_
                  exact I28 _ (by omega) ((av_or k21 (0))) ((av_shl k22 (1))) ((k23 * v39)) ((k24 + (1))) (some (.inl v39)) rfl (by omega) (by omega) rfl
                · have c46 : v43 ≠ (0) := c46
                  refine av_wp_seq 12 (pc' := 118) (lv' := [some (.inr (.inr (.inl (some (26))))), some (.inr (.inr (.inl (some (t))))), some (.inl (av_or k21 k22)), some (.inl (av_shl k22 (1))), some (.inl (k23 * v39)), some (.inl k24), some (.inl v39)]) (st' := []) (h' := h2) rfl ?_
                  refine av_wp_seq 2 (pc' := 55) (lv' := [some (.inr (.inr (.inl (some (26))))), some (.inr (.inr (.inl (some (t))))), some (.inl (av_or k21 k22)), some (.inl (av_shl k22 (1))), some (.inl (k23 * v39)), some (.inl (k24 + (1))), some (.inl v39)]) (st' := []) (h' := h2) rfl ?_
                  exact I28 _ (by omega) ((av_or k21 k22)) ((av_shl k22 (1))) ((k23 * v39)) ((k24 + (1))) (some (.inl v39)) rfl (by omega) (by omega) rfl
        exact L27 _ ((0)) ((1)) ((1)) ((0)) (none) rfl (by omega) (by omega) rfl
      · have c20 : k1 < cb := c20
        refine av_wp_seq 2 (pc' := 22) (lv' := [some (.inr (.inr (.inl (some (26))))), some (.inr (.inr (.inl (some (t))))), some (.inl k1), none, none, none, none]) (st' := [.inl (1024), .inl k1]) (h' := h2) rfl ?_
        refine wq_k2 (p' := 25) rfl rfl ⟨by omega, by omega⟩ ⟨by omega, by omega⟩ (fun c47 => ?_) (fun c48 => ?_)
        · have c47 : (1024) ≤ k1 := c47
          exfalso; omega
        · have c48 : k1 < (1024) := c48
          refine av_wp_seq 1 (pc' := 26) (lv' := [some (.inr (.inr (.inl (some (26))))), some (.inr (.inr (.inl (some (t))))), some (.inl k1), none, none, none, none]) (st' := [.inr (.inr (.inl (some (26))))]) (h' := h2) rfl ?_
          refine wq_gr (p' := 29) rfl rfl (congrArg Prod.fst (ly_k X3.1.1.1 26 rfl)) rfl (ly_g X3.1.1.1 26 6 29 rfl) ?_
          refine av_wp_seq 2 (pc' := 31) (lv' := [some (.inr (.inr (.inl (some (26))))), some (.inr (.inr (.inl (some (t))))), some (.inl k1), none, none, none, none]) (st' := [.inr (.inr (.inl (some (26)))), .inl k1, .inr (.inr (.inl (some (29))))]) (h' := h2) rfl ?_
          refine wq_gr (p' := 34) rfl rfl (congrArg Prod.fst (ly_k X3.1.1.1 26 rfl)) rfl (ly_g X3.1.1.1 26 1 35 rfl) ?_
          refine av_wp_seq 1 (pc' := 35) (lv' := [some (.inr (.inr (.inl (some (26))))), some (.inr (.inr (.inl (some (t))))), some (.inl k1), none, none, none, none]) (st' := [.inl k1, .inr (.inr (.inl (some (35)))), .inl k1, .inr (.inr (.inl (some (29))))]) (h' := h2) rfl ?_
          refine wq_cv (p' := 38) (av_qc (.invokevirtual 89) 2 1 0 0) 2 cd_2 [.inl k1] (35) 0 [some (.inr (.inr (.inl (some (35))))), some (.inl k1)] rfl rfl rfl pp_2 rfl rfl rfl (congrArg Prod.fst (bn_k0 X3.1.1.1 (Or.inl rfl))) rfl rfl rfl rfl ?_
          refine cy_2 X3.2.1 (FN_rf 35 h2) G X3.2.2.1 X3.2.2.2.1 (k1) (by omega) (fun v49 h50 a51 m52 m53 m54 E55 F56 Z57 T58 D59 B60 R61 p62 => ?_)
          have X63 := SQ_2 X3 E55 F56 Z57 T58
          have g64 : (-1 ≤ m52 ∧ m52 ≤ 11) ∧ (-1 ≤ m53 ∧ m53 ≤ 11) ∧ (-1 ≤ m54 ∧ m54 ≤ 9999) := R61
          show av_wp _ cd_58 38 [some (.inr (.inr (.inl (some (26))))), some (.inr (.inr (.inl (some (t))))), some (.inl k1), none, none, none, none] [.inl v49, .inl k1, .inr (.inr (.inl (some (29))))] h50 _
          refine xq_29 (p' := 39) rfl rfl X63 (by omega) (by omega) (fun h65 X66 => ?_)
          refine av_wp_seq 2 (pc' := 10) (lv' := [some (.inr (.inr (.inl (some (26))))), some (.inr (.inr (.inl (some (t))))), some (.inl (k1 + (1))), none, none, none, none]) (st' := []) (h' := h65) rfl ?_
          exact I16 _ (by omega) ((k1 + (1))) h65 a51 (m52) (m53) (m54) (t8) (t9) (t10) (t11) (t12) (by omega) X66 trivial rfl
  exact L15 _ ((0)) h a (mb) (mo) (ma) (t0) (t1) (t2) (t3) (t4) (by omega) X trivial rfl

set_option maxRecDepth 100000 in
set_option maxHeartbeats 4000000 in
theorem cx_110 {h : av_H} {U : Nat → Nat → Int} {S : Nat → Nat} {n : Int} {sr nd : Nat → Int} (C : CJ U S n sr nd h) (k : Int) (qk : -2147483648 ≤ k ∧ k ≤ 2147483647) (l : Int) (ql : -2147483648 ≤ l ∧ l ≤ 2147483647) (CR : CRT U S n (hF h 3 4) (fun k => hA h (6 + k))) (SU : SUA U S n (hF h 3 4) (fun k => hA h (6 + k)) sr) {Q : Option av_V → av_H → Prop} (hq : ∀ (v : Int) h' sr' nd', CJ U S n sr' nd' h' → Fr h h' → SUA U S n (hF h 3 4) (fun k => hA h (6 + k)) sr' → Q (some (.inl v)) h') : av_wp none cd_110 0 [some (.inr (.inr (.inl (some (0))))), some (.inl k), some (.inl l)] [] h Q := by
  have F := Fr_rf h
  have nr := C.2.1.2.1
  refine av_wp_seq 1 (pc' := 1) (lv' := [some (.inr (.inr (.inl (some (0))))), some (.inl k), some (.inl l)]) (st' := [.inr (.inr (.inl (some (0))))]) (h' := h) rfl ?_
  refine wq_gr (p' := 4) rfl rfl (congrArg Prod.fst (ly_k C.1.1 0 rfl)) rfl (ly_g C.1.1 0 5 26 rfl) ?_
  refine av_wp_seq 2 (pc' := 6) (lv' := [some (.inr (.inr (.inl (some (0))))), some (.inl k), some (.inl l)]) (st' := [.inl l, .inl k, .inr (.inr (.inl (some (26))))]) (h' := h) rfl ?_
  refine wq_cv (p' := 9) (av_qc (.invokevirtual 203) 49 2 0 3) 3 cd_49 [.inl l, .inl k] (26) 3 [some (.inr (.inr (.inl (some (26))))), some (.inl k), some (.inl l)] rfl rfl rfl pp_49 rfl rfl rfl (congrArg Prod.fst (ly_k C.1.1 26 rfl)) rfl rfl rfl rfl ?_
  refine cx_49 C (k) (by omega) (l) (by omega) CR SU (fun z1 => ?_) (fun z1 z2 z3 h4 r5 n6 t7 c8 a9 C10 F11 U12 E13 Z14 T15 => ?_)
  · show av_wp _ cd_110 9 [some (.inr (.inr (.inl (some (0))))), some (.inl k), some (.inl l)] [.inl (0)] h _
    refine av_wp_seq 2 (pc' := 32) (lv' := [some (.inr (.inr (.inl (some (0))))), some (.inl k), some (.inl l)]) (st' := [.inl (-2)]) (h' := h) rfl ?_
    refine av_wp_ret (v := some (.inl (-2))) rfl rfl rfl ?_
    exact hq _ h _ _ C F SU
  · have X16 : SQ U S n r5 n6 t7 c8 (S (Int.toNat k)) (6 + Int.toNat l) (cbv (U (Int.toNat k)) (S (Int.toNat k))) (U (Int.toNat k)) (hA h (6 + Int.toNat l)) (bxx U S (hA h (6 + Int.toNat l)) (Int.toNat k)) a9 (hF h4 35 13) (hF h4 35 14) (hF h4 35 15) (hA h4 31 0) (hA h4 31 1) (hA h4 31 2) (hA h4 31 3) (hA h4 31 4) h h4 := ⟨C10, E13, T15, Z14, F11.1, rfl, rfl, rfl, rfl, rfl⟩
    have G17 := CWF_sea (ro := (hA h (6 + Int.toNat l))) (CR.1 (Int.toNat k) (by omega)) (rl_8 (CR.2.2.2 l (by omega) (by omega))).1 (brv_b (U (Int.toNat k)) (srt U S (hA h (6 + Int.toNat l)) (Int.toNat k)))
    have H18 : ∀ x : Int, 0 ≤ x → x ≤ 1023 → (bgn (U (Int.toNat k)) (hA h (6 + Int.toNat l)) (bxx U S (hA h (6 + Int.toNat l)) (Int.toNat k)) (S (Int.toNat k)) x).2.2 = 9999 ∨ (0 ≤ (bgn (U (Int.toNat k)) (hA h (6 + Int.toNat l)) (bxx U S (hA h (6 + Int.toNat l)) (Int.toNat k)) (S (Int.toNat k)) x).2.2 ∧ (bgn (U (Int.toNat k)) (hA h (6 + Int.toNat l)) (bxx U S (hA h (6 + Int.toNat l)) (Int.toNat k)) (S (Int.toNat k)) x).2.2 < 9999) := fun x h0 h1 => bgn_0 (HBd_g (x := x) (CR.1 (Int.toNat k) (by omega)).2.2.2.2.2 (fun q hq i hi => arr_0 (by have := (CR.1 (Int.toNat k) (by omega)).2.1.2; omega)) ⟨h0, h1⟩)
    have q19 := cbv_d (U (Int.toNat k)) (S (Int.toNat k))
    have q19a := CR.2.2.1 (Int.toNat k) (by omega)
    show av_wp _ cd_110 9 [some (.inr (.inr (.inl (some (0))))), some (.inl k), some (.inl l)] [.inl (1)] h4 _
    refine av_wp_seq 2 (pc' := 13) (lv' := [some (.inr (.inr (.inl (some (0))))), some (.inl k), some (.inl l)]) (st' := [.inr (.inr (.inl (some (0))))]) (h' := h4) rfl ?_
    refine wq_gr (p' := 16) rfl rfl (congrArg Prod.fst (ly_k C10.1.1 0 rfl)) rfl (ly_g C10.1.1 0 5 26 rfl) ?_
    refine wq_gr (p' := 19) rfl rfl (congrArg Prod.fst (ly_k C10.1.1 26 rfl)) rfl (ly_g C10.1.1 26 1 35 rfl) ?_
    refine wq_gr (p' := 22) rfl rfl (congrArg Prod.fst (bn_k0 C10.1.1 (Or.inl rfl))) rfl (ib_t X16.2.1.1) ?_
    obtain ⟨v20, e21⟩ : ∃ v, hF h4 t7 2 = v := ⟨_, rfl⟩
    refine wq_gi (p' := 25) rfl rfl (congrArg Prod.fst (co_kt (ib_co X16.2.1.1))) rfl (e21) ?_
    refine av_wp_seq 1 (pc' := 27) (lv' := [some (.inr (.inr (.inl (some (0))))), some (.inl k), some (.inl l)]) (st' := [.inl (12), .inl v20]) (h' := h4) rfl ?_
    refine wq_c2 (p' := 30) rfl rfl ?_ ?_
    · refine av_wp_seq 1 (pc' := 34) (lv' := [some (.inr (.inr (.inl (some (0))))), some (.inl k), some (.inl l)]) (st' := [.inr (.inr (.inl (some (0))))]) (h' := h4) rfl ?_
      refine wq_gr (p' := 37) rfl rfl (congrArg Prod.fst (ly_k C10.1.1 0 rfl)) rfl (ly_g C10.1.1 0 5 26 rfl) ?_
      refine wq_cv (p' := 40) (av_qc (.invokevirtual 216) 58 0 0 3) 7 cd_58 [] (26) 3 [some (.inr (.inr (.inl (some (26))))), none, none, none, none, none, none] rfl rfl rfl pp_58 rfl rfl rfl (congrArg Prod.fst (ly_k C10.1.1 26 rfl)) rfl rfl rfl rfl ?_
      refine cx_58 X16 G17 (fun v22 h23 a24 m25 m26 m27 t28 t29 t30 t31 t32 X33 => ?_)
      show av_wp _ cd_110 40 [some (.inr (.inr (.inl (some (0))))), some (.inl k), some (.inl l)] [.inl v22] h23 _
      refine av_wp_ret (v := some (.inl v22)) rfl rfl rfl ?_
      exact hq _ h23 _ _ X33.1 X33.2.2.2.2.1 U12
    · refine av_wp_seq 1 (pc' := 32) (lv' := [some (.inr (.inr (.inl (some (0))))), some (.inl k), some (.inl l)]) (st' := [.inl (-2)]) (h' := h4) rfl ?_
      refine av_wp_ret (v := some (.inl (-2))) rfl rfl rfl ?_
      exact hq _ h4 _ _ X16.1 X16.2.2.2.2.1 U12

