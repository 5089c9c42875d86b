/-! SMALL LOOKS KEEP THE CLASS'S OWN BOOK -/
set_option maxRecDepth 100000 in
set_option maxHeartbeats 4000000 in
theorem cy_103 {h : av_H} (I : IC h) (n : Int) (qn : -2147483648 ≤ n ∧ n ≤ 2147483647) (w : Int) (qw : -2147483648 ≤ w ∧ w ≤ 2147483647) {Q : Option av_V → av_H → Prop} (hq : ∀ v : Int, Q (some (.inl v)) h) : av_wp none cd_103 0 [some (.inr (.inr (.inl (some (0))))), some (.inl n), some (.inl w), none] [] h Q := by
  have F := Fr_rf h
  refine av_wp_seq 1 (pc' := 1) (lv' := [some (.inr (.inr (.inl (some (0))))), some (.inl n), some (.inl w), none]) (st' := [.inr (.inr (.inl (some (0))))]) (h' := h) rfl ?_
  refine wq_gr (p' := 4) rfl rfl (congrArg Prod.fst (ly_k I.1 0 rfl)) rfl (ly_g I.1 0 1 3 rfl) ?_
  refine av_wp_seq 1 (pc' := 5) (lv' := [some (.inr (.inr (.inl (some (0))))), some (.inl n), some (.inl w), none]) (st' := [.inl n, .inr (.inr (.inl (some (3))))]) (h' := h) rfl ?_
  refine wq_cv (p' := 8) (av_qc (.invokevirtual 96) 69 1 0 5) 2 cd_69 [.inl n] (3) 5 [some (.inr (.inr (.inl (some (3))))), some (.inl n)] rfl rfl rfl pp_69 rfl rfl rfl (congrArg Prod.fst (ly_k I.1 3 rfl)) rfl rfl rfl rfl ?_
  refine ct_69 I (n) (by omega) ?_ (fun t1 c2 s3 d4 o5 z6 z7 => ?_)
  · show av_wp _ cd_103 8 [some (.inr (.inr (.inl (some (0))))), some (.inl n), some (.inl w), none] [.inr (.inr (.inl none))] h _
    refine av_wp_seq 4 (pc' := 15) (lv' := [some (.inr (.inr (.inl (some (0))))), some (.inl n), some (.inl w), some (.inr (.inr (.inl none)))]) (st' := [.inl (-2)]) (h' := h) rfl ?_
    refine av_wp_ret (v := some (.inl (-2))) rfl rfl rfl ?_
    exact hq _
  · have g8 := co_s12 o5
    have g9 := co_cbr o5
    show av_wp _ cd_103 8 [some (.inr (.inr (.inl (some (0))))), some (.inl n), some (.inl w), none] [.inr (.inr (.inl (some (t1))))] h _
    refine av_wp_seq 4 (pc' := 17) (lv' := [some (.inr (.inr (.inl (some (0))))), some (.inl n), some (.inl w), some (.inr (.inr (.inl (some (t1)))))]) (st' := [.inl w]) (h' := h) rfl ?_
    rcases (show w = 0 ∨ w = 1 ∨ w = 2 ∨ (w < 0 ∨ 2 < w) by omega) with e10 | e10 | e10 | e10
    · refine wq_tc (t := 44) rfl e10 rfl ?_
      refine av_wp_seq 1 (pc' := 45) (lv' := [some (.inr (.inr (.inl (some (0))))), some (.inl n), some (.inl w), some (.inr (.inr (.inl (some (t1)))))]) (st' := [.inr (.inr (.inl (some (t1))))]) (h' := h) rfl ?_
      refine wq_gi (p' := 48) rfl rfl (congrArg Prod.fst (co_kt o5)) rfl (co_s o5) ?_
      refine av_wp_ret (v := some (.inl (s3 : Int))) rfl rfl rfl ?_
      exact hq _
    · refine wq_tc (t := 49) rfl e10 rfl ?_
      refine av_wp_seq 1 (pc' := 50) (lv' := [some (.inr (.inr (.inl (some (0))))), some (.inl n), some (.inl w), some (.inr (.inr (.inl (some (t1)))))]) (st' := [.inr (.inr (.inl (some (t1))))]) (h' := h) rfl ?_
      obtain ⟨v11, e12⟩ : ∃ v, hF h t1 2 = v := ⟨_, rfl⟩
      refine wq_gi (p' := 53) rfl rfl (congrArg Prod.fst (co_kt o5)) rfl (e12) ?_
      refine av_wp_ret (v := some (.inl v11)) rfl rfl rfl ?_
      exact hq _
    · refine wq_tc (t := 54) rfl e10 rfl ?_
      refine av_wp_seq 1 (pc' := 55) (lv' := [some (.inr (.inr (.inl (some (0))))), some (.inl n), some (.inl w), some (.inr (.inr (.inl (some (t1)))))]) (st' := [.inr (.inr (.inl (some (t1))))]) (h' := h) rfl ?_
      refine wq_gi (p' := 58) rfl rfl (congrArg Prod.fst (co_kt o5)) rfl (co_cb o5) ?_
      refine av_wp_ret (v := some (.inl d4)) rfl rfl rfl ?_
      exact hq _
    · refine wq_td (t := 59) rfl ⟨by omega, by omega⟩ e10 rfl ?_
      refine av_wp_seq 1 (pc' := 61) (lv' := [some (.inr (.inr (.inl (some (0))))), some (.inl n), some (.inl w), some (.inr (.inr (.inl (some (t1)))))]) (st' := [.inl (-2)]) (h' := h) rfl ?_
      refine av_wp_ret (v := some (.inl (-2))) rfl rfl rfl ?_
      exact hq _
theorem os_100 {h : av_H} (B : BK h) (C : CLS h)  : av_wp none cd_100 0 [some (.inr (.inr (.inl (some (0)))))] [] h (fun _ h1 => av_wp none cd_158 0 [some (.inr (.inr (.inl (some (77)))))] [] h1 (fun _ h2 => CLS h2)) := by
  refine gd_of (fun hg => ?_)
  obtain ⟨n, a, m, M⟩ := B.2.2.1
  have z := ct_158 M (FM_rf h)  (Q := fun _ h2 => CLS h2) (fun w n' a' m' h2 M2 F2 => CLS_FM hg F2 C)
  exact cx_100 B.1 z
theorem os_101 {h : av_H} (B : BK h) (C : CLS h) (x1 x2 x3 : Int) (q1 : -2147483648 ≤ x1 ∧ x1 ≤ 2147483647) (q2 : -2147483648 ≤ x2 ∧ x2 ≤ 2147483647) (q3 : -2147483648 ≤ x3 ∧ x3 ≤ 2147483647) : av_wp none cd_101 0 [some (.inr (.inr (.inl (some (0))))), some (.inl x1), some (.inl x2), some (.inl x3), none, none] [] h (fun _ h1 => av_wp none cd_161 0 [some (.inr (.inr (.inl (some (77))))), some (.inl x1), some (.inl x2), some (.inl x3), none] [] h1 (fun _ h2 => CLS h2)) := by
  refine gd_of (fun hg => ?_)
  obtain ⟨n, a, m, M⟩ := B.2.2.1
  have z := ct_161 M (FM_rf h) x1 q1 x2 q2 x3 q3 (Q := fun _ h2 => CLS h2) (fun w n' a' m' h2 M2 F2 => CLS_FM hg F2 C)
  exact cx_101 B.1 B.2.2.2.2.1 x1 q1 x2 q2 x3 q3 (fun _ => z) (fun _ _ _ _ _ _ _ _ _ _ _ _ _ => z)
theorem os_105 {h : av_H} (B : BK h) (C : CLS h) (x1 x2 : Int) (q1 : -2147483648 ≤ x1 ∧ x1 ≤ 2147483647) (q2 : -2147483648 ≤ x2 ∧ x2 ≤ 2147483647) : av_wp none cd_105 0 [some (.inr (.inr (.inl (some (0))))), some (.inl x1), some (.inl x2)] [] h (fun _ h1 => av_wp none cd_160 0 [some (.inr (.inr (.inl (some (77))))), some (.inl x1), some (.inl x2)] [] h1 (fun _ h2 => CLS h2)) := by
  refine gd_of (fun hg => ?_)
  obtain ⟨n, a, m, M⟩ := B.2.2.1
  have z := ct_160 M (FM_rf h) x1 q1 x2 q2 (Q := fun _ h2 => CLS h2) (fun w n' a' m' h2 M2 F2 => CLS_FM hg F2 C)
  exact cx_105 B.1 x1 q1 x2 q2 (fun _ => z) (fun _ _ _ _ _ _ => z)
theorem os_125 {h : av_H} (B : BK h) (C : CLS h) (x1 : Int) (q1 : -2147483648 ≤ x1 ∧ x1 ≤ 2147483647) : av_wp none cd_125 0 [some (.inr (.inr (.inl (some (0))))), some (.inl x1)] [] h (fun _ h1 => av_wp none cd_217 0 [some (.inr (.inr (.inl (some (77))))), some (.inl x1)] [] h1 (fun _ h2 => CLS h2)) := by
  refine gd_of (fun hg => ?_)
  obtain ⟨n, a, m, M⟩ := B.2.2.1
  have z := ct_217 M (FM_rf h) x1 q1 (Q := fun _ h2 => CLS h2) (fun w n' a' m' h2 M2 F2 => CLS_FM hg F2 C)
  exact cx_125 B.1 B.2.2.2.2.1 x1 q1 (fun _ _ => z)
theorem os_103 {h : av_H} (B : BK h) (C : CLS h) (x1 x2 : Int) (q1 : -2147483648 ≤ x1 ∧ x1 ≤ 2147483647) (q2 : -2147483648 ≤ x2 ∧ x2 ≤ 2147483647) : av_wp none cd_103 0 [some (.inr (.inr (.inl (some (0))))), some (.inl x1), some (.inl x2), none] [] h (fun _ h1 => av_wp none cd_187 0 [some (.inr (.inr (.inl (some (77))))), some (.inl x1), some (.inl x2)] [] h1 (fun _ h2 => CLS h2)) := by
  refine gd_of (fun hg => ?_)
  obtain ⟨n, a, m, M⟩ := B.2.2.1
  have z := ct_187 M (FM_rf h) x1 q1 x2 q2 (Q := fun _ h2 => CLS h2) (fun w n' a' m' h2 M2 F2 => CLS_FM hg F2 C)
  exact cy_103 B.1 x1 q1 x2 q2 (fun _ => z)
theorem os_104 {h : av_H} (B : BK h) (C : CLS h) (x1 x2 x3 x4 : Int) (q1 : -2147483648 ≤ x1 ∧ x1 ≤ 2147483647) (q2 : -2147483648 ≤ x2 ∧ x2 ≤ 2147483647) (q3 : -2147483648 ≤ x3 ∧ x3 ≤ 2147483647) (q4 : -2147483648 ≤ x4 ∧ x4 ≤ 2147483647) : av_wp none cd_104 0 [some (.inr (.inr (.inl (some (0))))), some (.inl x1), some (.inl x2), some (.inl x3), some (.inl x4), none] [] h (fun _ h1 => av_wp none cd_189 0 [some (.inr (.inr (.inl (some (77))))), some (.inl x1), some (.inl x2), some (.inl x3), some (.inl x4)] [] h1 (fun _ h2 => CLS h2)) := by
  refine gd_of (fun hg => ?_)
  obtain ⟨n, a, m, M⟩ := B.2.2.1
  have z := ct_189 M (FM_rf h) x1 q1 x2 q2 x3 q3 x4 q4 (Q := fun _ h2 => CLS h2) (fun w n' a' m' h2 M2 F2 => CLS_FM hg F2 C)
  refine cx_104 B.1 B.2.2.2.2.1 x1 q1 x2 q2 x3 q3 x4 q4 (fun _ => z) (fun _ _ _ _ _ _ _ _ _ _ _ => z) (fun _ _ _ _ _ _ _ _ _ _ _ _ _ h1 I1 Y1 => gd_of (fun hg1 => ?_))
  have B1 := BK_Fr hg B Y1.1.1 I1
  have C1 : CLS h1 := CLS_cf hg (CF0_Fr hg B.1.1 Y1.1.1) (Y1.2.1 27 (fun j hj => by omega)) C
  obtain ⟨n1, a1, m1, M1⟩ := B1.2.2.1
  exact ct_189 M1 (FM_rf h1) x1 q1 x2 q2 x3 q3 x4 q4 (fun w n' a' m' h2 M2 F2 => CLS_FM hg1 F2 C1)
theorem oz_feed {h : av_H} (B : BX h) (a b c d e : Int)  : av_wp none cd_94 0 [some (.inr (.inr (.inl (some (0))))), some (.inl a), some (.inl b), some (.inl c), some (.inl d), some (.inl e)] [] h (OPX cd_128 [some (.inr (.inr (.inl (some (77))))), some (.inl a), some (.inl b), some (.inl c), some (.inl d), some (.inl e), none, none] h (fun x y => x = y)) := OPX_of (op_feed B.1 a b c d e) (os_feed B.1 B.2 a b c d e)
theorem oz_tell {h : av_H} (B : BX h) (n : Int) (qn : -2147483648 ≤ n ∧ n ≤ 2147483647) : av_wp none cd_95 0 [some (.inr (.inr (.inl (some (0))))), some (.inl n), none] [] h (OPX cd_148 [some (.inr (.inr (.inl (some (77))))), some (.inl n), none] h (fun x y => x = y)) := OPX_of (op_tell B.1 n qn) (os_tell B.1 B.2 n qn)
theorem oz_more {h : av_H} (B : BX h) (k n : Int) (qk : -2147483648 ≤ k ∧ k ≤ 2147483647) (qn : -2147483648 ≤ n ∧ n ≤ 2147483647) : av_wp none cd_96 0 [some (.inr (.inr (.inl (some (0))))), some (.inl k), some (.inl n), none, none] [] h (OPX cd_151 [some (.inr (.inr (.inl (some (77))))), some (.inl k), some (.inl n), none] h (fun x y => x = y)) := OPX_of (op_more B.1 k n qk qn) (os_more B.1 B.2 k n qk qn)
theorem oz_law {h : av_H} (B : BX h) (n : Int) (qn : -2147483648 ≤ n ∧ n ≤ 2147483647) : av_wp none cd_97 0 [some (.inr (.inr (.inl (some (0))))), some (.inl n), none] [] h (OPX cd_156 [some (.inr (.inr (.inl (some (77))))), some (.inl n)] h (fun x y => x = y)) := OPX_of (op_law B.1 n qn) (os_law B.1 B.2 n qn)
theorem oz_clause {h : av_H} (B : BX h) (n : Int) (qn : -2147483648 ≤ n ∧ n ≤ 2147483647) : av_wp none cd_98 0 [some (.inr (.inr (.inl (some (0))))), some (.inl n), none] [] h (OPX cd_157 [some (.inr (.inr (.inl (some (77))))), some (.inl n)] h (fun x y => x = y)) := OPX_of (op_clause B.1 n qn) (os_clause B.1 B.2 n qn)
theorem oz_image {h : av_H} (B : BX h)  : av_wp none cd_123 0 [some (.inr (.inr (.inl (some (0))))), none] [] h (OPX cd_214 [some (.inr (.inr (.inl (some (77)))))] h (fun x y => x = y)) := OPX_of (op_image B.1  ) (os_image B.1 B.2  )
theorem oz_back {h : av_H} (B : BX h) (k : Int) (qk : -2147483648 ≤ k ∧ k ≤ 2147483647) : av_wp none cd_124 0 [some (.inr (.inr (.inl (some (0))))), some (.inl k)] [] h (OPX cd_215 [some (.inr (.inr (.inl (some (77))))), some (.inl k)] h (fun x y => x = y)) := OPX_of (op_back B.1 k qk) (os_back B.1 B.2 k qk)
theorem oz_100 {h : av_H} (B : BX h)  : av_wp none cd_100 0 [some (.inr (.inr (.inl (some (0)))))] [] h (OPX cd_158 [some (.inr (.inr (.inl (some (77)))))] h (fun x y => x = y)) := OPX_of (ox_100 B.1  ) (os_100 B.1 B.2  )
theorem oz_101 {h : av_H} (B : BX h) (x1 x2 x3 : Int) (q1 : -2147483648 ≤ x1 ∧ x1 ≤ 2147483647) (q2 : -2147483648 ≤ x2 ∧ x2 ≤ 2147483647) (q3 : -2147483648 ≤ x3 ∧ x3 ≤ 2147483647) : av_wp none cd_101 0 [some (.inr (.inr (.inl (some (0))))), some (.inl x1), some (.inl x2), some (.inl x3), none, none] [] h (OPX cd_161 [some (.inr (.inr (.inl (some (77))))), some (.inl x1), some (.inl x2), some (.inl x3), none] h (fun x y => x = y)) := OPX_of (ox_101 B.1 x1 x2 x3 q1 q2 q3) (os_101 B.1 B.2 x1 x2 x3 q1 q2 q3)
theorem oz_105 {h : av_H} (B : BX h) (x1 x2 : Int) (q1 : -2147483648 ≤ x1 ∧ x1 ≤ 2147483647) (q2 : -2147483648 ≤ x2 ∧ x2 ≤ 2147483647) : av_wp none cd_105 0 [some (.inr (.inr (.inl (some (0))))), some (.inl x1), some (.inl x2)] [] h (OPX cd_160 [some (.inr (.inr (.inl (some (77))))), some (.inl x1), some (.inl x2)] h (fun x y => x = y)) := OPX_of (ox_105 B.1 x1 x2 q1 q2) (os_105 B.1 B.2 x1 x2 q1 q2)
theorem oz_125 {h : av_H} (B : BX h) (x1 : Int) (q1 : -2147483648 ≤ x1 ∧ x1 ≤ 2147483647) : av_wp none cd_125 0 [some (.inr (.inr (.inl (some (0))))), some (.inl x1)] [] h (OPX cd_217 [some (.inr (.inr (.inl (some (77))))), some (.inl x1)] h (fun x y => x = y)) := OPX_of (ox_125 B.1 x1 q1) (os_125 B.1 B.2 x1 q1)
theorem oz_103 {h : av_H} (B : BX h) (x1 x2 : Int) (q1 : -2147483648 ≤ x1 ∧ x1 ≤ 2147483647) (q2 : -2147483648 ≤ x2 ∧ x2 ≤ 2147483647) : av_wp none cd_103 0 [some (.inr (.inr (.inl (some (0))))), some (.inl x1), some (.inl x2), none] [] h (OPX cd_187 [some (.inr (.inr (.inl (some (77))))), some (.inl x1), some (.inl x2)] h (fun _ _ => True)) := OPX_of (op_103 B.1 x1 x2 q1 q2) (os_103 B.1 B.2 x1 x2 q1 q2)
theorem oz_104 {h : av_H} (B : BX h) (x1 x2 x3 x4 : Int) (q1 : -2147483648 ≤ x1 ∧ x1 ≤ 2147483647) (q2 : -2147483648 ≤ x2 ∧ x2 ≤ 2147483647) (q3 : -2147483648 ≤ x3 ∧ x3 ≤ 2147483647) (q4 : -2147483648 ≤ x4 ∧ x4 ≤ 2147483647) : av_wp none cd_104 0 [some (.inr (.inr (.inl (some (0))))), some (.inl x1), some (.inl x2), some (.inl x3), some (.inl x4), none] [] h (OPX cd_189 [some (.inr (.inr (.inl (some (77))))), some (.inl x1), some (.inl x2), some (.inl x3), some (.inl x4)] h (fun x y => x = y)) := OPX_of (ox_104 B.1 x1 x2 x3 x4 q1 q2 q3 q4) (os_104 B.1 B.2 x1 x2 x3 x4 q1 q2 q3 q4)
