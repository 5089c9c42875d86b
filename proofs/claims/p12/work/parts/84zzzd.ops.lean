/-! LOOKS: the others -/
theorem RSP_i {ok ok' : Prop} {d e v : Int} (i : ok ↔ ok') (x : RSP ok d e v) : RSP ok' d e v := x.elim (fun z => Or.inl ⟨i.mp z.1, z.2⟩) (fun z => Or.inr ⟨fun y => z.1 (i.mpr y), z.2⟩)
theorem CWB_al {h : av_H} {U : Nat → Nat → Int} {S : Nat → Nat} (I : IC h) (x : CLU U S h) : ∀ i : Nat, (i : Int) < hF h 3 3 → CWB (U i) (S i) := fun i hi => by
  have n16 := ic_cc I
  obtain ⟨t, c, f, y1, y2, y3⟩ := x.1 i (by omega) hi
  rw [y2]
  exact CWB_of y3
theorem oz_108 {h : av_H} (B : BX h) (x1 x2 x3 : Int) (q1 : -2147483648 ≤ x1 ∧ x1 ≤ 2147483647) (q2 : -2147483648 ≤ x2 ∧ x2 ≤ 2147483647) (q3 : -2147483648 ≤ x3 ∧ x3 ≤ 2147483647) : av_wp none cd_108 0 [some (.inr (.inr (.inl (some (0))))), some (.inl x1), some (.inl x2), some (.inl x3)] [] h (OPX cd_192 [some (.inr (.inr (.inl (some (77))))), some (.inl x1), some (.inl x2), some (.inl x3)] h (fun x y => x = y)) := by
  refine gd_of (fun hg => ?_)
  obtain ⟨B0, U, S, C, SU⟩ := B
  refine cx_108 (CJ_of B0.1 C) x1 q1 x2 q2 x3 q3 (CRT_of B0.1 C) SU (UHW_al B0.1 C) (fun v h1 sr' nd' J1 F1 SU1 p1 => ⟨v, rfl, ly_k J1.1.1 77 rfl, gd_of (fun hg1 => ?_)⟩)
  have B1 := BK_Fr hg B0 F1.1 J1.1
  obtain ⟨C1, C2⟩ := CLS_lk hg B0.1 C J1 F1.1 SU1
  have RX := RXX_of B1 C1 (ro := fun k => hA h (6 + k)) (fun l hl => ((CF0_Fr hg B0.1.1 F1.1).2.2.2.1 (6 + l) (by omega) (by omega)).symm)
  obtain ⟨c78, c79, c80⟩ := c78_of hg B0.1 F1.1 B1
  obtain ⟨n, a, m, M⟩ := B1.2.2.1
  refine cx_192 M (FM_rf h1) RX x1 q1 x2 q2 x3 q3 (fun w n' a' m' h2 p2 M2 F2 => ⟨w, rfl, ?_, ⟨BK_FM hg1 B1 F2 M2, CLS_FM hg1 F2 C2⟩, RM_0 (F2.1.trans F1.1.1) (F2.2.1.trans F1.1.2.1)⟩)
  rw [c78, c79] at p2
  exact RSP_u p1 p2
theorem oz_111 {h : av_H} (B : BX h) (x1 x2 x3 x4 : Int) (q1 : -2147483648 ≤ x1 ∧ x1 ≤ 2147483647) (q2 : -2147483648 ≤ x2 ∧ x2 ≤ 2147483647) (q3 : -2147483648 ≤ x3 ∧ x3 ≤ 2147483647) (q4 : -2147483648 ≤ x4 ∧ x4 ≤ 2147483647) : av_wp none cd_111 0 [some (.inr (.inr (.inl (some (0))))), some (.inl x1), some (.inl x2), some (.inl x3), some (.inl x4)] [] h (OPX cd_198 [some (.inr (.inr (.inl (some (77))))), some (.inl x1), some (.inl x2), some (.inl x3), some (.inl x4), none, none, none] h (fun x y => x = y)) := by
  refine gd_of (fun hg => ?_)
  obtain ⟨B0, U, S, C, SU⟩ := B
  refine cx_111 (CJ_of B0.1 C) x1 q1 x2 q2 x3 q3 x4 q4 (CRT_of B0.1 C) SU (fun v h1 sr' nd' J1 F1 SU1 p1 => ⟨v, rfl, ly_k J1.1.1 77 rfl, gd_of (fun hg1 => ?_)⟩)
  have B1 := BK_Fr hg B0 F1.1 J1.1
  obtain ⟨C1, C2⟩ := CLS_lk hg B0.1 C J1 F1.1 SU1
  have RX := RXX_of B1 C1 (ro := fun k => hA h (6 + k)) (fun l hl => ((CF0_Fr hg B0.1.1 F1.1).2.2.2.1 (6 + l) (by omega) (by omega)).symm)
  obtain ⟨c78, c79, c80⟩ := c78_of hg B0.1 F1.1 B1
  obtain ⟨n, a, m, M⟩ := B1.2.2.1
  refine cx_198 M (FM_rf h1) RX x1 q1 x2 q2 x3 q3 x4 q4 (fun w n' a' m' h2 p2 M2 F2 => ⟨w, rfl, ?_, ⟨BK_FM hg1 B1 F2 M2, CLS_FM hg1 F2 C2⟩, RM_0 (F2.1.trans F1.1.1) (F2.2.1.trans F1.1.2.1)⟩)
  rw [c78, c79] at p2
  exact RSP_u p1 p2
theorem oz_109 {h : av_H} (B : BX h) (x1 x2 x3 : Int) (q1 : -2147483648 ≤ x1 ∧ x1 ≤ 2147483647) (q2 : -2147483648 ≤ x2 ∧ x2 ≤ 2147483647) (q3 : -2147483648 ≤ x3 ∧ x3 ≤ 2147483647) : av_wp none cd_109 0 [some (.inr (.inr (.inl (some (0))))), some (.inl x1), some (.inl x2), some (.inl x3)] [] h (OPX cd_193 [some (.inr (.inr (.inl (some (77))))), some (.inl x1), some (.inl x2), some (.inl x3), none, none, none, none, none, none] h (fun x y => x = y)) := by
  refine gd_of (fun hg => ?_)
  obtain ⟨B0, U, S, C, SU⟩ := B
  refine cx_109 (CJ_of B0.1 C) x1 q1 x2 q2 x3 q3 (CRT_of B0.1 C) SU (fun v h1 sr' nd' J1 F1 SU1 p1 => ⟨v, rfl, ly_k J1.1.1 77 rfl, gd_of (fun hg1 => ?_)⟩)
  have B1 := BK_Fr hg B0 F1 J1.1
  obtain ⟨C1, C2⟩ := CLS_lk hg B0.1 C J1 F1 SU1
  have RX := RXX_of B1 C1 (ro := fun k => hA h (6 + k)) (fun l hl => ((CF0_Fr hg B0.1.1 F1).2.2.2.1 (6 + l) (by omega) (by omega)).symm)
  obtain ⟨c78, c79, c80⟩ := c78_of hg B0.1 F1 B1
  obtain ⟨n, a, m, M⟩ := B1.2.2.1
  refine cx_193 M (FM_rf h1) RX x1 q1 x2 q2 x3 q3 (fun w n' a' m' h2 p2 M2 F2 => ⟨w, rfl, ?_, ⟨BK_FM hg1 B1 F2 M2, CLS_FM hg1 F2 C2⟩, RM_0 (F2.1.trans F1.1) (F2.2.1.trans F1.2.1)⟩)
  rw [c78, c79] at p2
  exact RSP_u p1 p2
theorem oz_110 {h : av_H} (B : BX h) (x1 x2 : Int) (q1 : -2147483648 ≤ x1 ∧ x1 ≤ 2147483647) (q2 : -2147483648 ≤ x2 ∧ x2 ≤ 2147483647) : av_wp none cd_110 0 [some (.inr (.inr (.inl (some (0))))), some (.inl x1), some (.inl x2)] [] h (OPX cd_197 [some (.inr (.inr (.inl (some (77))))), some (.inl x1), some (.inl x2), none, none] h (fun x y => True)) := by
  refine gd_of (fun hg => ?_)
  obtain ⟨B0, U, S, C, SU⟩ := B
  refine cx_110 (CJ_of B0.1 C) x1 q1 x2 q2 (CRT_of B0.1 C) SU (fun v h1 sr' nd' J1 F1 SU1 => ⟨v, rfl, ly_k J1.1.1 77 rfl, gd_of (fun hg1 => ?_)⟩)
  have B1 := BK_Fr hg B0 F1 J1.1
  obtain ⟨C1, C2⟩ := CLS_lk hg B0.1 C J1 F1 SU1
  obtain ⟨n, a, m, M⟩ := B1.2.2.1
  exact ct_197 M (FM_rf h1) x1 q1 x2 q2 (fun w n' a' m' h2 M2 F2 => ⟨w, rfl, trivial, ⟨BK_FM hg1 B1 F2 M2, CLS_FM hg1 F2 C2⟩, RM_0 (F2.1.trans F1.1) (F2.2.1.trans F1.2.1)⟩)
theorem oz_117 {h : av_H} (B : BX h) (x1 x2 x3 x4 x5 : Int) (q1 : -2147483648 ≤ x1 ∧ x1 ≤ 2147483647) (q2 : -2147483648 ≤ x2 ∧ x2 ≤ 2147483647) (q3 : -2147483648 ≤ x3 ∧ x3 ≤ 2147483647) (q4 : -2147483648 ≤ x4 ∧ x4 ≤ 2147483647) (q5 : -2147483648 ≤ x5 ∧ x5 ≤ 2147483647) : av_wp none cd_117 0 [some (.inr (.inr (.inl (some (0))))), some (.inl x1), some (.inl x2), some (.inl x3), some (.inl x4), some (.inl x5), none] [] h (OPX cd_207 [some (.inr (.inr (.inl (some (77))))), some (.inl x1), some (.inl x2), some (.inl x3), some (.inl x4), some (.inl x5)] h (fun x y => x = y)) := by
  refine gd_of (fun hg => ?_)
  obtain ⟨B0, U, S, C, SU⟩ := B
  refine cx_117 (CJ_of B0.1 C) x1 q1 x2 q2 x3 q3 x4 q4 x5 q5 (CRT_of B0.1 C) SU (fun v h1 sr' nd' J1 F1 SU1 p1 => ⟨v, rfl, ly_k J1.1.1 77 rfl, gd_of (fun hg1 => ?_)⟩)
  have B1 := BK_Fr hg B0 F1.1 J1.1
  obtain ⟨C1, C2⟩ := CLS_lk hg B0.1 C J1 F1.1 SU1
  have RX := RXX_of B1 C1 (ro := fun k => hA h (6 + k)) (fun l hl => ((CF0_Fr hg B0.1.1 F1.1).2.2.2.1 (6 + l) (by omega) (by omega)).symm)
  obtain ⟨c78, c79, c80⟩ := c78_of hg B0.1 F1.1 B1
  obtain ⟨n, a, m, M⟩ := B1.2.2.1
  refine cx_207 M (FM_rf h1) RX x1 q1 x2 q2 x3 q3 x4 q4 x5 q5 (fun w n' a' m' h2 p2 M2 F2 => ⟨w, rfl, ?_, ⟨BK_FM hg1 B1 F2 M2, CLS_FM hg1 F2 C2⟩, RM_0 (F2.1.trans F1.1.1) (F2.2.1.trans F1.1.2.1)⟩)
  rw [c78, c79] at p2
  exact RSR_u (fun _ _ x y => CNV_u x y) p1 p2
theorem oz_118 {h : av_H} (B : BX h) (x1 x2 x3 x4 x5 : Int) (q1 : -2147483648 ≤ x1 ∧ x1 ≤ 2147483647) (q2 : -2147483648 ≤ x2 ∧ x2 ≤ 2147483647) (q3 : -2147483648 ≤ x3 ∧ x3 ≤ 2147483647) (q4 : -2147483648 ≤ x4 ∧ x4 ≤ 2147483647) (q5 : -2147483648 ≤ x5 ∧ x5 ≤ 2147483647) : av_wp none cd_118 0 [some (.inr (.inr (.inl (some (0))))), some (.inl x1), some (.inl x2), some (.inl x3), some (.inl x4), some (.inl x5)] [] h (OPX cd_208 [some (.inr (.inr (.inl (some (77))))), some (.inl x1), some (.inl x2), some (.inl x3), some (.inl x4), some (.inl x5), none] h (fun x y => x = y)) := by
  refine gd_of (fun hg => ?_)
  obtain ⟨B0, U, S, C, SU⟩ := B
  refine cx_118 (CJ_of B0.1 C) x1 q1 x2 q2 x3 q3 x4 q4 x5 q5 (CRT_of B0.1 C) SU (fun v h1 sr' nd' J1 F1 SU1 p1 => ⟨v, rfl, ly_k J1.1.1 77 rfl, gd_of (fun hg1 => ?_)⟩)
  have B1 := BK_Fr hg B0 F1.1 J1.1
  obtain ⟨C1, C2⟩ := CLS_lk hg B0.1 C J1 F1.1 SU1
  have RX := RXX_of B1 C1 (ro := fun k => hA h (6 + k)) (fun l hl => ((CF0_Fr hg B0.1.1 F1.1).2.2.2.1 (6 + l) (by omega) (by omega)).symm)
  obtain ⟨c78, c79, c80⟩ := c78_of hg B0.1 F1.1 B1
  obtain ⟨n, a, m, M⟩ := B1.2.2.1
  refine cx_208 M (FM_rf h1) RX x1 q1 x2 q2 x3 q3 x4 q4 x5 q5 (fun w n' a' m' h2 p2 M2 F2 => ⟨w, rfl, ?_, ⟨BK_FM hg1 B1 F2 M2, CLS_FM hg1 F2 C2⟩, RM_0 (F2.1.trans F1.1.1) (F2.2.1.trans F1.1.2.1)⟩)
  rw [c78, c79] at p2
  exact RSR_u (fun _ _ x y => UNV_u x y) p1 p2
theorem oz_116 {h : av_H} (B : BX h) (x1 x2 x3 x4 : Int) (q1 : -2147483648 ≤ x1 ∧ x1 ≤ 2147483647) (q2 : -2147483648 ≤ x2 ∧ x2 ≤ 2147483647) (q3 : -2147483648 ≤ x3 ∧ x3 ≤ 2147483647) (q4 : -2147483648 ≤ x4 ∧ x4 ≤ 2147483647) : av_wp none cd_116 0 [some (.inr (.inr (.inl (some (0))))), some (.inl x1), some (.inl x2), some (.inl x3), some (.inl x4)] [] h (OPX cd_205 [some (.inr (.inr (.inl (some (77))))), some (.inl x1), some (.inl x2), some (.inl x3), some (.inl x4), none, none, none, none] h (fun x y => x = y)) := by
  refine gd_of (fun hg => ?_)
  obtain ⟨B0, U, S, C, SU⟩ := B
  refine cx_116 (CJ_of B0.1 C) x1 q1 x2 q2 x3 q3 x4 q4 (CRT_of B0.1 C) SU (fun v h1 sr' nd' J1 F1 SU1 p1 => ⟨v, rfl, ly_k J1.1.1 77 rfl, gd_of (fun hg1 => ?_)⟩)
  have B1 := BK_Fr hg B0 F1.1 J1.1
  obtain ⟨C1, C2⟩ := CLS_lk hg B0.1 C J1 F1.1 SU1
  have RX := RXX_of B1 C1 (ro := fun k => hA h (6 + k)) (fun l hl => ((CF0_Fr hg B0.1.1 F1.1).2.2.2.1 (6 + l) (by omega) (by omega)).symm)
  obtain ⟨c78, c79, c80⟩ := c78_of hg B0.1 F1.1 B1
  obtain ⟨n, a, m, M⟩ := B1.2.2.1
  refine cx_205 M (FM_rf h1) RX x1 q1 x2 q2 x3 q3 x4 q4 (fun w n' a' m' h2 p2 M2 F2 => ⟨w, rfl, ?_, ⟨BK_FM hg1 B1 F2 M2, CLS_FM hg1 F2 C2⟩, RM_0 (F2.1.trans F1.1.1) (F2.2.1.trans F1.1.2.1)⟩)
  rw [c78, c79] at p2
  exact RSR_u (fun _ _ x y => BT4_u x y) p1 p2
