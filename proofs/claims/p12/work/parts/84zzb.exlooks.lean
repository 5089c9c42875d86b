/-! LOOKS: class and reference give the same, and the class's own book stays -/
theorem CLS_lk {g h : av_H} {U : Nat → Nat → Int} {S : Nat → Nat} {sr nd : Nat → Int} (G : av_Gd g) (I : IC g) (C : CLU U S g) (J : CJ U S (hF g 3 3) sr nd h) (F : Fr g h) (SU : SUA U S (hF g 3 3) (hF g 3 4) (fun k => hA g (6 + k)) sr) : CLU U S h ∧ CLS h := by
  have cf := CF0_Fr G I.1 F
  have c := CLU_cf G cf C
  refine ⟨c, U, S, c, ?_⟩
  rw [cf.2.1.1, cf.2.1.2.1, J.2.2.1]
  exact SUA_c SU (fun l hl _ => cf.2.2.2.1 _ (by omega) (by omega))
theorem c78_of {g h : av_H} (G : av_Gd g) (I : IC g) (F : Fr g h) (B : BK h) : hA h 78 0 = hF g 3 3 ∧ hA h 79 0 = hF g 3 4 ∧ hA h 80 0 = hF g 3 5 := by
  have cf := CF0_Fr G I.1 F
  exact ⟨B.2.2.2.2.1.1.1.1.symm.trans cf.2.1.1, B.2.2.2.2.1.1.1.2.1.symm.trans cf.2.1.2.1, B.2.2.2.2.1.1.1.2.2.symm.trans cf.2.1.2.2.1⟩
theorem oz_112 {h : av_H} (B : BX h) (x1 x2 x3 x4 x5 : Int) (q1 : -2147483648 ≤ x1 ∧ x1 ≤ 2147483647) (q2 : -2147483648 ≤ x2 ∧ x2 ≤ 2147483647) (q3 : -2147483648 ≤ x3 ∧ x3 ≤ 2147483647) (q4 : -2147483648 ≤ x4 ∧ x4 ≤ 2147483647) (q5 : -2147483648 ≤ x5 ∧ x5 ≤ 2147483647) : av_wp none cd_112 0 [some (.inr (.inr (.inl (some (0))))), some (.inl x1), some (.inl x2), some (.inl x3), some (.inl x4), some (.inl x5), none, none] [] h (OPX cd_199 [some (.inr (.inr (.inl (some (77))))), some (.inl x1), some (.inl x2), some (.inl x3), some (.inl x4), some (.inl x5)] h (fun x y => x = y)) := by
  refine gd_of (fun hg => ?_)
  obtain ⟨B0, U, S, C, SU⟩ := B
  refine cx_112 (CJ_of B0.1 C) x1 q1 x2 q2 x3 q3 x4 q4 x5 q5 (CRT_of B0.1 C) SU (fun v h1 sr' nd' J1 F1 SU1 p1 => ⟨v, rfl, ly_k J1.1.1 77 rfl, gd_of (fun hg1 => ?_)⟩)
  have B1 := BK_Fr hg B0 F1.1 J1.1
  obtain ⟨C1, C2⟩ := CLS_lk hg B0.1 C J1 F1.1 SU1
  have RX := RXX_of B1 C1 (ro := fun k => hA h (6 + k)) (fun l hl => ((CF0_Fr hg B0.1.1 F1.1).2.2.2.1 (6 + l) (by omega) (by omega)).symm)
  obtain ⟨c78, c79, c80⟩ := c78_of hg B0.1 F1.1 B1
  obtain ⟨n, a, m, M⟩ := B1.2.2.1
  refine cx_199 M (FM_rf h1) RX x1 q1 x2 q2 x3 q3 x4 q4 x5 q5 (fun w n' a' m' h2 p2 M2 F2 => ⟨w, rfl, ?_, ⟨BK_FM hg1 B1 F2 M2, CLS_FM hg1 F2 C2⟩, RM_0 (F2.1.trans F1.1.1) (F2.2.1.trans F1.1.2.1)⟩)
  rw [c78, c79] at p2
  exact RSP_u p1 p2
theorem oz_107 {h : av_H} (B : BX h) (x1 x2 x3 x4 x5 : Int) (q1 : -2147483648 ≤ x1 ∧ x1 ≤ 2147483647) (q2 : -2147483648 ≤ x2 ∧ x2 ≤ 2147483647) (q3 : -2147483648 ≤ x3 ∧ x3 ≤ 2147483647) (q4 : -2147483648 ≤ x4 ∧ x4 ≤ 2147483647) (q5 : -2147483648 ≤ x5 ∧ x5 ≤ 2147483647) : av_wp none cd_107 0 [some (.inr (.inr (.inl (some (0))))), some (.inl x1), some (.inl x2), some (.inl x3), some (.inl x4), some (.inl x5)] [] h (OPX cd_191 [some (.inr (.inr (.inl (some (77))))), some (.inl x1), some (.inl x2), some (.inl x3), some (.inl x4), some (.inl x5)] h (fun x y => x = y)) := by
  refine gd_of (fun hg => ?_)
  obtain ⟨B0, U, S, C, SU⟩ := B
  refine cx_107 (CJ_of B0.1 C) x1 q1 x2 q2 x3 q3 x4 q4 x5 q5 (CRT_of B0.1 C) SU (fun v h1 sr' nd' J1 F1 SU1 p1 => ⟨v, rfl, ly_k J1.1.1 77 rfl, gd_of (fun hg1 => ?_)⟩)
  have B1 := BK_Fr hg B0 F1.1 J1.1
  obtain ⟨C1, C2⟩ := CLS_lk hg B0.1 C J1 F1.1 SU1
  have RX := RXX_of B1 C1 (ro := fun k => hA h (6 + k)) (fun l hl => ((CF0_Fr hg B0.1.1 F1.1).2.2.2.1 (6 + l) (by omega) (by omega)).symm)
  obtain ⟨c78, c79, c80⟩ := c78_of hg B0.1 F1.1 B1
  obtain ⟨n, a, m, M⟩ := B1.2.2.1
  refine cx_191 M (FM_rf h1) RX x1 q1 x2 q2 x3 q3 x4 q4 x5 q5 (fun w n' a' m' h2 p2 M2 F2 => ⟨w, rfl, ?_, ⟨BK_FM hg1 B1 F2 M2, CLS_FM hg1 F2 C2⟩, RM_0 (F2.1.trans F1.1.1) (F2.2.1.trans F1.1.2.1)⟩)
  rw [c78, c79] at p2
  exact RSP_u p1 p2
theorem oz_106 {h : av_H} (B : BX h) (x1 x2 x3 x4 : Int) (q1 : -2147483648 ≤ x1 ∧ x1 ≤ 2147483647) (q2 : -2147483648 ≤ x2 ∧ x2 ≤ 2147483647) (q3 : -2147483648 ≤ x3 ∧ x3 ≤ 2147483647) (q4 : -2147483648 ≤ x4 ∧ x4 ≤ 2147483647) : av_wp none cd_106 0 [some (.inr (.inr (.inl (some (0))))), some (.inl x1), some (.inl x2), some (.inl x3), some (.inl x4), none, none] [] h (OPX cd_190 [some (.inr (.inr (.inl (some (77))))), some (.inl x1), some (.inl x2), some (.inl x3), some (.inl x4)] h (fun x y => x = y)) := by
  refine gd_of (fun hg => ?_)
  obtain ⟨B0, U, S, C, SU⟩ := B
  refine cx_106 (CJ_of B0.1 C) x1 q1 x2 q2 x3 q3 x4 q4 (CRT_of B0.1 C) SU (fun v h1 sr' nd' J1 F1 SU1 p1 => ⟨v, rfl, ly_k J1.1.1 77 rfl, gd_of (fun hg1 => ?_)⟩)
  have B1 := BK_Fr hg B0 F1.1 J1.1
  obtain ⟨C1, C2⟩ := CLS_lk hg B0.1 C J1 F1.1 SU1
  have RX := RXX_of B1 C1 (ro := fun k => hA h (6 + k)) (fun l hl => ((CF0_Fr hg B0.1.1 F1.1).2.2.2.1 (6 + l) (by omega) (by omega)).symm)
  obtain ⟨c78, c79, c80⟩ := c78_of hg B0.1 F1.1 B1
  obtain ⟨n, a, m, M⟩ := B1.2.2.1
  refine cx_190 M (FM_rf h1) RX x1 q1 x2 q2 x3 q3 x4 q4 (fun w n' a' m' h2 p2 M2 F2 => ⟨w, rfl, ?_, ⟨BK_FM hg1 B1 F2 M2, CLS_FM hg1 F2 C2⟩, RM_0 (F2.1.trans F1.1.1) (F2.2.1.trans F1.1.2.1)⟩)
  rw [c78, c79] at p2
  exact RSP_u p1 p2
