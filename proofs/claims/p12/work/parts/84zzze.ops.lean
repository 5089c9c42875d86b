/-! LOOKS: lost, wired, apart, part -/
theorem oz_120 {h : av_H} (B : BX h) (x1 x2 x3 : Int) (q1 : -2147483648 ≤ x1 ∧ x1 ≤ 2147483647) (q2 : -2147483648 ≤ x2 ∧ x2 ≤ 2147483647) (q3 : -2147483648 ≤ x3 ∧ x3 ≤ 2147483647) : av_wp none cd_120 0 [some (.inr (.inr (.inl (some (0))))), some (.inl x1), some (.inl x2), some (.inl x3), none] [] h (OPX cd_211 [some (.inr (.inr (.inl (some (77))))), some (.inl x1), some (.inl x2), some (.inl x3)] h (fun x y => x = y)) := by
  refine gd_of (fun hg => ?_)
  obtain ⟨B0, U, S, C, SU⟩ := B
  refine cx_120 (CJ_of B0.1 C) x1 q1 x2 q2 x3 q3 (CRT_of B0.1 C) SU (CWB_al B0.1 C) (fun v g h1 a b sr' nd' ha hb A J1 F1 SU1 p1 => ⟨v, rfl, ly_k J1.1.1 77 rfl, gd_of (fun hg1 => ?_)⟩)
  have G0 : av_Gd g := fun q hq => by rw [show g.1 = h1.1 from F1.1.symm]; exact hg1 q (by rw [show h1.2.2.1 q = g.2.2.1 q from congrFun F1.2.2.1 q]; exact hq)
  have Bg := BK_al hg B0 A
  have cfa := CF0_al hg B0.1.1 A
  have Cg := CLU_cf hg cfa C
  have B1 := BK_Fr G0 Bg F1 J1.1
  obtain ⟨C1, C2⟩ := CLS_lk G0 Bg.1 Cg (by rw [cfa.2.1.1]; exact J1) F1 (by rw [cfa.2.1.1, cfa.2.1.2.1]; exact SUA_c SU1 (fun l hl _ => cfa.2.2.2.1 _ (by omega) (by omega)))
  have RX := RXX_of B1 C1 (ro := fun k => hA h (6 + k)) (fun l hl => (((CF0_Fr G0 Bg.1.1 F1).2.2.2.1 (6 + l) (by omega) (by omega)).trans (cfa.2.2.2.1 (6 + l) (by omega) (by omega))).symm)
  obtain ⟨c78, c79, c80⟩ := c78_of G0 Bg.1 F1 B1
  rw [cfa.2.1.1] at c78
  rw [cfa.2.1.2.1] at c79
  have CB1 : ∀ c : Nat, (c : Int) < hA h1 78 0 → CWB (U c) (S c) := fun c hc => CWB_al B0.1 C c (by rw [← c78]; exact hc)
  have rm : ∀ h2 : av_H, FM h1 h2 → RM h h2 := fun h2 F2 => by
    have e1 := F2.1
    have e2 := F2.2.1
    have e3 := F1.1
    have e4 := F1.2.1
    have e5 := A.1
    have e6 := A.2.1
    exact ⟨by omega, by omega⟩
  obtain ⟨n, a', m, M⟩ := B1.2.2.1
  rcases p1 with p1 | p1
  · obtain ⟨no, e⟩ := p1
    refine cx_211 M (FM_rf h1) RX x1 q1 x2 q2 x3 q3 CB1 (V := fun _ => 0) (fun z => absurd (by rw [c78, c79] at z; exact z) no) (fun w n' a'' m' h2 p2 M2 F2 => ⟨w, rfl, ?_, ⟨BK_FM hg1 B1 F2 M2, CLS_FM hg1 F2 C2⟩, rm h2 F2⟩)
    rw [c78, c79] at p2
    rcases p2 with z | z
    · exact absurd z.1 no
    · exact e.trans z.2.symm
  · obtain ⟨ok, u, hu, e⟩ := p1
    refine cx_211 M (FM_rf h1) RX x1 q1 x2 q2 x3 q3 CB1 (V := u) (fun _ => hu) (fun w n' a'' m' h2 p2 M2 F2 => ⟨w, rfl, ?_, ⟨BK_FM hg1 B1 F2 M2, CLS_FM hg1 F2 C2⟩, rm h2 F2⟩)
    rw [c78, c79] at p2
    rcases p2 with z | z
    · exact e.trans z.2.symm
    · exact absurd ok z.1
theorem oz_121 {h : av_H} (B : BX h) (x1 x2 x3 : Int) (q1 : -2147483648 ≤ x1 ∧ x1 ≤ 2147483647) (q2 : -2147483648 ≤ x2 ∧ x2 ≤ 2147483647) (q3 : -2147483648 ≤ x3 ∧ x3 ≤ 2147483647) : av_wp none cd_121 0 [some (.inr (.inr (.inl (some (0))))), some (.inl x1), some (.inl x2), some (.inl x3), none] [] h (OPX cd_212 [some (.inr (.inr (.inl (some (77))))), some (.inl x1), some (.inl x2), some (.inl x3), none] h (fun x y => x = y)) := by
  refine gd_of (fun hg => ?_)
  obtain ⟨B0, U, S, C, SU⟩ := B
  refine cx_121 (CJ_of B0.1 C) x1 q1 x2 q2 x3 q3 (CRT_of B0.1 C) SU (CWB_al B0.1 C) (fun v g h1 a b sr' nd' ha hb A J1 F1 SU1 p1 => ⟨v, rfl, ly_k J1.1.1 77 rfl, gd_of (fun hg1 => ?_)⟩)
  have G0 : av_Gd g := fun q hq => by rw [show g.1 = h1.1 from F1.1.symm]; exact hg1 q (by rw [show h1.2.2.1 q = g.2.2.1 q from congrFun F1.2.2.1 q]; exact hq)
  have Bg := BK_al hg B0 A
  have cfa := CF0_al hg B0.1.1 A
  have Cg := CLU_cf hg cfa C
  have B1 := BK_Fr G0 Bg F1 J1.1
  obtain ⟨C1, C2⟩ := CLS_lk G0 Bg.1 Cg (by rw [cfa.2.1.1]; exact J1) F1 (by rw [cfa.2.1.1, cfa.2.1.2.1]; exact SUA_c SU1 (fun l hl _ => cfa.2.2.2.1 _ (by omega) (by omega)))
  have RX := RXX_of B1 C1 (ro := fun k => hA h (6 + k)) (fun l hl => (((CF0_Fr G0 Bg.1.1 F1).2.2.2.1 (6 + l) (by omega) (by omega)).trans (cfa.2.2.2.1 (6 + l) (by omega) (by omega))).symm)
  obtain ⟨c78, c79, c80⟩ := c78_of G0 Bg.1 F1 B1
  rw [cfa.2.1.1] at c78
  rw [cfa.2.1.2.1] at c79
  have CB1 : ∀ c : Nat, (c : Int) < hA h1 78 0 → CWB (U c) (S c) := fun c hc => CWB_al B0.1 C c (by rw [← c78]; exact hc)
  have rm : ∀ h2 : av_H, FM h1 h2 → RM h h2 := fun h2 F2 => by
    have e1 := F2.1
    have e2 := F2.2.1
    have e3 := F1.1
    have e4 := F1.2.1
    have e5 := A.1
    have e6 := A.2.1
    exact ⟨by omega, by omega⟩
  obtain ⟨n, a', m, M⟩ := B1.2.2.1
  rcases p1 with p1 | p1
  · obtain ⟨no, e⟩ := p1
    refine cx_212 M (FM_rf h1) RX x1 q1 x2 q2 x3 q3 CB1 (V := fun _ => 0) (fun z => absurd (by rw [c78, c79] at z; exact z) no) (fun w n' a'' m' h2 p2 M2 F2 => ⟨w, rfl, ?_, ⟨BK_FM hg1 B1 F2 M2, CLS_FM hg1 F2 C2⟩, rm h2 F2⟩)
    rw [c78, c79] at p2
    rcases p2 with z | z
    · exact absurd z.1 no
    · exact e.trans z.2.symm
  · obtain ⟨ok, u, hu, e⟩ := p1
    refine cx_212 M (FM_rf h1) RX x1 q1 x2 q2 x3 q3 CB1 (V := u) (fun _ => hu) (fun w n' a'' m' h2 p2 M2 F2 => ⟨w, rfl, ?_, ⟨BK_FM hg1 B1 F2 M2, CLS_FM hg1 F2 C2⟩, rm h2 F2⟩)
    rw [c78, c79] at p2
    rcases p2 with z | z
    · exact e.trans z.2.symm
    · exact absurd ok z.1
theorem oz_113 {h : av_H} (B : BX h) (x1 x2 x3 x4 : Int) (q1 : -2147483648 ≤ x1 ∧ x1 ≤ 2147483647) (q2 : -2147483648 ≤ x2 ∧ x2 ≤ 2147483647) (q3 : -2147483648 ≤ x3 ∧ x3 ≤ 2147483647) (q4 : -2147483648 ≤ x4 ∧ x4 ≤ 2147483647) : av_wp none cd_113 0 [some (.inr (.inr (.inl (some (0))))), some (.inl x1), some (.inl x2), some (.inl x3), some (.inl x4)] [] h (OPX cd_201 [some (.inr (.inr (.inl (some (77))))), some (.inl x1), some (.inl x2), some (.inl x3), some (.inl x4)] h (fun x y => x = y)) := by
  refine gd_of (fun hg => ?_)
  obtain ⟨B0, U, S, C, SU⟩ := B
  refine cx_113 (CJ_of B0.1 C) x1 q1 x2 q2 x3 q3 x4 q4 (CRT_of B0.1 C) SU (fun v h1 sr' nd' J1 F1 SU1 p1 => ⟨v, rfl, ly_k J1.1.1 77 rfl, gd_of (fun hg1 => ?_)⟩)
  have B1 := BK_Fr hg B0 F1 J1.1
  obtain ⟨C1, C2⟩ := CLS_lk hg B0.1 C J1 F1 SU1
  have RX := RXX_of B1 C1 (ro := fun k => hA h (6 + k)) (fun l hl => ((CF0_Fr hg B0.1.1 F1).2.2.2.1 (6 + l) (by omega) (by omega)).symm)
  obtain ⟨c78, c79, c80⟩ := c78_of hg B0.1 F1 B1
  obtain ⟨n, a, m, M⟩ := B1.2.2.1
  refine cx_201 M (FM_rf h1) RX x1 q1 x2 q2 x3 q3 x4 q4 (fun w n' a' m' h2 p2 M2 F2 => ⟨w, rfl, ?_, ⟨BK_FM hg1 B1 F2 M2, CLS_FM hg1 F2 C2⟩, RM_0 (F2.1.trans F1.1) (F2.2.1.trans F1.2.1)⟩)
  rw [c78, c79] at p2
  refine RSP_u p1 (RSP_i ?_ p2)
  have d := cbv_d (U (Int.toNat x1)) (S (Int.toNat x1))
  have d1 := cbf_1 (U (Int.toNat x1)) (S (Int.toNat x1))
  have l8 := ic_lc B0.1
  unfold okx
  omega
theorem oz_114 {h : av_H} (B : BX h) (x1 x2 : Int) (q1 : -2147483648 ≤ x1 ∧ x1 ≤ 2147483647) (q2 : -2147483648 ≤ x2 ∧ x2 ≤ 2147483647) : av_wp none cd_114 0 [some (.inr (.inr (.inl (some (0))))), some (.inl x1), some (.inl x2), none, none, none, none, none] [] h (OPX cd_202 [some (.inr (.inr (.inl (some (77))))), some (.inl x1), some (.inl x2), none, none] h (fun x y => x = y)) := by
  refine gd_of (fun hg => ?_)
  obtain ⟨B0, U, S, C, SU⟩ := B
  refine cx_114 (CJ_of B0.1 C) x1 q1 x2 q2 (CRT_of B0.1 C) SU (fun v h1 sr' nd' J1 F1 SU1 p1 => ⟨v, rfl, ly_k J1.1.1 77 rfl, gd_of (fun hg1 => ?_)⟩)
  have B1 := BK_Fr hg B0 F1 J1.1
  obtain ⟨C1, C2⟩ := CLS_lk hg B0.1 C J1 F1 SU1
  have RX := RXX_of B1 C1 (ro := fun k => hA h (6 + k)) (fun l hl => ((CF0_Fr hg B0.1.1 F1).2.2.2.1 (6 + l) (by omega) (by omega)).symm)
  obtain ⟨c78, c79, c80⟩ := c78_of hg B0.1 F1 B1
  obtain ⟨n, a, m, M⟩ := B1.2.2.1
  refine cx_202 M (FM_rf h1) RX x1 q1 x2 q2 (fun w n' a' m' h2 p2 M2 F2 => ⟨w, rfl, ?_, ⟨BK_FM hg1 B1 F2 M2, CLS_FM hg1 F2 C2⟩, RM_0 (F2.1.trans F1.1) (F2.2.1.trans F1.2.1)⟩)
  rw [c78, c79] at p2
  exact RSP_u p1 p2
