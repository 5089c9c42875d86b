/-! LOOKS: class and reference, one behind the other -/
theorem op_100 {h : av_H} (B : BK h)  : av_wp none cd_100 0 [some (.inr (.inr (.inl (some (0)))))] [] h (OPr cd_158 [some (.inr (.inr (.inl (some (77)))))] h (fun _ _ => True)) := by
  refine gd_of (fun hg => ct_100 B.1  (fun v h1 I1 F1 => ⟨v, rfl, ly_k I1.1 77 rfl, gd_of (fun hg1 => ?_)⟩))
  have B1 := BK_Fr hg B F1 I1
  obtain ⟨n, a, m, M⟩ := B1.2.2.1
  exact ct_158 M (FM_rf h1)  (fun w n' a' m' h2 M2 F2 => ⟨w, rfl, trivial, BK_FM hg1 B1 F2 M2, RM_0 (F2.1.trans F1.1) (F2.2.1.trans F1.2.1)⟩)
theorem op_101 {h : av_H} (B : BK h) (x1 x2 x3 : Int) (q1 : -2147483648 ≤ x1 ∧ x1 ≤ 2147483647) (q2 : -2147483648 ≤ x2 ∧ x2 ≤ 2147483647) (q3 : -2147483648 ≤ x3 ∧ x3 ≤ 2147483647) : av_wp none cd_101 0 [some (.inr (.inr (.inl (some (0))))), some (.inl x1), some (.inl x2), some (.inl x3), none, none] [] h (OPr cd_161 [some (.inr (.inr (.inl (some (77))))), some (.inl x1), some (.inl x2), some (.inl x3), none] h (fun _ _ => True)) := by
  refine gd_of (fun hg => ct_101 B.1 x1 q1 x2 q2 x3 q3 (fun v h1 I1 F1 => ⟨v, rfl, ly_k I1.1 77 rfl, gd_of (fun hg1 => ?_)⟩))
  have B1 := BK_Fr hg B F1 I1
  obtain ⟨n, a, m, M⟩ := B1.2.2.1
  exact ct_161 M (FM_rf h1) x1 q1 x2 q2 x3 q3 (fun w n' a' m' h2 M2 F2 => ⟨w, rfl, trivial, BK_FM hg1 B1 F2 M2, RM_0 (F2.1.trans F1.1) (F2.2.1.trans F1.2.1)⟩)
theorem op_103 {h : av_H} (B : BK h) (x1 x2 : Int) (q1 : -2147483648 ≤ x1 ∧ x1 ≤ 2147483647) (q2 : -2147483648 ≤ x2 ∧ x2 ≤ 2147483647) : av_wp none cd_103 0 [some (.inr (.inr (.inl (some (0))))), some (.inl x1), some (.inl x2), none] [] h (OPr cd_187 [some (.inr (.inr (.inl (some (77))))), some (.inl x1), some (.inl x2)] h (fun _ _ => True)) := by
  refine gd_of (fun hg => ct_103 B.1 x1 q1 x2 q2 (fun v h1 I1 F1 => ⟨v, rfl, ly_k I1.1 77 rfl, gd_of (fun hg1 => ?_)⟩))
  have B1 := BK_Fr hg B F1 I1
  obtain ⟨n, a, m, M⟩ := B1.2.2.1
  exact ct_187 M (FM_rf h1) x1 q1 x2 q2 (fun w n' a' m' h2 M2 F2 => ⟨w, rfl, trivial, BK_FM hg1 B1 F2 M2, RM_0 (F2.1.trans F1.1) (F2.2.1.trans F1.2.1)⟩)
theorem op_105 {h : av_H} (B : BK h) (x1 x2 : Int) (q1 : -2147483648 ≤ x1 ∧ x1 ≤ 2147483647) (q2 : -2147483648 ≤ x2 ∧ x2 ≤ 2147483647) : av_wp none cd_105 0 [some (.inr (.inr (.inl (some (0))))), some (.inl x1), some (.inl x2)] [] h (OPr cd_160 [some (.inr (.inr (.inl (some (77))))), some (.inl x1), some (.inl x2)] h (fun _ _ => True)) := by
  refine gd_of (fun hg => ct_105 B.1 x1 q1 x2 q2 (fun v h1 I1 F1 => ⟨v, rfl, ly_k I1.1 77 rfl, gd_of (fun hg1 => ?_)⟩))
  have B1 := BK_Fr hg B F1 I1
  obtain ⟨n, a, m, M⟩ := B1.2.2.1
  exact ct_160 M (FM_rf h1) x1 q1 x2 q2 (fun w n' a' m' h2 M2 F2 => ⟨w, rfl, trivial, BK_FM hg1 B1 F2 M2, RM_0 (F2.1.trans F1.1) (F2.2.1.trans F1.2.1)⟩)
theorem op_125 {h : av_H} (B : BK h) (x1 : Int) (q1 : -2147483648 ≤ x1 ∧ x1 ≤ 2147483647) : av_wp none cd_125 0 [some (.inr (.inr (.inl (some (0))))), some (.inl x1)] [] h (OPr cd_217 [some (.inr (.inr (.inl (some (77))))), some (.inl x1)] h (fun _ _ => True)) := by
  refine gd_of (fun hg => ct_125 B.1 x1 q1 (fun v h1 I1 F1 => ⟨v, rfl, ly_k I1.1 77 rfl, gd_of (fun hg1 => ?_)⟩))
  have B1 := BK_Fr hg B F1 I1
  obtain ⟨n, a, m, M⟩ := B1.2.2.1
  exact ct_217 M (FM_rf h1) x1 q1 (fun w n' a' m' h2 M2 F2 => ⟨w, rfl, trivial, BK_FM hg1 B1 F2 M2, RM_0 (F2.1.trans F1.1) (F2.2.1.trans F1.2.1)⟩)
