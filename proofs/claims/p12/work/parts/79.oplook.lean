/-! LOOKS: class and reference, one behind the other -/
theorem op_104 {h : av_H} (B : BK h) (x1 x2 x3 x4 : Int) (q1 : -2147483648 ≤ x1 ∧ x1 ≤ 2147483647) (q2 : -2147483648 ≤ x2 ∧ x2 ≤ 2147483647) (q3 : -2147483648 ≤ x3 ∧ x3 ≤ 2147483647) (q4 : -2147483648 ≤ x4 ∧ x4 ≤ 2147483647) : av_wp none cd_104 0 [some (.inr (.inr (.inl (some (0))))), some (.inl x1), some (.inl x2), some (.inl x3), some (.inl x4), none] [] h (OPr cd_189 [some (.inr (.inr (.inl (some (77))))), some (.inl x1), some (.inl x2), some (.inl x3), some (.inl x4)] h (fun _ _ => True)) := by
  refine gd_of (fun hg => ct_104 B.1 x1 q1 x2 q2 x3 q3 x4 q4 (fun v h1 I1 F1 => ⟨v, rfl, ly_k I1.1 77 rfl, gd_of (fun hg1 => ?_)⟩))
  have B1 := BK_Fr hg B F1 I1
  obtain ⟨n, a, m, M⟩ := B1.2.2.1
  exact ct_189 M (FM_rf h1) x1 q1 x2 q2 x3 q3 x4 q4 (fun w n' a' m' h2 M2 F2 => ⟨w, rfl, trivial, BK_FM hg1 B1 F2 M2, RM_0 (F2.1.trans F1.1) (F2.2.1.trans F1.2.1)⟩)
theorem op_106 {h : av_H} (B : BK h) (x1 x2 x3 x4 : Int) (q1 : -2147483648 ≤ x1 ∧ x1 ≤ 2147483647) (q2 : -2147483648 ≤ x2 ∧ x2 ≤ 2147483647) (q3 : -2147483648 ≤ x3 ∧ x3 ≤ 2147483647) (q4 : -2147483648 ≤ x4 ∧ x4 ≤ 2147483647) : av_wp none cd_106 0 [some (.inr (.inr (.inl (some (0))))), some (.inl x1), some (.inl x2), some (.inl x3), some (.inl x4), none, none] [] h (OPr cd_190 [some (.inr (.inr (.inl (some (77))))), some (.inl x1), some (.inl x2), some (.inl x3), some (.inl x4)] h (fun _ _ => True)) := by
  refine gd_of (fun hg => ct_106 B.1 x1 q1 x2 q2 x3 q3 x4 q4 (fun v h1 I1 F1 => ⟨v, rfl, ly_k I1.1 77 rfl, gd_of (fun hg1 => ?_)⟩))
  have B1 := BK_Fr hg B F1 I1
  obtain ⟨n, a, m, M⟩ := B1.2.2.1
  exact ct_190 M (FM_rf h1) x1 q1 x2 q2 x3 q3 x4 q4 (fun w n' a' m' h2 M2 F2 => ⟨w, rfl, trivial, BK_FM hg1 B1 F2 M2, RM_0 (F2.1.trans F1.1) (F2.2.1.trans F1.2.1)⟩)
theorem op_107 {h : av_H} (B : BK h) (x1 x2 x3 x4 x5 : Int) (q1 : -2147483648 ≤ x1 ∧ x1 ≤ 2147483647) (q2 : -2147483648 ≤ x2 ∧ x2 ≤ 2147483647) (q3 : -2147483648 ≤ x3 ∧ x3 ≤ 2147483647) (q4 : -2147483648 ≤ x4 ∧ x4 ≤ 2147483647) (q5 : -2147483648 ≤ x5 ∧ x5 ≤ 2147483647) : av_wp none cd_107 0 [some (.inr (.inr (.inl (some (0))))), some (.inl x1), some (.inl x2), some (.inl x3), some (.inl x4), some (.inl x5)] [] h (OPr cd_191 [some (.inr (.inr (.inl (some (77))))), some (.inl x1), some (.inl x2), some (.inl x3), some (.inl x4), some (.inl x5)] h (fun _ _ => True)) := by
  refine gd_of (fun hg => ct_107 B.1 x1 q1 x2 q2 x3 q3 x4 q4 x5 q5 (fun v h1 I1 F1 => ⟨v, rfl, ly_k I1.1 77 rfl, gd_of (fun hg1 => ?_)⟩))
  have B1 := BK_Fr hg B F1 I1
  obtain ⟨n, a, m, M⟩ := B1.2.2.1
  exact ct_191 M (FM_rf h1) x1 q1 x2 q2 x3 q3 x4 q4 x5 q5 (fun w n' a' m' h2 M2 F2 => ⟨w, rfl, trivial, BK_FM hg1 B1 F2 M2, RM_0 (F2.1.trans F1.1) (F2.2.1.trans F1.2.1)⟩)
theorem op_108 {h : av_H} (B : BK h) (x1 x2 x3 : Int) (q1 : -2147483648 ≤ x1 ∧ x1 ≤ 2147483647) (q2 : -2147483648 ≤ x2 ∧ x2 ≤ 2147483647) (q3 : -2147483648 ≤ x3 ∧ x3 ≤ 2147483647) : av_wp none cd_108 0 [some (.inr (.inr (.inl (some (0))))), some (.inl x1), some (.inl x2), some (.inl x3)] [] h (OPr cd_192 [some (.inr (.inr (.inl (some (77))))), some (.inl x1), some (.inl x2), some (.inl x3)] h (fun _ _ => True)) := by
  refine gd_of (fun hg => ct_108 B.1 x1 q1 x2 q2 x3 q3 (fun v h1 I1 F1 => ⟨v, rfl, ly_k I1.1 77 rfl, gd_of (fun hg1 => ?_)⟩))
  have B1 := BK_Fr hg B F1 I1
  obtain ⟨n, a, m, M⟩ := B1.2.2.1
  exact ct_192 M (FM_rf h1) x1 q1 x2 q2 x3 q3 (fun w n' a' m' h2 M2 F2 => ⟨w, rfl, trivial, BK_FM hg1 B1 F2 M2, RM_0 (F2.1.trans F1.1) (F2.2.1.trans F1.2.1)⟩)
theorem op_109 {h : av_H} (B : BK h) (x1 x2 x3 : Int) (q1 : -2147483648 ≤ x1 ∧ x1 ≤ 2147483647) (q2 : -2147483648 ≤ x2 ∧ x2 ≤ 2147483647) (q3 : -2147483648 ≤ x3 ∧ x3 ≤ 2147483647) : av_wp none cd_109 0 [some (.inr (.inr (.inl (some (0))))), some (.inl x1), some (.inl x2), some (.inl x3)] [] h (OPr cd_193 [some (.inr (.inr (.inl (some (77))))), some (.inl x1), some (.inl x2), some (.inl x3), none, none, none, none, none, none] h (fun _ _ => True)) := by
  refine gd_of (fun hg => ct_109 B.1 x1 q1 x2 q2 x3 q3 (fun v h1 I1 F1 => ⟨v, rfl, ly_k I1.1 77 rfl, gd_of (fun hg1 => ?_)⟩))
  have B1 := BK_Fr hg B F1 I1
  obtain ⟨n, a, m, M⟩ := B1.2.2.1
  exact ct_193 M (FM_rf h1) x1 q1 x2 q2 x3 q3 (fun w n' a' m' h2 M2 F2 => ⟨w, rfl, trivial, BK_FM hg1 B1 F2 M2, RM_0 (F2.1.trans F1.1) (F2.2.1.trans F1.2.1)⟩)
theorem op_110 {h : av_H} (B : BK h) (x1 x2 : Int) (q1 : -2147483648 ≤ x1 ∧ x1 ≤ 2147483647) (q2 : -2147483648 ≤ x2 ∧ x2 ≤ 2147483647) : av_wp none cd_110 0 [some (.inr (.inr (.inl (some (0))))), some (.inl x1), some (.inl x2)] [] h (OPr cd_197 [some (.inr (.inr (.inl (some (77))))), some (.inl x1), some (.inl x2), none, none] h (fun _ _ => True)) := by
  refine gd_of (fun hg => ct_110 B.1 x1 q1 x2 q2 (fun v h1 I1 F1 => ⟨v, rfl, ly_k I1.1 77 rfl, gd_of (fun hg1 => ?_)⟩))
  have B1 := BK_Fr hg B F1 I1
  obtain ⟨n, a, m, M⟩ := B1.2.2.1
  exact ct_197 M (FM_rf h1) x1 q1 x2 q2 (fun w n' a' m' h2 M2 F2 => ⟨w, rfl, trivial, BK_FM hg1 B1 F2 M2, RM_0 (F2.1.trans F1.1) (F2.2.1.trans F1.2.1)⟩)
theorem op_111 {h : av_H} (B : BK h) (x1 x2 x3 x4 : Int) (q1 : -2147483648 ≤ x1 ∧ x1 ≤ 2147483647) (q2 : -2147483648 ≤ x2 ∧ x2 ≤ 2147483647) (q3 : -2147483648 ≤ x3 ∧ x3 ≤ 2147483647) (q4 : -2147483648 ≤ x4 ∧ x4 ≤ 2147483647) : av_wp none cd_111 0 [some (.inr (.inr (.inl (some (0))))), some (.inl x1), some (.inl x2), some (.inl x3), some (.inl x4)] [] h (OPr cd_198 [some (.inr (.inr (.inl (some (77))))), some (.inl x1), some (.inl x2), some (.inl x3), some (.inl x4), none, none, none] h (fun _ _ => True)) := by
  refine gd_of (fun hg => ct_111 B.1 x1 q1 x2 q2 x3 q3 x4 q4 (fun v h1 I1 F1 => ⟨v, rfl, ly_k I1.1 77 rfl, gd_of (fun hg1 => ?_)⟩))
  have B1 := BK_Fr hg B F1 I1
  obtain ⟨n, a, m, M⟩ := B1.2.2.1
  exact ct_198 M (FM_rf h1) x1 q1 x2 q2 x3 q3 x4 q4 (fun w n' a' m' h2 M2 F2 => ⟨w, rfl, trivial, BK_FM hg1 B1 F2 M2, RM_0 (F2.1.trans F1.1) (F2.2.1.trans F1.2.1)⟩)
theorem op_112 {h : av_H} (B : BK h) (x1 x2 x3 x4 x5 : Int) (q1 : -2147483648 ≤ x1 ∧ x1 ≤ 2147483647) (q2 : -2147483648 ≤ x2 ∧ x2 ≤ 2147483647) (q3 : -2147483648 ≤ x3 ∧ x3 ≤ 2147483647) (q4 : -2147483648 ≤ x4 ∧ x4 ≤ 2147483647) (q5 : -2147483648 ≤ x5 ∧ x5 ≤ 2147483647) : av_wp none cd_112 0 [some (.inr (.inr (.inl (some (0))))), some (.inl x1), some (.inl x2), some (.inl x3), some (.inl x4), some (.inl x5), none, none] [] h (OPr cd_199 [some (.inr (.inr (.inl (some (77))))), some (.inl x1), some (.inl x2), some (.inl x3), some (.inl x4), some (.inl x5)] h (fun _ _ => True)) := by
  refine gd_of (fun hg => ct_112 B.1 x1 q1 x2 q2 x3 q3 x4 x5 (fun v h1 I1 F1 => ⟨v, rfl, ly_k I1.1 77 rfl, gd_of (fun hg1 => ?_)⟩))
  have B1 := BK_Fr hg B F1 I1
  obtain ⟨n, a, m, M⟩ := B1.2.2.1
  exact ct_199 M (FM_rf h1) x1 q1 x2 q2 x3 q3 x4 x5 (fun w n' a' m' h2 M2 F2 => ⟨w, rfl, trivial, BK_FM hg1 B1 F2 M2, RM_0 (F2.1.trans F1.1) (F2.2.1.trans F1.2.1)⟩)
theorem op_113 {h : av_H} (B : BK h) (x1 x2 x3 x4 : Int) (q1 : -2147483648 ≤ x1 ∧ x1 ≤ 2147483647) (q2 : -2147483648 ≤ x2 ∧ x2 ≤ 2147483647) (q3 : -2147483648 ≤ x3 ∧ x3 ≤ 2147483647) (q4 : -2147483648 ≤ x4 ∧ x4 ≤ 2147483647) : av_wp none cd_113 0 [some (.inr (.inr (.inl (some (0))))), some (.inl x1), some (.inl x2), some (.inl x3), some (.inl x4)] [] h (OPr cd_201 [some (.inr (.inr (.inl (some (77))))), some (.inl x1), some (.inl x2), some (.inl x3), some (.inl x4)] h (fun _ _ => True)) := by
  refine gd_of (fun hg => ct_113 B.1 x1 q1 x2 q2 x3 q3 x4 q4 (fun v h1 I1 F1 => ⟨v, rfl, ly_k I1.1 77 rfl, gd_of (fun hg1 => ?_)⟩))
  have B1 := BK_Fr hg B F1 I1
  obtain ⟨n, a, m, M⟩ := B1.2.2.1
  exact ct_201 M (FM_rf h1) x1 q1 x2 q2 x3 q3 x4 q4 (fun w n' a' m' h2 M2 F2 => ⟨w, rfl, trivial, BK_FM hg1 B1 F2 M2, RM_0 (F2.1.trans F1.1) (F2.2.1.trans F1.2.1)⟩)
theorem op_114 {h : av_H} (B : BK h) (x1 x2 : Int) (q1 : -2147483648 ≤ x1 ∧ x1 ≤ 2147483647) (q2 : -2147483648 ≤ x2 ∧ x2 ≤ 2147483647) : av_wp none cd_114 0 [some (.inr (.inr (.inl (some (0))))), some (.inl x1), some (.inl x2), none, none, none, none, none] [] h (OPr cd_202 [some (.inr (.inr (.inl (some (77))))), some (.inl x1), some (.inl x2), none, none] h (fun _ _ => True)) := by
  refine gd_of (fun hg => ct_114 B.1 x1 q1 x2 q2 (fun v h1 I1 F1 => ⟨v, rfl, ly_k I1.1 77 rfl, gd_of (fun hg1 => ?_)⟩))
  have B1 := BK_Fr hg B F1 I1
  obtain ⟨n, a, m, M⟩ := B1.2.2.1
  exact ct_202 M (FM_rf h1) x1 q1 x2 q2 (fun w n' a' m' h2 M2 F2 => ⟨w, rfl, trivial, BK_FM hg1 B1 F2 M2, RM_0 (F2.1.trans F1.1) (F2.2.1.trans F1.2.1)⟩)
theorem op_115 {h : av_H} (B : BK h) (x1 : Int) (q1 : -2147483648 ≤ x1 ∧ x1 ≤ 2147483647) : av_wp none cd_115 0 [some (.inr (.inr (.inl (some (0))))), some (.inl x1), none, none, none, none] [] h (OPr cd_204 [some (.inr (.inr (.inl (some (77))))), some (.inl x1), none, none] h (fun _ _ => True)) := by
  refine gd_of (fun hg => ct_115 B.1 x1 q1 (fun v h1 I1 F1 => ⟨v, rfl, ly_k I1.1 77 rfl, gd_of (fun hg1 => ?_)⟩))
  have B1 := BK_Fr hg B F1 I1
  obtain ⟨n, a, m, M⟩ := B1.2.2.1
  exact ct_204 M (FM_rf h1) x1 q1 (fun w n' a' m' h2 M2 F2 => ⟨w, rfl, trivial, BK_FM hg1 B1 F2 M2, RM_0 (F2.1.trans F1.1) (F2.2.1.trans F1.2.1)⟩)
theorem op_116 {h : av_H} (B : BK h) (x1 x2 x3 x4 : Int) (q1 : -2147483648 ≤ x1 ∧ x1 ≤ 2147483647) (q2 : -2147483648 ≤ x2 ∧ x2 ≤ 2147483647) (q3 : -2147483648 ≤ x3 ∧ x3 ≤ 2147483647) (q4 : -2147483648 ≤ x4 ∧ x4 ≤ 2147483647) : av_wp none cd_116 0 [some (.inr (.inr (.inl (some (0))))), some (.inl x1), some (.inl x2), some (.inl x3), some (.inl x4)] [] h (OPr cd_205 [some (.inr (.inr (.inl (some (77))))), some (.inl x1), some (.inl x2), some (.inl x3), some (.inl x4), none, none, none, none] h (fun _ _ => True)) := by
  refine gd_of (fun hg => ct_116 B.1 x1 q1 x2 q2 x3 q3 x4 q4 (fun v h1 I1 F1 => ⟨v, rfl, ly_k I1.1 77 rfl, gd_of (fun hg1 => ?_)⟩))
  have B1 := BK_Fr hg B F1 I1
  obtain ⟨n, a, m, M⟩ := B1.2.2.1
  exact ct_205 M (FM_rf h1) x1 q1 x2 q2 x3 q3 x4 q4 (fun w n' a' m' h2 M2 F2 => ⟨w, rfl, trivial, BK_FM hg1 B1 F2 M2, RM_0 (F2.1.trans F1.1) (F2.2.1.trans F1.2.1)⟩)
theorem op_117 {h : av_H} (B : BK h) (x1 x2 x3 x4 x5 : Int) (q1 : -2147483648 ≤ x1 ∧ x1 ≤ 2147483647) (q2 : -2147483648 ≤ x2 ∧ x2 ≤ 2147483647) (q3 : -2147483648 ≤ x3 ∧ x3 ≤ 2147483647) (q4 : -2147483648 ≤ x4 ∧ x4 ≤ 2147483647) (q5 : -2147483648 ≤ x5 ∧ x5 ≤ 2147483647) : av_wp none cd_117 0 [some (.inr (.inr (.inl (some (0))))), some (.inl x1), some (.inl x2), some (.inl x3), some (.inl x4), some (.inl x5), none] [] h (OPr cd_207 [some (.inr (.inr (.inl (some (77))))), some (.inl x1), some (.inl x2), some (.inl x3), some (.inl x4), some (.inl x5)] h (fun _ _ => True)) := by
  refine gd_of (fun hg => ct_117 B.1 x1 q1 x2 q2 x3 q3 x4 q4 x5 q5 (fun v h1 I1 F1 => ⟨v, rfl, ly_k I1.1 77 rfl, gd_of (fun hg1 => ?_)⟩))
  have B1 := BK_Fr hg B F1 I1
  obtain ⟨n, a, m, M⟩ := B1.2.2.1
  exact ct_207 M (FM_rf h1) x1 q1 x2 q2 x3 q3 x4 q4 x5 q5 (fun w n' a' m' h2 M2 F2 => ⟨w, rfl, trivial, BK_FM hg1 B1 F2 M2, RM_0 (F2.1.trans F1.1) (F2.2.1.trans F1.2.1)⟩)
theorem op_118 {h : av_H} (B : BK h) (x1 x2 x3 x4 x5 : Int) (q1 : -2147483648 ≤ x1 ∧ x1 ≤ 2147483647) (q2 : -2147483648 ≤ x2 ∧ x2 ≤ 2147483647) (q3 : -2147483648 ≤ x3 ∧ x3 ≤ 2147483647) (q4 : -2147483648 ≤ x4 ∧ x4 ≤ 2147483647) (q5 : -2147483648 ≤ x5 ∧ x5 ≤ 2147483647) : av_wp none cd_118 0 [some (.inr (.inr (.inl (some (0))))), some (.inl x1), some (.inl x2), some (.inl x3), some (.inl x4), some (.inl x5)] [] h (OPr cd_208 [some (.inr (.inr (.inl (some (77))))), some (.inl x1), some (.inl x2), some (.inl x3), some (.inl x4), some (.inl x5), none] h (fun _ _ => True)) := by
  refine gd_of (fun hg => ct_118 B.1 x1 q1 x2 q2 x3 q3 x4 q4 x5 q5 (fun v h1 I1 F1 => ⟨v, rfl, ly_k I1.1 77 rfl, gd_of (fun hg1 => ?_)⟩))
  have B1 := BK_Fr hg B F1 I1
  obtain ⟨n, a, m, M⟩ := B1.2.2.1
  exact ct_208 M (FM_rf h1) x1 q1 x2 q2 x3 q3 x4 q4 x5 q5 (fun w n' a' m' h2 M2 F2 => ⟨w, rfl, trivial, BK_FM hg1 B1 F2 M2, RM_0 (F2.1.trans F1.1) (F2.2.1.trans F1.2.1)⟩)
