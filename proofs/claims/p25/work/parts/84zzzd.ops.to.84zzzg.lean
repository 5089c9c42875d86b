section
/-! LOOKS: the compared one in class and reference, of the others that the book stays -/
theorem CLS_lk {g h : av_H} {U : Nat → Nat → Int} {S : Nat → Nat} {sr nd : Nat → Int} (G : av_Gd g) (I : IC g) (C : CLU U S g) (J : CJ U S (hF g 3 3) sr nd h) (F : Fr g h) (SU : SUA U S (hF g 3 3) (hF g 3 4) (fun k => hA g (6 + k)) sr) : CLU U S h ∧ CLS h := by
  have cf := CF0_Fr G I.1 F
  have c := CLU_cf G cf C
  refine ⟨c, U, S, c, ?_⟩
  rw [cf.2.1.1, cf.2.1.2.1, J.2.2.1]
  exact SUA_c SU (fun l hl _ => cf.2.2.2.1 _ (by omega) (by omega))
theorem c78_of {g h : av_H} (G : av_Gd g) (I : IC g) (F : Fr g h) (B : BK h) : hA h 78 0 = hF g 3 3 ∧ hA h 79 0 = hF g 3 4 ∧ hA h 80 0 = hF g 3 5 := by
  have cf := CF0_Fr G I.1 F
  exact ⟨B.2.2.2.2.1.1.1.1.symm.trans cf.2.1.1, B.2.2.2.2.1.1.1.2.1.symm.trans cf.2.1.2.1, B.2.2.2.2.1.1.1.2.2.symm.trans cf.2.1.2.2.1⟩
/-! LOOKS: the others -/
theorem CWB_al {h : av_H} {U : Nat → Nat → Int} {S : Nat → Nat} (I : IC h) (x : CLU U S h) : ∀ i : Nat, (i : Int) < hF h 3 3 → CWB (U i) (S i) := fun i hi => by
  have n16 := ic_cc I
  obtain ⟨t, c, f, y1, y2, y3⟩ := x.1 i (by omega) hi
  rw [y2]
  exact CWB_of y3
/-! WRITE: class and reference give the same -/
theorem RLW_g {ro : Nat → Int} (R : RLW ro) : ∀ j, j < 13 → rlo j ≤ ro j ∧ ro j ≤ rhi j := by
  obtain ⟨r0, r6, r7, r8, r9, r10, r11, r12⟩ := R
  intro j hj
  by_cases c : j < 6
  · have h := r0 j c
    have e1 : rlo j = 0 := if_neg (by omega)
    have e2 : rhi j = 2 := (if_neg (by omega)).trans (if_neg (by omega))
    omega
  · rcases (show j = 6 ∨ j = 7 ∨ j = 8 ∨ j = 9 ∨ j = 10 ∨ j = 11 ∨ j = 12 by omega) with e | e | e | e | e | e | e <;> subst e <;> simp [rlo, rhi] <;> omega
theorem RLW_mx {R : Nat → Nat → Int} {b : Nat → Int} {x : Int} (hb : RLW b) : ∀ c : Nat, (∀ q, q < c → RQW (R q)) → RLW (mxf R b x c) := by
  intro c
  induction c with
  | zero => intro _; exact hb
  | succ c ih =>
    intro hR
    have i := ih (fun q hq => hR q (by omega))
    by_cases e : av_w (av_and (av_shr x (c : Int)) 1) = 1
    · rw [mxf_y e]
      refine RLW_of (fun j hj => ?_)
      show rlo j ≤ (if j < 14 ∧ R c j ≠ -2 then R c j else mxf R b x c j) ∧ (if j < 14 ∧ R c j ≠ -2 then R c j else mxf R b x c j) ≤ rhi j
      split
      · next z => exact (hR c (by omega) j hj).resolve_left z.2
      · exact RLW_g i j hj
    · rw [mxf_n e]
      exact i
theorem RLW_pl {f p : Nat → Int} (R : RLW p) : RLW (plr f p) := RLW_of (fun j hj => by rw [plr_lt (by omega)]; exact RLW_g R j hj)
section
variable {h : av_H} {U : Nat → Nat → Int} {S : Nat → Nat}
theorem RLW_al (I : IC h) (x : CLU U S h) (f : Nat → Int) (b : Int) (l : Nat) (hl : (l : Int) < hF h 3 4) : RLW (MXL h f b l) := by
  have n8 := ic_lc I
  have n6 := ic_kc I
  exact RLW_mx (RLW_pl (x.2.1 l (by omega) hl)) _ (fun q hq => x.2.2.1 q (by omega) (by omega))
end
theorem oz_106 {h : av_H} (B : BX h) (x1 x2 x3 x4 : Int) (q1 : -2147483648 ≤ x1 ∧ x1 ≤ 2147483647) (q2 : -2147483648 ≤ x2 ∧ x2 ≤ 2147483647) (q3 : -2147483648 ≤ x3 ∧ x3 ≤ 2147483647) (q4 : -2147483648 ≤ x4 ∧ x4 ≤ 2147483647) : av_wp none cd_106 0 [some (.inr (.inr (.inl (some (0))))), some (.inl x1), some (.inl x2), some (.inl x3), some (.inl x4), none, none] [] h (OPX cd_190 [some (.inr (.inr (.inl (some (77))))), some (.inl x1), some (.inl x2), some (.inl x3), some (.inl x4)] h (fun x y => True)) := by
  refine gd_of (fun hg => ?_)
  obtain ⟨B0, U, S, C, SU⟩ := B
  refine cx_106 (CJ_of B0.1 C) x1 q1 x2 q2 x3 q3 x4 q4 (CRT_of B0.1 C) SU (fun v h1 sr' nd' J1 F1 SU1 p1 => ⟨v, rfl, ly_k J1.1.1 77 rfl, gd_of (fun hg1 => ?_)⟩)
  have B1 := BK_Fr hg B0 F1.1 J1.1
  obtain ⟨C1, C2⟩ := CLS_lk hg B0.1 C J1 F1.1 SU1
  obtain ⟨n, a, m, M⟩ := B1.2.2.1
  exact ct_190 M (FM_rf h1) x1 q1 x2 q2 x3 q3 x4 q4 (fun w n' a' m' h2 M2 F2 => ⟨w, rfl, trivial, ⟨BK_FM hg1 B1 F2 M2, CLS_FM hg1 F2 C2⟩, RM_0 (F2.1.trans F1.1.1) (F2.2.1.trans F1.1.2.1)⟩)
theorem oz_107 {h : av_H} (B : BX h) (x1 x2 x3 x4 x5 : Int) (q1 : -2147483648 ≤ x1 ∧ x1 ≤ 2147483647) (q2 : -2147483648 ≤ x2 ∧ x2 ≤ 2147483647) (q3 : -2147483648 ≤ x3 ∧ x3 ≤ 2147483647) (q4 : -2147483648 ≤ x4 ∧ x4 ≤ 2147483647) (q5 : -2147483648 ≤ x5 ∧ x5 ≤ 2147483647) : av_wp none cd_107 0 [some (.inr (.inr (.inl (some (0))))), some (.inl x1), some (.inl x2), some (.inl x3), some (.inl x4), some (.inl x5)] [] h (OPX cd_191 [some (.inr (.inr (.inl (some (77))))), some (.inl x1), some (.inl x2), some (.inl x3), some (.inl x4), some (.inl x5)] h (fun x y => True)) := by
  refine gd_of (fun hg => ?_)
  obtain ⟨B0, U, S, C, SU⟩ := B
  refine cx_107 (CJ_of B0.1 C) x1 q1 x2 q2 x3 q3 x4 q4 x5 q5 (CRT_of B0.1 C) SU (fun v h1 sr' nd' J1 F1 SU1 p1 => ⟨v, rfl, ly_k J1.1.1 77 rfl, gd_of (fun hg1 => ?_)⟩)
  have B1 := BK_Fr hg B0 F1.1 J1.1
  obtain ⟨C1, C2⟩ := CLS_lk hg B0.1 C J1 F1.1 SU1
  obtain ⟨n, a, m, M⟩ := B1.2.2.1
  exact ct_191 M (FM_rf h1) x1 q1 x2 q2 x3 q3 x4 q4 x5 q5 (fun w n' a' m' h2 M2 F2 => ⟨w, rfl, trivial, ⟨BK_FM hg1 B1 F2 M2, CLS_FM hg1 F2 C2⟩, RM_0 (F2.1.trans F1.1.1) (F2.2.1.trans F1.1.2.1)⟩)
theorem oz_108 {h : av_H} (B : BX h) (x1 x2 x3 : Int) (q1 : -2147483648 ≤ x1 ∧ x1 ≤ 2147483647) (q2 : -2147483648 ≤ x2 ∧ x2 ≤ 2147483647) (q3 : -2147483648 ≤ x3 ∧ x3 ≤ 2147483647) : av_wp none cd_108 0 [some (.inr (.inr (.inl (some (0))))), some (.inl x1), some (.inl x2), some (.inl x3)] [] h (OPX cd_192 [some (.inr (.inr (.inl (some (77))))), some (.inl x1), some (.inl x2), some (.inl x3)] h (fun x y => True)) := by
  refine gd_of (fun hg => ?_)
  obtain ⟨B0, U, S, C, SU⟩ := B
  refine cx_108 (CJ_of B0.1 C) x1 q1 x2 q2 x3 q3 (CRT_of B0.1 C) SU (UHW_al B0.1 C) (fun v h1 sr' nd' J1 F1 SU1 p1 => ⟨v, rfl, ly_k J1.1.1 77 rfl, gd_of (fun hg1 => ?_)⟩)
  have B1 := BK_Fr hg B0 F1.1 J1.1
  obtain ⟨C1, C2⟩ := CLS_lk hg B0.1 C J1 F1.1 SU1
  obtain ⟨n, a, m, M⟩ := B1.2.2.1
  exact ct_192 M (FM_rf h1) x1 q1 x2 q2 x3 q3 (fun w n' a' m' h2 M2 F2 => ⟨w, rfl, trivial, ⟨BK_FM hg1 B1 F2 M2, CLS_FM hg1 F2 C2⟩, RM_0 (F2.1.trans F1.1.1) (F2.2.1.trans F1.1.2.1)⟩)
theorem oz_109 {h : av_H} (B : BX h) (x1 x2 x3 : Int) (q1 : -2147483648 ≤ x1 ∧ x1 ≤ 2147483647) (q2 : -2147483648 ≤ x2 ∧ x2 ≤ 2147483647) (q3 : -2147483648 ≤ x3 ∧ x3 ≤ 2147483647) : av_wp none cd_109 0 [some (.inr (.inr (.inl (some (0))))), some (.inl x1), some (.inl x2), some (.inl x3)] [] h (OPX cd_193 [some (.inr (.inr (.inl (some (77))))), some (.inl x1), some (.inl x2), some (.inl x3), none, none, none, none, none, none] h (fun x y => True)) := by
  refine gd_of (fun hg => ?_)
  obtain ⟨B0, U, S, C, SU⟩ := B
  refine cx_109 (CJ_of B0.1 C) x1 q1 x2 q2 x3 q3 (CRT_of B0.1 C) SU (fun v h1 sr' nd' J1 F1 SU1 p1 => ⟨v, rfl, ly_k J1.1.1 77 rfl, gd_of (fun hg1 => ?_)⟩)
  have B1 := BK_Fr hg B0 F1 J1.1
  obtain ⟨C1, C2⟩ := CLS_lk hg B0.1 C J1 F1 SU1
  obtain ⟨n, a, m, M⟩ := B1.2.2.1
  exact ct_193 M (FM_rf h1) x1 q1 x2 q2 x3 q3 (fun w n' a' m' h2 M2 F2 => ⟨w, rfl, trivial, ⟨BK_FM hg1 B1 F2 M2, CLS_FM hg1 F2 C2⟩, RM_0 (F2.1.trans F1.1) (F2.2.1.trans F1.2.1)⟩)
theorem oz_110 {h : av_H} (B : BX h) (x1 x2 : Int) (q1 : -2147483648 ≤ x1 ∧ x1 ≤ 2147483647) (q2 : -2147483648 ≤ x2 ∧ x2 ≤ 2147483647) : av_wp none cd_110 0 [some (.inr (.inr (.inl (some (0))))), some (.inl x1), some (.inl x2)] [] h (OPX cd_197 [some (.inr (.inr (.inl (some (77))))), some (.inl x1), some (.inl x2), none, none] h (fun x y => True)) := by
  refine gd_of (fun hg => ?_)
  obtain ⟨B0, U, S, C, SU⟩ := B
  refine cx_110 (CJ_of B0.1 C) x1 q1 x2 q2 (CRT_of B0.1 C) SU (fun v h1 sr' nd' J1 F1 SU1 => ⟨v, rfl, ly_k J1.1.1 77 rfl, gd_of (fun hg1 => ?_)⟩)
  have B1 := BK_Fr hg B0 F1 J1.1
  obtain ⟨C1, C2⟩ := CLS_lk hg B0.1 C J1 F1 SU1
  obtain ⟨n, a, m, M⟩ := B1.2.2.1
  exact ct_197 M (FM_rf h1) x1 q1 x2 q2 (fun w n' a' m' h2 M2 F2 => ⟨w, rfl, trivial, ⟨BK_FM hg1 B1 F2 M2, CLS_FM hg1 F2 C2⟩, RM_0 (F2.1.trans F1.1) (F2.2.1.trans F1.2.1)⟩)
theorem oz_111 {h : av_H} (B : BX h) (x1 x2 x3 x4 : Int) (q1 : -2147483648 ≤ x1 ∧ x1 ≤ 2147483647) (q2 : -2147483648 ≤ x2 ∧ x2 ≤ 2147483647) (q3 : -2147483648 ≤ x3 ∧ x3 ≤ 2147483647) (q4 : -2147483648 ≤ x4 ∧ x4 ≤ 2147483647) : av_wp none cd_111 0 [some (.inr (.inr (.inl (some (0))))), some (.inl x1), some (.inl x2), some (.inl x3), some (.inl x4)] [] h (OPX cd_198 [some (.inr (.inr (.inl (some (77))))), some (.inl x1), some (.inl x2), some (.inl x3), some (.inl x4), none, none, none] h (fun x y => True)) := by
  refine gd_of (fun hg => ?_)
  obtain ⟨B0, U, S, C, SU⟩ := B
  refine cx_111 (CJ_of B0.1 C) x1 q1 x2 q2 x3 q3 x4 q4 (CRT_of B0.1 C) SU (fun v h1 sr' nd' J1 F1 SU1 p1 => ⟨v, rfl, ly_k J1.1.1 77 rfl, gd_of (fun hg1 => ?_)⟩)
  have B1 := BK_Fr hg B0 F1.1 J1.1
  obtain ⟨C1, C2⟩ := CLS_lk hg B0.1 C J1 F1.1 SU1
  obtain ⟨n, a, m, M⟩ := B1.2.2.1
  exact ct_198 M (FM_rf h1) x1 q1 x2 q2 x3 q3 x4 q4 (fun w n' a' m' h2 M2 F2 => ⟨w, rfl, trivial, ⟨BK_FM hg1 B1 F2 M2, CLS_FM hg1 F2 C2⟩, RM_0 (F2.1.trans F1.1.1) (F2.2.1.trans F1.1.2.1)⟩)
theorem oz_112 {h : av_H} (B : BX h) (x1 x2 x3 x4 x5 : Int) (q1 : -2147483648 ≤ x1 ∧ x1 ≤ 2147483647) (q2 : -2147483648 ≤ x2 ∧ x2 ≤ 2147483647) (q3 : -2147483648 ≤ x3 ∧ x3 ≤ 2147483647) (q4 : -2147483648 ≤ x4 ∧ x4 ≤ 2147483647) (q5 : -2147483648 ≤ x5 ∧ x5 ≤ 2147483647) : av_wp none cd_112 0 [some (.inr (.inr (.inl (some (0))))), some (.inl x1), some (.inl x2), some (.inl x3), some (.inl x4), some (.inl x5), none, none] [] h (OPX cd_199 [some (.inr (.inr (.inl (some (77))))), some (.inl x1), some (.inl x2), some (.inl x3), some (.inl x4), some (.inl x5)] h (fun x y => True)) := by
  refine gd_of (fun hg => ?_)
  obtain ⟨B0, U, S, C, SU⟩ := B
  refine cx_112 (CJ_of B0.1 C) x1 q1 x2 q2 x3 q3 x4 q4 x5 q5 (CRT_of B0.1 C) SU (fun v h1 sr' nd' J1 F1 SU1 p1 => ⟨v, rfl, ly_k J1.1.1 77 rfl, gd_of (fun hg1 => ?_)⟩)
  have B1 := BK_Fr hg B0 F1.1 J1.1
  obtain ⟨C1, C2⟩ := CLS_lk hg B0.1 C J1 F1.1 SU1
  obtain ⟨n, a, m, M⟩ := B1.2.2.1
  exact ct_199 M (FM_rf h1) x1 q1 x2 q2 x3 q3 x4 x5 (fun w n' a' m' h2 M2 F2 => ⟨w, rfl, trivial, ⟨BK_FM hg1 B1 F2 M2, CLS_FM hg1 F2 C2⟩, RM_0 (F2.1.trans F1.1.1) (F2.2.1.trans F1.1.2.1)⟩)
theorem oz_113 {h : av_H} (B : BX h) (x1 x2 x3 x4 : Int) (q1 : -2147483648 ≤ x1 ∧ x1 ≤ 2147483647) (q2 : -2147483648 ≤ x2 ∧ x2 ≤ 2147483647) (q3 : -2147483648 ≤ x3 ∧ x3 ≤ 2147483647) (q4 : -2147483648 ≤ x4 ∧ x4 ≤ 2147483647) : av_wp none cd_113 0 [some (.inr (.inr (.inl (some (0))))), some (.inl x1), some (.inl x2), some (.inl x3), some (.inl x4)] [] h (OPX cd_201 [some (.inr (.inr (.inl (some (77))))), some (.inl x1), some (.inl x2), some (.inl x3), some (.inl x4)] h (fun x y => True)) := by
  refine gd_of (fun hg => ?_)
  obtain ⟨B0, U, S, C, SU⟩ := B
  refine cx_113 (CJ_of B0.1 C) x1 q1 x2 q2 x3 q3 x4 q4 (CRT_of B0.1 C) SU (fun v h1 sr' nd' J1 F1 SU1 p1 => ⟨v, rfl, ly_k J1.1.1 77 rfl, gd_of (fun hg1 => ?_)⟩)
  have B1 := BK_Fr hg B0 F1 J1.1
  obtain ⟨C1, C2⟩ := CLS_lk hg B0.1 C J1 F1 SU1
  obtain ⟨n, a, m, M⟩ := B1.2.2.1
  exact ct_201 M (FM_rf h1) x1 q1 x2 q2 x3 q3 x4 q4 (fun w n' a' m' h2 M2 F2 => ⟨w, rfl, trivial, ⟨BK_FM hg1 B1 F2 M2, CLS_FM hg1 F2 C2⟩, RM_0 (F2.1.trans F1.1) (F2.2.1.trans F1.2.1)⟩)
theorem oz_114 {h : av_H} (B : BX h) (x1 x2 : Int) (q1 : -2147483648 ≤ x1 ∧ x1 ≤ 2147483647) (q2 : -2147483648 ≤ x2 ∧ x2 ≤ 2147483647) : av_wp none cd_114 0 [some (.inr (.inr (.inl (some (0))))), some (.inl x1), some (.inl x2), none, none, none, none, none] [] h (OPX cd_202 [some (.inr (.inr (.inl (some (77))))), some (.inl x1), some (.inl x2), none, none] h (fun x y => True)) := by
  refine gd_of (fun hg => ?_)
  obtain ⟨B0, U, S, C, SU⟩ := B
  refine cx_114 (CJ_of B0.1 C) x1 q1 x2 q2 (CRT_of B0.1 C) SU (fun v h1 sr' nd' J1 F1 SU1 p1 => ⟨v, rfl, ly_k J1.1.1 77 rfl, gd_of (fun hg1 => ?_)⟩)
  have B1 := BK_Fr hg B0 F1 J1.1
  obtain ⟨C1, C2⟩ := CLS_lk hg B0.1 C J1 F1 SU1
  obtain ⟨n, a, m, M⟩ := B1.2.2.1
  exact ct_202 M (FM_rf h1) x1 q1 x2 q2 (fun w n' a' m' h2 M2 F2 => ⟨w, rfl, trivial, ⟨BK_FM hg1 B1 F2 M2, CLS_FM hg1 F2 C2⟩, RM_0 (F2.1.trans F1.1) (F2.2.1.trans F1.2.1)⟩)
theorem oz_115 {h : av_H} (B : BX h) (x1 : Int) (q1 : -2147483648 ≤ x1 ∧ x1 ≤ 2147483647) : av_wp none cd_115 0 [some (.inr (.inr (.inl (some (0))))), some (.inl x1), none, none, none, none] [] h (OPX cd_204 [some (.inr (.inr (.inl (some (77))))), some (.inl x1), none, none] h (fun x y => True)) := by
  refine gd_of (fun hg => ?_)
  obtain ⟨B0, U, S, C, SU⟩ := B
  refine cx_115 (CJ_of B0.1 C) x1 q1 (CRT_of B0.1 C) SU (f30 := hA h 30) (fun _ _ => rfl) (fun b _ l h0 h1 => RLW_al B0.1 C (hA h 30) (b : Int) (Int.toNat l) (by omega)) (fun v h1 sr' nd' J1 F1 SU1 p1 => ⟨v, rfl, ly_k J1.1.1 77 rfl, gd_of (fun hg1 => ?_)⟩)
  have B1 := BK_Fr hg B0 F1 J1.1
  obtain ⟨C1, C2⟩ := CLS_lk hg B0.1 C J1 F1 SU1
  obtain ⟨n, a, m, M⟩ := B1.2.2.1
  exact ct_204 M (FM_rf h1) x1 q1 (fun w n' a' m' h2 M2 F2 => ⟨w, rfl, trivial, ⟨BK_FM hg1 B1 F2 M2, CLS_FM hg1 F2 C2⟩, RM_0 (F2.1.trans F1.1) (F2.2.1.trans F1.2.1)⟩)
theorem oz_116 {h : av_H} (B : BX h) (x1 x2 x3 x4 : Int) (q1 : -2147483648 ≤ x1 ∧ x1 ≤ 2147483647) (q2 : -2147483648 ≤ x2 ∧ x2 ≤ 2147483647) (q3 : -2147483648 ≤ x3 ∧ x3 ≤ 2147483647) (q4 : -2147483648 ≤ x4 ∧ x4 ≤ 2147483647) : av_wp none cd_116 0 [some (.inr (.inr (.inl (some (0))))), some (.inl x1), some (.inl x2), some (.inl x3), some (.inl x4)] [] h (OPX cd_205 [some (.inr (.inr (.inl (some (77))))), some (.inl x1), some (.inl x2), some (.inl x3), some (.inl x4), none, none, none, none] h (fun x y => True)) := by
  refine gd_of (fun hg => ?_)
  obtain ⟨B0, U, S, C, SU⟩ := B
  refine cx_116 (CJ_of B0.1 C) x1 q1 x2 q2 x3 q3 x4 q4 (CRT_of B0.1 C) SU (fun v h1 sr' nd' J1 F1 SU1 p1 => ⟨v, rfl, ly_k J1.1.1 77 rfl, gd_of (fun hg1 => ?_)⟩)
  have B1 := BK_Fr hg B0 F1.1 J1.1
  obtain ⟨C1, C2⟩ := CLS_lk hg B0.1 C J1 F1.1 SU1
  obtain ⟨n, a, m, M⟩ := B1.2.2.1
  exact ct_205 M (FM_rf h1) x1 q1 x2 q2 x3 q3 x4 q4 (fun w n' a' m' h2 M2 F2 => ⟨w, rfl, trivial, ⟨BK_FM hg1 B1 F2 M2, CLS_FM hg1 F2 C2⟩, RM_0 (F2.1.trans F1.1.1) (F2.2.1.trans F1.1.2.1)⟩)
theorem oz_117 {h : av_H} (B : BX h) (x1 x2 x3 x4 x5 : Int) (q1 : -2147483648 ≤ x1 ∧ x1 ≤ 2147483647) (q2 : -2147483648 ≤ x2 ∧ x2 ≤ 2147483647) (q3 : -2147483648 ≤ x3 ∧ x3 ≤ 2147483647) (q4 : -2147483648 ≤ x4 ∧ x4 ≤ 2147483647) (q5 : -2147483648 ≤ x5 ∧ x5 ≤ 2147483647) : av_wp none cd_117 0 [some (.inr (.inr (.inl (some (0))))), some (.inl x1), some (.inl x2), some (.inl x3), some (.inl x4), some (.inl x5), none] [] h (OPX cd_207 [some (.inr (.inr (.inl (some (77))))), some (.inl x1), some (.inl x2), some (.inl x3), some (.inl x4), some (.inl x5)] h (fun x y => True)) := by
  refine gd_of (fun hg => ?_)
  obtain ⟨B0, U, S, C, SU⟩ := B
  refine cx_117 (CJ_of B0.1 C) x1 q1 x2 q2 x3 q3 x4 q4 x5 q5 (CRT_of B0.1 C) SU (fun v h1 sr' nd' J1 F1 SU1 p1 => ⟨v, rfl, ly_k J1.1.1 77 rfl, gd_of (fun hg1 => ?_)⟩)
  have B1 := BK_Fr hg B0 F1.1 J1.1
  obtain ⟨C1, C2⟩ := CLS_lk hg B0.1 C J1 F1.1 SU1
  obtain ⟨n, a, m, M⟩ := B1.2.2.1
  exact ct_207 M (FM_rf h1) x1 q1 x2 q2 x3 q3 x4 q4 x5 q5 (fun w n' a' m' h2 M2 F2 => ⟨w, rfl, trivial, ⟨BK_FM hg1 B1 F2 M2, CLS_FM hg1 F2 C2⟩, RM_0 (F2.1.trans F1.1.1) (F2.2.1.trans F1.1.2.1)⟩)
theorem oz_118 {h : av_H} (B : BX h) (x1 x2 x3 x4 x5 : Int) (q1 : -2147483648 ≤ x1 ∧ x1 ≤ 2147483647) (q2 : -2147483648 ≤ x2 ∧ x2 ≤ 2147483647) (q3 : -2147483648 ≤ x3 ∧ x3 ≤ 2147483647) (q4 : -2147483648 ≤ x4 ∧ x4 ≤ 2147483647) (q5 : -2147483648 ≤ x5 ∧ x5 ≤ 2147483647) : av_wp none cd_118 0 [some (.inr (.inr (.inl (some (0))))), some (.inl x1), some (.inl x2), some (.inl x3), some (.inl x4), some (.inl x5)] [] h (OPX cd_208 [some (.inr (.inr (.inl (some (77))))), some (.inl x1), some (.inl x2), some (.inl x3), some (.inl x4), some (.inl x5), none] h (fun x y => True)) := by
  refine gd_of (fun hg => ?_)
  obtain ⟨B0, U, S, C, SU⟩ := B
  refine cx_118 (CJ_of B0.1 C) x1 q1 x2 q2 x3 q3 x4 q4 x5 q5 (CRT_of B0.1 C) SU (fun v h1 sr' nd' J1 F1 SU1 p1 => ⟨v, rfl, ly_k J1.1.1 77 rfl, gd_of (fun hg1 => ?_)⟩)
  have B1 := BK_Fr hg B0 F1.1 J1.1
  obtain ⟨C1, C2⟩ := CLS_lk hg B0.1 C J1 F1.1 SU1
  obtain ⟨n, a, m, M⟩ := B1.2.2.1
  exact ct_208 M (FM_rf h1) x1 q1 x2 q2 x3 q3 x4 q4 x5 q5 (fun w n' a' m' h2 M2 F2 => ⟨w, rfl, trivial, ⟨BK_FM hg1 B1 F2 M2, CLS_FM hg1 F2 C2⟩, RM_0 (F2.1.trans F1.1.1) (F2.2.1.trans F1.1.2.1)⟩)
theorem oz_120 {h : av_H} (B : BX h) (x1 x2 x3 : Int) (q1 : -2147483648 ≤ x1 ∧ x1 ≤ 2147483647) (q2 : -2147483648 ≤ x2 ∧ x2 ≤ 2147483647) (q3 : -2147483648 ≤ x3 ∧ x3 ≤ 2147483647) : av_wp none cd_120 0 [some (.inr (.inr (.inl (some (0))))), some (.inl x1), some (.inl x2), some (.inl x3), none] [] h (OPX cd_211 [some (.inr (.inr (.inl (some (77))))), some (.inl x1), some (.inl x2), some (.inl x3)] h (fun x y => x = y)) := by
  refine gd_of (fun hg => ?_)
  obtain ⟨B0, U, S, C, SU⟩ := B
  refine cx_120 (CJ_of B0.1 C) x1 q1 x2 q2 x3 q3 (CRT_of B0.1 C) SU (CWB_al B0.1 C) (fun v g h1 a b sr' nd' ha hb A J1 F1 SU1 p1 => ⟨v, rfl, ly_k J1.1.1 77 rfl, gd_of (fun hg1 => ?_)⟩)
  have G0 : av_Gd g := fun q hq => by rw [show g.1 = h1.1 from F1.1.symm]; exact hg1 q (by rw [show h1.2.2.1 q = g.2.2.1 q from congrFun F1.2.2.1 q]; exact hq)
  have Bg := BK_al hg B0 A
  have cfa := CF0_al hg B0.1.1 A
  have Cg := CLU_cf hg cfa C
  have B1 := BK_Fr G0 Bg F1 J1.1
  obtain ⟨C1, C2⟩ := CLS_lk G0 Bg.1 Cg (by rw [cfa.2.1.1]; exact J1) F1 (by rw [cfa.2.1.1, cfa.2.1.2.1]; exact SUA_c SU1 (fun l hl _ => cfa.2.2.2.1 _ (by omega) (by omega)))
  have RX := RXX_of B1 C1 (ro := fun k => hA h (6 + k)) (fun l hl => (((CF0_Fr G0 Bg.1.1 F1).2.2.2.1 (6 + l) (by omega) (by omega)).trans (cfa.2.2.2.1 (6 + l) (by omega) (by omega))).symm)
  obtain ⟨c78, c79, c80⟩ := c78_of G0 Bg.1 F1 B1
  rw [cfa.2.1.1] at c78
  rw [cfa.2.1.2.1] at c79
  have CB1 : ∀ c : Nat, (c : Int) < hA h1 78 0 → CWB (U c) (S c) := fun c hc => CWB_al B0.1 C c (by rw [← c78]; exact hc)
  have rm : ∀ h2 : av_H, FM h1 h2 → RM h h2 := fun h2 F2 => by
    have e1 := F2.1
    have e2 := F2.2.1
    have e3 := F1.1
    have e4 := F1.2.1
    have e5 := A.1
    have e6 := A.2.1
    exact ⟨by omega, by omega⟩
  obtain ⟨n, a', m, M⟩ := B1.2.2.1
  rcases p1 with p1 | p1
  · obtain ⟨no, e⟩ := p1
    refine cx_211 M (FM_rf h1) RX x1 q1 x2 q2 x3 q3 CB1 (V := fun _ => 0) (fun z => absurd (by rw [c78, c79] at z; exact z) no) (fun w n' a'' m' h2 p2 M2 F2 => ⟨w, rfl, ?_, ⟨BK_FM hg1 B1 F2 M2, CLS_FM hg1 F2 C2⟩, rm h2 F2⟩)
    rw [c78, c79] at p2
    rcases p2 with z | z
    · exact absurd z.1 no
    · exact e.trans z.2.symm
  · obtain ⟨ok, u, hu, e⟩ := p1
    refine cx_211 M (FM_rf h1) RX x1 q1 x2 q2 x3 q3 CB1 (V := u) (fun _ => hu) (fun w n' a'' m' h2 p2 M2 F2 => ⟨w, rfl, ?_, ⟨BK_FM hg1 B1 F2 M2, CLS_FM hg1 F2 C2⟩, rm h2 F2⟩)
    rw [c78, c79] at p2
    rcases p2 with z | z
    · exact e.trans z.2.symm
    · exact absurd ok z.1
theorem oz_121 {h : av_H} (B : BX h) (x1 x2 x3 : Int) (q1 : -2147483648 ≤ x1 ∧ x1 ≤ 2147483647) (q2 : -2147483648 ≤ x2 ∧ x2 ≤ 2147483647) (q3 : -2147483648 ≤ x3 ∧ x3 ≤ 2147483647) : av_wp none cd_121 0 [some (.inr (.inr (.inl (some (0))))), some (.inl x1), some (.inl x2), some (.inl x3), none] [] h (OPX cd_212 [some (.inr (.inr (.inl (some (77))))), some (.inl x1), some (.inl x2), some (.inl x3), none] h (fun x y => True)) := by
  refine gd_of (fun hg => ?_)
  obtain ⟨B0, U, S, C, SU⟩ := B
  refine cx_121 (CJ_of B0.1 C) x1 q1 x2 q2 x3 q3 (CRT_of B0.1 C) SU (CWB_al B0.1 C) (fun v g h1 a b sr' nd' ha hb A J1 F1 SU1 p1 => ⟨v, rfl, ly_k J1.1.1 77 rfl, gd_of (fun hg1 => ?_)⟩)
  have G0 : av_Gd g := fun q hq => by rw [show g.1 = h1.1 from F1.1.symm]; exact hg1 q (by rw [show h1.2.2.1 q = g.2.2.1 q from congrFun F1.2.2.1 q]; exact hq)
  have Bg := BK_al hg B0 A
  have cfa := CF0_al hg B0.1.1 A
  have Cg := CLU_cf hg cfa C
  have B1 := BK_Fr G0 Bg F1 J1.1
  obtain ⟨C1, C2⟩ := CLS_lk G0 Bg.1 Cg (by rw [cfa.2.1.1]; exact J1) F1 (by rw [cfa.2.1.1, cfa.2.1.2.1]; exact SUA_c SU1 (fun l hl _ => cfa.2.2.2.1 _ (by omega) (by omega)))
  have rm : ∀ h2 : av_H, FM h1 h2 → RM h h2 := fun h2 F2 => by
    have e1 := F2.1
    have e2 := F2.2.1
    have e3 := F1.1
    have e4 := F1.2.1
    have e5 := A.1
    have e6 := A.2.1
    exact ⟨by omega, by omega⟩
  obtain ⟨n, a', m, M⟩ := B1.2.2.1
  exact ct_212 M (FM_rf h1) x1 q1 x2 q2 x3 q3 (fun w n' a'' m' h2 M2 F2 => ⟨w, rfl, trivial, ⟨BK_FM hg1 B1 F2 M2, CLS_FM hg1 F2 C2⟩, rm h2 F2⟩)
end
section
/-! THE BOOK AT THE START, with the class's own -/
set_option maxRecDepth 100000 in
set_option maxHeartbeats 16000000 in
theorem h3_27 : ∀ j, j < 144 → hA av_h3 27 j = 0 := by decide +kernel
theorem h3_CLS : CLS av_h3 := by
  refine ⟨fun _ _ => 0, fun _ => 0, ⟨fun i _ hi => ?_, fun l _ hl => ?_, fun c _ hc => ?_, fun i _ hi => ?_⟩, SUA_0 h3_27⟩
  · rw [h3_F.2.2.2.2.2.2.2.2.1] at hi
    omega
  · rw [h3_F.2.2.2.2.2.2.2.2.2.1] at hl
    omega
  · rw [h3_F.2.2.2.2.2.2.2.2.2.2.1] at hc
    omega
  · rw [h3_F.1] at hi
    omega
theorem h3_BX : BX av_h3 := ⟨h3_BK, h3_CLS⟩
end
