/-! FEED KEEPS THE BOOK -/
theorem fe_lowc : LOW fdA nun1 fdF nun2 := ⟨fun q e => by unfold fdA at e; omega, fun q e => e.elim, fun q j e => by unfold fdF at e; omega, fun q j e => e.elim⟩
theorem fe_lowm : LOW mfA nun1 mfF nun2 := ⟨fun q e => by unfold mfA at e; omega, fun q e => e.elim, fun q j e => by unfold mfF at e; omega, fun q j e => e.elim⟩
theorem op_feed {h : av_H} (B : BK h) (a b c d e : Int) : av_wp none cd_94 0 [some (.inr (.inr (.inl (some (0))))), some (.inl a), some (.inl b), some (.inl c), some (.inl d), some (.inl e)] [] h (OPr cd_128 [some (.inr (.inr (.inl (some (77))))), some (.inl a), some (.inl b), some (.inl c), some (.inl d), some (.inl e), none, none] h (fun x y => x = y)) := by
  refine gd_of (fun hg => ?_)
  have B0 := B
  obtain ⟨I, K, ⟨n0, a0, m0, M⟩, ⟨p1, p2, p3⟩, S, X⟩ := B
  have L := I.1
  have ql := K.2.1
  have l : ∀ {q : Nat}, q < 122 → q < h.1 := fun hq => ly_lt hg L hq
  have l18 : 3 + 18 ≤ h.1 := by have := l (q := 100) (by omega); omega
  have el : hF h 1 1 = ((hF h 1 1).toNat : Int) := by omega
  refine ct_94 L el (by omega) a b c d e (fun z => ?_) (fun z h1 F1 b1 l1 => ?_)
  · refine ⟨-1, rfl, ly_k L 77 rfl, ?_⟩
    exact ct_128 L (p2.trans el) (by omega) a b c d e (fun _ => ⟨-1, rfl, rfl, B0, RM_0 rfl rfl⟩) (fun z2 => by exfalso; omega)
  · refine ⟨_, rfl, ly_k (FE_ly F1 L) 77 rfl, gd_of (fun hg1 => ?_)⟩
    have L1 := FE_ly F1 L
    have e17 : hF h1 77 17 = ((hF h 1 1).toNat : Int) := (F1.2.2.2.2.2.2 77 17 (fun z => by unfold fdF at z; omega)).trans (p2.trans el)
    have ea1 : ∀ q, q ≠ 2 → hA h1 q = hA h q := fun q hq => F1.2.2.2.2.2.1 q hq
    have ef1 : ∀ o f, ¬ (o = 1 ∧ f = 1) → hF h1 o f = hF h o f := fun o f hq => F1.2.2.2.2.2.2 o f hq
    refine ct_128 L1 e17 (by omega) a b c d e (fun z2 => by exfalso; omega) (fun _ h2 F2 b2 l2 => ⟨_, rfl, rfl, ?_, ?_⟩)
    · have L2 := FE_ly F2 L1
      have ea2 : ∀ q, q ≠ 94 → hA h2 q = hA h1 q := fun q hq => F2.2.2.2.2.2.1 q hq
      have ef2 : ∀ o f, ¬ (o = 77 ∧ f = 17) → hF h2 o f = hF h1 o f := fun o f hq => F2.2.2.2.2.2.2 o f hq
      have Q1 : FQ fdA nun1 fdF nun2 h h1 0 0 := FE_fq F1
      have Q2 : FQ mfA nun1 mfF nun2 h1 h2 0 0 := FE_fq F2
      have l1' : ∀ {q : Nat}, q < 122 → q < h1.1 := fun hq => ly_lt hg1 L1 hq
      have l18' : 3 + 18 ≤ h1.1 := by have := l1' (q := 100) (by omega); omega
      have S1 : SL h1 (hA h1) 3 0 := SL_ag (SL_fq hg fe_lowc Q1 l18 (fun j z => by unfold fdF at z; omega) (fun z => z) (fun j z1 z2 z => by unfold fdA at z; omega) S) (AGB_eq 0 (fun q z1 z2 => ea1 q (by omega)))
      have S2 : SL h2 (hA h2) 3 0 := SL_ag (SL_fq hg1 fe_lowm Q2 l18' (fun j z => by unfold mfF at z; omega) (fun z => z) (fun j z1 z2 z => by unfold mfA at z; omega) S1) (AGB_eq 0 (fun q z1 z2 => ea2 q (by omega)))
      have K1 : KT h1 := by
        obtain ⟨⟨lim, t, C⟩, x2, x3, o1, o2, o3, o4, o5, o6⟩ := K
        obtain ⟨_, _, c3, c4, c5, c6, c7, c8, _, _, c11, c12, c13⟩ := C
        refine ⟨⟨lim, t, L1, rfl, ?_, (ef1 1 2 (by omega)).trans c4, (ef1 1 3 (by omega)).trans c5, (ef1 1 4 (by omega)).trans c6, (ef1 1 5 (by omega)).trans c7, (ef1 1 6 (by omega)).trans c8, rfl, rfl, c11, ?_, ?_⟩, ?_, ?_, ?_, (ef1 74 1 (by omega)).trans o2, (ef1 74 3 (by omega)).trans o3, ?_, ?_, (ea1 76 (by omega)).trans o6⟩
        · rw [b1]; exact fd5_bd c3
        · rw [ea1 23 (by omega)]; exact c12
        · rw [ea1 25 (by omega)]; exact c13
        · rw [l1]; omega
        · rw [ea1 23 (by omega)]; exact x3
        · rw [F1.2.2.1]; exact o1
        · rw [F1.2.2.2.1]; exact o4
        · rw [F1.2.2.1]; exact o5
      have I1 : IC h1 := IC_op hg I Q1 (fun q e => by unfold fdA at e; subst e; rfl) (fun q e => e.elim) (fun q j e => by unfold fdF at e; obtain ⟨e1, e2⟩ := e; subst e1; subst e2; rfl) K1 S1.2.1 (cn_sl S1)
      have I2 : IC h2 := IC_eq L2 (fun q => congrFun F2.2.2.1 q) (fun q hq => ea2 q (by omega)) (fun q k hq => ef2 q k (by omega)) (fun q => congrFun F2.2.2.2.1 q) (fun q => congrFun F2.2.2.2.2.1 q) I1
      refine ⟨I2, KT_fq hg1 L1 L2 Q2 (fun z => by unfold mfA at z; omega) (fun z => by unfold mfA at z; omega) (fun z => by unfold mfA at z; omega) (fun z => by unfold mfA at z; omega) (fun j z => by unfold mfF at z; omega) (fun j z => by unfold mfF at z; omega) (fun j z => z) K1, ⟨n0, a0, m0, IMF_of M L2 (fun q z1 z2 => (ea2 q (by omega)).trans (ea1 q (by omega))) (fun k hk => (ef2 77 k (fun z => by rw [z.2] at hk; cases hk)).trans (ef1 77 k (by omega))) (MV_of (fun q z1 z2 j => by rw [ea2 q (by omega), ea1 q (by omega)]; exact im_bn M q z1 z2 j) (fun j => by rw [ea2 81 (by omega), ea1 81 (by omega)]; exact im_m81 M j) S2)⟩, ⟨?_, ?_, ?_⟩, S2, ?_⟩
      · rw [b2, ea2 2 (by omega), b1, ea1 94 (by omega), p1]
      · rw [l2, ef2 1 1 (by omega), l1]
      · rw [ef2 77 18 (by omega), ef2 0 8 (by omega), ef1 77 18 (by omega), ef1 0 8 (by omega)]; exact p3
      · have X1 : XI h1 (hA h1) := XI_ag (XI_fq hg L fe_lowc Q1 (fun z => by unfold fdF at z; omega) (fun z => by unfold fdF at z; omega) (fun z => z) X) (fun i _ _ => AGB_eq (i + 1) (fun q z1 z2 => ea1 q (by omega)))
        exact XI_ag (XI_fq hg1 L1 fe_lowm Q2 (fun z => by unfold mfF at z; omega) (fun z => by unfold mfF at z; omega) (fun z => z) X1) (fun i _ _ => AGB_eq (i + 1) (fun q z1 z2 => ea2 q (by omega)))
    · exact RM_0 (F2.1.trans F1.1) (F2.2.1.trans F1.2.1)
