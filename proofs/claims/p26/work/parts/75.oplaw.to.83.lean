section
/-! LAW AND CLAUSE KEEP THE BOOK -/
theorem md_FQ {h1 g2 : av_H} {A2 : Nat → Nat → Int} (F2 : FD h1 g2) (eo : ∀ a, ¬ mdA a → A2 a = hA g2 a) : FQ mdA nun1 fdF2 nun2 h1 (stA g2 A2) 0 0 := FQ_tr (FQ_mo (FQ_FD F2) (fun q e => by unfold fdA2 at e; unfold mdA; omega) (fun _ e => e) (fun _ _ e => e) (fun _ _ e => e)) (FQ_A eo)
/-- rows of one case, nothing else: as if no case was read -/
theorem AGB_93 {A A' : Nat → Nat → Int} {at0 b : Nat} (w : ∀ a j, ¬ (a = 93 ∧ at0 ≤ j ∧ j < at0 + 14) → A' a j = A a j) (ha : at0 + 14 ≤ 196) (hb : 1 ≤ b) : AGB b A A' := by
  refine ⟨⟨w _ _ (by omega), w _ _ (by omega), w _ _ (by omega)⟩, fun i _ => w _ _ (by omega), fun i _ o ho => ?_, fun k _ => w _ _ (by omega)⟩
  have := vq_in o ho
  exact w _ _ (by omega)
theorem rl_13 {b : Nat → Int} {lim : Nat} {y : Int} {t : TT} {d : Nat → Int} : 0 ≤ (rlA b lim y t d).2.2 13 := by
  have e : (rlA b lim y t d).2.2 13 = ((rlf b lim 21 0 t (ufil d 0 14 (-2))).1 : Int) := by
    show av_u1 (rlf b lim 21 0 t (ufil d 0 14 (-2))).2.2 13 ((rlf b lim 21 0 t (ufil d 0 14 (-2))).1 : Int) 13 = _
    exact u1_eq
  rw [e]
  omega
theorem lov_v {f d : Nat → Int} {k : Nat} (hk : k < 14) : lov (plr f av_plain) d 14 k = if d k = -2 then av_plain k else d k := by
  unfold lov plr
  by_cases e : d k = -2
  · rw [if_neg (fun z => z.2 e), if_pos hk, if_pos e]
  · rw [if_pos ⟨hk, e⟩, if_neg e]
theorem plain_b : ∀ k, k < 14 → -2 ≤ av_plain k ∧ av_plain k ≤ 999 := by decide
theorem BM_lfault {h1 h2 : av_H} {b : Nat → Int} {lim at0 : Nat} {t : TT} (G : av_Gd h1) (B : BM h1) (N : MT b lim t 0 (hA h2) h2) (F : FD h1 h2) (w : ∀ a j, ¬ (a = 93 ∧ at0 ≤ j ∧ j < at0 + 14) → hA h2 a j = hA h1 a j) (ha : (∃ l : Nat, at0 = 14 * l ∧ hF h1 3 4 = (l : Int) ∧ l < 8) ∨ (∃ l : Nat, at0 = 112 + 14 * l ∧ hF h1 3 5 = (l : Int) ∧ l < 6)) (l1 : hF h1 1 1 = 0) (w1 : hF h1 0 8 = t.2.2.2) : BK h2 := by
  obtain ⟨I, K, ⟨n0, a0, m0, M⟩, p1, S, X⟩ := B
  have L := I.1
  have l : ∀ {q : Nat}, q < 122 → q < h1.1 := fun hq => ly_lt G L hq
  have l18 : 3 + 18 ≤ h1.1 := by have := l (q := 100) (by omega); omega
  have Q := FQ_FD F
  have I2 : IC h2 := IC_FD F I
  have fF : ∀ q k, q ≠ 77 → hF h2 q k = hF h1 q k := fun q k hq => F.2.2.2.2.2.1 q k (by simp only [rdF, nbeq hq, Bool.false_and])
  have a196 : at0 + 14 ≤ 196 := by rcases ha with ⟨q, h1, _, h2⟩ | ⟨q, h1, _, h2⟩ <;> omega
  have wa : ∀ a, a ≠ 93 → hA h2 a = hA h1 a := fun a ha => by funext j; exact w a j (fun z => ha z.1)
  have wr : ∀ i o, o < 19 → rwA (hA h2) i o = rwA (hA h1) i o := fun i o ho => by
    have := vq_in o ho
    exact w _ _ (by omega)
  have S2 : SL h2 (hA h2) 3 0 := by
    refine SL_fq G fd_low Q l18 (fun j z => by unfold fdF2 at z; omega) (fun z => z) (fun j h1 h2 z => by unfold fdA2 at z; omega) ?_
    obtain ⟨x1, x2, x3, x4, x5⟩ := S
    refine ⟨by unfold SLn at x1 ⊢; rw [wa 78 (by decide), wa 79 (by decide), wa 80 (by decide)]; exact x1, x2, fun i hi h1 => CS_ag2 (x3 i hi h1) (by rw [wa 81 (by decide)]) (fun j _ _ q hq => wr _ q hq), fun q hq h1 => LW_ag (x4 q hq h1) (fun k hk => w _ _ ?_), fun q hq h1 => QW_ag (x5 q hq h1) (fun k hk => w _ _ ?_)⟩
    · rcases ha with ⟨c, e1, e2, e3⟩ | ⟨c, e1, e2, e3⟩ <;> omega
    · rcases ha with ⟨c, e1, e2, e3⟩ | ⟨c, e1, e2, e3⟩ <;> omega
  refine ⟨I2, KT_fq G L I2.1 Q (fun z => by unfold fdA2 at z; omega) (fun z => by unfold fdA2 at z; omega) (fun z => by unfold fdA2 at z; omega) (fun z => by unfold fdA2 at z; omega) (fun j z => by unfold fdF2 at z; omega) (fun j z => by unfold fdF2 at z; omega) (fun j z => z) K, ⟨n0, a0, m0, IMF_of M I2.1 (fun q h1 _ => F.2.2.2.2.2.2 q (rdA_big (by omega))) (fun k hk => F.2.2.2.2.2.1 77 k (mF_rdF hk)) (MV_of (fun a z1 z2 j => by rw [wa a (by omega)]; exact im_bn M a z1 z2 j) (fun j => by rw [F.2.2.2.2.2.2 81 rfl]; exact im_m81 M j) S2)⟩, ⟨?_, ?_, ?_⟩, S2, ?_⟩
  · rw [F.2.2.2.2.2.2 94 rfl, F.2.2.2.2.2.2 2 rfl]; exact p1
  · rw [ns_17 N.1, fF 1 1 (by decide), l1]
  · rw [ns_18 N.1, fF 0 8 (by decide), w1]
  · exact XI_fq G L fd_low Q (fun z => by unfold fdF2 at z; omega) (fun z => by unfold fdF2 at z; omega) (fun z => z) (XI_ag X (fun i _ _ => AGB_93 w a196 (by omega)))

theorem op_law {h : av_H} (B : BK h) (n : Int) (qn : -2147483648 ≤ n ∧ n ≤ 2147483647) : av_wp none cd_97 0 [some (.inr (.inr (.inl (some (0))))), some (.inl n), none] [] h (OPr cd_156 [some (.inr (.inr (.inl (some (77))))), some (.inl n)] h (fun x y => x = y)) := by
  refine gd_of (fun hg => ?_)
  have B0 := B
  obtain ⟨I, K, ⟨n0, a0, m0, M⟩, ⟨p1, p2, p3⟩, S, XX⟩ := B
  have L := I.1
  have bv := kt_bv K
  have ql := K.2.1
  have qc := S.1.2.2.1
  have l : ∀ {q : Nat}, q < 122 → q < h.1 := fun hq => ly_lt hg L hq
  refine ct_97 I K n qn (fun zA => ?_) (fun z1 z2 z3 => ?_) (fun z1 z2 z3 z4 h1 F1 K1 l1 w1 c1 => ?_) (fun z1 z2 z3 z4 h1 F1 K1 l1 w1 c1 r1 dv => ?_)
  · refine ⟨-2, rfl, ly_k L 77 rfl, ?_⟩
    exact ct_156 L p1 bv p2 ql S.1.1.2.1.symm qc (hA h 25) n qn (fun _ => ⟨-2, rfl, rfl, B0, RM_0 rfl rfl⟩) (fun _ _ _ => by exfalso; omega) (fun _ _ _ _ => by exfalso; omega) (fun _ _ _ _ => by exfalso; omega)
  · refine ⟨-3, rfl, ly_k L 77 rfl, ?_⟩
    exact ct_156 L p1 bv p2 ql S.1.1.2.1.symm qc (hA h 25) n qn (fun _ => by exfalso; omega) (fun _ _ _ => ⟨-3, rfl, rfl, B0, RM_0 rfl rfl⟩) (fun _ _ _ _ => by exfalso; omega) (fun _ _ _ _ => by exfalso; omega)
  · refine ⟨-1, rfl, ly_k (kt_L K1) 77 rfl, gd_of (fun hg1 => ?_)⟩
    have M1 := BM_read hg B0 (FQ_s0 F1 c1) K1
    have ea : ∀ a, a < 122 → a ≠ 23 → a ≠ 25 → hA h1 a = hA h a := fun a z1 z2 z3 => (F1.2.2 a (l z1)).2.2.1 (fun z => by unfold rdA2 at z; omega)
    have e17 : hF h1 77 17 = hF h 1 1 := ((F1.2.2 77 (l (by omega))).2.2.2.2 17 (fun z => by unfold rdF2 at z; omega)).trans p2
    refine ct_156 (kt_L K1) ((ea 94 (by omega) (by omega) (by omega)).trans p1) bv e17 ql ((congrFun (ea 79 (by omega) (by omega) (by omega)) 0).trans S.1.1.2.1.symm) qc (hA h 25) n qn (fun _ => by exfalso; omega) (fun _ _ _ => by exfalso; omega) (fun _ _ _ _ h2 N2 F2 W2 => ⟨-1, rfl, rfl, ?_, ?_⟩) (fun _ _ _ y => absurd y z4)
    · exact BM_lfault hg1 M1 N2 F2 W2 (Or.inl ⟨(hF h 3 4).toNat, rfl, by rw [c1]; omega, by omega⟩) l1 w1
    · exact RM_0 (F2.1.trans F1.1) (F2.2.1.trans F1.2.1)
  · refine ⟨hF h 3 4, rfl, ly_k (kt_L K1) 77 rfl, gd_of (fun hg1 => ?_)⟩
    have ea : ∀ a, a < 122 → a ≠ 23 → a ≠ 25 → a ≠ 6 + (hF h 3 4).toNat → hA h1 a = hA h a := fun a z1 z2 z3 z4 => (F1.2.2 a (l z1)).2.2.1 (fun z => by unfold lwA at z; omega)
    have e17 : hF h1 77 17 = hF h 1 1 := ((F1.2.2 77 (l (by omega))).2.2.2.2 17 (fun z => by unfold rdF2 at z; omega)).trans p2
    have ef1 : ∀ k, k ≠ 4 → hF h1 3 k = hF h 3 k := fun k hk => (F1.2.2 3 (l (by omega))).2.2.2.2 k (fun z => by unfold rdF2 at z; omega)
    have er1 : hR h1 4 = hR h 4 := (F1.2.2 4 (l (by omega))).2.2.2.1 (fun z => z)
    have low := lw_low (x := 4) (y := 6 + (hF h 3 4).toNat) (by omega)
    have ob := S.2.1.2.1 ((hF h 3 4).toNat) (by omega)
    rw [show 3 + 3 + (hF h 3 4).toNat = 6 + (hF h 3 4).toNat by omega] at ob
    have rb : ∀ k, -2 ≤ hA h1 (6 + (hF h 3 4).toNat) k ∧ hA h1 (6 + (hF h 3 4).toNat) k ≤ 999 := fun k => by
      rw [r1]
      unfold lov plr
      (repeat' split)
      · exact dv k
      · exact plain_b k (by omega)
      · exact ob k
    refine ct_156 (kt_L K1) ((ea 94 (by omega) (by omega) (by omega) (by omega)).trans p1) bv e17 ql ((congrFun (ea 79 (by omega) (by omega) (by omega) (by omega)) 0).trans S.1.1.2.1.symm) qc (hA h 25) n qn (fun _ => by exfalso; omega) (fun _ _ _ => by exfalso; omega) (fun _ _ _ y => absurd z4 y) (fun _ _ _ _ g2 N2 F2 W2 Y2 => ⟨hF h 3 4, rfl, rfl, ?_, ?_⟩)
    · -- the class's part
      have sr1 : SLr h1 3 := by
        refine ⟨fun i hi => CW_fq hg low F1 (congrFun er1 i) (S.2.1.1 i hi), fun q hq k => ?_, fun q hq k => ?_⟩
        · by_cases e : 3 + 3 + q = 6 + (hF h 3 4).toNat
          · rw [e]; exact rb k
          · rw [ea _ (by omega) (by omega) (by omega) e]; exact S.2.1.2.1 q hq k
        · by_cases e : 3 + 12 + q = 6 + (hF h 3 4).toNat
          · rw [e]; exact rb k
          · rw [ea _ (by omega) (by omega) (by omega) e]; exact S.2.1.2.2 q hq k
      have cn1 : CN h1 := by
        refine ⟨?_, ?_, ?_⟩
        · rw [ef1 3 (by decide)]; exact S.1.2.1
        · rw [c1]; omega
        · rw [ef1 5 (by decide)]; exact S.1.2.2.2
      have I1 : IC h1 := IC_op hg I F1 (fun q e => by
        unfold lwA at e
        have hh : ∀ q, q < 122 → (q = 23 ∨ q = 25 ∨ (6 ≤ q ∧ q < 6 + 8)) → bA q = true := by decide
        exact hh q (by omega) (by omega)) (fun q e => e.elim) (rdF2_bF (by omega)) K1 sr1 cn1
      have L1 := I1.1
      have Q2 := md_FQ (A2 := av_u2 (hA g2) 79 0 (hF h 3 4 + 1)) F2 (fun a ha => av_u2_ne (fun z => ha (by unfold mdA; omega)))
      have I2g : IC g2 := IC_FD F2 I1
      have eo : ∀ a, a ≠ 79 → av_u2 (hA g2) 79 0 (hF h 3 4 + 1) a = hA g2 a := fun a ha => av_u2_ne ha
      have eq0 : av_u2 (hA g2) 79 0 (hF h 3 4 + 1) 79 0 = hF h 3 4 + 1 := av_u2_self
      have eqo : ∀ j, j ≠ 0 → av_u2 (hA g2) 79 0 (hF h 3 4 + 1) 79 j = hA g2 79 j := fun j hj => av_u2_oth hj
      show BK (stA g2 (av_u2 (hA g2) 79 0 (hF h 3 4 + 1)))
      generalize av_u2 (hA g2) 79 0 (hF h 3 4 + 1) = A2 at Q2 eo eq0 eqo ⊢
      have I2 : IC (stA g2 A2) := IC_eq (g := g2) (h := stA g2 A2) I2g.1 (fun _ => rfl) (fun q hq => eo q (by omega)) (fun _ _ _ => rfl) (fun _ => rfl) (fun _ => rfl) I2g
      have fF : ∀ q k, q ≠ 77 → hF (stA g2 A2) q k = hF h1 q k := fun q k hq => F2.2.2.2.2.2.1 q k (by simp only [rdF, nbeq hq, Bool.false_and])
      have eR : hR (stA g2 A2) = hR h1 := F2.2.2.2.1
      have w93 : ∀ j, ¬ (14 * (hF h 3 4).toNat ≤ j ∧ j < 14 * (hF h 3 4).toNat + 14) → A2 93 j = hA h 93 j := fun j hj => by
        rw [eo 93 (by decide), W2 93 j (fun z => hj z.2), ea 93 (by omega) (by omega) (by omega) (by omega)]
      have wa : ∀ a, a ≠ 79 → a ≠ 93 → a < 122 → a ≠ 23 → a ≠ 25 → a ≠ 6 + (hF h 3 4).toNat → A2 a = hA h a := fun a e1 e2 e3 e4 e5 e6 => by
        rw [eo a e1, ← ea a e3 e4 e5 e6]
        funext j
        exact W2 a j (fun z => e2 z.1)
      have wr : ∀ i o, o < 19 → rwA A2 i o = rwA (hA h) i o := fun i o ho => by
        have := vq_in o ho
        show A2 (vq o) _ = hA h (vq o) _
        rw [wa (vq o) (by omega) (by omega) (by omega) (by omega) (by omega) (by omega)]
      have wc : ∀ a, a < 77 → A2 a = hA h1 a := fun a ha => by
        rw [eo a (by omega)]
        funext j
        exact W2 a j (by omega)
      have S2 : SL (stA g2 A2) A2 3 0 := by
        refine ⟨⟨⟨?_, ?_, ?_⟩, ?_, ?_, ?_⟩, ⟨fun i hi => CW_fq hg1 md_low Q2 (congrFun (congrFun eR _) _) (sr1.1 i hi), fun q hq k => ?_, fun q hq k => ?_⟩, fun i hi hq1 => ?_, fun q hq hq1 => ?_, fun q hq hq1 => ?_⟩
        · rw [fF 3 3 (by decide), ef1 3 (by decide), wa 78 (by decide) (by decide) (by omega) (by omega) (by omega) (by omega)]; exact S.1.1.1
        · rw [fF 3 4 (by decide), c1, eq0]
        · rw [fF 3 5 (by decide), ef1 5 (by decide), wa 80 (by decide) (by decide) (by omega) (by omega) (by omega) (by omega)]; exact S.1.1.2.2
        · rw [fF 3 3 (by decide)]; exact cn1.1
        · rw [fF 3 4 (by decide)]; exact cn1.2.1
        · rw [fF 3 5 (by decide)]; exact cn1.2.2
        · rw [show hA (stA g2 A2) (3 + 3 + q) = hA h1 (3 + 3 + q) from wc _ (by omega)]; exact sr1.2.1 q hq k
        · rw [show hA (stA g2 A2) (3 + 12 + q) = hA h1 (3 + 12 + q) from wc _ (by omega)]; exact sr1.2.2 q hq k
        · rw [fF 3 3 (by decide), ef1 3 (by decide)] at hq1
          exact CS_fq hg1 md_low Q2 (congrFun (congrFun eR _) _) (CS_ag2 (CS_fq hg low F1 (congrFun er1 i) (S.2.2.1 i hi hq1)) (by rw [wa 81 (by decide) (by decide) (by omega) (by omega) (by omega) (by omega)]) (fun j _ _ q hq => wr _ q hq))
        · rw [fF 3 4 (by decide), c1] at hq1
          by_cases e : q = (hF h 3 4).toNat
          · have er : hA (stA g2 A2) (3 + 3 + q) = lov (plr (hA h (6 + (hF h 3 4).toNat)) av_plain) (rlA (hA h 2) n.toNat 0 (adv (hA h 2) n.toNat (0, 0, 0, -1)) (hA h 25)).2.2 14 := (wc _ (by omega)).trans ((congrArg (hA h1) (show 3 + 3 + q = 6 + (hF h 3 4).toNat by omega)).trans r1)
            have y : ∀ o, o < 14 → A2 93 (196 * 0 + 14 * q + o) = (rlA (hA h 2) n.toNat 0 (adv (hA h 2) n.toNat (0, 0, 0, -1)) (hA h 25)).2.2 o := fun o ho => by
              rw [eo 93 (by decide), show 196 * 0 + 14 * q + o = 14 * (hF h 3 4).toNat + o by omega]
              exact Y2 o ho
            refine ⟨fun k hk => ?_, ?_⟩
            · rw [er, y k (by omega)]; exact lov_v (by omega)
            · rw [er, y 13 (by omega), lov_v (by omega)]
              have := rl_13 (b := hA h 2) (lim := n.toNat) (y := 0) (t := (adv (hA h 2) n.toNat (0, 0, 0, -1))) (d := hA h 25)
              rw [if_neg (by omega)]
          · have x := S.2.2.2.1 q hq (by omega)
            have e1 : hA (stA g2 A2) (3 + 3 + q) = hA h (3 + 3 + q) := (wc _ (by omega)).trans (ea _ (by omega) (by omega) (by omega) (by omega))
            have x2 : LW h A2 3 0 q := LW_ag x (fun k hk => w93 _ (by omega))
            unfold LW at x2 ⊢
            rw [e1]
            exact x2
        · rw [fF 3 5 (by decide), ef1 5 (by decide)] at hq1
          have x := S.2.2.2.2 q hq hq1
          have e1 : hA (stA g2 A2) (3 + 12 + q) = hA h (3 + 12 + q) := (wc _ (by omega)).trans (ea _ (by omega) (by omega) (by omega) (by omega))
          have x2 : QW h A2 3 0 q := QW_ag x (fun k hk => w93 _ (by omega))
          unfold QW at x2 ⊢
          rw [e1]
          exact x2
      refine ⟨I2, KT_fq hg1 L1 I2.1 Q2 (fun z => by unfold mdA at z; omega) (fun z => by unfold mdA at z; omega) (fun z => by unfold mdA at z; omega) (fun z => by unfold mdA at z; omega) (fun j z => by unfold fdF2 at z; omega) (fun j z => by unfold fdF2 at z; omega) (fun j z => z) K1, ⟨n0, a0, m0, IMF_of M I2.1 (fun q z1 z2 => wa q (by omega) (by omega) (by omega) (by omega) (by omega) (by omega)) (fun k hk => (F2.2.2.2.2.2.1 77 k (mF_rdF hk)).trans ((F1.2.2 77 (l (by omega))).2.2.2.2 k (fun z => by unfold rdF2 at z; omega))) (MV_of (fun a z1 z2 j => by rw [show hA (stA g2 A2) a = hA h a from wa a (by omega) (by omega) (by omega) (by omega) (by omega) (by omega)]; exact im_bn M a z1 z2 j) (fun j => by rw [show hA (stA g2 A2) 81 = hA h 81 from wa 81 (by decide) (by decide) (by omega) (by omega) (by omega) (by omega)]; exact im_m81 M j) S2)⟩, ⟨?_, ?_, ?_⟩, S2, ?_⟩
      · rw [show hA (stA g2 A2) 94 = hA h 94 from wa 94 (by decide) (by decide) (by omega) (by omega) (by omega) (by omega), show hA (stA g2 A2) 2 = hA h 2 from wa 2 (by decide) (by decide) (by omega) (by omega) (by omega) (by omega)]
        exact p1
      · rw [fF 1 1 (by decide), l1]
        exact (show hF g2 77 17 = 0 from ns_17 N2.1)
      · rw [fF 0 8 (by decide), w1, ← z4]
        exact (show hF g2 77 18 = (rlA (hA h 2) n.toNat 0 (adv (hA h 2) n.toNat (0, 0, 0, -1)) (hA h 25)).2.1.2.2.2 from ns_18 N2.1)
      · have X1 : XI h1 (hA h) := XI_fq hg L low F1 (fun z => by unfold rdF2 at z; omega) (fun z => by unfold rdF2 at z; omega) (fun z => z) XX
        refine XI_fq hg1 L1 md_low Q2 (fun z => by unfold fdF2 at z; omega) (fun z => by unfold fdF2 at z; omega) (fun z => z) (XI_ag X1 (fun i hi _ => ⟨⟨?_, ?_, ?_⟩, fun q hq => ?_, fun q hq o ho => wr _ o ho, fun k hk => w93 _ (by omega)⟩))
        · rw [show hA (stA g2 A2) 78 = hA h 78 from wa 78 (by decide) (by decide) (by omega) (by omega) (by omega) (by omega)]
        · rw [show hA (stA g2 A2) 79 (i + 1) = hA g2 79 (i + 1) from eqo _ (by omega), W2 79 (i + 1) (by omega), ea 79 (by omega) (by omega) (by omega) (by omega)]
        · rw [show hA (stA g2 A2) 80 = hA h 80 from wa 80 (by decide) (by decide) (by omega) (by omega) (by omega) (by omega)]
        · rw [show hA (stA g2 A2) 81 = hA h 81 from wa 81 (by decide) (by decide) (by omega) (by omega) (by omega) (by omega)]
    · have e1 := F2.1
      have e2 := F2.2.1
      have e3 := F1.1
      have e4 := F1.2.1
      exact ⟨by show g2.1 ≤ _; omega, by show g2.2.1 ≤ _; omega⟩

theorem op_clause {h : av_H} (B : BK h) (n : Int) (qn : -2147483648 ≤ n ∧ n ≤ 2147483647) : av_wp none cd_98 0 [some (.inr (.inr (.inl (some (0))))), some (.inl n), none] [] h (OPr cd_157 [some (.inr (.inr (.inl (some (77))))), some (.inl n)] h (fun x y => x = y)) := by
  refine gd_of (fun hg => ?_)
  have B0 := B
  obtain ⟨I, K, ⟨n0, a0, m0, M⟩, ⟨p1, p2, p3⟩, S, XX⟩ := B
  have L := I.1
  have bv := kt_bv K
  have ql := K.2.1
  have qc := S.1.2.2.2
  have l : ∀ {q : Nat}, q < 122 → q < h.1 := fun hq => ly_lt hg L hq
  refine ct_98 I K n qn (fun zA => ?_) (fun z1 z2 z3 => ?_) (fun z1 z2 z3 z4 h1 F1 K1 l1 w1 c1 => ?_) (fun z1 z2 z3 z4 h1 F1 K1 l1 w1 c1 r1 dv => ?_)
  · refine ⟨-2, rfl, ly_k L 77 rfl, ?_⟩
    exact ct_157 L p1 bv p2 ql S.1.1.2.2.symm qc (hA h 25) n qn (fun _ => ⟨-2, rfl, rfl, B0, RM_0 rfl rfl⟩) (fun _ _ _ => by exfalso; omega) (fun _ _ _ _ => by exfalso; omega) (fun _ _ _ _ => by exfalso; omega)
  · refine ⟨-3, rfl, ly_k L 77 rfl, ?_⟩
    exact ct_157 L p1 bv p2 ql S.1.1.2.2.symm qc (hA h 25) n qn (fun _ => by exfalso; omega) (fun _ _ _ => ⟨-3, rfl, rfl, B0, RM_0 rfl rfl⟩) (fun _ _ _ _ => by exfalso; omega) (fun _ _ _ _ => by exfalso; omega)
  · refine ⟨-1, rfl, ly_k (kt_L K1) 77 rfl, gd_of (fun hg1 => ?_)⟩
    have M1 := BM_read hg B0 (FQ_s0 F1 c1) K1
    have ea : ∀ a, a < 122 → a ≠ 23 → a ≠ 25 → hA h1 a = hA h a := fun a z1 z2 z3 => (F1.2.2 a (l z1)).2.2.1 (fun z => by unfold rdA2 at z; omega)
    have e17 : hF h1 77 17 = hF h 1 1 := ((F1.2.2 77 (l (by omega))).2.2.2.2 17 (fun z => by unfold rdF2 at z; omega)).trans p2
    refine ct_157 (kt_L K1) ((ea 94 (by omega) (by omega) (by omega)).trans p1) bv e17 ql ((congrFun (ea 80 (by omega) (by omega) (by omega)) 0).trans S.1.1.2.2.symm) qc (hA h 25) n qn (fun _ => by exfalso; omega) (fun _ _ _ => by exfalso; omega) (fun _ _ _ _ h2 N2 F2 W2 => ⟨-1, rfl, rfl, ?_, ?_⟩) (fun _ _ _ y => absurd y z4)
    · exact BM_lfault hg1 M1 N2 F2 W2 (Or.inr ⟨(hF h 3 5).toNat, rfl, by rw [c1]; omega, by omega⟩) l1 w1
    · exact RM_0 (F2.1.trans F1.1) (F2.2.1.trans F1.2.1)
  · refine ⟨hF h 3 5, rfl, ly_k (kt_L K1) 77 rfl, gd_of (fun hg1 => ?_)⟩
    have ea : ∀ a, a < 122 → a ≠ 23 → a ≠ 25 → a ≠ 15 + (hF h 3 5).toNat → hA h1 a = hA h a := fun a z1 z2 z3 z4 => (F1.2.2 a (l z1)).2.2.1 (fun z => by unfold lwA at z; omega)
    have e17 : hF h1 77 17 = hF h 1 1 := ((F1.2.2 77 (l (by omega))).2.2.2.2 17 (fun z => by unfold rdF2 at z; omega)).trans p2
    have ef1 : ∀ k, k ≠ 5 → hF h1 3 k = hF h 3 k := fun k hk => (F1.2.2 3 (l (by omega))).2.2.2.2 k (fun z => by unfold rdF2 at z; omega)
    have er1 : hR h1 4 = hR h 4 := (F1.2.2 4 (l (by omega))).2.2.2.1 (fun z => z)
    have low := lw_low (x := 5) (y := 15 + (hF h 3 5).toNat) (by omega)
    have ob := S.2.1.2.2 ((hF h 3 5).toNat) (by omega)
    rw [show 3 + 12 + (hF h 3 5).toNat = 15 + (hF h 3 5).toNat by omega] at ob
    have rb : ∀ k, -2 ≤ hA h1 (15 + (hF h 3 5).toNat) k ∧ hA h1 (15 + (hF h 3 5).toNat) k ≤ 999 := fun k => by
      rw [r1]
      unfold plr
      split
      · exact dv k
      · exact ob k
    refine ct_157 (kt_L K1) ((ea 94 (by omega) (by omega) (by omega) (by omega)).trans p1) bv e17 ql ((congrFun (ea 80 (by omega) (by omega) (by omega) (by omega)) 0).trans S.1.1.2.2.symm) qc (hA h 25) n qn (fun _ => by exfalso; omega) (fun _ _ _ => by exfalso; omega) (fun _ _ _ y => absurd z4 y) (fun _ _ _ _ g2 N2 F2 W2 Y2 => ⟨hF h 3 5, rfl, rfl, ?_, ?_⟩)
    · -- the class's part
      have sr1 : SLr h1 3 := by
        refine ⟨fun i hi => CW_fq hg low F1 (congrFun er1 i) (S.2.1.1 i hi), fun q hq k => ?_, fun q hq k => ?_⟩
        · by_cases e : 3 + 3 + q = 15 + (hF h 3 5).toNat
          · rw [e]; exact rb k
          · rw [ea _ (by omega) (by omega) (by omega) e]; exact S.2.1.2.1 q hq k
        · by_cases e : 3 + 12 + q = 15 + (hF h 3 5).toNat
          · rw [e]; exact rb k
          · rw [ea _ (by omega) (by omega) (by omega) e]; exact S.2.1.2.2 q hq k
      have cn1 : CN h1 := by
        refine ⟨?_, ?_, ?_⟩
        · rw [ef1 3 (by decide)]; exact S.1.2.1
        · rw [ef1 4 (by decide)]; exact S.1.2.2.1
        · rw [c1]; omega
      have I1 : IC h1 := IC_op hg I F1 (fun q e => by
        unfold lwA at e
        have hh : ∀ q, q < 122 → (q = 23 ∨ q = 25 ∨ (15 ≤ q ∧ q < 15 + 6)) → bA q = true := by decide
        exact hh q (by omega) (by omega)) (fun q e => e.elim) (rdF2_bF (by omega)) K1 sr1 cn1
      have L1 := I1.1
      have Q2 := md_FQ (A2 := av_u2 (hA g2) 80 0 (hF h 3 5 + 1)) F2 (fun a ha => av_u2_ne (fun z => ha (by unfold mdA; omega)))
      have I2g : IC g2 := IC_FD F2 I1
      have eo : ∀ a, a ≠ 80 → av_u2 (hA g2) 80 0 (hF h 3 5 + 1) a = hA g2 a := fun a ha => av_u2_ne ha
      have eq0 : av_u2 (hA g2) 80 0 (hF h 3 5 + 1) 80 0 = hF h 3 5 + 1 := av_u2_self
      have eqo : ∀ j, j ≠ 0 → av_u2 (hA g2) 80 0 (hF h 3 5 + 1) 80 j = hA g2 80 j := fun j hj => av_u2_oth hj
      show BK (stA g2 (av_u2 (hA g2) 80 0 (hF h 3 5 + 1)))
      generalize av_u2 (hA g2) 80 0 (hF h 3 5 + 1) = A2 at Q2 eo eq0 eqo ⊢
      have I2 : IC (stA g2 A2) := IC_eq (g := g2) (h := stA g2 A2) I2g.1 (fun _ => rfl) (fun q hq => eo q (by omega)) (fun _ _ _ => rfl) (fun _ => rfl) (fun _ => rfl) I2g
      have fF : ∀ q k, q ≠ 77 → hF (stA g2 A2) q k = hF h1 q k := fun q k hq => F2.2.2.2.2.2.1 q k (by simp only [rdF, nbeq hq, Bool.false_and])
      have eR : hR (stA g2 A2) = hR h1 := F2.2.2.2.1
      have w93 : ∀ j, ¬ (112 + 14 * (hF h 3 5).toNat ≤ j ∧ j < 112 + 14 * (hF h 3 5).toNat + 14) → A2 93 j = hA h 93 j := fun j hj => by
        rw [eo 93 (by decide), W2 93 j (fun z => hj z.2), ea 93 (by omega) (by omega) (by omega) (by omega)]
      have wa : ∀ a, a ≠ 80 → a ≠ 93 → a < 122 → a ≠ 23 → a ≠ 25 → a ≠ 15 + (hF h 3 5).toNat → A2 a = hA h a := fun a e1 e2 e3 e4 e5 e6 => by
        rw [eo a e1, ← ea a e3 e4 e5 e6]
        funext j
        exact W2 a j (fun z => e2 z.1)
      have wr : ∀ i o, o < 19 → rwA A2 i o = rwA (hA h) i o := fun i o ho => by
        have := vq_in o ho
        show A2 (vq o) _ = hA h (vq o) _
        rw [wa (vq o) (by omega) (by omega) (by omega) (by omega) (by omega) (by omega)]
      have wc : ∀ a, a < 77 → A2 a = hA h1 a := fun a ha => by
        rw [eo a (by omega)]
        funext j
        exact W2 a j (by omega)
      have S2 : SL (stA g2 A2) A2 3 0 := by
        refine ⟨⟨⟨?_, ?_, ?_⟩, ?_, ?_, ?_⟩, ⟨fun i hi => CW_fq hg1 md_low Q2 (congrFun (congrFun eR _) _) (sr1.1 i hi), fun q hq k => ?_, fun q hq k => ?_⟩, fun i hi hq1 => ?_, fun q hq hq1 => ?_, fun q hq hq1 => ?_⟩
        · rw [fF 3 3 (by decide), ef1 3 (by decide), wa 78 (by decide) (by decide) (by omega) (by omega) (by omega) (by omega)]; exact S.1.1.1
        · rw [fF 3 4 (by decide), ef1 4 (by decide), wa 79 (by decide) (by decide) (by omega) (by omega) (by omega) (by omega)]; exact S.1.1.2.1
        · rw [fF 3 5 (by decide), c1, eq0]
        · rw [fF 3 3 (by decide)]; exact cn1.1
        · rw [fF 3 4 (by decide)]; exact cn1.2.1
        · rw [fF 3 5 (by decide)]; exact cn1.2.2
        · rw [show hA (stA g2 A2) (3 + 3 + q) = hA h1 (3 + 3 + q) from wc _ (by omega)]; exact sr1.2.1 q hq k
        · rw [show hA (stA g2 A2) (3 + 12 + q) = hA h1 (3 + 12 + q) from wc _ (by omega)]; exact sr1.2.2 q hq k
        · rw [fF 3 3 (by decide), ef1 3 (by decide)] at hq1
          exact CS_fq hg1 md_low Q2 (congrFun (congrFun eR _) _) (CS_ag2 (CS_fq hg low F1 (congrFun er1 i) (S.2.2.1 i hi hq1)) (by rw [wa 81 (by decide) (by decide) (by omega) (by omega) (by omega) (by omega)]) (fun j _ _ q hq => wr _ q hq))
        · rw [fF 3 4 (by decide), ef1 4 (by decide)] at hq1
          have x := S.2.2.2.1 q hq hq1
          have e1 : hA (stA g2 A2) (3 + 3 + q) = hA h (3 + 3 + q) := (wc _ (by omega)).trans (ea _ (by omega) (by omega) (by omega) (by omega))
          have x2 : LW h A2 3 0 q := LW_ag x (fun k hk => w93 _ (by omega))
          unfold LW at x2 ⊢
          rw [e1]
          exact x2
        · rw [fF 3 5 (by decide), c1] at hq1
          by_cases e : q = (hF h 3 5).toNat
          · have er : hA (stA g2 A2) (3 + 12 + q) = plr (hA h (15 + (hF h 3 5).toNat)) (rlA (hA h 2) n.toNat 1 (adv (hA h 2) n.toNat (0, 0, 0, -1)) (hA h 25)).2.2 := (wc _ (by omega)).trans ((congrArg (hA h1) (show 3 + 12 + q = 15 + (hF h 3 5).toNat by omega)).trans r1)
            intro k hk
            rw [er, eo 93 (by decide), show 196 * 0 + 112 + 14 * q + k = 112 + 14 * (hF h 3 5).toNat + k by omega, Y2 k hk]
            exact if_pos hk
          · have x := S.2.2.2.2 q hq (by omega)
            have e1 : hA (stA g2 A2) (3 + 12 + q) = hA h (3 + 12 + q) := (wc _ (by omega)).trans (ea _ (by omega) (by omega) (by omega) (by omega))
            have x2 : QW h A2 3 0 q := QW_ag x (fun k hk => w93 _ (by omega))
            unfold QW at x2 ⊢
            rw [e1]
            exact x2
      refine ⟨I2, KT_fq hg1 L1 I2.1 Q2 (fun z => by unfold mdA at z; omega) (fun z => by unfold mdA at z; omega) (fun z => by unfold mdA at z; omega) (fun z => by unfold mdA at z; omega) (fun j z => by unfold fdF2 at z; omega) (fun j z => by unfold fdF2 at z; omega) (fun j z => z) K1, ⟨n0, a0, m0, IMF_of M I2.1 (fun q z1 z2 => wa q (by omega) (by omega) (by omega) (by omega) (by omega) (by omega)) (fun k hk => (F2.2.2.2.2.2.1 77 k (mF_rdF hk)).trans ((F1.2.2 77 (l (by omega))).2.2.2.2 k (fun z => by unfold rdF2 at z; omega))) (MV_of (fun a z1 z2 j => by rw [show hA (stA g2 A2) a = hA h a from wa a (by omega) (by omega) (by omega) (by omega) (by omega) (by omega)]; exact im_bn M a z1 z2 j) (fun j => by rw [show hA (stA g2 A2) 81 = hA h 81 from wa 81 (by decide) (by decide) (by omega) (by omega) (by omega) (by omega)]; exact im_m81 M j) S2)⟩, ⟨?_, ?_, ?_⟩, S2, ?_⟩
      · rw [show hA (stA g2 A2) 94 = hA h 94 from wa 94 (by decide) (by decide) (by omega) (by omega) (by omega) (by omega), show hA (stA g2 A2) 2 = hA h 2 from wa 2 (by decide) (by decide) (by omega) (by omega) (by omega) (by omega)]
        exact p1
      · rw [fF 1 1 (by decide), l1]
        exact (show hF g2 77 17 = 0 from ns_17 N2.1)
      · rw [fF 0 8 (by decide), w1, ← z4]
        exact (show hF g2 77 18 = (rlA (hA h 2) n.toNat 1 (adv (hA h 2) n.toNat (0, 0, 0, -1)) (hA h 25)).2.1.2.2.2 from ns_18 N2.1)
      · have X1 : XI h1 (hA h) := XI_fq hg L low F1 (fun z => by unfold rdF2 at z; omega) (fun z => by unfold rdF2 at z; omega) (fun z => z) XX
        refine XI_fq hg1 L1 md_low Q2 (fun z => by unfold fdF2 at z; omega) (fun z => by unfold fdF2 at z; omega) (fun z => z) (XI_ag X1 (fun i hi _ => ⟨⟨?_, ?_, ?_⟩, fun q hq => ?_, fun q hq o ho => wr _ o ho, fun k hk => w93 _ (by omega)⟩))
        · rw [show hA (stA g2 A2) 78 = hA h 78 from wa 78 (by decide) (by decide) (by omega) (by omega) (by omega) (by omega)]
        · rw [show hA (stA g2 A2) 79 = hA h 79 from wa 79 (by decide) (by decide) (by omega) (by omega) (by omega) (by omega)]
        · rw [show hA (stA g2 A2) 80 (i + 1) = hA g2 80 (i + 1) from eqo _ (by omega), W2 80 (i + 1) (by omega), ea 80 (by omega) (by omega) (by omega) (by omega)]
        · rw [show hA (stA g2 A2) 81 = hA h 81 from wa 81 (by decide) (by decide) (by omega) (by omega) (by omega) (by omega)]
    · have e1 := F2.1
      have e2 := F2.2.1
      have e3 := F1.1
      have e4 := F1.2.1
      exact ⟨by show g2.1 ≤ _; omega, by show g2.2.1 ≤ _; omega⟩
end
section
/-! FEED KEEPS THE BOOK -/
theorem fe_lowc : LOW fdA nun1 fdF nun2 := ⟨fun q e => by unfold fdA at e; omega, fun q e => e.elim, fun q j e => by unfold fdF at e; omega, fun q j e => e.elim⟩
theorem fe_lowm : LOW mfA nun1 mfF nun2 := ⟨fun q e => by unfold mfA at e; omega, fun q e => e.elim, fun q j e => by unfold mfF at e; omega, fun q j e => e.elim⟩
theorem op_feed {h : av_H} (B : BK h) (a b c d e : Int) : av_wp none cd_94 0 [some (.inr (.inr (.inl (some (0))))), some (.inl a), some (.inl b), some (.inl c), some (.inl d), some (.inl e)] [] h (OPr cd_128 [some (.inr (.inr (.inl (some (77))))), some (.inl a), some (.inl b), some (.inl c), some (.inl d), some (.inl e), none, none] h (fun x y => x = y)) := by
  refine gd_of (fun hg => ?_)
  have B0 := B
  obtain ⟨I, K, ⟨n0, a0, m0, M⟩, ⟨p1, p2, p3⟩, S, X⟩ := B
  have L := I.1
  have ql := K.2.1
  have l : ∀ {q : Nat}, q < 122 → q < h.1 := fun hq => ly_lt hg L hq
  have l18 : 3 + 18 ≤ h.1 := by have := l (q := 100) (by omega); omega
  have el : hF h 1 1 = ((hF h 1 1).toNat : Int) := by omega
  refine ct_94 L el (by omega) a b c d e (fun z => ?_) (fun z h1 F1 b1 l1 => ?_)
  · refine ⟨-1, rfl, ly_k L 77 rfl, ?_⟩
    exact ct_128 L (p2.trans el) (by omega) a b c d e (fun _ => ⟨-1, rfl, rfl, B0, RM_0 rfl rfl⟩) (fun z2 => by exfalso; omega)
  · refine ⟨_, rfl, ly_k (FE_ly F1 L) 77 rfl, gd_of (fun hg1 => ?_)⟩
    have L1 := FE_ly F1 L
    have e17 : hF h1 77 17 = ((hF h 1 1).toNat : Int) := (F1.2.2.2.2.2.2 77 17 (fun z => by unfold fdF at z; omega)).trans (p2.trans el)
    have ea1 : ∀ q, q ≠ 2 → hA h1 q = hA h q := fun q hq => F1.2.2.2.2.2.1 q hq
    have ef1 : ∀ o f, ¬ (o = 1 ∧ f = 1) → hF h1 o f = hF h o f := fun o f hq => F1.2.2.2.2.2.2 o f hq
    refine ct_128 L1 e17 (by omega) a b c d e (fun z2 => by exfalso; omega) (fun _ h2 F2 b2 l2 => ⟨_, rfl, rfl, ?_, ?_⟩)
    · have L2 := FE_ly F2 L1
      have ea2 : ∀ q, q ≠ 94 → hA h2 q = hA h1 q := fun q hq => F2.2.2.2.2.2.1 q hq
      have ef2 : ∀ o f, ¬ (o = 77 ∧ f = 17) → hF h2 o f = hF h1 o f := fun o f hq => F2.2.2.2.2.2.2 o f hq
      have Q1 : FQ fdA nun1 fdF nun2 h h1 0 0 := FE_fq F1
      have Q2 : FQ mfA nun1 mfF nun2 h1 h2 0 0 := FE_fq F2
      have l1' : ∀ {q : Nat}, q < 122 → q < h1.1 := fun hq => ly_lt hg1 L1 hq
      have l18' : 3 + 18 ≤ h1.1 := by have := l1' (q := 100) (by omega); omega
      have S1 : SL h1 (hA h1) 3 0 := SL_ag (SL_fq hg fe_lowc Q1 l18 (fun j z => by unfold fdF at z; omega) (fun z => z) (fun j z1 z2 z => by unfold fdA at z; omega) S) (AGB_eq 0 (fun q z1 z2 => ea1 q (by omega)))
      have S2 : SL h2 (hA h2) 3 0 := SL_ag (SL_fq hg1 fe_lowm Q2 l18' (fun j z => by unfold mfF at z; omega) (fun z => z) (fun j z1 z2 z => by unfold mfA at z; omega) S1) (AGB_eq 0 (fun q z1 z2 => ea2 q (by omega)))
      have K1 : KT h1 := by
        obtain ⟨⟨lim, t, C⟩, x2, x3, o1, o2, o3, o4, o5, o6⟩ := K
        obtain ⟨_, _, c3, c4, c5, c6, c7, c8, _, _, c11, c12, c13⟩ := C
        refine ⟨⟨lim, t, L1, rfl, ?_, (ef1 1 2 (by omega)).trans c4, (ef1 1 3 (by omega)).trans c5, (ef1 1 4 (by omega)).trans c6, (ef1 1 5 (by omega)).trans c7, (ef1 1 6 (by omega)).trans c8, rfl, rfl, c11, ?_, ?_⟩, ?_, ?_, ?_, (ef1 74 1 (by omega)).trans o2, (ef1 74 3 (by omega)).trans o3, ?_, ?_, (ea1 76 (by omega)).trans o6⟩
        · rw [b1]; exact fd5_bd c3
        · rw [ea1 23 (by omega)]; exact c12
        · rw [ea1 25 (by omega)]; exact c13
        · rw [l1]; omega
        · rw [ea1 23 (by omega)]; exact x3
        · rw [F1.2.2.1]; exact o1
        · rw [F1.2.2.2.1]; exact o4
        · rw [F1.2.2.1]; exact o5
      have I1 : IC h1 := IC_op hg I Q1 (fun q e => by unfold fdA at e; subst e; rfl) (fun q e => e.elim) (fun q j e => by unfold fdF at e; obtain ⟨e1, e2⟩ := e; subst e1; subst e2; rfl) K1 S1.2.1 (cn_sl S1)
      have I2 : IC h2 := IC_eq L2 (fun q => congrFun F2.2.2.1 q) (fun q hq => ea2 q (by omega)) (fun q k hq => ef2 q k (by omega)) (fun q => congrFun F2.2.2.2.1 q) (fun q => congrFun F2.2.2.2.2.1 q) I1
      refine ⟨I2, KT_fq hg1 L1 L2 Q2 (fun z => by unfold mfA at z; omega) (fun z => by unfold mfA at z; omega) (fun z => by unfold mfA at z; omega) (fun z => by unfold mfA at z; omega) (fun j z => by unfold mfF at z; omega) (fun j z => by unfold mfF at z; omega) (fun j z => z) K1, ⟨n0, a0, m0, IMF_of M L2 (fun q z1 z2 => (ea2 q (by omega)).trans (ea1 q (by omega))) (fun k hk => (ef2 77 k (fun z => by rw [z.2] at hk; cases hk)).trans (ef1 77 k (by omega))) (MV_of (fun q z1 z2 j => by rw [ea2 q (by omega), ea1 q (by omega)]; exact im_bn M q z1 z2 j) (fun j => by rw [ea2 81 (by omega), ea1 81 (by omega)]; exact im_m81 M j) S2)⟩, ⟨?_, ?_, ?_⟩, S2, ?_⟩
      · rw [b2, ea2 2 (by omega), b1, ea1 94 (by omega), p1]
      · rw [l2, ef2 1 1 (by omega), l1]
      · rw [ef2 77 18 (by omega), ef2 0 8 (by omega), ef1 77 18 (by omega), ef1 0 8 (by omega)]; exact p3
      · have X1 : XI h1 (hA h1) := XI_ag (XI_fq hg L fe_lowc Q1 (fun z => by unfold fdF at z; omega) (fun z => by unfold fdF at z; omega) (fun z => z) X) (fun i _ _ => AGB_eq (i + 1) (fun q z1 z2 => ea1 q (by omega)))
        exact XI_ag (XI_fq hg1 L1 fe_lowm Q2 (fun z => by unfold mfF at z; omega) (fun z => by unfold mfF at z; omega) (fun z => z) X1) (fun i _ _ => AGB_eq (i + 1) (fun q z1 z2 => ea2 q (by omega)))
    · exact RM_0 (F2.1.trans F1.1) (F2.2.1.trans F1.2.1)
end
section
/-! IMAGE AND BACK KEEP THE BOOK -/
theorem cz_big {q : Nat} (h : 93 < q) : cz q = 0 := by
  unfold cz czt
  rw [List.getD_eq_getElem?_getD, List.getElem?_eq_none (by show 16 ≤ q - 78; omega)]
  rfl
theorem cp_in {A : Nat → Nat → Int} {a b q j : Nat} (hq : 78 ≤ q) (hj : j < cz q) : cpL A a b czt q (cz q * b + j) = A q (cz q * a + j) := by
  have e : cpL A a b czt q (cz q * b + j) = A q (cz q * b + j - cz q * b + cz q * a) := if_pos ⟨hq, by omega, by show _ < cz q * b + cz q; omega⟩
  rw [e, show cz q * b + j - cz q * b + cz q * a = cz q * a + j by omega]
theorem cp_ne {A : Nat → Nat → Int} {a b c q j : Nat} (hc : c ≠ b) (hj : j < cz q) : cpL A a b czt q (cz q * c + j) = A q (cz q * c + j) := by
  refine cp_r (fun z => ?_)
  have z2 : cz q * c + j < cz q * b + cz q := z.2
  have z1 := z.1
  rcases (show c + 1 ≤ b ∨ b + 1 ≤ c by omega) with y | y
  · have := Nat.mul_le_mul_left (cz q) y
    rw [Nat.mul_succ] at this
    omega
  · have := Nat.mul_le_mul_left (cz q) y
    rw [Nat.mul_succ] at this
    omega
theorem cp_lo {A : Nat → Nat → Int} {a b q : Nat} (h : q < 78 ∨ 93 < q) : cpL A a b czt q = A q := by
  funext j
  refine if_neg (fun z => ?_)
  have z1 := z.1
  have z2 := z.2.1
  have z3 : j < cz q * b + cz q := z.2.2
  rw [cz_big (by omega)] at z2 z3
  omega
theorem vq_cz : ∀ o, o < 19 → cz (vq o) = 192 * vm o ∧ vo o < vm o := by decide
/-- what slot b of A' is, slot a of A was -/
def AGC (a b : Nat) (A A' : Nat → Nat → Int) : Prop := (A' 78 b = A 78 a ∧ A' 79 b = A 79 a ∧ A' 80 b = A 80 a) ∧ (∀ i, i < 16 → A' 81 (16 * b + i) = A 81 (16 * a + i)) ∧ (∀ i, i < 192 → ∀ o, o < 19 → rwA A' (192 * b + i) o = rwA A (192 * a + i) o) ∧ (∀ k, k < 196 → A' 93 (196 * b + k) = A 93 (196 * a + k))
theorem vk_sp {b i o : Nat} : vk (192 * b + i) o = 192 * vm o * b + (vm o * i + vo o) := by
  unfold vk
  rw [Nat.mul_add, show vm o * (192 * b) = 192 * vm o * b by rw [← Nat.mul_assoc, Nat.mul_comm (vm o) 192]]
  omega
theorem vk_lt {i o : Nat} (hi : i < 192) (ho : o < 19) : vm o * i + vo o < cz (vq o) := by
  have e := vq_cz o ho
  have := Nat.mul_le_mul_left (vm o) (show i + 1 ≤ 192 by omega)
  rw [Nat.mul_succ] at this
  omega
theorem cp_agc {A A0 : Nat → Nat → Int} {a b : Nat} (e : ∀ q, 78 ≤ q → q ≤ 93 → A q = A0 q) : AGC a b A0 (cpL A a b czt) := by
  refine ⟨⟨?_, ?_, ?_⟩, fun i hi => ?_, fun i hi o ho => ?_, fun k hk => ?_⟩
  · have x := cp_in (A := A) (a := a) (b := b) (q := 78) (j := 0) (by omega) (by decide)
    rw [show cz 78 = 1 from rfl, show 1 * b + 0 = b by omega, show 1 * a + 0 = a by omega, e 78 (by omega) (by omega)] at x
    exact x
  · have x := cp_in (A := A) (a := a) (b := b) (q := 79) (j := 0) (by omega) (by decide)
    rw [show cz 79 = 1 from rfl, show 1 * b + 0 = b by omega, show 1 * a + 0 = a by omega, e 79 (by omega) (by omega)] at x
    exact x
  · have x := cp_in (A := A) (a := a) (b := b) (q := 80) (j := 0) (by omega) (by decide)
    rw [show cz 80 = 1 from rfl, show 1 * b + 0 = b by omega, show 1 * a + 0 = a by omega, e 80 (by omega) (by omega)] at x
    exact x
  · have x := cp_in (A := A) (a := a) (b := b) (q := 81) (j := i) (by omega) (show i < 16 from hi)
    rw [show cz 81 = 16 from rfl, e 81 (by omega) (by omega)] at x
    exact x
  · have h1 := vq_in o ho
    have x := cp_in (A := A) (a := a) (b := b) (q := vq o) (j := vm o * i + vo o) (by omega) (vk_lt hi ho)
    rw [(vq_cz o ho).1, e (vq o) (by omega) (by omega)] at x
    show cpL A a b czt (vq o) (vk (192 * b + i) o) = A0 (vq o) (vk (192 * a + i) o)
    rw [vk_sp, vk_sp]
    exact x
  · have x := cp_in (A := A) (a := a) (b := b) (q := 93) (j := k) (by omega) (show k < 196 from hk)
    rw [show cz 93 = 196 from rfl, e 93 (by omega) (by omega)] at x
    exact x
theorem cp_agb {A A0 : Nat → Nat → Int} {a b c : Nat} (hc : c ≠ b) (e : ∀ q, 78 ≤ q → q ≤ 93 → A q = A0 q) : AGB c A0 (cpL A a b czt) := by
  refine ⟨⟨?_, ?_, ?_⟩, fun i hi => ?_, fun i hi o ho => ?_, fun k hk => ?_⟩
  · have x := cp_ne (A := A) (a := a) (b := b) (c := c) (q := 78) (j := 0) hc (by decide)
    rw [show cz 78 = 1 from rfl, show 1 * c + 0 = c by omega, e 78 (by omega) (by omega)] at x
    exact x
  · have x := cp_ne (A := A) (a := a) (b := b) (c := c) (q := 79) (j := 0) hc (by decide)
    rw [show cz 79 = 1 from rfl, show 1 * c + 0 = c by omega, e 79 (by omega) (by omega)] at x
    exact x
  · have x := cp_ne (A := A) (a := a) (b := b) (c := c) (q := 80) (j := 0) hc (by decide)
    rw [show cz 80 = 1 from rfl, show 1 * c + 0 = c by omega, e 80 (by omega) (by omega)] at x
    exact x
  · have x := cp_ne (A := A) (a := a) (b := b) (c := c) (q := 81) (j := i) hc (show i < 16 from hi)
    rw [show cz 81 = 16 from rfl, e 81 (by omega) (by omega)] at x
    exact x
  · have h1 := vq_in o ho
    have x := cp_ne (A := A) (a := a) (b := b) (c := c) (q := vq o) (j := vm o * i + vo o) hc (vk_lt hi ho)
    rw [(vq_cz o ho).1, e (vq o) (by omega) (by omega)] at x
    show cpL A a b czt (vq o) (vk (192 * c + i) o) = A0 (vq o) (vk (192 * c + i) o)
    rw [vk_sp]
    exact x
  · have x := cp_ne (A := A) (a := a) (b := b) (c := c) (q := 93) (j := k) hc (show k < 196 from hk)
    rw [show cz 93 = 196 from rfl, e 93 (by omega) (by omega)] at x
    exact x
/-- a shelf is another's copy, and so is its slot -/
theorem SL_copy {h h' : av_H} {A A' : Nat → Nat → Int} {p a o b : Nat} (S : SL h A p a) (ef : hF h' o 3 = hF h p 3 ∧ hF h' o 4 = hF h p 4 ∧ hF h' o 5 = hF h p 5) (e3 : ∀ q, q < 8 → ∀ k, k < 14 → hA h' (o + 3 + q) k = hA h (p + 3 + q) k) (e12 : ∀ q, q < 6 → ∀ k, k < 14 → hA h' (o + 12 + q) k = hA h (p + 12 + q) k) (b3 : ∀ q, q < 8 → ∀ k, -2 ≤ hA h' (o + 3 + q) k ∧ hA h' (o + 3 + q) k ≤ 999) (b12 : ∀ q, q < 6 → ∀ k, -2 ≤ hA h' (o + 12 + q) k ∧ hA h' (o + 12 + q) k ≤ 999) (er : ∀ i, i < 16 → hR h' (o + 1) i = hR h (p + 1) i) (cc : ∀ v t c s f, CC h v t c s f → CC h' v t c s f) (ag : AGC a b A A') : SL h' A' o b := by
  obtain ⟨⟨⟨x1, x2, x3⟩, y1, y2, y3⟩, ⟨r1, r2, r3⟩, s1, s2, s3⟩ := S
  obtain ⟨f3, f4, f5⟩ := ef
  obtain ⟨⟨g1, g2, g3⟩, g4, g5, g6⟩ := ag
  refine ⟨⟨⟨by rw [f3, g1]; exact x1, by rw [f4, g2]; exact x2, by rw [f5, g3]; exact x3⟩, by rw [f3]; exact y1, by rw [f4]; exact y2, by rw [f5]; exact y3⟩, ⟨fun i hi => ?_, b3, b12⟩, fun i hi hh => ?_, fun q hq hh => ⟨fun k hk => ?_, ?_⟩, fun q hq hh k hk => ?_⟩
  · rcases r1 i hi with e | ⟨t, c, s, f, e⟩
    · exact Or.inl ((er i hi).trans e)
    · exact Or.inr ⟨t, c, s, f, by rw [er i hi]; exact cc _ _ _ _ _ e⟩
  · rw [f3] at hh
    obtain ⟨t, c, s, f, e1, e2, e4⟩ := s1 i hi hh
    have s12 : s ≤ 12 := e1.2.2.1.1
    refine ⟨t, c, s, f, by rw [er i hi]; exact cc _ _ _ _ _ e1, (g4 i hi).trans e2, fun j hj => ry_eq (e4 j hj) (fun w hw => ?_) (fun _ _ => rfl)⟩
    rw [show 192 * b + 12 * i + j = 192 * b + (12 * i + j) by omega, show 192 * a + 12 * i + j = 192 * a + (12 * i + j) by omega]
    exact g5 (12 * i + j) (by omega) w hw
  · rw [f4] at hh
    have x := (s2 q hq hh).1 k hk
    rw [e3 q hq k (by omega), x, show 196 * b + 14 * q + k = 196 * b + (14 * q + k) by omega, g6 (14 * q + k) (by omega), show 196 * a + 14 * q + k = 196 * a + (14 * q + k) by omega]
  · rw [f4] at hh
    have x := (s2 q hq hh).2
    rw [e3 q hq 13 (by omega), x, show 196 * b + 14 * q + 13 = 196 * b + (14 * q + 13) by omega, g6 (14 * q + 13) (by omega), show 196 * a + 14 * q + 13 = 196 * a + (14 * q + 13) by omega]
  · rw [f5] at hh
    have x := s3 q hq hh k hk
    rw [e12 q hq k hk, x, show 196 * b + 112 + 14 * q + k = 196 * b + (112 + 14 * q + k) by omega, g6 (112 + 14 * q + k) (by omega), show 196 * a + 112 + 14 * q + k = 196 * a + (112 + 14 * q + k) by omega]
theorem plr_lt {f g : Nat → Int} {k : Nat} (hk : k < 14) : plr f g k = g k := if_pos hk
theorem plr_bd {f g : Nat → Int} (hf : ∀ k, -2 ≤ f k ∧ f k ≤ 999) (hg : ∀ k, -2 ≤ g k ∧ g k ≤ 999) (k : Nat) : -2 ≤ plr f g k ∧ plr f g k ≤ 999 := by
  unfold plr
  by_cases e : k < 14
  · rw [if_pos e]; exact hg k
  · rw [if_neg e]; exact hf k
theorem cw_k1 {h : av_H} {o i : Nat} (x : CW h o i) {q : Nat} (e : hR h (o + 1) i = some q) : (hK h q).1 = 1 := by
  rcases x with x | ⟨t, c, s, f, x⟩
  · rw [x] at e; cases e
  · rw [x.1] at e
    cases e
    rw [x.2.1.1]
end
section
/-! IMAGE AND BACK, class and reference one behind the other -/
def i0F (o f : Nat) : Prop := o = 0 ∧ f = 7
def i7F (o f : Nat) : Prop := o = 77 ∧ f = 62
theorem im_low : LOW nun1 (fun q => q = 21) i0F nun2 := ⟨fun q e => e.elim, fun q e => by omega, fun q j e => by unfold i0F at e; omega, fun q j e => e.elim⟩
theorem im_lowm : LOW mdA nun1 i7F nun2 := ⟨fun q e => by unfold mdA at e; omega, fun q e => e.elim, fun q j e => by unfold i7F at e; omega, fun q j e => e.elim⟩
/-- the heap with one more image -/
def him (h : av_H) (m : Int) : av_H := hwF (hwR (blk (nsh h) h.1 3) 21 (Int.toNat m) (some h.1)) 0 7 (m + 1)
theorem him_fq {h : av_H} {m : Int} (hg : 122 ≤ h.1) : FQ nun1 (fun q => q = 21) i0F nun2 h (him h m) 18 232 := by
  refine ⟨rfl, rfl, fun q hq => ⟨?_, fun j _ => ?_, fun _ => ?_, fun e => ?_, fun j e => ?_⟩⟩
  · exact (nsh_al.2.2 q hq).1
  · exact congrFun (nsh_al.2.2 q hq).2.2.2.1 j
  · exact (blk_A (h := nsh h) (o := h.1) (p := 3) (q := q) (by omega)).trans (nsh_al.2.2 q hq).2.1
  · have e1 : hR (him h m) q = hR (blk (nsh h) h.1 3) q := av_u2_ne e
    rw [e1, blk_R, if_neg (by omega)]
    exact (nsh_al.2.2 q hq).2.2.2.2
  · have e1 : hF (him h m) q j = hF (blk (nsh h) h.1 3) q j := by
      show av_u2 _ 0 7 _ q j = _
      rw [av_u2, if_neg (show ¬ (q = 0 ∧ j = 7) from e)]
      rfl
    rw [e1, blk_F j (by omega)]
    exact nsh_F j (by omega)
theorem him_shp {h : av_H} {m : Int} (hg : 122 ≤ h.1) : SHP (him h m) h.1 := by
  obtain ⟨x1, x2, x3, x4, x5, x6, x7, x8, x9⟩ := nsh_shp (g := h)
  have er : ∀ q, q ≠ 21 → q ≠ h.1 + 1 → hR (him h m) q = hR (nsh h) q := fun q e1 e2 => by
    have e3 : hR (him h m) q = hR (blk (nsh h) h.1 3) q := av_u2_ne e1
    rw [e3, blk_R, if_neg e2]
  refine ⟨x1, x2, x3, x4, x5, x6, x7, fun i hi => ⟨?_, (x8 i hi).2⟩, fun i hi => ⟨?_, (x9 i hi).2⟩⟩
  · rw [er _ (by omega) (by omega)]; exact (x8 i hi).1
  · rw [er _ (by omega) (by omega)]; exact (x9 i hi).1
theorem cp_or {A : Nat → Nat → Int} {a b q j : Nat} : ∃ w, cpL A a b czt q j = A q w := by
  unfold cpL
  by_cases c : 78 ≤ q ∧ cz q * b ≤ j ∧ j < cz q * b + czt.getD (q - 78) 0
  · exact ⟨_, if_pos c⟩
  · exact ⟨_, if_neg c⟩
theorem op_image {h : av_H} (B : BK h) : av_wp none cd_123 0 [some (.inr (.inr (.inl (some (0))))), none] [] h (OPr cd_214 [some (.inr (.inr (.inl (some (77)))))] h (fun x y => x = y)) := by
  refine gd_of (fun hg => ?_)
  have B0 := B
  obtain ⟨I, K, ⟨n0, a0, m0, M⟩, ⟨p1, p2, p3⟩, S, X⟩ := B
  have L := I.1
  have l : ∀ {q : Nat}, q < 122 → q < h.1 := fun hq => ly_lt hg L hq
  have l122 : 122 ≤ h.1 := by have := l (q := 121) (by omega); omega
  obtain ⟨qm, e77, X3⟩ := X
  refine ct_123 L rfl qm (fun i hi q e => cw_k1 (S.2.1.1 i hi) e) (fun z => ?_) (fun z => ?_)
  · exact ⟨-1, rfl, ly_k L 77 rfl, ct_214 L e77 qm (fun _ => ⟨-1, rfl, rfl, B0, RM_0 rfl rfl⟩) (fun z2 => by exfalso; omega)⟩
  · refine ⟨_, rfl, ((him_fq (m := hF h 0 7) l122).2.2 77 (l (by omega))).1.trans (ly_k L 77 rfl), gd_of (fun hg1 => ?_)⟩
    have F1 := him_fq (m := hF h 0 7) l122
    have hsh := him_shp (m := hF h 0 7) l122
    have r21 : hR (him h (hF h 0 7)) 21 = av_u1 (hR h 21) (hF h 0 7).toNat (some h.1) := by
      have e1 : hR (blk (nsh h) h.1 3) 21 = hR h 21 := by
        rw [blk_R, if_neg (by omega)]
        exact (nsh_al.2.2 21 (l (by omega))).2.2.2.2
      have e2 : hR (him h (hF h 0 7)) 21 = av_u1 (hR (blk (nsh h) h.1 3) 21) (hF h 0 7).toNat (some h.1) := by
        funext j
        show av_u2 _ 21 _ _ 21 j = _
        unfold av_u2 av_u1
        by_cases c : j = (hF h 0 7).toNat
        · rw [if_pos ⟨rfl, c⟩, if_pos c]
        · rw [if_neg (fun z => c z.2), if_neg c]
      rw [e2, e1]
    have f07 : hF (him h (hF h 0 7)) 0 7 = hF h 0 7 + 1 := hF_self
    have nF : ∀ k, hF (him h (hF h 0 7)) h.1 k = hF (blk (nsh h) h.1 3) h.1 k := fun k => by
      show av_u2 _ 0 7 _ h.1 k = _
      rw [av_u2_ne (by omega)]
      rfl
    have nR : hR (him h (hF h 0 7)) (h.1 + 1) = hR (blk (nsh h) h.1 3) (h.1 + 1) := av_u2_ne (by omega)
    have nA : hA (him h (hF h 0 7)) = hA (blk (nsh h) h.1 3) := rfl
    change av_wp none cd_214 0 _ [] (him h (hF h 0 7)) _
    change av_Gd (him h (hF h 0 7)) at hg1
    generalize hh1 : him h (hF h 0 7) = h1 at *
    have ea1 : ∀ q, q < 122 → hA h1 q = hA h q := fun q hq => (F1.2.2 q (l hq)).2.2.1 (fun z => z)
    have ef1 : ∀ q k, q < 122 → ¬ (q = 0 ∧ k = 7) → hF h1 q k = hF h q k := fun q k hq e => (F1.2.2 q (l hq)).2.2.2.2 k e
    have l18 : 3 + 18 ≤ h.1 := by omega
    have S1 : SL h1 (hA h) 3 0 := SL_fq hg im_low F1 l18 (fun j z => by unfold i0F at z; omega) (fun z => by omega) (fun j z1 z2 z => z) S
    have fb : FB h h1 18 232 := FQ_fb F1 (fun q e => e.elim) (fun q e => by subst e; rfl) (fun q j e => by unfold i0F at e; obtain ⟨e1, e2⟩ := e; subst e1; subst e2; rfl) (fun _ _ z => z)
    have L1 : LY h1 := LY_fb hg L fb
    have K1 : KT h1 := KT_fq hg L L1 F1 (fun z => z) (fun z => z) (fun z => z) (fun z => z) (fun j z => by unfold i0F at z; omega) (fun j z => by unfold i0F at z; omega) (fun j z => z) K
    have I1 : IC h1 := IC_op hg I F1 (fun q e => e.elim) (fun q e => by subst e; rfl) (fun q j e => by unfold i0F at e; obtain ⟨e1, e2⟩ := e; subst e1; subst e2; rfl) K1 S1.2.1 (cn_sl S1)
    refine ct_214 L1 ((ef1 77 62 (by omega) (by omega)).trans e77) qm (fun z2 => by exfalso; omega) (fun _ => ⟨_, rfl, rfl, ?_, ?_⟩)
    · have F2 : FQ mdA nun1 i7F nun2 h1 (hwF (stA h1 (cpL (hA h1) 0 ((hF h 0 7).toNat + 1) czt)) 77 62 (hF h 0 7 + 1)) 0 0 := FQ_tr (FQ_A (fun q hq => cp_lo (by unfold mdA at hq; omega))) (FQ_wF (h := stA h1 (cpL (hA h1) 0 ((hF h 0 7).toNat + 1) czt)) ⟨rfl, rfl⟩)
      have A2 : hA (hwF (stA h1 (cpL (hA h1) 0 ((hF h 0 7).toNat + 1) czt)) 77 62 (hF h 0 7 + 1)) = cpL (hA h1) 0 ((hF h 0 7).toNat + 1) czt := rfl
      have f62 : hF (hwF (stA h1 (cpL (hA h1) 0 ((hF h 0 7).toNat + 1) czt)) 77 62 (hF h 0 7 + 1)) 77 62 = hF h 0 7 + 1 := hF_self
      have R2 : hR (hwF (stA h1 (cpL (hA h1) 0 ((hF h 0 7).toNat + 1) czt)) 77 62 (hF h 0 7 + 1)) = hR h1 := rfl
      have K2 : hK (hwF (stA h1 (cpL (hA h1) 0 ((hF h 0 7).toNat + 1) czt)) 77 62 (hF h 0 7 + 1)) = hK h1 := rfl
      have G2 : hG (hwF (stA h1 (cpL (hA h1) 0 ((hF h 0 7).toNat + 1) czt)) 77 62 (hF h 0 7 + 1)) = hG h1 := rfl
      have ef2 : ∀ q k, ¬ (q = 77 ∧ k = 62) → hF (hwF (stA h1 (cpL (hA h1) 0 ((hF h 0 7).toNat + 1) czt)) 77 62 (hF h 0 7 + 1)) q k = hF h1 q k := fun q k e => by
        show av_u2 _ 77 62 _ q k = _
        rw [av_u2, if_neg e]
        rfl
      generalize hwF (stA h1 (cpL (hA h1) 0 ((hF h 0 7).toNat + 1) czt)) 77 62 (hF h 0 7 + 1) = h2 at *
      have ea2 : ∀ q, q < 78 ∨ 93 < q → hA h2 q = hA h1 q := fun q hq => by rw [A2]; exact cp_lo hq
      have e0 : ∀ q, 78 ≤ q → q ≤ 93 → hA h1 q = hA h q := fun q z1 z2 => ea1 q (by omega)
      have I2 : IC h2 := IC_eq ⟨fun q hq => by rw [K2]; exact L1.1 q hq, fun o f q e => by rw [G2]; exact L1.2.1 o f q e, fun i hi => by rw [R2]; exact L1.2.2.1 i hi, fun i hi => by rw [R2]; exact L1.2.2.2 i hi⟩ (fun q => by rw [K2]) (fun q hq => ea2 q (by omega)) (fun q k hq => ef2 q k (by omega)) (fun q => by rw [G2]) (fun q => by rw [R2]) I1
      have l18' : 3 + 18 ≤ h1.1 := by have := F1.1; omega
      have S2 : SL h2 (hA h2) 3 0 := SL_ag (SL_fq hg1 im_lowm F2 l18' (fun j z => by unfold i7F at z; omega) (fun z => z) (fun j z1 z2 z => by unfold mdA at z; omega) S1) (by rw [A2]; exact cp_agb (by omega) e0)
      refine ⟨I2, KT_fq hg1 L1 I2.1 F2 (fun z => by unfold mdA at z; omega) (fun z => by unfold mdA at z; omega) (fun z => by unfold mdA at z; omega) (fun z => by unfold mdA at z; omega) (fun j z => by unfold i7F at z; omega) (fun j z => by unfold i7F at z; omega) (fun j z => z) K1, ⟨n0, a0, m0, IMF_of M I2.1 (fun q z1 z2 => (ea2 q (by omega)).trans (ea1 q (by omega))) (fun k hk => (ef2 77 k (fun z => by rw [z.2] at hk; cases hk)).trans (ef1 77 k (by omega) (by omega))) (MV_of (fun q z1 z2 j => ?_) (fun j => ?_) S2)⟩, ⟨?_, ?_, ?_⟩, S2, ?_⟩
      · rw [A2]
        rcases cp_or (A := hA h1) (a := 0) (b := (hF h 0 7).toNat + 1) (q := q) (j := j) with ⟨w, e⟩
        rw [e, ea1 q (by omega)]
        exact im_bn M q z1 z2 w
      · rw [A2]
        rcases cp_or (A := hA h1) (a := 0) (b := (hF h 0 7).toNat + 1) (q := 81) (j := j) with ⟨w, e⟩
        rw [e, ea1 81 (by omega)]
        exact im_m81 M w
      · rw [ea2 94 (by omega), ea2 2 (by omega), ea1 94 (by omega), ea1 2 (by omega)]; exact p1
      · rw [ef2 77 17 (by omega), ef2 1 1 (by omega), ef1 77 17 (by omega) (by omega), ef1 1 1 (by omega) (by omega)]; exact p2
      · rw [ef2 77 18 (by omega), ef2 0 8 (by omega), ef1 77 18 (by omega) (by omega), ef1 0 8 (by omega) (by omega)]; exact p3
      · have g07 : hF h2 0 7 = hF h 0 7 + 1 := (ef2 0 7 (by omega)).trans f07
        refine ⟨by rw [g07]; omega, by rw [f62, g07], fun i hi hh => ?_⟩
        rw [g07] at hh
        have cc2 : ∀ v t c s f, CC h v t c s f → CC h2 v t c s f := fun v t c s f x => CC_fq hg1 im_lowm F2 (CC_fq hg im_low F1 x)
        by_cases e : i = (hF h 0 7).toNat
        · refine ⟨h.1, ?_, l122, by have := F1.1; have := F2.1; omega, SHP_fq F2 (by have := F1.1; omega) (fun j z => z) ⟨fun z => z, fun z => z⟩ hsh, ?_⟩
          · rw [R2, r21, e]
            exact if_pos rfl
          · have eA3 : ∀ q, q < 8 → hA h2 (h.1 + 3 + q) = plr (hA (nsh h) (h.1 + 3 + q)) (hA (nsh h) (3 + 3 + q)) := fun q hq => by
              rw [ea2 _ (by omega), nA]
              exact blk_A3 hq (by omega)
            have eA12 : ∀ q, q < 6 → hA h2 (h.1 + 12 + q) = plr (hA (nsh h) (h.1 + 12 + q)) (hA (nsh h) (3 + 12 + q)) := fun q hq => by
              rw [ea2 _ (by omega), nA]
              exact blk_A12 hq (by omega)
            have on : ∀ q, q < 122 → hA (nsh h) q = hA h q := fun q hq => (nsh_al.2.2 q (l hq)).2.1
            have z3 : ∀ q, q < 8 → ∀ k, hA (nsh h) (h.1 + 3 + q) k = 0 := fun q hq k => by
              rw [nsh_A]
              show (if _ then (0 : Int) else _) = 0
              rw [if_neg (by omega), if_pos (by omega)]
            have z12 : ∀ q, q < 6 → ∀ k, hA (nsh h) (h.1 + 12 + q) k = 0 := fun q hq k => by
              rw [nsh_A]
              show (if _ then (0 : Int) else _) = 0
              rw [if_pos (by omega)]
            have ff : ∀ k, hF h2 h.1 k = hF (blk (nsh h) h.1 3) h.1 k := fun k => (ef2 h.1 k (by omega)).trans (nF k)
            have bo := blk_Fo (h := nsh h) (o := h.1) (p := 3)
            refine SL_copy S ⟨?_, ?_, ?_⟩ (fun q hq k hk => ?_) (fun q hq k hk => ?_) (fun q hq k => ?_) (fun q hq k => ?_) (fun j hj => ?_) cc2 ?_
            · rw [ff 3, bo.1]; exact nsh_F 3 (by omega)
            · rw [ff 4, bo.2.1]; exact nsh_F 4 (by omega)
            · rw [ff 5, bo.2.2]; exact nsh_F 5 (by omega)
            · rw [eA3 q hq, plr_lt hk, on _ (by omega)]
            · rw [eA12 q hq, plr_lt hk, on _ (by omega)]
            · rw [eA3 q hq]
              exact plr_bd (fun k => by rw [z3 q hq k]; omega) (fun k => by rw [on _ (by omega)]; exact S.2.1.2.1 q hq k) k
            · rw [eA12 q hq]
              exact plr_bd (fun k => by rw [z12 q hq k]; omega) (fun k => by rw [on _ (by omega)]; exact S.2.1.2.2 q hq k) k
            · rw [R2, nR, blk_R, if_pos rfl]
              show (if j < 16 then _ else _) = _
              rw [if_pos hj]
              exact congrFun (nsh_al.2.2 4 (l (by omega))).2.2.2.2 j
            · rw [A2, e]; exact cp_agc e0
        · obtain ⟨o, y1, y2, y3, y4, y5⟩ := X3 i hi (by omega)
          have g1 : o + 18 ≤ h1.1 := by have := F1.1; omega
          refine ⟨o, ?_, y2, by have := F2.1; omega, SHP_fq F2 g1 (fun j z => z) ⟨fun z => z, fun z => z⟩ (SHP_fq F1 y3 (fun j z => z) ⟨fun z => by omega, fun z => by omega⟩ y4), SL_ag (SL_fq hg1 im_lowm F2 g1 (fun j z => by unfold i7F at z; omega) (fun z => z) (fun j z1 z2 z => by unfold mdA at z; omega) (SL_fq hg im_low F1 y3 (fun j z => by unfold i0F at z; omega) (fun z => by omega) (fun j z1 z2 z => z) y5)) ?_⟩
          · rw [R2, r21]; exact (if_neg e).trans y1
          · rw [A2]; exact cp_agb (by omega) e0
    · have e1 := F1.1
      have e2 := F1.2.1
      exact ⟨by show h1.1 ≤ _; omega, by show h1.2.1 ≤ _; omega⟩
def bkA (a : Nat) : Prop := a = 27 ∨ (6 ≤ a ∧ a ≤ 13) ∨ (15 ≤ a ∧ a ≤ 20)
def bkF (o f : Nat) : Prop := o = 3 ∧ 3 ≤ f ∧ f ≤ 5
theorem bk_low : LOW bkA (fun q => q = 4) bkF nun2 := ⟨fun q e => by unfold bkA at e; omega, fun q e => by omega, fun q j e => by unfold bkF at e; omega, fun q j e => e.elim⟩
theorem bk_lowm : LOW mdA nun1 nun2 nun2 := ⟨fun q e => by unfold mdA at e; omega, fun q e => e.elim, fun q j e => e.elim, fun q j e => e.elim⟩
theorem hbk_fq {h : av_H} {p : Nat} : FQ bkA (fun q => q = 4) bkF nun2 h (hfil (blk h 3 p) 27 0 144 0) 0 0 := by
  refine ⟨rfl, rfl, fun q hq => ⟨rfl, fun j _ => rfl, fun e => ?_, fun e => ?_, fun j e => ?_⟩⟩
  · have e1 : hA (hfil (blk h 3 p) 27 0 144 0) q = hA (blk h 3 p) q := by
      funext j
      exact if_neg (fun z => e (by unfold bkA; omega))
    rw [e1]
    exact blk_A (by unfold bkA at e; omega)
  · show hR (blk h 3 p) q = _
    rw [blk_R, if_neg e]
  · show av_u2 (av_u2 (av_u2 h.2.2.2.2.1 3 3 _) 3 4 _) 3 5 _ q j = _
    unfold bkF at e
    rw [av_u2, if_neg (by omega), av_u2, if_neg (by omega), av_u2, if_neg (by omega)]
theorem op_back {h : av_H} (B : BK h) (k : Int) (qk : -2147483648 ≤ k ∧ k ≤ 2147483647) : av_wp none cd_124 0 [some (.inr (.inr (.inl (some (0))))), some (.inl k)] [] h (OPr cd_215 [some (.inr (.inr (.inl (some (77))))), some (.inl k)] h (fun x y => x = y)) := by
  refine gd_of (fun hg => ?_)
  have B0 := B
  obtain ⟨I, K, ⟨n0, a0, m0, M⟩, ⟨p1, p2, p3⟩, S, X⟩ := B
  have L := I.1
  have l : ∀ {q : Nat}, q < 122 → q < h.1 := fun hq => ly_lt hg L hq
  have l122 : 122 ≤ h.1 := by have := l (q := 121) (by omega); omega
  have XX := X
  obtain ⟨qm, e77, X3⟩ := X
  refine ct_124 L rfl qm k qk (fun i hi hh => ?_) (fun p i hi hh e j hj q eq => ?_) (fun z => ?_) (fun z1 z2 p ep _ _ => ?_)
  · obtain ⟨o, y1, y2, _, y4, _⟩ := X3 i hi hh
    exact ⟨o, y1, y2, y4⟩
  · obtain ⟨o, y1, _, _, _, y5⟩ := X3 i hi hh
    rw [y1] at e
    cases e
    exact cw_k1 (y5.2.1.1 j hj) eq
  · exact ⟨0, rfl, ly_k L 77 rfl, ct_215 L e77 qm k qk (fun _ => ⟨0, rfl, rfl, B0, RM_0 rfl rfl⟩) (fun z2 z3 => by exfalso; omega)⟩
  · refine ⟨_, rfl, (show hK h 77 = (8, 0) from ly_k L 77 rfl), gd_of (fun hg1 => ?_)⟩
    obtain ⟨o, y1, y2, y3, y4, y5⟩ := X3 k.toNat (by omega) (by omega)
    rw [y1] at ep
    have eo : o = p := Option.some.inj ep
    subst eo
    have F1 := hbk_fq (h := h) (p := o)
    have bo := blk_Fo (h := h) (o := 3) (p := o)
    have nF : ∀ f, hF (hfil (blk h 3 o) 27 0 144 0) 3 f = hF (blk h 3 o) 3 f := fun _ => rfl
    have nR : hR (hfil (blk h 3 o) 27 0 144 0) 4 = hR (blk h 3 o) 4 := rfl
    have nA : ∀ q, q ≠ 27 → hA (hfil (blk h 3 o) 27 0 144 0) q = hA (blk h 3 o) q := fun q hq => by
      funext j
      exact if_neg (fun z => hq z.1)
    generalize hfil (blk h 3 o) 27 0 144 0 = h1 at *
    have ea1 : ∀ q, q < 122 → ¬ bkA q → hA h1 q = hA h q := fun q hq e => (F1.2.2 q (l hq)).2.2.1 e
    have ef1 : ∀ q f, q < 122 → q ≠ 3 → hF h1 q f = hF h q f := fun q f hq e => (F1.2.2 q (l hq)).2.2.2.2 f (fun z => e z.1)
    have bb1 : ∀ q, bkA q → bA q = true := fun q e => by
      have hh : ∀ q, q < 28 → (q = 27 ∨ (6 ≤ q ∧ q ≤ 13) ∨ (15 ≤ q ∧ q ≤ 20)) → bA q = true := by decide
      exact hh q (by unfold bkA at e; omega) e
    have bb2 : ∀ q j, bkF q j → bF q j = true := fun q j e => by
      unfold bkF at e
      obtain ⟨e1, e2⟩ := e
      subst e1
      rcases (show j = 3 ∨ j = 4 ∨ j = 5 by omega) with e | e | e <;> subst e <;> rfl
    have fb : FB h h1 0 0 := FQ_fb F1 bb1 (fun q e => by subst e; rfl) bb2 (fun _ _ z => z)
    have L1 : LY h1 := LY_fb hg L fb
    have K1 : KT h1 := KT_fq hg L L1 F1 (fun z => by unfold bkA at z; omega) (fun z => by unfold bkA at z; omega) (fun z => by unfold bkA at z; omega) (fun z => by unfold bkA at z; omega) (fun j z => by unfold bkF at z; omega) (fun j z => by unfold bkF at z; omega) (fun j z => z) K
    have e0 : ∀ q, 78 ≤ q → q ≤ 93 → hA h1 q = hA h q := fun q z1 z2 => ea1 q (by omega) (fun z => by unfold bkA at z; omega)
    have S1 : SL h1 (cpL (hA h1) (k.toNat + 1) 0 czt) 3 0 := by
      have eA3 : ∀ q, q < 8 → hA h1 (3 + 3 + q) = plr (hA h (3 + 3 + q)) (hA h (o + 3 + q)) := fun q hq => by
        rw [nA _ (by omega)]
        exact blk_A3 hq (by omega)
      have eA12 : ∀ q, q < 6 → hA h1 (3 + 12 + q) = plr (hA h (3 + 12 + q)) (hA h (o + 12 + q)) := fun q hq => by
        rw [nA _ (by omega)]
        exact blk_A12 hq (by omega)
      refine SL_copy y5 ⟨(nF 3).trans bo.1, (nF 4).trans bo.2.1, (nF 5).trans bo.2.2⟩ (fun q hq j hj => ?_) (fun q hq j hj => ?_) (fun q hq j => ?_) (fun q hq j => ?_) (fun j hj => ?_) (fun v t c s f x => CC_fq hg bk_low F1 x) (cp_agc e0)
      · rw [eA3 q hq, plr_lt hj]
      · rw [eA12 q hq, plr_lt hj]
      · rw [eA3 q hq]
        exact plr_bd (S.2.1.2.1 q hq) (y5.2.1.2.1 q hq) j
      · rw [eA12 q hq]
        exact plr_bd (S.2.1.2.2 q hq) (y5.2.1.2.2 q hq) j
      · show hR h1 4 j = _
        rw [nR, blk_R, if_pos rfl]
        show (if j < 16 then _ else _) = _
        rw [if_pos hj]
    have I1 : IC h1 := IC_op hg I F1 bb1 (fun q e => by subst e; rfl) bb2 K1 S1.2.1 (cn_sl S1)
    refine ct_215 L1 ((ef1 77 62 (by omega) (by omega)).trans e77) qm k qk (fun z2 => by exfalso; omega) (fun _ _ => ⟨_, rfl, rfl, ?_, ?_⟩)
    · have F2 : FQ mdA nun1 nun2 nun2 h1 (stA h1 (cpL (hA h1) (k.toNat + 1) 0 czt)) 0 0 := FQ_A (fun q hq => cp_lo (by unfold mdA at hq; omega))
      have A2 : hA (stA h1 (cpL (hA h1) (k.toNat + 1) 0 czt)) = cpL (hA h1) (k.toNat + 1) 0 czt := rfl
      have R2 : hR (stA h1 (cpL (hA h1) (k.toNat + 1) 0 czt)) = hR h1 := rfl
      have K2 : hK (stA h1 (cpL (hA h1) (k.toNat + 1) 0 czt)) = hK h1 := rfl
      have G2 : hG (stA h1 (cpL (hA h1) (k.toNat + 1) 0 czt)) = hG h1 := rfl
      have ef2 : ∀ q j, hF (stA h1 (cpL (hA h1) (k.toNat + 1) 0 czt)) q j = hF h1 q j := fun q j => rfl
      generalize stA h1 (cpL (hA h1) (k.toNat + 1) 0 czt) = h2 at *
      have ea2 : ∀ q, q < 78 ∨ 93 < q → hA h2 q = hA h1 q := fun q hq => by rw [A2]; exact cp_lo hq
      have I2 : IC h2 := IC_eq ⟨fun q hq => by rw [K2]; exact L1.1 q hq, fun o f q e => by rw [G2]; exact L1.2.1 o f q e, fun i hi => by rw [R2]; exact L1.2.2.1 i hi, fun i hi => by rw [R2]; exact L1.2.2.2 i hi⟩ (fun q => by rw [K2]) (fun q hq => ea2 q (by omega)) (fun q j hq => ef2 q j) (fun q => by rw [G2]) (fun q => by rw [R2]) I1
      have l18' : 3 + 18 ≤ h1.1 := by have := F1.1; omega
      have S2 : SL h2 (hA h2) 3 0 := by
        rw [A2]
        exact SL_fq hg1 bk_lowm F2 l18' (fun j z => z) (fun z => z) (fun j z1 z2 z => by unfold mdA at z; omega) S1
      refine ⟨I2, KT_fq hg1 L1 I2.1 F2 (fun z => by unfold mdA at z; omega) (fun z => by unfold mdA at z; omega) (fun z => by unfold mdA at z; omega) (fun z => by unfold mdA at z; omega) (fun j z => z) (fun j z => z) (fun j z => z) K1, ⟨n0, a0, m0, IMF_of M I2.1 (fun q z1 z2 => (ea2 q (by omega)).trans (ea1 q (by omega) (fun z => by unfold bkA at z; omega))) (fun j hk => (ef2 77 j).trans (ef1 77 j (by omega) (by omega))) (MV_of (fun q z1 z2 j => ?_) (fun j => ?_) S2)⟩, ⟨?_, ?_, ?_⟩, S2, ?_⟩
      · rw [A2]
        rcases cp_or (A := hA h1) (a := k.toNat + 1) (b := 0) (q := q) (j := j) with ⟨w, e⟩
        rw [e, e0 q (by omega) (by omega)]
        exact im_bn M q z1 z2 w
      · rw [A2]
        rcases cp_or (A := hA h1) (a := k.toNat + 1) (b := 0) (q := 81) (j := j) with ⟨w, e⟩
        rw [e, e0 81 (by omega) (by omega)]
        exact im_m81 M w
      · rw [ea2 94 (by omega), ea2 2 (by omega), ea1 94 (by omega) (fun z => by unfold bkA at z; omega), ea1 2 (by omega) (fun z => by unfold bkA at z; omega)]; exact p1
      · rw [ef2 77 17, ef2 1 1, ef1 77 17 (by omega) (by omega), ef1 1 1 (by omega) (by omega)]; exact p2
      · rw [ef2 77 18, ef2 0 8, ef1 77 18 (by omega) (by omega), ef1 0 8 (by omega) (by omega)]; exact p3
      · have X1 := XI_fq hg L bk_low F1 (fun z => by unfold bkF at z; omega) (fun z => by unfold bkF at z; omega) (fun z => by omega) XX
        refine XI_ag (XI_fq hg1 L1 bk_lowm F2 (fun z => z) (fun z => z) (fun z => z) X1) (fun i _ _ => ?_)
        rw [A2]
        exact cp_agb (by omega) e0
    · exact RM_0 F1.1 F1.2.1
end
section
/-! THE SMALL LOOKS, safety alone -/
set_option maxRecDepth 100000 in
set_option maxHeartbeats 4000000 in
theorem ct_103 {h : av_H} (I : IC h) (n : Int) (qn : -2147483648 ≤ n ∧ n ≤ 2147483647) (w : Int) (qw : -2147483648 ≤ w ∧ w ≤ 2147483647) {Q : Option av_V → av_H → Prop} (hq : ∀ (v : Int) h', IC h' → Fr h h' → Q (some (.inl v)) h') : av_wp none cd_103 0 [some (.inr (.inr (.inl (some (0))))), some (.inl n), some (.inl w), none] [] h Q := by
  have F := Fr_rf h
  refine av_wp_sqF ck_103 1 (pc' := 1) (lv' := [some (.inr (.inr (.inl (some (0))))), some (.inl n), some (.inl w), none]) (st' := [.inr (.inr (.inl (some (0))))]) (h' := h) rfl ?_
  refine wq_gr (p' := 4) (ck_103 _ _ rfl) rfl (congrArg Prod.fst (ly_k I.1 0 rfl)) rfl (ly_g I.1 0 1 3 rfl) ?_
  refine av_wp_sqF ck_103 1 (pc' := 5) (lv' := [some (.inr (.inr (.inl (some (0))))), some (.inl n), some (.inl w), none]) (st' := [.inl n, .inr (.inr (.inl (some (3))))]) (h' := h) rfl ?_
  refine wq_cv (p' := 8) (av_qc (.invokevirtual 96) 69 1 0 5) 2 cd_69 [.inl n] (3) 5 [some (.inr (.inr (.inl (some (3))))), some (.inl n)] (ck_103 _ _ rfl) rfl rfl pp_69 rfl rfl rfl (congrArg Prod.fst (ly_k I.1 3 rfl)) rfl rfl rfl rfl ?_
  refine ct_69 I (n) (by omega) ?_ (fun t1 c2 s3 d4 o5 z6 z7 => ?_)
  · show av_wp _ cd_103 8 [some (.inr (.inr (.inl (some (0))))), some (.inl n), some (.inl w), none] [.inr (.inr (.inl none))] h _
    refine av_wp_sqF ck_103 4 (pc' := 15) (lv' := [some (.inr (.inr (.inl (some (0))))), some (.inl n), some (.inl w), some (.inr (.inr (.inl none)))]) (st' := [.inl (-2)]) (h' := h) rfl ?_
    refine av_wp_ret (v := some (.inl (-2))) (ck_103 _ _ rfl) rfl rfl ?_
    exact hq _ h I F
  · have g8 := co_s12 o5
    have g9 := co_cbr o5
    show av_wp _ cd_103 8 [some (.inr (.inr (.inl (some (0))))), some (.inl n), some (.inl w), none] [.inr (.inr (.inl (some (t1))))] h _
    refine av_wp_sqF ck_103 4 (pc' := 17) (lv' := [some (.inr (.inr (.inl (some (0))))), some (.inl n), some (.inl w), some (.inr (.inr (.inl (some (t1)))))]) (st' := [.inl w]) (h' := h) rfl ?_
    rcases (show w = 0 ∨ w = 1 ∨ w = 2 ∨ (w < 0 ∨ 2 < w) by omega) with e10 | e10 | e10 | e10
    · refine wq_tc (t := 44) (ck_103 _ _ rfl) e10 rfl ?_
      refine av_wp_sqF ck_103 1 (pc' := 45) (lv' := [some (.inr (.inr (.inl (some (0))))), some (.inl n), some (.inl w), some (.inr (.inr (.inl (some (t1)))))]) (st' := [.inr (.inr (.inl (some (t1))))]) (h' := h) rfl ?_
      refine wq_gi (p' := 48) (ck_103 _ _ rfl) rfl (congrArg Prod.fst (co_kt o5)) rfl (co_s o5) ?_
      refine av_wp_ret (v := some (.inl (s3 : Int))) (ck_103 _ _ rfl) rfl rfl ?_
      exact hq _ h I F
    · refine wq_tc (t := 49) (ck_103 _ _ rfl) e10 rfl ?_
      refine av_wp_sqF ck_103 1 (pc' := 50) (lv' := [some (.inr (.inr (.inl (some (0))))), some (.inl n), some (.inl w), some (.inr (.inr (.inl (some (t1)))))]) (st' := [.inr (.inr (.inl (some (t1))))]) (h' := h) rfl ?_
      obtain ⟨v11, e12⟩ : ∃ v, hF h t1 2 = v := ⟨_, rfl⟩
      refine wq_gi (p' := 53) (ck_103 _ _ rfl) rfl (congrArg Prod.fst (co_kt o5)) rfl (e12) ?_
      refine av_wp_ret (v := some (.inl v11)) (ck_103 _ _ rfl) rfl rfl ?_
      exact hq _ h I F
    · refine wq_tc (t := 54) (ck_103 _ _ rfl) e10 rfl ?_
      refine av_wp_sqF ck_103 1 (pc' := 55) (lv' := [some (.inr (.inr (.inl (some (0))))), some (.inl n), some (.inl w), some (.inr (.inr (.inl (some (t1)))))]) (st' := [.inr (.inr (.inl (some (t1))))]) (h' := h) rfl ?_
      refine wq_gi (p' := 58) (ck_103 _ _ rfl) rfl (congrArg Prod.fst (co_kt o5)) rfl (co_cb o5) ?_
      refine av_wp_ret (v := some (.inl d4)) (ck_103 _ _ rfl) rfl rfl ?_
      exact hq _ h I F
    · refine wq_td (t := 59) (ck_103 _ _ rfl) ⟨by omega, by omega⟩ e10 rfl ?_
      refine av_wp_sqF ck_103 1 (pc' := 61) (lv' := [some (.inr (.inr (.inl (some (0))))), some (.inl n), some (.inl w), some (.inr (.inr (.inl (some (t1)))))]) (st' := [.inl (-2)]) (h' := h) rfl ?_
      refine av_wp_ret (v := some (.inl (-2))) (ck_103 _ _ rfl) rfl rfl ?_
      exact hq _ h I F

set_option maxRecDepth 100000 in
set_option maxHeartbeats 4000000 in
theorem ct_158 {g h : av_H} {n a m : Int} (I : IMF n a m h) (F : FM g h)  {Q : Option av_V → av_H → Prop} (hq : ∀ (v : Int) n' a' m' h', IMF n' a' m' h' → FM g h' → Q (some (.inl v)) h') : av_wp none cd_158 0 [some (.inr (.inr (.inl (some (77)))))] [] h Q := by
  have gn := im_n I.1.1
  rw [I.2.1] at gn
  have ga := im_a I.1.1
  rw [I.2.2.1] at ga
  have gm := im_cm I.1.1
  rw [I.2.2.2] at gm
  refine av_wp_seq 1 (pc' := 1) (lv' := [some (.inr (.inr (.inl (some (77)))))]) (st' := [.inr (.inr (.inl (some (77))))]) (h' := h) rfl ?_
  obtain ⟨v1, e2⟩ : ∃ v, hF h 77 18 = v := ⟨_, rfl⟩
  refine wq_gi (p' := 4) rfl rfl (congrArg Prod.fst (ly_k I.1.1.1 77 rfl)) rfl (e2) ?_
  refine av_wp_ret (v := some (.inl v1)) rfl rfl rfl ?_
  exact hq _ _ _ _ h I F

set_option maxRecDepth 100000 in
set_option maxHeartbeats 4000000 in
theorem ct_160 {g h : av_H} {n a m : Int} (I : IMF n a m h) (F : FM g h) (l : Int) (ql : -2147483648 ≤ l ∧ l ≤ 2147483647) (w : Int) (qw : -2147483648 ≤ w ∧ w ≤ 2147483647) {Q : Option av_V → av_H → Prop} (hq : ∀ (v : Int) n' a' m' h', IMF n' a' m' h' → FM g h' → Q (some (.inl v)) h') : av_wp none cd_160 0 [some (.inr (.inr (.inl (some (77))))), some (.inl l), some (.inl w)] [] h Q := by
  have gn := im_n I.1.1
  rw [I.2.1] at gn
  have ga := im_a I.1.1
  rw [I.2.2.1] at ga
  have gm := im_cm I.1.1
  rw [I.2.2.2] at gm
  refine av_wp_sqF ck_160 2 (pc' := 2) (lv' := [some (.inr (.inr (.inl (some (77))))), some (.inl l), some (.inl w)]) (st' := [.inl l, .inr (.inr (.inl (some (77))))]) (h' := h) rfl ?_
  refine wq_cv (p' := 5) (av_qc (.invokevirtual 345) 150 1 0 8) 2 cd_150 [.inl l] (77) 8 [some (.inr (.inr (.inl (some (77))))), some (.inl l)] (ck_160 _ _ rfl) rfl rfl pp_150 rfl rfl rfl (congrArg Prod.fst (ly_k I.1.1.1 77 rfl)) rfl rfl rfl rfl ?_
  refine ct_150 I.1 F (l) (by omega) (fun v1 p2 => ?_)
  show av_wp _ cd_160 5 [some (.inr (.inr (.inl (some (77))))), some (.inl l), some (.inl w)] [.inl v1] h _
  refine wq_k1 (p' := 8) (ck_160 _ _ rfl) rfl ⟨by omega, by omega⟩ (fun c3 => ?_) (fun c4 => ?_)
  · have c3 : v1 = (0) := c3
    refine av_wp_sqF ck_160 1 (pc' := 20) (lv' := [some (.inr (.inr (.inl (some (77))))), some (.inl l), some (.inl w)]) (st' := [.inl (-2)]) (h' := h) rfl ?_
    refine av_wp_ret (v := some (.inl (-2))) (ck_160 _ _ rfl) rfl rfl ?_
    exact hq _ _ _ _ h I F
  · have c4 : v1 ≠ (0) := c4
    refine av_wp_sqF ck_160 3 (pc' := 12) (lv' := [some (.inr (.inr (.inl (some (77))))), some (.inl l), some (.inl w)]) (st' := [.inl (13), .inl (0), .inl w]) (h' := h) rfl ?_
    refine wq_cs (p' := 15) (av_qc (.invokestatic 176) 127 3 2 8) 3 cd_127 [.inl w, .inl (0), .inl (13)] [.inl (13), .inl (0), .inl w] [some (.inl w), some (.inl (0)), some (.inl (13))] (ck_160 _ _ rfl) rfl rfl pp_127 (fun _ => rfl) rfl rfl ?_
    refine ct_127 (g := h) (w) (by omega) ((0)) (by omega) ((13)) (by omega) (fun v5 p6 => ?_)
    show av_wp _ cd_160 15 [some (.inr (.inr (.inl (some (77))))), some (.inl l), some (.inl w)] [.inl v5] h _
    refine wq_k1 (p' := 18) (ck_160 _ _ rfl) rfl ⟨by omega, by omega⟩ (fun c7 => ?_) (fun c8 => ?_)
    · have c7 : v5 ≠ (0) := c7
      refine av_wp_sqF ck_160 2 (pc' := 24) (lv' := [some (.inr (.inr (.inl (some (77))))), some (.inl l), some (.inl w)]) (st' := [.inl (13), .inl w]) (h' := h) rfl ?_
      refine wq_k2 (p' := 27) (ck_160 _ _ rfl) rfl ⟨by omega, by omega⟩ ⟨by omega, by omega⟩ (fun c9 => ?_) (fun c10 => ?_)
      · have c9 : w ≠ (13) := c9
        refine av_wp_sqF ck_160 3 (pc' := 43) (lv' := [some (.inr (.inr (.inl (some (77))))), some (.inl l), some (.inl w)]) (st' := [.inl (0), .inl l, .inr (.inr (.inl (some (77))))]) (h' := h) rfl ?_
        refine wq_cv (p' := 46) (av_qc (.invokevirtual 348) 159 2 0 8) 5 cd_159 [.inl (0), .inl l] (77) 8 [some (.inr (.inr (.inl (some (77))))), some (.inl l), some (.inl (0)), none, none] (ck_160 _ _ rfl) rfl rfl pp_159 rfl rfl rfl (congrArg Prod.fst (ly_k I.1.1.1 77 rfl)) rfl rfl rfl rfl ?_
        refine ct_159 I F (l) (by omega) ((0)) (fun h13 I14 F15 => ?_)
        show av_wp _ cd_160 46 [some (.inr (.inr (.inl (some (77))))), some (.inl l), some (.inl w)] [] h13 _
        refine av_wp_sqF ck_160 1 (pc' := 47) (lv' := [some (.inr (.inr (.inl (some (77))))), some (.inl l), some (.inl w)]) (st' := [.inr (.inr (.inl (some (77))))]) (h' := h13) rfl ?_
        refine wq_gr (p' := 50) (ck_160 _ _ rfl) rfl (congrArg Prod.fst (ly_k I14.1.1.1 77 rfl)) rfl (ly_g I14.1.1.1 77 26 95 rfl) ?_
        refine av_wp_sqF ck_160 1 (pc' := 51) (lv' := [some (.inr (.inr (.inl (some (77))))), some (.inl l), some (.inl w)]) (st' := [.inl w, .inr (.inr (.inl (some (95))))]) (h' := h13) rfl ?_
        obtain ⟨v16, e17⟩ : ∃ v, hA h13 95 (Int.toNat (w)) = v := ⟨_, rfl⟩
        refine wq_al (p' := 52) (n := 13) (ck_160 _ _ rfl) rfl (ly_k I14.1.1.1 95 rfl) (by omega) (e17) ?_
        refine av_wp_ret (v := some (.inl v16)) (ck_160 _ _ rfl) rfl rfl ?_
        exact hq _ _ _ _ h13 I14 F15
      · have c10 : w = (13) := c10
        refine av_wp_sqF ck_160 1 (pc' := 28) (lv' := [some (.inr (.inr (.inl (some (77))))), some (.inl l), some (.inl w)]) (st' := [.inr (.inr (.inl (some (77))))]) (h' := h) rfl ?_
        refine wq_gr (p' := 31) (ck_160 _ _ rfl) rfl (congrArg Prod.fst (ly_k I.1.1.1 77 rfl)) rfl (ly_g I.1.1.1 77 15 93 rfl) ?_
        refine av_wp_sqF ck_160 5 (pc' := 38) (lv' := [some (.inr (.inr (.inl (some (77))))), some (.inl l), some (.inl w)]) (st' := [.inl (((14) * l) + (13)), .inr (.inr (.inl (some (93))))]) (h' := h) rfl ?_
        obtain ⟨v19, e20⟩ : ∃ v, hA h 93 (Int.toNat ((((14) * l) + (13)))) = v := ⟨_, rfl⟩
        refine wq_al (p' := 39) (n := 980) (ck_160 _ _ rfl) rfl (ly_k I.1.1.1 93 rfl) (by omega) (e20) ?_
        refine av_wp_ret (v := some (.inl v19)) (ck_160 _ _ rfl) rfl rfl ?_
        exact hq _ _ _ _ h I F
    · have c8 : v5 = (0) := c8
      refine av_wp_sqF ck_160 1 (pc' := 20) (lv' := [some (.inr (.inr (.inl (some (77))))), some (.inl l), some (.inl w)]) (st' := [.inl (-2)]) (h' := h) rfl ?_
      refine av_wp_ret (v := some (.inl (-2))) (ck_160 _ _ rfl) rfl rfl ?_
      exact hq _ _ _ _ h I F

set_option maxRecDepth 100000 in
set_option maxHeartbeats 4000000 in
theorem ct_161 {g h : av_H} {n a m : Int} (I : IMF n a m h) (F : FM g h) (x : Int) (qx : -2147483648 ≤ x ∧ x ≤ 2147483647) (k : Int) (qk : -2147483648 ≤ k ∧ k ≤ 2147483647) (w : Int) (qw : -2147483648 ≤ w ∧ w ≤ 2147483647) {Q : Option av_V → av_H → Prop} (hq : ∀ (v : Int) n' a' m' h', IMF n' a' m' h' → FM g h' → Q (some (.inl v)) h') : av_wp none cd_161 0 [some (.inr (.inr (.inl (some (77))))), some (.inl x), some (.inl k), some (.inl w), none] [] h Q := by
  have gn := im_n I.1.1
  rw [I.2.1] at gn
  have ga := im_a I.1.1
  rw [I.2.2.1] at ga
  have gm := im_cm I.1.1
  rw [I.2.2.2] at gm
  refine av_wp_sqF ck_161 2 (pc' := 2) (lv' := [some (.inr (.inr (.inl (some (77))))), some (.inl x), some (.inl k), some (.inl w), none]) (st' := [.inl x, .inr (.inr (.inl (some (77))))]) (h' := h) rfl ?_
  refine wq_cv (p' := 5) (av_qc (.invokevirtual 299) 149 1 0 8) 2 cd_149 [.inl x] (77) 8 [some (.inr (.inr (.inl (some (77))))), some (.inl x)] (ck_161 _ _ rfl) rfl rfl pp_149 rfl rfl rfl (congrArg Prod.fst (ly_k I.1.1.1 77 rfl)) rfl rfl rfl rfl ?_
  refine ct_149 I.1 F (x) (by omega) (fun v1 p2 => ?_)
  show av_wp _ cd_161 5 [some (.inr (.inr (.inl (some (77))))), some (.inl x), some (.inl k), some (.inl w), none] [.inl v1] h _
  refine wq_k1 (p' := 8) (ck_161 _ _ rfl) rfl ⟨by omega, by omega⟩ (fun c3 => ?_) (fun c4 => ?_)
  · have c3 : v1 = (0) := c3
    refine av_wp_sqF ck_161 1 (pc' := 24) (lv' := [some (.inr (.inr (.inl (some (77))))), some (.inl x), some (.inl k), some (.inl w), none]) (st' := [.inl (-2)]) (h' := h) rfl ?_
    refine av_wp_ret (v := some (.inl (-2))) (ck_161 _ _ rfl) rfl rfl ?_
    exact hq _ _ _ _ h I F
  · have c4 : v1 ≠ (0) := c4
    refine av_wp_sqF ck_161 1 (pc' := 9) (lv' := [some (.inr (.inr (.inl (some (77))))), some (.inl x), some (.inl k), some (.inl w), none]) (st' := [.inl k]) (h' := h) rfl ?_
    refine wq_k1 (p' := 12) (ck_161 _ _ rfl) rfl ⟨by omega, by omega⟩ (fun c5 => ?_) (fun c6 => ?_)
    · have c5 : k < (0) := c5
      refine av_wp_sqF ck_161 1 (pc' := 24) (lv' := [some (.inr (.inr (.inl (some (77))))), some (.inl x), some (.inl k), some (.inl w), none]) (st' := [.inl (-2)]) (h' := h) rfl ?_
      refine av_wp_ret (v := some (.inl (-2))) (ck_161 _ _ rfl) rfl rfl ?_
      exact hq _ _ _ _ h I F
    · have c6 : (0) ≤ k := c6
      refine av_wp_sqF ck_161 2 (pc' := 14) (lv' := [some (.inr (.inr (.inl (some (77))))), some (.inl x), some (.inl k), some (.inl w), none]) (st' := [.inr (.inr (.inl (some (77)))), .inl k]) (h' := h) rfl ?_
      refine wq_gr (p' := 17) (ck_161 _ _ rfl) rfl (congrArg Prod.fst (ly_k I.1.1.1 77 rfl)) rfl (ly_g I.1.1.1 77 3 81 rfl) ?_
      refine av_wp_sqF ck_161 1 (pc' := 18) (lv' := [some (.inr (.inr (.inl (some (77))))), some (.inl x), some (.inl k), some (.inl w), none]) (st' := [.inl x, .inr (.inr (.inl (some (81)))), .inl k]) (h' := h) rfl ?_
      obtain ⟨v7, e8⟩ : ∃ v, hA h 81 (Int.toNat (x)) = v := ⟨_, rfl⟩
      have g9 := im_many I.1.1 (Int.toNat (x))
      rw [e8] at g9
      refine wq_al (p' := 19) (n := 80) (ck_161 _ _ rfl) rfl (ly_k I.1.1.1 81 rfl) (by omega) (e8) ?_
      refine wq_k2 (p' := 22) (ck_161 _ _ rfl) rfl ⟨by omega, by omega⟩ ⟨by omega, by omega⟩ (fun c10 => ?_) (fun c11 => ?_)
      · have c10 : k < v7 := c10
        refine av_wp_sqF ck_161 9 (pc' := 38) (lv' := [some (.inr (.inr (.inl (some (77))))), some (.inl x), some (.inl k), some (.inl w), some (.inl (((12) * x) + k))]) (st' := [.inl (14), .inl (10), .inl w]) (h' := h) rfl ?_
        refine wq_cs (p' := 41) (av_qc (.invokestatic 176) 127 3 2 8) 3 cd_127 [.inl w, .inl (10), .inl (14)] [.inl (14), .inl (10), .inl w] [some (.inl w), some (.inl (10)), some (.inl (14))] (ck_161 _ _ rfl) rfl rfl pp_127 (fun _ => rfl) rfl rfl ?_
        refine ct_127 (g := h) (w) (by omega) ((10)) (by omega) ((14)) (by omega) (fun v12 p13 => ?_)
        show av_wp _ cd_161 41 [some (.inr (.inr (.inl (some (77))))), some (.inl x), some (.inl k), some (.inl w), some (.inl (((12) * x) + k))] [.inl v12] h _
        refine wq_k1 (p' := 44) (ck_161 _ _ rfl) rfl ⟨by omega, by omega⟩ (fun c14 => ?_) (fun c15 => ?_)
        · have c14 : v12 = (0) := c14
          refine av_wp_sqF ck_161 1 (pc' := 60) (lv' := [some (.inr (.inr (.inl (some (77))))), some (.inl x), some (.inl k), some (.inl w), some (.inl (((12) * x) + k))]) (st' := [.inl w]) (h' := h) rfl ?_
          rcases (show w = 0 ∨ w = 1 ∨ w = 2 ∨ w = 3 ∨ w = 4 ∨ w = 5 ∨ w = 6 ∨ (w < 0 ∨ 6 < w) by omega) with e16 | e16 | e16 | e16 | e16 | e16 | e16 | e16
          · refine wq_tc (t := 104) (ck_161 _ _ rfl) e16 rfl ?_
            refine av_wp_sqF ck_161 1 (pc' := 105) (lv' := [some (.inr (.inr (.inl (some (77))))), some (.inl x), some (.inl k), some (.inl w), some (.inl (((12) * x) + k))]) (st' := [.inr (.inr (.inl (some (77))))]) (h' := h) rfl ?_
            refine wq_gr (p' := 108) (ck_161 _ _ rfl) rfl (congrArg Prod.fst (ly_k I.1.1.1 77 rfl)) rfl (ly_g I.1.1.1 77 4 82 rfl) ?_
            refine av_wp_sqF ck_161 1 (pc' := 110) (lv' := [some (.inr (.inr (.inl (some (77))))), some (.inl x), some (.inl k), some (.inl w), some (.inl (((12) * x) + k))]) (st' := [.inl (((12) * x) + k), .inr (.inr (.inl (some (82))))]) (h' := h) rfl ?_
            obtain ⟨v17, e18⟩ : ∃ v, hA h 82 (Int.toNat ((((12) * x) + k))) = v := ⟨_, rfl⟩
            have g19 : 0 ≤ hA h 82 (Int.toNat ((((12) * x) + k))) ∧ hA h 82 (Int.toNat ((((12) * x) + k))) ≤ 7 := im_m I.1.1 82 (by decide) (by decide) _
            rw [e18] at g19
            refine wq_al (p' := 111) (n := 960) (ck_161 _ _ rfl) rfl (ly_k I.1.1.1 82 rfl) (by omega) (e18) ?_
            refine av_wp_ret (v := some (.inl v17)) (ck_161 _ _ rfl) rfl rfl ?_
            exact hq _ _ _ _ h I F
          · refine wq_tc (t := 112) (ck_161 _ _ rfl) e16 rfl ?_
            refine av_wp_sqF ck_161 1 (pc' := 113) (lv' := [some (.inr (.inr (.inl (some (77))))), some (.inl x), some (.inl k), some (.inl w), some (.inl (((12) * x) + k))]) (st' := [.inr (.inr (.inl (some (77))))]) (h' := h) rfl ?_
            refine wq_gr (p' := 116) (ck_161 _ _ rfl) rfl (congrArg Prod.fst (ly_k I.1.1.1 77 rfl)) rfl (ly_g I.1.1.1 77 5 83 rfl) ?_
            refine av_wp_sqF ck_161 1 (pc' := 118) (lv' := [some (.inr (.inr (.inl (some (77))))), some (.inl x), some (.inl k), some (.inl w), some (.inl (((12) * x) + k))]) (st' := [.inl (((12) * x) + k), .inr (.inr (.inl (some (83))))]) (h' := h) rfl ?_
            obtain ⟨v20, e21⟩ : ∃ v, hA h 83 (Int.toNat ((((12) * x) + k))) = v := ⟨_, rfl⟩
            have g22 : 0 ≤ hA h 83 (Int.toNat ((((12) * x) + k))) ∧ hA h 83 (Int.toNat ((((12) * x) + k))) ≤ 2 := im_m I.1.1 83 (by decide) (by decide) _
            rw [e21] at g22
            refine wq_al (p' := 119) (n := 960) (ck_161 _ _ rfl) rfl (ly_k I.1.1.1 83 rfl) (by omega) (e21) ?_
            refine av_wp_ret (v := some (.inl v20)) (ck_161 _ _ rfl) rfl rfl ?_
            exact hq _ _ _ _ h I F
          · refine wq_tc (t := 120) (ck_161 _ _ rfl) e16 rfl ?_
            refine av_wp_sqF ck_161 1 (pc' := 121) (lv' := [some (.inr (.inr (.inl (some (77))))), some (.inl x), some (.inl k), some (.inl w), some (.inl (((12) * x) + k))]) (st' := [.inr (.inr (.inl (some (77))))]) (h' := h) rfl ?_
            refine wq_gr (p' := 124) (ck_161 _ _ rfl) rfl (congrArg Prod.fst (ly_k I.1.1.1 77 rfl)) rfl (ly_g I.1.1.1 77 6 84 rfl) ?_
            refine av_wp_sqF ck_161 1 (pc' := 126) (lv' := [some (.inr (.inr (.inl (some (77))))), some (.inl x), some (.inl k), some (.inl w), some (.inl (((12) * x) + k))]) (st' := [.inl (((12) * x) + k), .inr (.inr (.inl (some (84))))]) (h' := h) rfl ?_
            obtain ⟨v23, e24⟩ : ∃ v, hA h 84 (Int.toNat ((((12) * x) + k))) = v := ⟨_, rfl⟩
            have g25 : -1 ≤ hA h 84 (Int.toNat ((((12) * x) + k))) ∧ hA h 84 (Int.toNat ((((12) * x) + k))) ≤ 2 := im_m I.1.1 84 (by decide) (by decide) _
            rw [e24] at g25
            refine wq_al (p' := 127) (n := 960) (ck_161 _ _ rfl) rfl (ly_k I.1.1.1 84 rfl) (by omega) (e24) ?_
            refine av_wp_ret (v := some (.inl v23)) (ck_161 _ _ rfl) rfl rfl ?_
            exact hq _ _ _ _ h I F
          · refine wq_tc (t := 128) (ck_161 _ _ rfl) e16 rfl ?_
            refine av_wp_sqF ck_161 1 (pc' := 129) (lv' := [some (.inr (.inr (.inl (some (77))))), some (.inl x), some (.inl k), some (.inl w), some (.inl (((12) * x) + k))]) (st' := [.inr (.inr (.inl (some (77))))]) (h' := h) rfl ?_
            refine wq_gr (p' := 132) (ck_161 _ _ rfl) rfl (congrArg Prod.fst (ly_k I.1.1.1 77 rfl)) rfl (ly_g I.1.1.1 77 7 85 rfl) ?_
            refine av_wp_sqF ck_161 1 (pc' := 134) (lv' := [some (.inr (.inr (.inl (some (77))))), some (.inl x), some (.inl k), some (.inl w), some (.inl (((12) * x) + k))]) (st' := [.inl (((12) * x) + k), .inr (.inr (.inl (some (85))))]) (h' := h) rfl ?_
            obtain ⟨v26, e27⟩ : ∃ v, hA h 85 (Int.toNat ((((12) * x) + k))) = v := ⟨_, rfl⟩
            have g28 : -1 ≤ hA h 85 (Int.toNat ((((12) * x) + k))) ∧ hA h 85 (Int.toNat ((((12) * x) + k))) ≤ 11 := im_m I.1.1 85 (by decide) (by decide) _
            rw [e27] at g28
            refine wq_al (p' := 135) (n := 960) (ck_161 _ _ rfl) rfl (ly_k I.1.1.1 85 rfl) (by omega) (e27) ?_
            refine av_wp_ret (v := some (.inl v26)) (ck_161 _ _ rfl) rfl rfl ?_
            exact hq _ _ _ _ h I F
          · refine wq_tc (t := 136) (ck_161 _ _ rfl) e16 rfl ?_
            refine av_wp_sqF ck_161 1 (pc' := 137) (lv' := [some (.inr (.inr (.inl (some (77))))), some (.inl x), some (.inl k), some (.inl w), some (.inl (((12) * x) + k))]) (st' := [.inr (.inr (.inl (some (77))))]) (h' := h) rfl ?_
            refine wq_gr (p' := 140) (ck_161 _ _ rfl) rfl (congrArg Prod.fst (ly_k I.1.1.1 77 rfl)) rfl (ly_g I.1.1.1 77 8 86 rfl) ?_
            refine av_wp_sqF ck_161 1 (pc' := 142) (lv' := [some (.inr (.inr (.inl (some (77))))), some (.inl x), some (.inl k), some (.inl w), some (.inl (((12) * x) + k))]) (st' := [.inl (((12) * x) + k), .inr (.inr (.inl (some (86))))]) (h' := h) rfl ?_
            obtain ⟨v29, e30⟩ : ∃ v, hA h 86 (Int.toNat ((((12) * x) + k))) = v := ⟨_, rfl⟩
            have g31 : 0 ≤ hA h 86 (Int.toNat ((((12) * x) + k))) ∧ hA h 86 (Int.toNat ((((12) * x) + k))) ≤ 3 := im_m I.1.1 86 (by decide) (by decide) _
            rw [e30] at g31
            refine wq_al (p' := 143) (n := 960) (ck_161 _ _ rfl) rfl (ly_k I.1.1.1 86 rfl) (by omega) (e30) ?_
            refine av_wp_ret (v := some (.inl v29)) (ck_161 _ _ rfl) rfl rfl ?_
            exact hq _ _ _ _ h I F
          · refine wq_tc (t := 144) (ck_161 _ _ rfl) e16 rfl ?_
            refine av_wp_sqF ck_161 1 (pc' := 145) (lv' := [some (.inr (.inr (.inl (some (77))))), some (.inl x), some (.inl k), some (.inl w), some (.inl (((12) * x) + k))]) (st' := [.inr (.inr (.inl (some (77))))]) (h' := h) rfl ?_
            refine wq_gr (p' := 148) (ck_161 _ _ rfl) rfl (congrArg Prod.fst (ly_k I.1.1.1 77 rfl)) rfl (ly_g I.1.1.1 77 9 87 rfl) ?_
            refine av_wp_sqF ck_161 1 (pc' := 150) (lv' := [some (.inr (.inr (.inl (some (77))))), some (.inl x), some (.inl k), some (.inl w), some (.inl (((12) * x) + k))]) (st' := [.inl (((12) * x) + k), .inr (.inr (.inl (some (87))))]) (h' := h) rfl ?_
            obtain ⟨v32, e33⟩ : ∃ v, hA h 87 (Int.toNat ((((12) * x) + k))) = v := ⟨_, rfl⟩
            have g34 : -1 ≤ hA h 87 (Int.toNat ((((12) * x) + k))) ∧ hA h 87 (Int.toNat ((((12) * x) + k))) ≤ 1999 := im_m I.1.1 87 (by decide) (by decide) _
            rw [e33] at g34
            refine wq_al (p' := 151) (n := 960) (ck_161 _ _ rfl) rfl (ly_k I.1.1.1 87 rfl) (by omega) (e33) ?_
            refine av_wp_ret (v := some (.inl v32)) (ck_161 _ _ rfl) rfl rfl ?_
            exact hq _ _ _ _ h I F
          · refine wq_tc (t := 152) (ck_161 _ _ rfl) e16 rfl ?_
            refine av_wp_sqF ck_161 1 (pc' := 153) (lv' := [some (.inr (.inr (.inl (some (77))))), some (.inl x), some (.inl k), some (.inl w), some (.inl (((12) * x) + k))]) (st' := [.inr (.inr (.inl (some (77))))]) (h' := h) rfl ?_
            refine wq_gr (p' := 156) (ck_161 _ _ rfl) rfl (congrArg Prod.fst (ly_k I.1.1.1 77 rfl)) rfl (ly_g I.1.1.1 77 10 88 rfl) ?_
            refine av_wp_sqF ck_161 1 (pc' := 158) (lv' := [some (.inr (.inr (.inl (some (77))))), some (.inl x), some (.inl k), some (.inl w), some (.inl (((12) * x) + k))]) (st' := [.inl (((12) * x) + k), .inr (.inr (.inl (some (88))))]) (h' := h) rfl ?_
            obtain ⟨v35, e36⟩ : ∃ v, hA h 88 (Int.toNat ((((12) * x) + k))) = v := ⟨_, rfl⟩
            have g37 : -1 ≤ hA h 88 (Int.toNat ((((12) * x) + k))) ∧ hA h 88 (Int.toNat ((((12) * x) + k))) ≤ 15 := im_m I.1.1 88 (by decide) (by decide) _
            rw [e36] at g37
            refine wq_al (p' := 159) (n := 960) (ck_161 _ _ rfl) rfl (ly_k I.1.1.1 88 rfl) (by omega) (e36) ?_
            refine av_wp_ret (v := some (.inl v35)) (ck_161 _ _ rfl) rfl rfl ?_
            exact hq _ _ _ _ h I F
          · refine wq_td (t := 160) (ck_161 _ _ rfl) ⟨by omega, by omega⟩ e16 rfl ?_
            refine av_wp_sqF ck_161 1 (pc' := 162) (lv' := [some (.inr (.inr (.inl (some (77))))), some (.inl x), some (.inl k), some (.inl w), some (.inl (((12) * x) + k))]) (st' := [.inl (-2)]) (h' := h) rfl ?_
            refine av_wp_ret (v := some (.inl (-2))) (ck_161 _ _ rfl) rfl rfl ?_
            exact hq _ _ _ _ h I F
        · have c15 : v12 ≠ (0) := c15
          refine av_wp_sqF ck_161 1 (pc' := 45) (lv' := [some (.inr (.inr (.inl (some (77))))), some (.inl x), some (.inl k), some (.inl w), some (.inl (((12) * x) + k))]) (st' := [.inr (.inr (.inl (some (77))))]) (h' := h) rfl ?_
          refine wq_gr (p' := 48) (ck_161 _ _ rfl) rfl (congrArg Prod.fst (ly_k I.1.1.1 77 rfl)) rfl (ly_g I.1.1.1 77 12 90 rfl) ?_
          refine av_wp_sqF ck_161 7 (pc' := 57) (lv' := [some (.inr (.inr (.inl (some (77))))), some (.inl x), some (.inl k), some (.inl w), some (.inl (((12) * x) + k))]) (st' := [.inl ((((5) * (((12) * x) + k)) + w) - (10)), .inr (.inr (.inl (some (90))))]) (h' := h) rfl ?_
          obtain ⟨v38, e39⟩ : ∃ v, hA h 90 (Int.toNat (((((5) * (((12) * x) + k)) + w) - (10)))) = v := ⟨_, rfl⟩
          have g40 : -1 ≤ hA h 90 (Int.toNat (((((5) * (((12) * x) + k)) + w) - (10)))) ∧ hA h 90 (Int.toNat (((((5) * (((12) * x) + k)) + w) - (10)))) ≤ 999 := im_m I.1.1 90 (by decide) (by decide) _
          rw [e39] at g40
          refine wq_al (p' := 58) (n := 4800) (ck_161 _ _ rfl) rfl (ly_k I.1.1.1 90 rfl) (by omega) (e39) ?_
          refine av_wp_ret (v := some (.inl v38)) (ck_161 _ _ rfl) rfl rfl ?_
          exact hq _ _ _ _ h I F
      · have c11 : v7 ≤ k := c11
        refine av_wp_sqF ck_161 1 (pc' := 24) (lv' := [some (.inr (.inr (.inl (some (77))))), some (.inl x), some (.inl k), some (.inl w), none]) (st' := [.inl (-2)]) (h' := h) rfl ?_
        refine av_wp_ret (v := some (.inl (-2))) (ck_161 _ _ rfl) rfl rfl ?_
        exact hq _ _ _ _ h I F

set_option maxRecDepth 100000 in
set_option maxHeartbeats 4000000 in
theorem ct_216 {g h : av_H} {n a m : Int} (I : IMF n a m h) (F : FM g h)  {Q : Option av_V → av_H → Prop} (hq : ∀ (v : Int) n' a' m' h', IMF n' a' m' h' → FM g h' → Q (some (.inl v)) h') : av_wp none cd_216 0 [some (.inr (.inr (.inl (some (77))))), none, none] [] h Q := by
  have gn := im_n I.1.1
  rw [I.2.1] at gn
  have ga := im_a I.1.1
  rw [I.2.2.1] at ga
  have gm := im_cm I.1.1
  rw [I.2.2.2] at gm
  refine av_wp_sqF ck_216 4 (pc' := 4) (lv' := [some (.inr (.inr (.inl (some (77))))), some (.inl (0)), some (.inl (0))]) (st' := []) (h' := h) rfl ?_
  have L4 : ∀ (m3 : Nat) (k1 : Int) (k2 : Int), (0 ≤ k2 ∧ k2 ≤ 16) → (16 - k2).toNat = m3 → av_wp none cd_216 4 [some (.inr (.inr (.inl (some (77))))), some (.inl k1), some (.inl k2)] [] h Q := by
    intro m3
    induction m3 using Nat.strongRecOn with
    | _ m3 I5 =>
      intro k1 k2 g7 e6
      refine av_wp_sqF ck_216 2 (pc' := 6) (lv' := [some (.inr (.inr (.inl (some (77))))), some (.inl k1), some (.inl k2)]) (st' := [.inr (.inr (.inl (some (77)))), .inl k2]) (h' := h) rfl ?_
      refine wq_gr (p' := 9) (ck_216 _ _ rfl) rfl (congrArg Prod.fst (ly_k I.1.1.1 77 rfl)) rfl (ly_g I.1.1.1 77 0 78 rfl) ?_
      refine av_wp_sqF ck_216 1 (pc' := 10) (lv' := [some (.inr (.inr (.inl (some (77))))), some (.inl k1), some (.inl k2)]) (st' := [.inl (0), .inr (.inr (.inl (some (78)))), .inl k2]) (h' := h) rfl ?_
      obtain ⟨v8, e9⟩ : ∃ v, hA h 78 (Int.toNat ((0))) = v := ⟨_, rfl⟩
      have g10 : 0 ≤ hA h 78 0 ∧ hA h 78 0 ≤ 16 := I.1.1.2.1.2.1
      have e9 : hA h 78 0 = v8 := e9
      rw [e9] at g10
      refine wq_al (p' := 11) (n := 5) (ck_216 _ _ rfl) rfl (ly_k I.1.1.1 78 rfl) (by omega) (e9) ?_
      refine wq_k2 (p' := 14) (ck_216 _ _ rfl) rfl ⟨by omega, by omega⟩ ⟨by omega, by omega⟩ (fun c11 => ?_) (fun c12 => ?_)
      · have c11 : v8 ≤ k2 := c11
        refine av_wp_sqF ck_216 1 (pc' := 30) (lv' := [some (.inr (.inr (.inl (some (77))))), some (.inl k1), some (.inl k2)]) (st' := [.inl k1]) (h' := h) rfl ?_
        refine av_wp_ret (v := some (.inl k1)) (ck_216 _ _ rfl) rfl rfl ?_
        exact hq _ _ _ _ h I F
      · have c12 : k2 < v8 := c12
        refine av_wp_sqF ck_216 2 (pc' := 16) (lv' := [some (.inr (.inr (.inl (some (77))))), some (.inl k1), some (.inl k2)]) (st' := [.inr (.inr (.inl (some (77)))), .inl k1]) (h' := h) rfl ?_
        refine wq_gr (p' := 19) (ck_216 _ _ rfl) rfl (congrArg Prod.fst (ly_k I.1.1.1 77 rfl)) rfl (ly_g I.1.1.1 77 3 81 rfl) ?_
        refine av_wp_sqF ck_216 1 (pc' := 20) (lv' := [some (.inr (.inr (.inl (some (77))))), some (.inl k1), some (.inl k2)]) (st' := [.inl k2, .inr (.inr (.inl (some (81)))), .inl k1]) (h' := h) rfl ?_
        obtain ⟨v13, e14⟩ : ∃ v, hA h 81 (Int.toNat (k2)) = v := ⟨_, rfl⟩
        have g15 := im_many I.1.1 (Int.toNat (k2))
        rw [e14] at g15
        refine wq_al (p' := 21) (n := 80) (ck_216 _ _ rfl) rfl (ly_k I.1.1.1 81 rfl) (by omega) (e14) ?_
        refine av_wp_sqF ck_216 4 (pc' := 4) (lv' := [some (.inr (.inr (.inl (some (77))))), some (.inl (k1 + v13)), some (.inl (k2 + (1)))]) (st' := []) (h' := h) rfl ?_
        exact I5 _ (by omega) ((k1 + v13)) ((k2 + (1))) (by omega) rfl
  exact L4 _ ((0)) ((0)) (by omega) rfl

set_option maxRecDepth 100000 in
set_option maxHeartbeats 4000000 in
theorem ct_217 {g h : av_H} {n a m : Int} (I : IMF n a m h) (F : FM g h) (w : Int) (qw : -2147483648 ≤ w ∧ w ≤ 2147483647) {Q : Option av_V → av_H → Prop} (hq : ∀ (v : Int) n' a' m' h', IMF n' a' m' h' → FM g h' → Q (some (.inl v)) h') : av_wp none cd_217 0 [some (.inr (.inr (.inl (some (77))))), some (.inl w)] [] h Q := by
  have gn := im_n I.1.1
  rw [I.2.1] at gn
  have ga := im_a I.1.1
  rw [I.2.2.1] at ga
  have gm := im_cm I.1.1
  rw [I.2.2.2] at gm
  refine av_wp_sqF ck_217 1 (pc' := 1) (lv' := [some (.inr (.inr (.inl (some (77))))), some (.inl w)]) (st' := [.inl w]) (h' := h) rfl ?_
  rcases (show w = 0 ∨ w = 1 ∨ w = 2 ∨ w = 3 ∨ w = 4 ∨ w = 5 ∨ (w < 0 ∨ 5 < w) by omega) with e1 | e1 | e1 | e1 | e1 | e1 | e1
  · refine wq_tc (t := 40) (ck_217 _ _ rfl) e1 rfl ?_
    refine av_wp_sqF ck_217 1 (pc' := 41) (lv' := [some (.inr (.inr (.inl (some (77))))), some (.inl w)]) (st' := [.inr (.inr (.inl (some (77))))]) (h' := h) rfl ?_
    refine wq_gr (p' := 44) (ck_217 _ _ rfl) rfl (congrArg Prod.fst (ly_k I.1.1.1 77 rfl)) rfl (ly_g I.1.1.1 77 0 78 rfl) ?_
    refine av_wp_sqF ck_217 1 (pc' := 45) (lv' := [some (.inr (.inr (.inl (some (77))))), some (.inl w)]) (st' := [.inl (0), .inr (.inr (.inl (some (78))))]) (h' := h) rfl ?_
    obtain ⟨v2, e3⟩ : ∃ v, hA h 78 (Int.toNat ((0))) = v := ⟨_, rfl⟩
    have g4 : 0 ≤ hA h 78 0 ∧ hA h 78 0 ≤ 16 := I.1.1.2.1.2.1
    have e3 : hA h 78 0 = v2 := e3
    rw [e3] at g4
    refine wq_al (p' := 46) (n := 5) (ck_217 _ _ rfl) rfl (ly_k I.1.1.1 78 rfl) (by omega) (e3) ?_
    refine av_wp_ret (v := some (.inl v2)) (ck_217 _ _ rfl) rfl rfl ?_
    exact hq _ _ _ _ h I F
  · refine wq_tc (t := 47) (ck_217 _ _ rfl) e1 rfl ?_
    refine av_wp_sqF ck_217 1 (pc' := 48) (lv' := [some (.inr (.inr (.inl (some (77))))), some (.inl w)]) (st' := [.inr (.inr (.inl (some (77))))]) (h' := h) rfl ?_
    refine wq_gr (p' := 51) (ck_217 _ _ rfl) rfl (congrArg Prod.fst (ly_k I.1.1.1 77 rfl)) rfl (ly_g I.1.1.1 77 1 79 rfl) ?_
    refine av_wp_sqF ck_217 1 (pc' := 52) (lv' := [some (.inr (.inr (.inl (some (77))))), some (.inl w)]) (st' := [.inl (0), .inr (.inr (.inl (some (79))))]) (h' := h) rfl ?_
    obtain ⟨v5, e6⟩ : ∃ v, hA h 79 (Int.toNat ((0))) = v := ⟨_, rfl⟩
    have g7 : 0 ≤ hA h 79 0 ∧ hA h 79 0 ≤ 8 := I.1.1.2.1.2.2.1
    have e6 : hA h 79 0 = v5 := e6
    rw [e6] at g7
    refine wq_al (p' := 53) (n := 5) (ck_217 _ _ rfl) rfl (ly_k I.1.1.1 79 rfl) (by omega) (e6) ?_
    refine av_wp_ret (v := some (.inl v5)) (ck_217 _ _ rfl) rfl rfl ?_
    exact hq _ _ _ _ h I F
  · refine wq_tc (t := 54) (ck_217 _ _ rfl) e1 rfl ?_
    refine av_wp_sqF ck_217 1 (pc' := 55) (lv' := [some (.inr (.inr (.inl (some (77))))), some (.inl w)]) (st' := [.inr (.inr (.inl (some (77))))]) (h' := h) rfl ?_
    refine wq_gr (p' := 58) (ck_217 _ _ rfl) rfl (congrArg Prod.fst (ly_k I.1.1.1 77 rfl)) rfl (ly_g I.1.1.1 77 2 80 rfl) ?_
    refine av_wp_sqF ck_217 1 (pc' := 59) (lv' := [some (.inr (.inr (.inl (some (77))))), some (.inl w)]) (st' := [.inl (0), .inr (.inr (.inl (some (80))))]) (h' := h) rfl ?_
    obtain ⟨v8, e9⟩ : ∃ v, hA h 80 (Int.toNat ((0))) = v := ⟨_, rfl⟩
    have g10 : 0 ≤ hA h 80 0 ∧ hA h 80 0 ≤ 6 := I.1.1.2.1.2.2.2.1
    have e9 : hA h 80 0 = v8 := e9
    rw [e9] at g10
    refine wq_al (p' := 60) (n := 5) (ck_217 _ _ rfl) rfl (ly_k I.1.1.1 80 rfl) (by omega) (e9) ?_
    refine av_wp_ret (v := some (.inl v8)) (ck_217 _ _ rfl) rfl rfl ?_
    exact hq _ _ _ _ h I F
  · refine wq_tc (t := 61) (ck_217 _ _ rfl) e1 rfl ?_
    refine av_wp_sqF ck_217 1 (pc' := 62) (lv' := [some (.inr (.inr (.inl (some (77))))), some (.inl w)]) (st' := [.inr (.inr (.inl (some (77))))]) (h' := h) rfl ?_
    obtain ⟨v11, e12⟩ : ∃ v, hF h 77 17 = v := ⟨_, rfl⟩
    refine wq_gi (p' := 65) (ck_217 _ _ rfl) rfl (congrArg Prod.fst (ly_k I.1.1.1 77 rfl)) rfl (e12) ?_
    refine av_wp_ret (v := some (.inl v11)) (ck_217 _ _ rfl) rfl rfl ?_
    exact hq _ _ _ _ h I F
  · refine wq_tc (t := 66) (ck_217 _ _ rfl) e1 rfl ?_
    refine av_wp_sqF ck_217 1 (pc' := 67) (lv' := [some (.inr (.inr (.inl (some (77))))), some (.inl w)]) (st' := [.inr (.inr (.inl (some (77))))]) (h' := h) rfl ?_
    refine wq_cv (p' := 70) (av_qc (.invokevirtual 488) 216 0 0 8) 3 cd_216 [] (77) 8 [some (.inr (.inr (.inl (some (77))))), none, none] (ck_217 _ _ rfl) rfl rfl pp_216 rfl rfl rfl (congrArg Prod.fst (ly_k I.1.1.1 77 rfl)) rfl rfl rfl rfl ?_
    refine ct_216 I F  (fun v13 n18 a19 m20 h15 I16 F17 => ?_)
    have g21 := im_n I16.1.1
    rw [I16.2.1] at g21
    have g22 := im_a I16.1.1
    rw [I16.2.2.1] at g22
    have g23 := im_cm I16.1.1
    rw [I16.2.2.2] at g23
    show av_wp _ cd_217 70 [some (.inr (.inr (.inl (some (77))))), some (.inl w)] [.inl v13] h15 _
    refine av_wp_ret (v := some (.inl v13)) (ck_217 _ _ rfl) rfl rfl ?_
    exact hq _ _ _ _ h15 I16 F17
  · refine wq_tc (t := 71) (ck_217 _ _ rfl) e1 rfl ?_
    refine av_wp_sqF ck_217 1 (pc' := 72) (lv' := [some (.inr (.inr (.inl (some (77))))), some (.inl w)]) (st' := [.inr (.inr (.inl (some (77))))]) (h' := h) rfl ?_
    obtain ⟨v24, e25⟩ : ∃ v, hF h 77 62 = v := ⟨_, rfl⟩
    refine wq_gi (p' := 75) (ck_217 _ _ rfl) rfl (congrArg Prod.fst (ly_k I.1.1.1 77 rfl)) rfl (e25) ?_
    refine av_wp_ret (v := some (.inl v24)) (ck_217 _ _ rfl) rfl rfl ?_
    exact hq _ _ _ _ h I F
  · refine wq_td (t := 76) (ck_217 _ _ rfl) ⟨by omega, by omega⟩ e1 rfl ?_
    refine av_wp_sqF ck_217 1 (pc' := 77) (lv' := [some (.inr (.inr (.inl (some (77))))), some (.inl w)]) (st' := [.inl (-1)]) (h' := h) rfl ?_
    refine av_wp_ret (v := some (.inl (-1))) (ck_217 _ _ rfl) rfl rfl ?_
    exact hq _ _ _ _ h I F
end
section
/-! LOOKS: class and reference, one behind the other -/
theorem op_103 {h : av_H} (B : BK h) (x1 x2 : Int) (q1 : -2147483648 ≤ x1 ∧ x1 ≤ 2147483647) (q2 : -2147483648 ≤ x2 ∧ x2 ≤ 2147483647) : av_wp none cd_103 0 [some (.inr (.inr (.inl (some (0))))), some (.inl x1), some (.inl x2), none] [] h (OPr cd_187 [some (.inr (.inr (.inl (some (77))))), some (.inl x1), some (.inl x2)] h (fun _ _ => True)) := by
  refine gd_of (fun hg => ct_103 B.1 x1 q1 x2 q2 (fun v h1 I1 F1 => ⟨v, rfl, ly_k I1.1 77 rfl, gd_of (fun hg1 => ?_)⟩))
  have B1 := BK_Fr hg B F1 I1
  obtain ⟨n, a, m, M⟩ := B1.2.2.1
  exact ct_187 M (FM_rf h1) x1 q1 x2 q2 (fun w n' a' m' h2 M2 F2 => ⟨w, rfl, trivial, BK_FM hg1 B1 F2 M2, RM_0 (F2.1.trans F1.1) (F2.2.1.trans F1.2.1)⟩)
end
section
/-! WHAT IF A SAYING WERE LOST, OR WIRED: new cases for a look -/
theorem ctn_v2 {s : Nat} {f : Nat → Int} (b1 : ∀ j, -1 ≤ f j ∧ f j ≤ 100000) (b2 : ∀ k j, j < 4 → f (21 * k + 15 + j) ≤ 16) : (∀ j, -1 ≤ ctn f s j ∧ ctn f s j ≤ 100000) ∧ ∀ k j, j < 4 → ctn f s (21 * k + 15 + j) ≤ 16 := by
  constructor
  · intro j
    unfold ctn
    split
    · have := tnv_b (f := f) (k := j / 21) (fun o h1 h2 => by have := b2 (j / 21) (o - 15) (by omega); rw [show 21 * (j / 21) + 15 + (o - 15) = 21 * (j / 21) + o by omega] at this; exact this)
      omega
    · exact b1 j
  · intro k j hj
    rw [ctn_o (by omega)]
    exact b2 k j hj
/-- cells of a case that is being made -/
def MH (h g : av_H) (s : Nat) : Prop := AL h g 1 (21 * s) ∧ hK g h.1 = (20, 21 * s) ∧ (∀ j, -1 ≤ hA g h.1 j ∧ hA g h.1 j ≤ 100000) ∧ ∀ k j, j < 4 → hA g h.1 (21 * k + 15 + j) ≤ 16
theorem MH_new {h : av_H} {t c s : Nat} {cb : Int} (o : CO h t c s cb) : MH h (av_newN 20 (21 * s) (hA h c) h) s := by
  refine ⟨⟨rfl, rfl, fun q hq => ⟨newN_ko (by omega), newN_ao (by omega), rfl, rfl, rfl⟩⟩, newN_k, ?_⟩
  rw [newN_a]
  exact o.2.2.2.2.2.2.2.2
theorem MH_w {h g : av_H} {s i : Nat} {v : Int} (M : MH h g s) (hv : -1 ≤ v ∧ v ≤ 16) : MH h (hwA g h.1 i v) s := by
  obtain ⟨⟨a1, a2, a3⟩, k1, b1, b2⟩ := M
  refine ⟨⟨a1, a2, fun q hq => ⟨(a3 q hq).1, (hA_ne (by omega)).trans (a3 q hq).2.1, (a3 q hq).2.2⟩⟩, k1, fun j => ?_, fun k j hj => ?_⟩
  · by_cases e : j = i
    · rw [e, show hA (hwA g h.1 i v) h.1 i = v from av_u2_self]; omega
    · rw [show hA (hwA g h.1 i v) h.1 j = hA g h.1 j from av_u2_oth e]; exact b1 j
  · by_cases e : 21 * k + 15 + j = i
    · rw [e, show hA (hwA g h.1 i v) h.1 i = v from av_u2_self]; omega
    · rw [show hA (hwA g h.1 i v) h.1 (21 * k + 15 + j) = hA g h.1 (21 * k + 15 + j) from av_u2_oth e]; exact b2 k j hj
theorem MH_fil {h g : av_H} {s lo hi : Nat} (M : MH h g s) : MH h (hfil g h.1 lo hi 0) s := by
  obtain ⟨⟨a1, a2, a3⟩, k1, b1, b2⟩ := M
  have e : ∀ j, hA (hfil g h.1 lo hi 0) h.1 j = 0 ∨ hA (hfil g h.1 lo hi 0) h.1 j = hA g h.1 j := fun j => by
    show (if h.1 = h.1 ∧ lo ≤ j ∧ j < hi then (0 : Int) else hA g h.1 j) = 0 ∨ (if h.1 = h.1 ∧ lo ≤ j ∧ j < hi then (0 : Int) else hA g h.1 j) = hA g h.1 j
    by_cases c : h.1 = h.1 ∧ lo ≤ j ∧ j < hi
    · exact Or.inl (if_pos c)
    · exact Or.inr (if_neg c)
  refine ⟨⟨a1, a2, fun q hq => ⟨(a3 q hq).1, Eq.trans (by funext j; exact if_neg (by omega)) (a3 q hq).2.1, (a3 q hq).2.2⟩⟩, k1, fun j => ?_, fun k j hj => ?_⟩
  · rcases e j with z | z
    · rw [z]; omega
    · rw [z]; exact b1 j
  · rcases e (21 * k + 15 + j) with z | z
    · rw [z]; omega
    · rw [z]; exact b2 k j hj
theorem IC_al {g h : av_H} {n m : Nat} (G : av_Gd g) (I : IC g) (A : AL g h n m) : IC h := by
  have L := I.1
  have l : ∀ {q : Nat}, q < 122 → q < g.1 := fun hq => ly_lt G L hq
  refine IC_fb G I (AL_fb A) (fun a ha _ j => ?_) (fun i hi => ?_) ?_
  · rw [(A.2.2 a (l (rwc_lt ha))).2.1]; exact I.2.1 a ha j
  · rw [(A.2.2 4 (l (by omega))).2.2.2.2]
    rcases I.2.2.1 i hi with e | ⟨t, c, s, cb, e, o⟩
    · exact Or.inl e
    · exact Or.inr ⟨t, c, s, cb, e, CO_fb G L o (AL_fb A)⟩
  · have e := I.2.2.2.1
    unfold CN at e ⊢
    rw [(A.2.2 3 (l (by omega))).2.2.1]
    exact e
theorem nun_low : LOW nun1 nun1 nun2 nun2 := ⟨fun q e => e.elim, fun q e => e.elim, fun q j e => e.elim, fun q j e => e.elim⟩
theorem BK_al {g h : av_H} {n m : Nat} (G : av_Gd g) (B : BK g) (A : AL g h n m) : BK h := by
  obtain ⟨I, K, ⟨n0, a0, m0, M⟩, ⟨p1, p2, p3⟩, S, X⟩ := B
  have L := I.1
  have l : ∀ {q : Nat}, q < 122 → q < g.1 := fun hq => ly_lt G L hq
  have F : FQ nun1 nun1 nun2 nun2 g h n m := FQ_al A
  have I2 := IC_al G I A
  have l18 : 3 + 18 ≤ g.1 := by have := l (q := 100) (by omega); omega
  have ea : ∀ q, q < 122 → hA h q = hA g q := fun q hq => (A.2.2 q (l hq)).2.1
  have ef : ∀ q k, q < 122 → hF h q k = hF g q k := fun q k hq => congrFun (A.2.2 q (l hq)).2.2.1 k
  refine ⟨I2, KT_fq G L I2.1 F (fun z => z) (fun z => z) (fun z => z) (fun z => z) (fun j z => z) (fun j z => z) (fun j z => z) K, ⟨n0, a0, m0, IMF_eq I2.1 (fun q _ z => ea q (by omega)) (fun k _ => ef 77 k (by omega)) M⟩, ⟨?_, ?_, ?_⟩, ?_, ?_⟩
  · rw [ea 94 (by omega), ea 2 (by omega)]; exact p1
  · rw [ef 77 17 (by omega), ef 1 1 (by omega)]; exact p2
  · rw [ef 77 18 (by omega), ef 0 8 (by omega)]; exact p3
  · exact SL_ag (SL_fq G nun_low F l18 (fun j z => z) (fun z => z) (fun j _ _ z => z) S) (AGB_eq 0 (fun q _ z => ea q (by omega)))
  · exact XI_ag (XI_fq G L nun_low F (fun z => z) (fun z => z) (fun z => z) X) (fun i _ _ => AGB_eq (i + 1) (fun q _ z => ea q (by omega)))
end
section
/-! THE START: both objects made -/
theorem av_wp_cl {cd : List (Nat × av_E)} {lv : av_L} {h : av_H} {Q : Option av_V → av_H → Prop} (n : Nat) (v : Option av_V) (h' : av_H) (hr : av_run av_PP none n cd 0 lv [] h = some (v, h')) (hq : Q v h') : av_wp none cd 0 lv [] h Q := fun _ => ⟨n, v, h', hr, hq⟩
theorem av_get {o : Option (Option av_V × av_H)} {d : av_H} (f : Option av_V → Bool) (hf : (match o with
    | some q => f q.1
    | none => false) = true) : ∃ v, f v = true ∧ o = some (v, (o.getD (none, d)).2) := by
  cases o with
  | none => cases hf
  | some q => exact ⟨q.1, hf, rfl⟩
def av_isN : Option av_V → Bool
  | none => true
  | _ => false
theorem av_isN_eq {v : Option av_V} (h : av_isN v = true) : v = none := by
  cases v with
  | none => rfl
  | some u => cases h
def av_h1 : av_H := ((av_run av_PP none 4000 cd_93 0 [some (.inr (.inr (.inl (some 0))))] [] (av_newO 7 9 av_h0)).getD (none, av_h0)).2
set_option maxRecDepth 100000 in
set_option maxHeartbeats 8000000 in
theorem av_h1_ok : av_run av_PP none 4000 cd_93 0 [some (.inr (.inr (.inl (some 0))))] [] (av_newO 7 9 av_h0) = some (none, av_h1) := by
  obtain ⟨v, hv, h⟩ := av_get (o := av_run av_PP none 4000 cd_93 0 [some (.inr (.inr (.inl (some 0))))] [] (av_newO 7 9 av_h0)) (d := av_h0) av_isN (by decide +kernel)
  rw [av_isN_eq hv] at h
  exact h
def av_h3 : av_H := ((av_run av_PP none 4000 cd_126 0 [some (.inr (.inr (.inl (some 77))))] [] (av_newO 8 63 av_h1)).getD (none, av_h0)).2
set_option maxRecDepth 100000 in
set_option maxHeartbeats 8000000 in
theorem av_h3_ok : av_run av_PP none 4000 cd_126 0 [some (.inr (.inr (.inl (some 77))))] [] (av_newO 8 63 av_h1) = some (none, av_h3) := by
  obtain ⟨v, hv, h⟩ := av_get (o := av_run av_PP none 4000 cd_126 0 [some (.inr (.inr (.inl (some 77))))] [] (av_newO 8 63 av_h1)) (d := av_h0) av_isN (by decide +kernel)
  rw [av_isN_eq hv] at h
  exact h
set_option maxRecDepth 100000 in
set_option maxHeartbeats 16000000 in
theorem h3_z0 : hA av_h3 2 = (fun _ => 0) ∧ hA av_h3 6 = (fun _ => 0) ∧ hA av_h3 7 = (fun _ => 0) ∧ hA av_h3 8 = (fun _ => 0) ∧ hA av_h3 9 = (fun _ => 0) ∧ hA av_h3 10 = (fun _ => 0) ∧ hA av_h3 11 = (fun _ => 0) ∧ hA av_h3 12 = (fun _ => 0) ∧ hA av_h3 13 = (fun _ => 0) ∧ hA av_h3 15 = (fun _ => 0) ∧ hA av_h3 16 = (fun _ => 0) ∧ hA av_h3 17 = (fun _ => 0) ∧ hA av_h3 18 = (fun _ => 0) ∧ hA av_h3 19 = (fun _ => 0) ∧ hA av_h3 20 = (fun _ => 0) ∧ hA av_h3 23 = (fun _ => 0) ∧ hA av_h3 25 = (fun _ => 0) ∧ hA av_h3 30 = (fun _ => 0) ∧ hA av_h3 34 = (fun _ => 0) ∧ hA av_h3 47 = (fun _ => 0) ∧ hA av_h3 60 = (fun _ => 0) ∧ hA av_h3 73 = (fun _ => 0) ∧ hA av_h3 76 = (fun _ => 0) := ⟨rfl, rfl, rfl, rfl, rfl, rfl, rfl, rfl, rfl, rfl, rfl, rfl, rfl, rfl, rfl, rfl, rfl, rfl, rfl, rfl, rfl, rfl, rfl⟩
set_option maxRecDepth 100000 in
set_option maxHeartbeats 16000000 in
theorem h3_z1 : hA av_h3 78 = (fun _ => 0) ∧ hA av_h3 79 = (fun _ => 0) ∧ hA av_h3 80 = (fun _ => 0) ∧ hA av_h3 81 = (fun _ => 0) ∧ hA av_h3 82 = (fun _ => 0) ∧ hA av_h3 83 = (fun _ => 0) ∧ hA av_h3 84 = (fun _ => 0) ∧ hA av_h3 85 = (fun _ => 0) ∧ hA av_h3 86 = (fun _ => 0) ∧ hA av_h3 87 = (fun _ => 0) ∧ hA av_h3 88 = (fun _ => 0) ∧ hA av_h3 89 = (fun _ => 0) ∧ hA av_h3 90 = (fun _ => 0) ∧ hA av_h3 91 = (fun _ => 0) ∧ hA av_h3 92 = (fun _ => 0) ∧ hA av_h3 93 = (fun _ => 0) ∧ hA av_h3 94 = (fun _ => 0) := ⟨rfl, rfl, rfl, rfl, rfl, rfl, rfl, rfl, rfl, rfl, rfl, rfl, rfl, rfl, rfl, rfl, rfl⟩
set_option maxRecDepth 100000 in
set_option maxHeartbeats 16000000 in
theorem h3_z2 : hA av_h3 95 = (fun _ => 0) ∧ hA av_h3 96 = (fun _ => 0) ∧ hA av_h3 97 = (fun _ => 0) ∧ hA av_h3 98 = (fun _ => 0) ∧ hA av_h3 99 = (fun _ => 0) ∧ hA av_h3 100 = (fun _ => 0) ∧ hA av_h3 101 = (fun _ => 0) ∧ hA av_h3 102 = (fun _ => 0) ∧ hA av_h3 103 = (fun _ => 0) ∧ hA av_h3 104 = (fun _ => 0) ∧ hA av_h3 105 = (fun _ => 0) ∧ hA av_h3 106 = (fun _ => 0) ∧ hA av_h3 107 = (fun _ => 0) ∧ hA av_h3 108 = (fun _ => 0) := ⟨rfl, rfl, rfl, rfl, rfl, rfl, rfl, rfl, rfl, rfl, rfl, rfl, rfl, rfl⟩
set_option maxRecDepth 100000 in
set_option maxHeartbeats 16000000 in
theorem h3_z3 : hA av_h3 109 = (fun _ => 0) ∧ hA av_h3 110 = (fun _ => 0) ∧ hA av_h3 111 = (fun _ => 0) ∧ hA av_h3 112 = (fun _ => 0) ∧ hA av_h3 113 = (fun _ => 0) ∧ hA av_h3 114 = (fun _ => 0) ∧ hA av_h3 115 = (fun _ => 0) ∧ hA av_h3 116 = (fun _ => 0) ∧ hA av_h3 117 = (fun _ => 0) ∧ hA av_h3 118 = (fun _ => 0) ∧ hA av_h3 119 = (fun _ => 0) ∧ hA av_h3 120 = (fun _ => 0) ∧ hA av_h3 121 = (fun _ => 0) := ⟨rfl, rfl, rfl, rfl, rfl, rfl, rfl, rfl, rfl, rfl, rfl, rfl, rfl⟩
end
