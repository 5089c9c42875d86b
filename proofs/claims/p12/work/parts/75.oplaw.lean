/-! LAW AND CLAUSE KEEP THE BOOK -/
theorem md_FQ {h1 g2 : av_H} {A2 : Nat → Nat → Int} (F2 : FD h1 g2) (eo : ∀ a, ¬ mdA a → A2 a = hA g2 a) : FQ mdA nun1 fdF2 nun2 h1 (stA g2 A2) 0 0 := FQ_tr (FQ_mo (FQ_FD F2) (fun q e => by unfold fdA2 at e; unfold mdA; omega) (fun _ e => e) (fun _ _ e => e) (fun _ _ e => e)) (FQ_A eo)
/-- rows of one case, nothing else: as if no case was read -/
theorem AGB_93 {A A' : Nat → Nat → Int} {at0 b : Nat} (w : ∀ a j, ¬ (a = 93 ∧ at0 ≤ j ∧ j < at0 + 14) → A' a j = A a j) (ha : at0 + 14 ≤ 196) (hb : 1 ≤ b) : AGB b A A' := by
  refine ⟨⟨w _ _ (by omega), w _ _ (by omega), w _ _ (by omega)⟩, fun i _ => w _ _ (by omega), fun i _ o ho => ?_, fun k _ => w _ _ (by omega)⟩
  have := vq_in o ho
  exact w _ _ (by omega)
theorem rl_13 {b : Nat → Int} {lim : Nat} {y : Int} {t : TT} {d : Nat → Int} : 0 ≤ (rlA b lim y t d).2.2 13 := by
  have e : (rlA b lim y t d).2.2 13 = ((rlf b lim 21 0 t (ufil d 0 14 (-2))).1 : Int) := by
    show av_u1 (rlf b lim 21 0 t (ufil d 0 14 (-2))).2.2 13 ((rlf b lim 21 0 t (ufil d 0 14 (-2))).1 : Int) 13 = _
    exact u1_eq
  rw [e]
  omega
theorem lov_v {f d : Nat → Int} {k : Nat} (hk : k < 14) : lov (plr f av_plain) d 14 k = if d k = -2 then av_plain k else d k := by
  unfold lov plr
  by_cases e : d k = -2
  · rw [if_neg (fun z => z.2 e), if_pos hk, if_pos e]
  · rw [if_pos ⟨hk, e⟩, if_neg e]
theorem plain_b : ∀ k, k < 14 → -2 ≤ av_plain k ∧ av_plain k ≤ 999 := by decide
theorem BM_lfault {h1 h2 : av_H} {b : Nat → Int} {lim at0 : Nat} {t : TT} (G : av_Gd h1) (B : BM h1) (N : MT b lim t 0 (hA h2) h2) (F : FD h1 h2) (w : ∀ a j, ¬ (a = 93 ∧ at0 ≤ j ∧ j < at0 + 14) → hA h2 a j = hA h1 a j) (ha : (∃ l : Nat, at0 = 14 * l ∧ hF h1 3 4 = (l : Int) ∧ l < 8) ∨ (∃ l : Nat, at0 = 112 + 14 * l ∧ hF h1 3 5 = (l : Int) ∧ l < 6)) (l1 : hF h1 1 1 = 0) (w1 : hF h1 0 8 = t.2.2.2) : BK h2 := by
  obtain ⟨I, K, ⟨n0, a0, m0, M⟩, p1, S, X⟩ := B
  have L := I.1
  have l : ∀ {q : Nat}, q < 122 → q < h1.1 := fun hq => ly_lt G L hq
  have l18 : 3 + 18 ≤ h1.1 := by have := l (q := 100) (by omega); omega
  have Q := FQ_FD F
  have I2 : IC h2 := IC_FD F I
  have fF : ∀ q k, q ≠ 77 → hF h2 q k = hF h1 q k := fun q k hq => F.2.2.2.2.2.1 q k (by simp only [rdF, nbeq hq, Bool.false_and])
  have a196 : at0 + 14 ≤ 196 := by rcases ha with ⟨q, h1, _, h2⟩ | ⟨q, h1, _, h2⟩ <;> omega
  have wa : ∀ a, a ≠ 93 → hA h2 a = hA h1 a := fun a ha => by funext j; exact w a j (fun z => ha z.1)
  have wr : ∀ i o, o < 19 → rwA (hA h2) i o = rwA (hA h1) i o := fun i o ho => by
    have := vq_in o ho
    exact w _ _ (by omega)
  have S2 : SL h2 (hA h2) 3 0 := by
    refine SL_fq G fd_low Q l18 (fun j z => by unfold fdF2 at z; omega) (fun z => z) (fun j h1 h2 z => by unfold fdA2 at z; omega) ?_
    obtain ⟨x1, x2, x3, x4, x5⟩ := S
    refine ⟨by unfold SLn at x1 ⊢; rw [wa 78 (by decide), wa 79 (by decide), wa 80 (by decide)]; exact x1, x2, fun i hi h1 => CS_ag2 (x3 i hi h1) (by rw [wa 81 (by decide)]) (fun j _ _ q hq => wr _ q hq), fun q hq h1 => LW_ag (x4 q hq h1) (fun k hk => w _ _ ?_), fun q hq h1 => QW_ag (x5 q hq h1) (fun k hk => w _ _ ?_)⟩
    · rcases ha with ⟨c, e1, e2, e3⟩ | ⟨c, e1, e2, e3⟩ <;> omega
    · rcases ha with ⟨c, e1, e2, e3⟩ | ⟨c, e1, e2, e3⟩ <;> omega
  refine ⟨I2, KT_fq G L I2.1 Q (fun z => by unfold fdA2 at z; omega) (fun z => by unfold fdA2 at z; omega) (fun z => by unfold fdA2 at z; omega) (fun z => by unfold fdA2 at z; omega) (fun j z => by unfold fdF2 at z; omega) (fun j z => by unfold fdF2 at z; omega) (fun j z => z) K, ⟨n0, a0, m0, IMF_of M I2.1 (fun q h1 _ => F.2.2.2.2.2.2 q (rdA_big (by omega))) (fun k hk => F.2.2.2.2.2.1 77 k (mF_rdF hk)) (MV_of (fun a z1 z2 j => by rw [wa a (by omega)]; exact im_bn M a z1 z2 j) (fun j => by rw [F.2.2.2.2.2.2 81 rfl]; exact im_m81 M j) S2)⟩, ⟨?_, ?_, ?_⟩, S2, ?_⟩
  · rw [F.2.2.2.2.2.2 94 rfl, F.2.2.2.2.2.2 2 rfl]; exact p1
  · rw [ns_17 N.1, fF 1 1 (by decide), l1]
  · rw [ns_18 N.1, fF 0 8 (by decide), w1]
  · exact XI_fq G L fd_low Q (fun z => by unfold fdF2 at z; omega) (fun z => by unfold fdF2 at z; omega) (fun z => z) (XI_ag X (fun i _ _ => AGB_93 w a196 (by omega)))

theorem op_law {h : av_H} (B : BK h) (n : Int) (qn : -2147483648 ≤ n ∧ n ≤ 2147483647) : av_wp none cd_97 0 [some (.inr (.inr (.inl (some (0))))), some (.inl n), none] [] h (OPr cd_156 [some (.inr (.inr (.inl (some (77))))), some (.inl n)] h (fun x y => x = y)) := by
  refine gd_of (fun hg => ?_)
  have B0 := B
  obtain ⟨I, K, ⟨n0, a0, m0, M⟩, ⟨p1, p2, p3⟩, S, XX⟩ := B
  have L := I.1
  have bv := kt_bv K
  have ql := K.2.1
  have qc := S.1.2.2.1
  have l : ∀ {q : Nat}, q < 122 → q < h.1 := fun hq => ly_lt hg L hq
  refine ct_97 I K n qn (fun zA => ?_) (fun z1 z2 z3 => ?_) (fun z1 z2 z3 z4 h1 F1 K1 l1 w1 c1 => ?_) (fun z1 z2 z3 z4 h1 F1 K1 l1 w1 c1 r1 dv => ?_)
  · refine ⟨-2, rfl, ly_k L 77 rfl, ?_⟩
    exact ct_156 L p1 bv p2 ql S.1.1.2.1.symm qc (hA h 25) n qn (fun _ => ⟨-2, rfl, rfl, B0, RM_0 rfl rfl⟩) (fun _ _ _ => by exfalso; omega) (fun _ _ _ _ => by exfalso; omega) (fun _ _ _ _ => by exfalso; omega)
  · refine ⟨-3, rfl, ly_k L 77 rfl, ?_⟩
    exact ct_156 L p1 bv p2 ql S.1.1.2.1.symm qc (hA h 25) n qn (fun _ => by exfalso; omega) (fun _ _ _ => ⟨-3, rfl, rfl, B0, RM_0 rfl rfl⟩) (fun _ _ _ _ => by exfalso; omega) (fun _ _ _ _ => by exfalso; omega)
  · refine ⟨-1, rfl, ly_k (kt_L K1) 77 rfl, gd_of (fun hg1 => ?_)⟩
    have M1 := BM_read hg B0 (FQ_s0 F1 c1) K1
    have ea : ∀ a, a < 122 → a ≠ 23 → a ≠ 25 → hA h1 a = hA h a := fun a z1 z2 z3 => (F1.2.2 a (l z1)).2.2.1 (fun z => by unfold rdA2 at z; omega)
    have e17 : hF h1 77 17 = hF h 1 1 := ((F1.2.2 77 (l (by omega))).2.2.2.2 17 (fun z => by unfold rdF2 at z; omega)).trans p2
    refine ct_156 (kt_L K1) ((ea 94 (by omega) (by omega) (by omega)).trans p1) bv e17 ql ((congrFun (ea 79 (by omega) (by omega) (by omega)) 0).trans S.1.1.2.1.symm) qc (hA h 25) n qn (fun _ => by exfalso; omega) (fun _ _ _ => by exfalso; omega) (fun _ _ _ _ h2 N2 F2 W2 => ⟨-1, rfl, rfl, ?_, ?_⟩) (fun _ _ _ y => absurd y z4)
    · exact BM_lfault hg1 M1 N2 F2 W2 (Or.inl ⟨(hF h 3 4).toNat, rfl, by rw [c1]; omega, by omega⟩) l1 w1
    · exact RM_0 (F2.1.trans F1.1) (F2.2.1.trans F1.2.1)
  · refine ⟨hF h 3 4, rfl, ly_k (kt_L K1) 77 rfl, gd_of (fun hg1 => ?_)⟩
    have ea : ∀ a, a < 122 → a ≠ 23 → a ≠ 25 → a ≠ 6 + (hF h 3 4).toNat → hA h1 a = hA h a := fun a z1 z2 z3 z4 => (F1.2.2 a (l z1)).2.2.1 (fun z => by unfold lwA at z; omega)
    have e17 : hF h1 77 17 = hF h 1 1 := ((F1.2.2 77 (l (by omega))).2.2.2.2 17 (fun z => by unfold rdF2 at z; omega)).trans p2
    have ef1 : ∀ k, k ≠ 4 → hF h1 3 k = hF h 3 k := fun k hk => (F1.2.2 3 (l (by omega))).2.2.2.2 k (fun z => by unfold rdF2 at z; omega)
    have er1 : hR h1 4 = hR h 4 := (F1.2.2 4 (l (by omega))).2.2.2.1 (fun z => z)
    have low := lw_low (x := 4) (y := 6 + (hF h 3 4).toNat) (by omega)
    have ob := S.2.1.2.1 ((hF h 3 4).toNat) (by omega)
    rw [show 3 + 3 + (hF h 3 4).toNat = 6 + (hF h 3 4).toNat by omega] at ob
    have rb : ∀ k, -2 ≤ hA h1 (6 + (hF h 3 4).toNat) k ∧ hA h1 (6 + (hF h 3 4).toNat) k ≤ 999 := fun k => by
      rw [r1]
      unfold lov plr
      (repeat' split)
      · exact dv k
      · exact plain_b k (by omega)
      · exact ob k
    refine ct_156 (kt_L K1) ((ea 94 (by omega) (by omega) (by omega) (by omega)).trans p1) bv e17 ql ((congrFun (ea 79 (by omega) (by omega) (by omega) (by omega)) 0).trans S.1.1.2.1.symm) qc (hA h 25) n qn (fun _ => by exfalso; omega) (fun _ _ _ => by exfalso; omega) (fun _ _ _ y => absurd z4 y) (fun _ _ _ _ g2 N2 F2 W2 Y2 => ⟨hF h 3 4, rfl, rfl, ?_, ?_⟩)
    · -- the class's part
      have sr1 : SLr h1 3 := by
        refine ⟨fun i hi => CW_fq hg low F1 (congrFun er1 i) (S.2.1.1 i hi), fun q hq k => ?_, fun q hq k => ?_⟩
        · by_cases e : 3 + 3 + q = 6 + (hF h 3 4).toNat
          · rw [e]; exact rb k
          · rw [ea _ (by omega) (by omega) (by omega) e]; exact S.2.1.2.1 q hq k
        · by_cases e : 3 + 12 + q = 6 + (hF h 3 4).toNat
          · rw [e]; exact rb k
          · rw [ea _ (by omega) (by omega) (by omega) e]; exact S.2.1.2.2 q hq k
      have cn1 : CN h1 := by
        refine ⟨?_, ?_, ?_⟩
        · rw [ef1 3 (by decide)]; exact S.1.2.1
        · rw [c1]; omega
        · rw [ef1 5 (by decide)]; exact S.1.2.2.2
      have I1 : IC h1 := IC_op hg I F1 (fun q e => by
        unfold lwA at e
        have hh : ∀ q, q < 122 → (q = 23 ∨ q = 25 ∨ (6 ≤ q ∧ q < 6 + 8)) → bA q = true := by decide
        exact hh q (by omega) (by omega)) (fun q e => e.elim) (rdF2_bF (by omega)) K1 sr1 cn1
      have L1 := I1.1
      have Q2 := md_FQ (A2 := av_u2 (hA g2) 79 0 (hF h 3 4 + 1)) F2 (fun a ha => av_u2_ne (fun z => ha (by unfold mdA; omega)))
      have I2g : IC g2 := IC_FD F2 I1
      have eo : ∀ a, a ≠ 79 → av_u2 (hA g2) 79 0 (hF h 3 4 + 1) a = hA g2 a := fun a ha => av_u2_ne ha
      have eq0 : av_u2 (hA g2) 79 0 (hF h 3 4 + 1) 79 0 = hF h 3 4 + 1 := av_u2_self
      have eqo : ∀ j, j ≠ 0 → av_u2 (hA g2) 79 0 (hF h 3 4 + 1) 79 j = hA g2 79 j := fun j hj => av_u2_oth hj
      show BK (stA g2 (av_u2 (hA g2) 79 0 (hF h 3 4 + 1)))
      generalize av_u2 (hA g2) 79 0 (hF h 3 4 + 1) = A2 at Q2 eo eq0 eqo ⊢
      have I2 : IC (stA g2 A2) := IC_eq (g := g2) (h := stA g2 A2) I2g.1 (fun _ => rfl) (fun q hq => eo q (by omega)) (fun _ _ _ => rfl) (fun _ => rfl) (fun _ => rfl) I2g
      have fF : ∀ q k, q ≠ 77 → hF (stA g2 A2) q k = hF h1 q k := fun q k hq => F2.2.2.2.2.2.1 q k (by simp only [rdF, nbeq hq, Bool.false_and])
      have eR : hR (stA g2 A2) = hR h1 := F2.2.2.2.1
      have w93 : ∀ j, ¬ (14 * (hF h 3 4).toNat ≤ j ∧ j < 14 * (hF h 3 4).toNat + 14) → A2 93 j = hA h 93 j := fun j hj => by
        rw [eo 93 (by decide), W2 93 j (fun z => hj z.2), ea 93 (by omega) (by omega) (by omega) (by omega)]
      have wa : ∀ a, a ≠ 79 → a ≠ 93 → a < 122 → a ≠ 23 → a ≠ 25 → a ≠ 6 + (hF h 3 4).toNat → A2 a = hA h a := fun a e1 e2 e3 e4 e5 e6 => by
        rw [eo a e1, ← ea a e3 e4 e5 e6]
        funext j
        exact W2 a j (fun z => e2 z.1)
      have wr : ∀ i o, o < 19 → rwA A2 i o = rwA (hA h) i o := fun i o ho => by
        have := vq_in o ho
        show A2 (vq o) _ = hA h (vq o) _
        rw [wa (vq o) (by omega) (by omega) (by omega) (by omega) (by omega) (by omega)]
      have wc : ∀ a, a < 77 → A2 a = hA h1 a := fun a ha => by
        rw [eo a (by omega)]
        funext j
        exact W2 a j (by omega)
      have S2 : SL (stA g2 A2) A2 3 0 := by
        refine ⟨⟨⟨?_, ?_, ?_⟩, ?_, ?_, ?_⟩, ⟨fun i hi => CW_fq hg1 md_low Q2 (congrFun (congrFun eR _) _) (sr1.1 i hi), fun q hq k => ?_, fun q hq k => ?_⟩, fun i hi hq1 => ?_, fun q hq hq1 => ?_, fun q hq hq1 => ?_⟩
        · rw [fF 3 3 (by decide), ef1 3 (by decide), wa 78 (by decide) (by decide) (by omega) (by omega) (by omega) (by omega)]; exact S.1.1.1
        · rw [fF 3 4 (by decide), c1, eq0]
        · rw [fF 3 5 (by decide), ef1 5 (by decide), wa 80 (by decide) (by decide) (by omega) (by omega) (by omega) (by omega)]; exact S.1.1.2.2
        · rw [fF 3 3 (by decide)]; exact cn1.1
        · rw [fF 3 4 (by decide)]; exact cn1.2.1
        · rw [fF 3 5 (by decide)]; exact cn1.2.2
        · rw [show hA (stA g2 A2) (3 + 3 + q) = hA h1 (3 + 3 + q) from wc _ (by omega)]; exact sr1.2.1 q hq k
        · rw [show hA (stA g2 A2) (3 + 12 + q) = hA h1 (3 + 12 + q) from wc _ (by omega)]; exact sr1.2.2 q hq k
        · rw [fF 3 3 (by decide), ef1 3 (by decide)] at hq1
          exact CS_fq hg1 md_low Q2 (congrFun (congrFun eR _) _) (CS_ag2 (CS_fq hg low F1 (congrFun er1 i) (S.2.2.1 i hi hq1)) (by rw [wa 81 (by decide) (by decide) (by omega) (by omega) (by omega) (by omega)]) (fun j _ _ q hq => wr _ q hq))
        · rw [fF 3 4 (by decide), c1] at hq1
          by_cases e : q = (hF h 3 4).toNat
          · have er : hA (stA g2 A2) (3 + 3 + q) = lov (plr (hA h (6 + (hF h 3 4).toNat)) av_plain) (rlA (hA h 2) n.toNat 0 (adv (hA h 2) n.toNat (0, 0, 0, -1)) (hA h 25)).2.2 14 := (wc _ (by omega)).trans ((congrArg (hA h1) (show 3 + 3 + q = 6 + (hF h 3 4).toNat by omega)).trans r1)
            have y : ∀ o, o < 14 → A2 93 (196 * 0 + 14 * q + o) = (rlA (hA h 2) n.toNat 0 (adv (hA h 2) n.toNat (0, 0, 0, -1)) (hA h 25)).2.2 o := fun o ho => by
              rw [eo 93 (by decide), show 196 * 0 + 14 * q + o = 14 * (hF h 3 4).toNat + o by omega]
              exact Y2 o ho
            refine ⟨fun k hk => ?_, ?_⟩
            · rw [er, y k (by omega)]; exact lov_v (by omega)
            · rw [er, y 13 (by omega), lov_v (by omega)]
              have := rl_13 (b := hA h 2) (lim := n.toNat) (y := 0) (t := (adv (hA h 2) n.toNat (0, 0, 0, -1))) (d := hA h 25)
              rw [if_neg (by omega)]
          · have x := S.2.2.2.1 q hq (by omega)
            have e1 : hA (stA g2 A2) (3 + 3 + q) = hA h (3 + 3 + q) := (wc _ (by omega)).trans (ea _ (by omega) (by omega) (by omega) (by omega))
            have x2 : LW h A2 3 0 q := LW_ag x (fun k hk => w93 _ (by omega))
            unfold LW at x2 ⊢
            rw [e1]
            exact x2
        · rw [fF 3 5 (by decide), ef1 5 (by decide)] at hq1
          have x := S.2.2.2.2 q hq hq1
          have e1 : hA (stA g2 A2) (3 + 12 + q) = hA h (3 + 12 + q) := (wc _ (by omega)).trans (ea _ (by omega) (by omega) (by omega) (by omega))
          have x2 : QW h A2 3 0 q := QW_ag x (fun k hk => w93 _ (by omega))
          unfold QW at x2 ⊢
          rw [e1]
          exact x2
      refine ⟨I2, KT_fq hg1 L1 I2.1 Q2 (fun z => by unfold mdA at z; omega) (fun z => by unfold mdA at z; omega) (fun z => by unfold mdA at z; omega) (fun z => by unfold mdA at z; omega) (fun j z => by unfold fdF2 at z; omega) (fun j z => by unfold fdF2 at z; omega) (fun j z => z) K1, ⟨n0, a0, m0, IMF_of M I2.1 (fun q z1 z2 => wa q (by omega) (by omega) (by omega) (by omega) (by omega) (by omega)) (fun k hk => (F2.2.2.2.2.2.1 77 k (mF_rdF hk)).trans ((F1.2.2 77 (l (by omega))).2.2.2.2 k (fun z => by unfold rdF2 at z; omega))) (MV_of (fun a z1 z2 j => by rw [show hA (stA g2 A2) a = hA h a from wa a (by omega) (by omega) (by omega) (by omega) (by omega) (by omega)]; exact im_bn M a z1 z2 j) (fun j => by rw [show hA (stA g2 A2) 81 = hA h 81 from wa 81 (by decide) (by decide) (by omega) (by omega) (by omega) (by omega)]; exact im_m81 M j) S2)⟩, ⟨?_, ?_, ?_⟩, S2, ?_⟩
      · rw [show hA (stA g2 A2) 94 = hA h 94 from wa 94 (by decide) (by decide) (by omega) (by omega) (by omega) (by omega), show hA (stA g2 A2) 2 = hA h 2 from wa 2 (by decide) (by decide) (by omega) (by omega) (by omega) (by omega)]
        exact p1
      · rw [fF 1 1 (by decide), l1]
        exact (show hF g2 77 17 = 0 from ns_17 N2.1)
      · rw [fF 0 8 (by decide), w1, ← z4]
        exact (show hF g2 77 18 = (rlA (hA h 2) n.toNat 0 (adv (hA h 2) n.toNat (0, 0, 0, -1)) (hA h 25)).2.1.2.2.2 from ns_18 N2.1)
      · have X1 : XI h1 (hA h) := XI_fq hg L low F1 (fun z => by unfold rdF2 at z; omega) (fun z => by unfold rdF2 at z; omega) (fun z => z) XX
        refine XI_fq hg1 L1 md_low Q2 (fun z => by unfold fdF2 at z; omega) (fun z => by unfold fdF2 at z; omega) (fun z => z) (XI_ag X1 (fun i hi _ => ⟨⟨?_, ?_, ?_⟩, fun q hq => ?_, fun q hq o ho => wr _ o ho, fun k hk => w93 _ (by omega)⟩))
        · rw [show hA (stA g2 A2) 78 = hA h 78 from wa 78 (by decide) (by decide) (by omega) (by omega) (by omega) (by omega)]
        · rw [show hA (stA g2 A2) 79 (i + 1) = hA g2 79 (i + 1) from eqo _ (by omega), W2 79 (i + 1) (by omega), ea 79 (by omega) (by omega) (by omega) (by omega)]
        · rw [show hA (stA g2 A2) 80 = hA h 80 from wa 80 (by decide) (by decide) (by omega) (by omega) (by omega) (by omega)]
        · rw [show hA (stA g2 A2) 81 = hA h 81 from wa 81 (by decide) (by decide) (by omega) (by omega) (by omega) (by omega)]
    · have e1 := F2.1
      have e2 := F2.2.1
      have e3 := F1.1
      have e4 := F1.2.1
      exact ⟨by show g2.1 ≤ _; omega, by show g2.2.1 ≤ _; omega⟩

theorem op_clause {h : av_H} (B : BK h) (n : Int) (qn : -2147483648 ≤ n ∧ n ≤ 2147483647) : av_wp none cd_98 0 [some (.inr (.inr (.inl (some (0))))), some (.inl n), none] [] h (OPr cd_157 [some (.inr (.inr (.inl (some (77))))), some (.inl n)] h (fun x y => x = y)) := by
  refine gd_of (fun hg => ?_)
  have B0 := B
  obtain ⟨I, K, ⟨n0, a0, m0, M⟩, ⟨p1, p2, p3⟩, S, XX⟩ := B
  have L := I.1
  have bv := kt_bv K
  have ql := K.2.1
  have qc := S.1.2.2.2
  have l : ∀ {q : Nat}, q < 122 → q < h.1 := fun hq => ly_lt hg L hq
  refine ct_98 I K n qn (fun zA => ?_) (fun z1 z2 z3 => ?_) (fun z1 z2 z3 z4 h1 F1 K1 l1 w1 c1 => ?_) (fun z1 z2 z3 z4 h1 F1 K1 l1 w1 c1 r1 dv => ?_)
  · refine ⟨-2, rfl, ly_k L 77 rfl, ?_⟩
    exact ct_157 L p1 bv p2 ql S.1.1.2.2.symm qc (hA h 25) n qn (fun _ => ⟨-2, rfl, rfl, B0, RM_0 rfl rfl⟩) (fun _ _ _ => by exfalso; omega) (fun _ _ _ _ => by exfalso; omega) (fun _ _ _ _ => by exfalso; omega)
  · refine ⟨-3, rfl, ly_k L 77 rfl, ?_⟩
    exact ct_157 L p1 bv p2 ql S.1.1.2.2.symm qc (hA h 25) n qn (fun _ => by exfalso; omega) (fun _ _ _ => ⟨-3, rfl, rfl, B0, RM_0 rfl rfl⟩) (fun _ _ _ _ => by exfalso; omega) (fun _ _ _ _ => by exfalso; omega)
  · refine ⟨-1, rfl, ly_k (kt_L K1) 77 rfl, gd_of (fun hg1 => ?_)⟩
    have M1 := BM_read hg B0 (FQ_s0 F1 c1) K1
    have ea : ∀ a, a < 122 → a ≠ 23 → a ≠ 25 → hA h1 a = hA h a := fun a z1 z2 z3 => (F1.2.2 a (l z1)).2.2.1 (fun z => by unfold rdA2 at z; omega)
    have e17 : hF h1 77 17 = hF h 1 1 := ((F1.2.2 77 (l (by omega))).2.2.2.2 17 (fun z => by unfold rdF2 at z; omega)).trans p2
    refine ct_157 (kt_L K1) ((ea 94 (by omega) (by omega) (by omega)).trans p1) bv e17 ql ((congrFun (ea 80 (by omega) (by omega) (by omega)) 0).trans S.1.1.2.2.symm) qc (hA h 25) n qn (fun _ => by exfalso; omega) (fun _ _ _ => by exfalso; omega) (fun _ _ _ _ h2 N2 F2 W2 => ⟨-1, rfl, rfl, ?_, ?_⟩) (fun _ _ _ y => absurd y z4)
    · exact BM_lfault hg1 M1 N2 F2 W2 (Or.inr ⟨(hF h 3 5).toNat, rfl, by rw [c1]; omega, by omega⟩) l1 w1
    · exact RM_0 (F2.1.trans F1.1) (F2.2.1.trans F1.2.1)
  · refine ⟨hF h 3 5, rfl, ly_k (kt_L K1) 77 rfl, gd_of (fun hg1 => ?_)⟩
    have ea : ∀ a, a < 122 → a ≠ 23 → a ≠ 25 → a ≠ 15 + (hF h 3 5).toNat → hA h1 a = hA h a := fun a z1 z2 z3 z4 => (F1.2.2 a (l z1)).2.2.1 (fun z => by unfold lwA at z; omega)
    have e17 : hF h1 77 17 = hF h 1 1 := ((F1.2.2 77 (l (by omega))).2.2.2.2 17 (fun z => by unfold rdF2 at z; omega)).trans p2
    have ef1 : ∀ k, k ≠ 5 → hF h1 3 k = hF h 3 k := fun k hk => (F1.2.2 3 (l (by omega))).2.2.2.2 k (fun z => by unfold rdF2 at z; omega)
    have er1 : hR h1 4 = hR h 4 := (F1.2.2 4 (l (by omega))).2.2.2.1 (fun z => z)
    have low := lw_low (x := 5) (y := 15 + (hF h 3 5).toNat) (by omega)
    have ob := S.2.1.2.2 ((hF h 3 5).toNat) (by omega)
    rw [show 3 + 12 + (hF h 3 5).toNat = 15 + (hF h 3 5).toNat by omega] at ob
    have rb : ∀ k, -2 ≤ hA h1 (15 + (hF h 3 5).toNat) k ∧ hA h1 (15 + (hF h 3 5).toNat) k ≤ 999 := fun k => by
      rw [r1]
      unfold plr
      split
      · exact dv k
      · exact ob k
    refine ct_157 (kt_L K1) ((ea 94 (by omega) (by omega) (by omega) (by omega)).trans p1) bv e17 ql ((congrFun (ea 80 (by omega) (by omega) (by omega) (by omega)) 0).trans S.1.1.2.2.symm) qc (hA h 25) n qn (fun _ => by exfalso; omega) (fun _ _ _ => by exfalso; omega) (fun _ _ _ y => absurd z4 y) (fun _ _ _ _ g2 N2 F2 W2 Y2 => ⟨hF h 3 5, rfl, rfl, ?_, ?_⟩)
    · -- the class's part
      have sr1 : SLr h1 3 := by
        refine ⟨fun i hi => CW_fq hg low F1 (congrFun er1 i) (S.2.1.1 i hi), fun q hq k => ?_, fun q hq k => ?_⟩
        · by_cases e : 3 + 3 + q = 15 + (hF h 3 5).toNat
          · rw [e]; exact rb k
          · rw [ea _ (by omega) (by omega) (by omega) e]; exact S.2.1.2.1 q hq k
        · by_cases e : 3 + 12 + q = 15 + (hF h 3 5).toNat
          · rw [e]; exact rb k
          · rw [ea _ (by omega) (by omega) (by omega) e]; exact S.2.1.2.2 q hq k
      have cn1 : CN h1 := by
        refine ⟨?_, ?_, ?_⟩
        · rw [ef1 3 (by decide)]; exact S.1.2.1
        · rw [ef1 4 (by decide)]; exact S.1.2.2.1
        · rw [c1]; omega
      have I1 : IC h1 := IC_op hg I F1 (fun q e => by
        unfold lwA at e
        have hh : ∀ q, q < 122 → (q = 23 ∨ q = 25 ∨ (15 ≤ q ∧ q < 15 + 6)) → bA q = true := by decide
        exact hh q (by omega) (by omega)) (fun q e => e.elim) (rdF2_bF (by omega)) K1 sr1 cn1
      have L1 := I1.1
      have Q2 := md_FQ (A2 := av_u2 (hA g2) 80 0 (hF h 3 5 + 1)) F2 (fun a ha => av_u2_ne (fun z => ha (by unfold mdA; omega)))
      have I2g : IC g2 := IC_FD F2 I1
      have eo : ∀ a, a ≠ 80 → av_u2 (hA g2) 80 0 (hF h 3 5 + 1) a = hA g2 a := fun a ha => av_u2_ne ha
      have eq0 : av_u2 (hA g2) 80 0 (hF h 3 5 + 1) 80 0 = hF h 3 5 + 1 := av_u2_self
      have eqo : ∀ j, j ≠ 0 → av_u2 (hA g2) 80 0 (hF h 3 5 + 1) 80 j = hA g2 80 j := fun j hj => av_u2_oth hj
      show BK (stA g2 (av_u2 (hA g2) 80 0 (hF h 3 5 + 1)))
      generalize av_u2 (hA g2) 80 0 (hF h 3 5 + 1) = A2 at Q2 eo eq0 eqo ⊢
      have I2 : IC (stA g2 A2) := IC_eq (g := g2) (h := stA g2 A2) I2g.1 (fun _ => rfl) (fun q hq => eo q (by omega)) (fun _ _ _ => rfl) (fun _ => rfl) (fun _ => rfl) I2g
      have fF : ∀ q k, q ≠ 77 → hF (stA g2 A2) q k = hF h1 q k := fun q k hq => F2.2.2.2.2.2.1 q k (by simp only [rdF, nbeq hq, Bool.false_and])
      have eR : hR (stA g2 A2) = hR h1 := F2.2.2.2.1
      have w93 : ∀ j, ¬ (112 + 14 * (hF h 3 5).toNat ≤ j ∧ j < 112 + 14 * (hF h 3 5).toNat + 14) → A2 93 j = hA h 93 j := fun j hj => by
        rw [eo 93 (by decide), W2 93 j (fun z => hj z.2), ea 93 (by omega) (by omega) (by omega) (by omega)]
      have wa : ∀ a, a ≠ 80 → a ≠ 93 → a < 122 → a ≠ 23 → a ≠ 25 → a ≠ 15 + (hF h 3 5).toNat → A2 a = hA h a := fun a e1 e2 e3 e4 e5 e6 => by
        rw [eo a e1, ← ea a e3 e4 e5 e6]
        funext j
        exact W2 a j (fun z => e2 z.1)
      have wr : ∀ i o, o < 19 → rwA A2 i o = rwA (hA h) i o := fun i o ho => by
        have := vq_in o ho
        show A2 (vq o) _ = hA h (vq o) _
        rw [wa (vq o) (by omega) (by omega) (by omega) (by omega) (by omega) (by omega)]
      have wc : ∀ a, a < 77 → A2 a = hA h1 a := fun a ha => by
        rw [eo a (by omega)]
        funext j
        exact W2 a j (by omega)
      have S2 : SL (stA g2 A2) A2 3 0 := by
        refine ⟨⟨⟨?_, ?_, ?_⟩, ?_, ?_, ?_⟩, ⟨fun i hi => CW_fq hg1 md_low Q2 (congrFun (congrFun eR _) _) (sr1.1 i hi), fun q hq k => ?_, fun q hq k => ?_⟩, fun i hi hq1 => ?_, fun q hq hq1 => ?_, fun q hq hq1 => ?_⟩
        · rw [fF 3 3 (by decide), ef1 3 (by decide), wa 78 (by decide) (by decide) (by omega) (by omega) (by omega) (by omega)]; exact S.1.1.1
        · rw [fF 3 4 (by decide), ef1 4 (by decide), wa 79 (by decide) (by decide) (by omega) (by omega) (by omega) (by omega)]; exact S.1.1.2.1
        · rw [fF 3 5 (by decide), c1, eq0]
        · rw [fF 3 3 (by decide)]; exact cn1.1
        · rw [fF 3 4 (by decide)]; exact cn1.2.1
        · rw [fF 3 5 (by decide)]; exact cn1.2.2
        · rw [show hA (stA g2 A2) (3 + 3 + q) = hA h1 (3 + 3 + q) from wc _ (by omega)]; exact sr1.2.1 q hq k
        · rw [show hA (stA g2 A2) (3 + 12 + q) = hA h1 (3 + 12 + q) from wc _ (by omega)]; exact sr1.2.2 q hq k
        · rw [fF 3 3 (by decide), ef1 3 (by decide)] at hq1
          exact CS_fq hg1 md_low Q2 (congrFun (congrFun eR _) _) (CS_ag2 (CS_fq hg low F1 (congrFun er1 i) (S.2.2.1 i hi hq1)) (by rw [wa 81 (by decide) (by decide) (by omega) (by omega) (by omega) (by omega)]) (fun j _ _ q hq => wr _ q hq))
        · rw [fF 3 4 (by decide), ef1 4 (by decide)] at hq1
          have x := S.2.2.2.1 q hq hq1
          have e1 : hA (stA g2 A2) (3 + 3 + q) = hA h (3 + 3 + q) := (wc _ (by omega)).trans (ea _ (by omega) (by omega) (by omega) (by omega))
          have x2 : LW h A2 3 0 q := LW_ag x (fun k hk => w93 _ (by omega))
          unfold LW at x2 ⊢
          rw [e1]
          exact x2
        · rw [fF 3 5 (by decide), c1] at hq1
          by_cases e : q = (hF h 3 5).toNat
          · have er : hA (stA g2 A2) (3 + 12 + q) = plr (hA h (15 + (hF h 3 5).toNat)) (rlA (hA h 2) n.toNat 1 (adv (hA h 2) n.toNat (0, 0, 0, -1)) (hA h 25)).2.2 := (wc _ (by omega)).trans ((congrArg (hA h1) (show 3 + 12 + q = 15 + (hF h 3 5).toNat by omega)).trans r1)
            intro k hk
            rw [er, eo 93 (by decide), show 196 * 0 + 112 + 14 * q + k = 112 + 14 * (hF h 3 5).toNat + k by omega, Y2 k hk]
            exact if_pos hk
          · have x := S.2.2.2.2 q hq (by omega)
            have e1 : hA (stA g2 A2) (3 + 12 + q) = hA h (3 + 12 + q) := (wc _ (by omega)).trans (ea _ (by omega) (by omega) (by omega) (by omega))
            have x2 : QW h A2 3 0 q := QW_ag x (fun k hk => w93 _ (by omega))
            unfold QW at x2 ⊢
            rw [e1]
            exact x2
      refine ⟨I2, KT_fq hg1 L1 I2.1 Q2 (fun z => by unfold mdA at z; omega) (fun z => by unfold mdA at z; omega) (fun z => by unfold mdA at z; omega) (fun z => by unfold mdA at z; omega) (fun j z => by unfold fdF2 at z; omega) (fun j z => by unfold fdF2 at z; omega) (fun j z => z) K1, ⟨n0, a0, m0, IMF_of M I2.1 (fun q z1 z2 => wa q (by omega) (by omega) (by omega) (by omega) (by omega) (by omega)) (fun k hk => (F2.2.2.2.2.2.1 77 k (mF_rdF hk)).trans ((F1.2.2 77 (l (by omega))).2.2.2.2 k (fun z => by unfold rdF2 at z; omega))) (MV_of (fun a z1 z2 j => by rw [show hA (stA g2 A2) a = hA h a from wa a (by omega) (by omega) (by omega) (by omega) (by omega) (by omega)]; exact im_bn M a z1 z2 j) (fun j => by rw [show hA (stA g2 A2) 81 = hA h 81 from wa 81 (by decide) (by decide) (by omega) (by omega) (by omega) (by omega)]; exact im_m81 M j) S2)⟩, ⟨?_, ?_, ?_⟩, S2, ?_⟩
      · rw [show hA (stA g2 A2) 94 = hA h 94 from wa 94 (by decide) (by decide) (by omega) (by omega) (by omega) (by omega), show hA (stA g2 A2) 2 = hA h 2 from wa 2 (by decide) (by decide) (by omega) (by omega) (by omega) (by omega)]
        exact p1
      · rw [fF 1 1 (by decide), l1]
        exact (show hF g2 77 17 = 0 from ns_17 N2.1)
      · rw [fF 0 8 (by decide), w1, ← z4]
        exact (show hF g2 77 18 = (rlA (hA h 2) n.toNat 1 (adv (hA h 2) n.toNat (0, 0, 0, -1)) (hA h 25)).2.1.2.2.2 from ns_18 N2.1)
      · have X1 : XI h1 (hA h) := XI_fq hg L low F1 (fun z => by unfold rdF2 at z; omega) (fun z => by unfold rdF2 at z; omega) (fun z => z) XX
        refine XI_fq hg1 L1 md_low Q2 (fun z => by unfold fdF2 at z; omega) (fun z => by unfold fdF2 at z; omega) (fun z => z) (XI_ag X1 (fun i hi _ => ⟨⟨?_, ?_, ?_⟩, fun q hq => ?_, fun q hq o ho => wr _ o ho, fun k hk => w93 _ (by omega)⟩))
        · rw [show hA (stA g2 A2) 78 = hA h 78 from wa 78 (by decide) (by decide) (by omega) (by omega) (by omega) (by omega)]
        · rw [show hA (stA g2 A2) 79 = hA h 79 from wa 79 (by decide) (by decide) (by omega) (by omega) (by omega) (by omega)]
        · rw [show hA (stA g2 A2) 80 (i + 1) = hA g2 80 (i + 1) from eqo _ (by omega), W2 80 (i + 1) (by omega), ea 80 (by omega) (by omega) (by omega) (by omega)]
        · rw [show hA (stA g2 A2) 81 = hA h 81 from wa 81 (by decide) (by decide) (by omega) (by omega) (by omega) (by omega)]
    · have e1 := F2.1
      have e2 := F2.2.1
      have e3 := F1.1
      have e4 := F1.2.1
      exact ⟨by show g2.1 ≤ _; omega, by show g2.2.1 ≤ _; omega⟩
