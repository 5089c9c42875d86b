/-! IMAGE AND BACK, class and reference one behind the other -/
def i0F (o f : Nat) : Prop := o = 0 ∧ f = 7
def i7F (o f : Nat) : Prop := o = 77 ∧ f = 62
theorem im_low : LOW nun1 (fun q => q = 21) i0F nun2 := ⟨fun q e => e.elim, fun q e => by omega, fun q j e => by unfold i0F at e; omega, fun q j e => e.elim⟩
theorem im_lowm : LOW mdA nun1 i7F nun2 := ⟨fun q e => by unfold mdA at e; omega, fun q e => e.elim, fun q j e => by unfold i7F at e; omega, fun q j e => e.elim⟩
/-- the heap with one more image -/
def him (h : av_H) (m : Int) : av_H := hwF (hwR (blk (nsh h) h.1 3) 21 (Int.toNat m) (some h.1)) 0 7 (m + 1)
theorem him_fq {h : av_H} {m : Int} (hg : 122 ≤ h.1) : FQ nun1 (fun q => q = 21) i0F nun2 h (him h m) 18 232 := by
  refine ⟨rfl, rfl, fun q hq => ⟨?_, fun j _ => ?_, fun _ => ?_, fun e => ?_, fun j e => ?_⟩⟩
  · exact (nsh_al.2.2 q hq).1
  · exact congrFun (nsh_al.2.2 q hq).2.2.2.1 j
  · exact (blk_A (h := nsh h) (o := h.1) (p := 3) (q := q) (by omega)).trans (nsh_al.2.2 q hq).2.1
  · have e1 : hR (him h m) q = hR (blk (nsh h) h.1 3) q := av_u2_ne e
    rw [e1, blk_R, if_neg (by omega)]
    exact (nsh_al.2.2 q hq).2.2.2.2
  · have e1 : hF (him h m) q j = hF (blk (nsh h) h.1 3) q j := by
      show av_u2 _ 0 7 _ q j = _
      rw [av_u2, if_neg (show ¬ (q = 0 ∧ j = 7) from e)]
      rfl
    rw [e1, blk_F j (by omega)]
    exact nsh_F j (by omega)
theorem him_shp {h : av_H} {m : Int} (hg : 122 ≤ h.1) : SHP (him h m) h.1 := by
  obtain ⟨x1, x2, x3, x4, x5, x6, x7, x8, x9⟩ := nsh_shp (g := h)
  have er : ∀ q, q ≠ 21 → q ≠ h.1 + 1 → hR (him h m) q = hR (nsh h) q := fun q e1 e2 => by
    have e3 : hR (him h m) q = hR (blk (nsh h) h.1 3) q := av_u2_ne e1
    rw [e3, blk_R, if_neg e2]
  refine ⟨x1, x2, x3, x4, x5, x6, x7, fun i hi => ⟨?_, (x8 i hi).2⟩, fun i hi => ⟨?_, (x9 i hi).2⟩⟩
  · rw [er _ (by omega) (by omega)]; exact (x8 i hi).1
  · rw [er _ (by omega) (by omega)]; exact (x9 i hi).1
theorem cp_or {A : Nat → Nat → Int} {a b q j : Nat} : ∃ w, cpL A a b czt q j = A q w := by
  unfold cpL
  by_cases c : 78 ≤ q ∧ cz q * b ≤ j ∧ j < cz q * b + czt.getD (q - 78) 0
  · exact ⟨_, if_pos c⟩
  · exact ⟨_, if_neg c⟩
theorem op_image {h : av_H} (B : BK h) : av_wp none cd_123 0 [some (.inr (.inr (.inl (some (0))))), none] [] h (OPr cd_214 [some (.inr (.inr (.inl (some (77)))))] h (fun x y => x = y)) := by
  refine gd_of (fun hg => ?_)
  have B0 := B
  obtain ⟨I, K, ⟨n0, a0, m0, M⟩, ⟨p1, p2, p3⟩, S, X⟩ := B
  have L := I.1
  have l : ∀ {q : Nat}, q < 122 → q < h.1 := fun hq => ly_lt hg L hq
  have l122 : 122 ≤ h.1 := by have := l (q := 121) (by omega); omega
  obtain ⟨qm, e77, X3⟩ := X
  refine ct_123 L rfl qm (fun i hi q e => cw_k1 (S.2.1.1 i hi) e) (fun z => ?_) (fun z => ?_)
  · exact ⟨-1, rfl, ly_k L 77 rfl, ct_214 L e77 qm (fun _ => ⟨-1, rfl, rfl, B0, RM_0 rfl rfl⟩) (fun z2 => by exfalso; omega)⟩
  · refine ⟨_, rfl, ((him_fq (m := hF h 0 7) l122).2.2 77 (l (by omega))).1.trans (ly_k L 77 rfl), gd_of (fun hg1 => ?_)⟩
    have F1 := him_fq (m := hF h 0 7) l122
    have hsh := him_shp (m := hF h 0 7) l122
    have r21 : hR (him h (hF h 0 7)) 21 = av_u1 (hR h 21) (hF h 0 7).toNat (some h.1) := by
      have e1 : hR (blk (nsh h) h.1 3) 21 = hR h 21 := by
        rw [blk_R, if_neg (by omega)]
        exact (nsh_al.2.2 21 (l (by omega))).2.2.2.2
      have e2 : hR (him h (hF h 0 7)) 21 = av_u1 (hR (blk (nsh h) h.1 3) 21) (hF h 0 7).toNat (some h.1) := by
        funext j
        show av_u2 _ 21 _ _ 21 j = _
        unfold av_u2 av_u1
        by_cases c : j = (hF h 0 7).toNat
        · rw [if_pos ⟨rfl, c⟩, if_pos c]
        · rw [if_neg (fun z => c z.2), if_neg c]
      rw [e2, e1]
    have f07 : hF (him h (hF h 0 7)) 0 7 = hF h 0 7 + 1 := hF_self
    have nF : ∀ k, hF (him h (hF h 0 7)) h.1 k = hF (blk (nsh h) h.1 3) h.1 k := fun k => by
      show av_u2 _ 0 7 _ h.1 k = _
      rw [av_u2_ne (by omega)]
      rfl
    have nR : hR (him h (hF h 0 7)) (h.1 + 1) = hR (blk (nsh h) h.1 3) (h.1 + 1) := av_u2_ne (by omega)
    have nA : hA (him h (hF h 0 7)) = hA (blk (nsh h) h.1 3) := rfl
    change av_wp none cd_214 0 _ [] (him h (hF h 0 7)) _
    change av_Gd (him h (hF h 0 7)) at hg1
    generalize hh1 : him h (hF h 0 7) = h1 at *
    have ea1 : ∀ q, q < 122 → hA h1 q = hA h q := fun q hq => (F1.2.2 q (l hq)).2.2.1 (fun z => z)
    have ef1 : ∀ q k, q < 122 → ¬ (q = 0 ∧ k = 7) → hF h1 q k = hF h q k := fun q k hq e => (F1.2.2 q (l hq)).2.2.2.2 k e
    have l18 : 3 + 18 ≤ h.1 := by omega
    have S1 : SL h1 (hA h) 3 0 := SL_fq hg im_low F1 l18 (fun j z => by unfold i0F at z; omega) (fun z => by omega) (fun j z1 z2 z => z) S
    have fb : FB h h1 18 232 := FQ_fb F1 (fun q e => e.elim) (fun q e => by subst e; rfl) (fun q j e => by unfold i0F at e; obtain ⟨e1, e2⟩ := e; subst e1; subst e2; rfl) (fun _ _ z => z)
    have L1 : LY h1 := LY_fb hg L fb
    have K1 : KT h1 := KT_fq hg L L1 F1 (fun z => z) (fun z => z) (fun z => z) (fun z => z) (fun j z => by unfold i0F at z; omega) (fun j z => by unfold i0F at z; omega) (fun j z => z) K
    have I1 : IC h1 := IC_op hg I F1 (fun q e => e.elim) (fun q e => by subst e; rfl) (fun q j e => by unfold i0F at e; obtain ⟨e1, e2⟩ := e; subst e1; subst e2; rfl) K1 S1.2.1 (cn_sl S1)
    refine ct_214 L1 ((ef1 77 62 (by omega) (by omega)).trans e77) qm (fun z2 => by exfalso; omega) (fun _ => ⟨_, rfl, rfl, ?_, ?_⟩)
    · have F2 : FQ mdA nun1 i7F nun2 h1 (hwF (stA h1 (cpL (hA h1) 0 ((hF h 0 7).toNat + 1) czt)) 77 62 (hF h 0 7 + 1)) 0 0 := FQ_tr (FQ_A (fun q hq => cp_lo (by unfold mdA at hq; omega))) (FQ_wF (h := stA h1 (cpL (hA h1) 0 ((hF h 0 7).toNat + 1) czt)) ⟨rfl, rfl⟩)
      have A2 : hA (hwF (stA h1 (cpL (hA h1) 0 ((hF h 0 7).toNat + 1) czt)) 77 62 (hF h 0 7 + 1)) = cpL (hA h1) 0 ((hF h 0 7).toNat + 1) czt := rfl
      have f62 : hF (hwF (stA h1 (cpL (hA h1) 0 ((hF h 0 7).toNat + 1) czt)) 77 62 (hF h 0 7 + 1)) 77 62 = hF h 0 7 + 1 := hF_self
      have R2 : hR (hwF (stA h1 (cpL (hA h1) 0 ((hF h 0 7).toNat + 1) czt)) 77 62 (hF h 0 7 + 1)) = hR h1 := rfl
      have K2 : hK (hwF (stA h1 (cpL (hA h1) 0 ((hF h 0 7).toNat + 1) czt)) 77 62 (hF h 0 7 + 1)) = hK h1 := rfl
      have G2 : hG (hwF (stA h1 (cpL (hA h1) 0 ((hF h 0 7).toNat + 1) czt)) 77 62 (hF h 0 7 + 1)) = hG h1 := rfl
      have ef2 : ∀ q k, ¬ (q = 77 ∧ k = 62) → hF (hwF (stA h1 (cpL (hA h1) 0 ((hF h 0 7).toNat + 1) czt)) 77 62 (hF h 0 7 + 1)) q k = hF h1 q k := fun q k e => by
        show av_u2 _ 77 62 _ q k = _
        rw [av_u2, if_neg e]
        rfl
      generalize hwF (stA h1 (cpL (hA h1) 0 ((hF h 0 7).toNat + 1) czt)) 77 62 (hF h 0 7 + 1) = h2 at *
      have ea2 : ∀ q, q < 78 ∨ 93 < q → hA h2 q = hA h1 q := fun q hq => by rw [A2]; exact cp_lo hq
      have e0 : ∀ q, 78 ≤ q → q ≤ 93 → hA h1 q = hA h q := fun q z1 z2 => ea1 q (by omega)
      have I2 : IC h2 := IC_eq ⟨fun q hq => by rw [K2]; exact L1.1 q hq, fun o f q e => by rw [G2]; exact L1.2.1 o f q e, fun i hi => by rw [R2]; exact L1.2.2.1 i hi, fun i hi => by rw [R2]; exact L1.2.2.2 i hi⟩ (fun q => by rw [K2]) (fun q hq => ea2 q (by omega)) (fun q k hq => ef2 q k (by omega)) (fun q => by rw [G2]) (fun q => by rw [R2]) I1
      have l18' : 3 + 18 ≤ h1.1 := by have := F1.1; omega
      have S2 : SL h2 (hA h2) 3 0 := SL_ag (SL_fq hg1 im_lowm F2 l18' (fun j z => by unfold i7F at z; omega) (fun z => z) (fun j z1 z2 z => by unfold mdA at z; omega) S1) (by rw [A2]; exact cp_agb (by omega) e0)
      refine ⟨I2, KT_fq hg1 L1 I2.1 F2 (fun z => by unfold mdA at z; omega) (fun z => by unfold mdA at z; omega) (fun z => by unfold mdA at z; omega) (fun z => by unfold mdA at z; omega) (fun j z => by unfold i7F at z; omega) (fun j z => by unfold i7F at z; omega) (fun j z => z) K1, ⟨n0, a0, m0, IMF_of M I2.1 (fun q z1 z2 => (ea2 q (by omega)).trans (ea1 q (by omega))) (fun k hk => (ef2 77 k (fun z => by rw [z.2] at hk; cases hk)).trans (ef1 77 k (by omega) (by omega))) (MV_of (fun q z1 z2 j => ?_) (fun j => ?_) S2)⟩, ⟨?_, ?_, ?_⟩, S2, ?_⟩
      · rw [A2]
        rcases cp_or (A := hA h1) (a := 0) (b := (hF h 0 7).toNat + 1) (q := q) (j := j) with ⟨w, e⟩
        rw [e, ea1 q (by omega)]
        exact im_bn M q z1 z2 w
      · rw [A2]
        rcases cp_or (A := hA h1) (a := 0) (b := (hF h 0 7).toNat + 1) (q := 81) (j := j) with ⟨w, e⟩
        rw [e, ea1 81 (by omega)]
        exact im_m81 M w
      · rw [ea2 94 (by omega), ea2 2 (by omega), ea1 94 (by omega), ea1 2 (by omega)]; exact p1
      · rw [ef2 77 17 (by omega), ef2 1 1 (by omega), ef1 77 17 (by omega) (by omega), ef1 1 1 (by omega) (by omega)]; exact p2
      · rw [ef2 77 18 (by omega), ef2 0 8 (by omega), ef1 77 18 (by omega) (by omega), ef1 0 8 (by omega) (by omega)]; exact p3
      · have g07 : hF h2 0 7 = hF h 0 7 + 1 := (ef2 0 7 (by omega)).trans f07
        refine ⟨by rw [g07]; omega, by rw [f62, g07], fun i hi hh => ?_⟩
        rw [g07] at hh
        have cc2 : ∀ v t c s f, CC h v t c s f → CC h2 v t c s f := fun v t c s f x => CC_fq hg1 im_lowm F2 (CC_fq hg im_low F1 x)
        by_cases e : i = (hF h 0 7).toNat
        · refine ⟨h.1, ?_, l122, by have := F1.1; have := F2.1; omega, SHP_fq F2 (by have := F1.1; omega) (fun j z => z) ⟨fun z => z, fun z => z⟩ hsh, ?_⟩
          · rw [R2, r21, e]
            exact if_pos rfl
          · have eA3 : ∀ q, q < 8 → hA h2 (h.1 + 3 + q) = plr (hA (nsh h) (h.1 + 3 + q)) (hA (nsh h) (3 + 3 + q)) := fun q hq => by
              rw [ea2 _ (by omega), nA]
              exact blk_A3 hq (by omega)
            have eA12 : ∀ q, q < 6 → hA h2 (h.1 + 12 + q) = plr (hA (nsh h) (h.1 + 12 + q)) (hA (nsh h) (3 + 12 + q)) := fun q hq => by
              rw [ea2 _ (by omega), nA]
              exact blk_A12 hq (by omega)
            have on : ∀ q, q < 122 → hA (nsh h) q = hA h q := fun q hq => (nsh_al.2.2 q (l hq)).2.1
            have z3 : ∀ q, q < 8 → ∀ k, hA (nsh h) (h.1 + 3 + q) k = 0 := fun q hq k => by
              rw [nsh_A]
              show (if _ then (0 : Int) else _) = 0
              rw [if_neg (by omega), if_pos (by omega)]
            have z12 : ∀ q, q < 6 → ∀ k, hA (nsh h) (h.1 + 12 + q) k = 0 := fun q hq k => by
              rw [nsh_A]
              show (if _ then (0 : Int) else _) = 0
              rw [if_pos (by omega)]
            have ff : ∀ k, hF h2 h.1 k = hF (blk (nsh h) h.1 3) h.1 k := fun k => (ef2 h.1 k (by omega)).trans (nF k)
            have bo := blk_Fo (h := nsh h) (o := h.1) (p := 3)
            refine SL_copy S ⟨?_, ?_, ?_⟩ (fun q hq k hk => ?_) (fun q hq k hk => ?_) (fun q hq k => ?_) (fun q hq k => ?_) (fun j hj => ?_) cc2 ?_
            · rw [ff 3, bo.1]; exact nsh_F 3 (by omega)
            · rw [ff 4, bo.2.1]; exact nsh_F 4 (by omega)
            · rw [ff 5, bo.2.2]; exact nsh_F 5 (by omega)
            · rw [eA3 q hq, plr_lt hk, on _ (by omega)]
            · rw [eA12 q hq, plr_lt hk, on _ (by omega)]
            · rw [eA3 q hq]
              exact plr_bd (fun k => by rw [z3 q hq k]; omega) (fun k => by rw [on _ (by omega)]; exact S.2.1.2.1 q hq k) k
            · rw [eA12 q hq]
              exact plr_bd (fun k => by rw [z12 q hq k]; omega) (fun k => by rw [on _ (by omega)]; exact S.2.1.2.2 q hq k) k
            · rw [R2, nR, blk_R, if_pos rfl]
              show (if j < 16 then _ else _) = _
              rw [if_pos hj]
              exact congrFun (nsh_al.2.2 4 (l (by omega))).2.2.2.2 j
            · rw [A2, e]; exact cp_agc e0
        · obtain ⟨o, y1, y2, y3, y4, y5⟩ := X3 i hi (by omega)
          have g1 : o + 18 ≤ h1.1 := by have := F1.1; omega
          refine ⟨o, ?_, y2, by have := F2.1; omega, SHP_fq F2 g1 (fun j z => z) ⟨fun z => z, fun z => z⟩ (SHP_fq F1 y3 (fun j z => z) ⟨fun z => by omega, fun z => by omega⟩ y4), SL_ag (SL_fq hg1 im_lowm F2 g1 (fun j z => by unfold i7F at z; omega) (fun z => z) (fun j z1 z2 z => by unfold mdA at z; omega) (SL_fq hg im_low F1 y3 (fun j z => by unfold i0F at z; omega) (fun z => by omega) (fun j z1 z2 z => z) y5)) ?_⟩
          · rw [R2, r21]; exact (if_neg e).trans y1
          · rw [A2]; exact cp_agb (by omega) e0
    · have e1 := F1.1
      have e2 := F1.2.1
      exact ⟨by show h1.1 ≤ _; omega, by show h1.2.1 ≤ _; omega⟩
def bkA (a : Nat) : Prop := a = 27 ∨ (6 ≤ a ∧ a ≤ 13) ∨ (15 ≤ a ∧ a ≤ 20)
def bkF (o f : Nat) : Prop := o = 3 ∧ 3 ≤ f ∧ f ≤ 5
theorem bk_low : LOW bkA (fun q => q = 4) bkF nun2 := ⟨fun q e => by unfold bkA at e; omega, fun q e => by omega, fun q j e => by unfold bkF at e; omega, fun q j e => e.elim⟩
theorem bk_lowm : LOW mdA nun1 nun2 nun2 := ⟨fun q e => by unfold mdA at e; omega, fun q e => e.elim, fun q j e => e.elim, fun q j e => e.elim⟩
theorem hbk_fq {h : av_H} {p : Nat} : FQ bkA (fun q => q = 4) bkF nun2 h (hfil (blk h 3 p) 27 0 144 0) 0 0 := by
  refine ⟨rfl, rfl, fun q hq => ⟨rfl, fun j _ => rfl, fun e => ?_, fun e => ?_, fun j e => ?_⟩⟩
  · have e1 : hA (hfil (blk h 3 p) 27 0 144 0) q = hA (blk h 3 p) q := by
      funext j
      exact if_neg (fun z => e (by unfold bkA; omega))
    rw [e1]
    exact blk_A (by unfold bkA at e; omega)
  · show hR (blk h 3 p) q = _
    rw [blk_R, if_neg e]
  · show av_u2 (av_u2 (av_u2 h.2.2.2.2.1 3 3 _) 3 4 _) 3 5 _ q j = _
    unfold bkF at e
    rw [av_u2, if_neg (by omega), av_u2, if_neg (by omega), av_u2, if_neg (by omega)]
theorem op_back {h : av_H} (B : BK h) (k : Int) (qk : -2147483648 ≤ k ∧ k ≤ 2147483647) : av_wp none cd_124 0 [some (.inr (.inr (.inl (some (0))))), some (.inl k)] [] h (OPr cd_215 [some (.inr (.inr (.inl (some (77))))), some (.inl k)] h (fun x y => x = y)) := by
  refine gd_of (fun hg => ?_)
  have B0 := B
  obtain ⟨I, K, ⟨n0, a0, m0, M⟩, ⟨p1, p2, p3⟩, S, X⟩ := B
  have L := I.1
  have l : ∀ {q : Nat}, q < 122 → q < h.1 := fun hq => ly_lt hg L hq
  have l122 : 122 ≤ h.1 := by have := l (q := 121) (by omega); omega
  have XX := X
  obtain ⟨qm, e77, X3⟩ := X
  refine ct_124 L rfl qm k qk (fun i hi hh => ?_) (fun p i hi hh e j hj q eq => ?_) (fun z => ?_) (fun z1 z2 p ep _ _ => ?_)
  · obtain ⟨o, y1, y2, _, y4, _⟩ := X3 i hi hh
    exact ⟨o, y1, y2, y4⟩
  · obtain ⟨o, y1, _, _, _, y5⟩ := X3 i hi hh
    rw [y1] at e
    cases e
    exact cw_k1 (y5.2.1.1 j hj) eq
  · exact ⟨0, rfl, ly_k L 77 rfl, ct_215 L e77 qm k qk (fun _ => ⟨0, rfl, rfl, B0, RM_0 rfl rfl⟩) (fun z2 z3 => by exfalso; omega)⟩
  · refine ⟨_, rfl, (show hK h 77 = (8, 0) from ly_k L 77 rfl), gd_of (fun hg1 => ?_)⟩
    obtain ⟨o, y1, y2, y3, y4, y5⟩ := X3 k.toNat (by omega) (by omega)
    rw [y1] at ep
    have eo : o = p := Option.some.inj ep
    subst eo
    have F1 := hbk_fq (h := h) (p := o)
    have bo := blk_Fo (h := h) (o := 3) (p := o)
    have nF : ∀ f, hF (hfil (blk h 3 o) 27 0 144 0) 3 f = hF (blk h 3 o) 3 f := fun _ => rfl
    have nR : hR (hfil (blk h 3 o) 27 0 144 0) 4 = hR (blk h 3 o) 4 := rfl
    have nA : ∀ q, q ≠ 27 → hA (hfil (blk h 3 o) 27 0 144 0) q = hA (blk h 3 o) q := fun q hq => by
      funext j
      exact if_neg (fun z => hq z.1)
    generalize hfil (blk h 3 o) 27 0 144 0 = h1 at *
    have ea1 : ∀ q, q < 122 → ¬ bkA q → hA h1 q = hA h q := fun q hq e => (F1.2.2 q (l hq)).2.2.1 e
    have ef1 : ∀ q f, q < 122 → q ≠ 3 → hF h1 q f = hF h q f := fun q f hq e => (F1.2.2 q (l hq)).2.2.2.2 f (fun z => e z.1)
    have bb1 : ∀ q, bkA q → bA q = true := fun q e => by
      have hh : ∀ q, q < 28 → (q = 27 ∨ (6 ≤ q ∧ q ≤ 13) ∨ (15 ≤ q ∧ q ≤ 20)) → bA q = true := by decide
      exact hh q (by unfold bkA at e; omega) e
    have bb2 : ∀ q j, bkF q j → bF q j = true := fun q j e => by
      unfold bkF at e
      obtain ⟨e1, e2⟩ := e
      subst e1
      rcases (show j = 3 ∨ j = 4 ∨ j = 5 by omega) with e | e | e <;> subst e <;> rfl
    have fb : FB h h1 0 0 := FQ_fb F1 bb1 (fun q e => by subst e; rfl) bb2 (fun _ _ z => z)
    have L1 : LY h1 := LY_fb hg L fb
    have K1 : KT h1 := KT_fq hg L L1 F1 (fun z => by unfold bkA at z; omega) (fun z => by unfold bkA at z; omega) (fun z => by unfold bkA at z; omega) (fun z => by unfold bkA at z; omega) (fun j z => by unfold bkF at z; omega) (fun j z => by unfold bkF at z; omega) (fun j z => z) K
    have e0 : ∀ q, 78 ≤ q → q ≤ 93 → hA h1 q = hA h q := fun q z1 z2 => ea1 q (by omega) (fun z => by unfold bkA at z; omega)
    have S1 : SL h1 (cpL (hA h1) (k.toNat + 1) 0 czt) 3 0 := by
      have eA3 : ∀ q, q < 8 → hA h1 (3 + 3 + q) = plr (hA h (3 + 3 + q)) (hA h (o + 3 + q)) := fun q hq => by
        rw [nA _ (by omega)]
        exact blk_A3 hq (by omega)
      have eA12 : ∀ q, q < 6 → hA h1 (3 + 12 + q) = plr (hA h (3 + 12 + q)) (hA h (o + 12 + q)) := fun q hq => by
        rw [nA _ (by omega)]
        exact blk_A12 hq (by omega)
      refine SL_copy y5 ⟨(nF 3).trans bo.1, (nF 4).trans bo.2.1, (nF 5).trans bo.2.2⟩ (fun q hq j hj => ?_) (fun q hq j hj => ?_) (fun q hq j => ?_) (fun q hq j => ?_) (fun j hj => ?_) (fun v t c s f x => CC_fq hg bk_low F1 x) (cp_agc e0)
      · rw [eA3 q hq, plr_lt hj]
      · rw [eA12 q hq, plr_lt hj]
      · rw [eA3 q hq]
        exact plr_bd (S.2.1.2.1 q hq) (y5.2.1.2.1 q hq) j
      · rw [eA12 q hq]
        exact plr_bd (S.2.1.2.2 q hq) (y5.2.1.2.2 q hq) j
      · show hR h1 4 j = _
        rw [nR, blk_R, if_pos rfl]
        show (if j < 16 then _ else _) = _
        rw [if_pos hj]
    have I1 : IC h1 := IC_op hg I F1 bb1 (fun q e => by subst e; rfl) bb2 K1 S1.2.1 (cn_sl S1)
    refine ct_215 L1 ((ef1 77 62 (by omega) (by omega)).trans e77) qm k qk (fun z2 => by exfalso; omega) (fun _ _ => ⟨_, rfl, rfl, ?_, ?_⟩)
    · have F2 : FQ mdA nun1 nun2 nun2 h1 (stA h1 (cpL (hA h1) (k.toNat + 1) 0 czt)) 0 0 := FQ_A (fun q hq => cp_lo (by unfold mdA at hq; omega))
      have A2 : hA (stA h1 (cpL (hA h1) (k.toNat + 1) 0 czt)) = cpL (hA h1) (k.toNat + 1) 0 czt := rfl
      have R2 : hR (stA h1 (cpL (hA h1) (k.toNat + 1) 0 czt)) = hR h1 := rfl
      have K2 : hK (stA h1 (cpL (hA h1) (k.toNat + 1) 0 czt)) = hK h1 := rfl
      have G2 : hG (stA h1 (cpL (hA h1) (k.toNat + 1) 0 czt)) = hG h1 := rfl
      have ef2 : ∀ q j, hF (stA h1 (cpL (hA h1) (k.toNat + 1) 0 czt)) q j = hF h1 q j := fun q j => rfl
      generalize stA h1 (cpL (hA h1) (k.toNat + 1) 0 czt) = h2 at *
      have ea2 : ∀ q, q < 78 ∨ 93 < q → hA h2 q = hA h1 q := fun q hq => by rw [A2]; exact cp_lo hq
      have I2 : IC h2 := IC_eq ⟨fun q hq => by rw [K2]; exact L1.1 q hq, fun o f q e => by rw [G2]; exact L1.2.1 o f q e, fun i hi => by rw [R2]; exact L1.2.2.1 i hi, fun i hi => by rw [R2]; exact L1.2.2.2 i hi⟩ (fun q => by rw [K2]) (fun q hq => ea2 q (by omega)) (fun q j hq => ef2 q j) (fun q => by rw [G2]) (fun q => by rw [R2]) I1
      have l18' : 3 + 18 ≤ h1.1 := by have := F1.1; omega
      have S2 : SL h2 (hA h2) 3 0 := by
        rw [A2]
        exact SL_fq hg1 bk_lowm F2 l18' (fun j z => z) (fun z => z) (fun j z1 z2 z => by unfold mdA at z; omega) S1
      refine ⟨I2, KT_fq hg1 L1 I2.1 F2 (fun z => by unfold mdA at z; omega) (fun z => by unfold mdA at z; omega) (fun z => by unfold mdA at z; omega) (fun z => by unfold mdA at z; omega) (fun j z => z) (fun j z => z) (fun j z => z) K1, ⟨n0, a0, m0, IMF_of M I2.1 (fun q z1 z2 => (ea2 q (by omega)).trans (ea1 q (by omega) (fun z => by unfold bkA at z; omega))) (fun j hk => (ef2 77 j).trans (ef1 77 j (by omega) (by omega))) (MV_of (fun q z1 z2 j => ?_) (fun j => ?_) S2)⟩, ⟨?_, ?_, ?_⟩, S2, ?_⟩
      · rw [A2]
        rcases cp_or (A := hA h1) (a := k.toNat + 1) (b := 0) (q := q) (j := j) with ⟨w, e⟩
        rw [e, e0 q (by omega) (by omega)]
        exact im_bn M q z1 z2 w
      · rw [A2]
        rcases cp_or (A := hA h1) (a := k.toNat + 1) (b := 0) (q := 81) (j := j) with ⟨w, e⟩
        rw [e, e0 81 (by omega) (by omega)]
        exact im_m81 M w
      · rw [ea2 94 (by omega), ea2 2 (by omega), ea1 94 (by omega) (fun z => by unfold bkA at z; omega), ea1 2 (by omega) (fun z => by unfold bkA at z; omega)]; exact p1
      · rw [ef2 77 17, ef2 1 1, ef1 77 17 (by omega) (by omega), ef1 1 1 (by omega) (by omega)]; exact p2
      · rw [ef2 77 18, ef2 0 8, ef1 77 18 (by omega) (by omega), ef1 0 8 (by omega) (by omega)]; exact p3
      · have X1 := XI_fq hg L bk_low F1 (fun z => by unfold bkF at z; omega) (fun z => by unfold bkF at z; omega) (fun z => by omega) XX
        refine XI_ag (XI_fq hg1 L1 bk_lowm F2 (fun z => z) (fun z => z) (fun z => z) X1) (fun i _ _ => ?_)
        rw [A2]
        exact cp_agb (by omega) e0
    · exact RM_0 F1.1 F1.2.1
