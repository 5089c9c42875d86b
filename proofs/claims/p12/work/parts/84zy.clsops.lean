/-! WHAT IS TOLD KEEPS THE CLASS'S OWN BOOK -/
theorem rbA_w {b : Nat → Int} {lim had : Nat} {ah : Int} {t : TT} {r : Nat → Int} (ha : 0 ≤ ah) (hk : had ≤ 12) (hr : ∀ q, q < had → WRW ah q r) (z : (rbA b lim ah had t r).2.1.2.2.2 = -1) : ∀ q, q < (rbA b lim ah had t r).1 → WRW ah q (rbA b lim ah had t r).2.2 := by
  refine rbf_w ha (13 - had) had t r hk hr ?_
  unfold rbA at z
  dsimp only at z
  split at z
  · exact absurd z fal_ne
  · exact z
theorem FQ_hi {eA eR : Nat → Prop} {eF eG : Nat → Nat → Prop} {g h : av_H} {n m : Nat} (w : LOW eA eR eF eG) (F : FQ eA eR eF eG g h n m) : ∀ q, 122 ≤ q → q < g.1 → hK h q = hK g q ∧ (∀ j, hG h q j = hG g q j) ∧ hA h q = hA g q ∧ hR h q = hR g q ∧ ∀ j, hF h q j = hF g q j := fun q h1 h2 => by
  obtain ⟨a1, a2, a3, a4, a5⟩ := F.2.2 q h2
  exact ⟨a1, fun j => a2 j (fun z => by have := w.2.2.2 q j z; omega), a3 (fun z => by have := w.1 q z; omega), a4 (fun z => by have := w.2.1 q z; omega), fun j => a5 j (fun z => by have := w.2.2.1 q j z; omega)⟩
theorem WXI_hi {g h : av_H} (G : av_Gd g) (F : ∀ q, 122 ≤ q → q < g.1 → hK h q = hK g q ∧ (∀ j, hG h q j = hG g q j) ∧ hA h q = hA g q ∧ hR h q = hR g q ∧ ∀ j, hF h q j = hF g q j) (e1 : g.1 ≤ h.1) (f7 : hF h 0 7 = hF g 0 7) (r7 : hR h 21 = hR g 21) (x : WXI g) : WXI h := fun i hi hh => by
  rw [f7] at hh
  obtain ⟨o, y1, y2, y3, y4⟩ := x i hi hh
  exact ⟨o, by rw [r7]; exact y1, y2, by omega, WSH_cf G F y2 y3 y4⟩
/-- a case is new, or is told on -/
theorem PIC_c {U : Nat → Nat → Int} {S : Nat → Nat} {g h : av_H} {c t tc s : Nat} {f : Nat → Int} (G : av_Gd g) (F : ∀ q, 122 ≤ q → q < g.1 → hK h q = hK g q ∧ (∀ j, hG h q j = hG g q j) ∧ hA h q = hA g q ∧ hR h q = hR g q ∧ ∀ j, hF h q j = hF g q j) (x : PIC U S g) (c2 : ∀ i : Nat, (i : Int) < hF h 3 3 → i = c ∨ (i : Int) < hF g 3 3) (r1 : hR h 4 = av_u1 (hR g 4) c (some t)) (cc : CC h (some t) t tc s f) (w : ∀ q, q < s → WRW (c : Int) q f) : PIC (fun i => if i = c then ctn f s else U i) (fun i => if i = c then s else S i) h := fun i hi hh => by
  show ∃ t' c' f', CC h (hR h 4 i) t' c' (if i = c then s else S i) f' ∧ (if i = c then ctn f s else U i) = ctn f' (if i = c then s else S i) ∧ ∀ q, q < (if i = c then s else S i) → WRW (i : Int) q f'
  by_cases e : i = c
  · have er : hR h 4 i = some t := by rw [r1]; exact if_pos e
    rw [if_pos e, if_pos e, er, e]
    exact ⟨t, tc, f, cc, rfl, w⟩
  · obtain ⟨t', c', f', y1, y2, y3⟩ := x i hi (by have := c2 i hh; omega)
    have er : hR h 4 i = hR g 4 i := by rw [r1]; exact if_neg e
    rw [if_neg e, if_neg e, er]
    exact ⟨t', c', f', CC_cf G F y1, y2, y3⟩
theorem os_tell {h : av_H} (B : BK h) (C : CLS h) (n : Int) (qn : -2147483648 ≤ n ∧ n ≤ 2147483647) : av_wp none cd_95 0 [some (.inr (.inr (.inl (some (0))))), some (.inl n), none] [] h (fun _ h1 => av_wp none cd_148 0 [some (.inr (.inr (.inl (some (77))))), some (.inl n), none] [] h1 (fun _ h2 => CLS h2)) := by
  refine gd_of (fun hg => ?_)
  have B0 := B
  obtain ⟨I, K, ⟨n0, a0, m0, M⟩, ⟨p1, p2, p3⟩, S, X⟩ := B
  have L := I.1
  have bv := kt_bv K
  have ql := K.2.1
  have qc := S.1.2.1
  have l : ∀ {q : Nat}, q < 122 → q < h.1 := fun hq => ly_lt hg L hq
  refine ct_95 I K n qn (fun zA => ?_) (fun z1 z2 z3 => ?_) (fun z1 z2 z3 z4 h1 F1 K1 l1 w1 c1 r1 d1 => ?_) (fun z1 z2 z3 z4 h1 t tc f F1 K1 l1 w1 c1 r1 cc fj d1 => ?_)
  · exact ct_148 L p1 bv p2 ql S.1.1.1.symm qc (im_bn M) (hA h 23) n qn (fun _ => C) (fun _ _ _ => by exfalso; omega) (fun _ _ _ _ => by exfalso; omega) (fun _ _ _ _ => by exfalso; omega)
  · exact ct_148 L p1 bv p2 ql S.1.1.1.symm qc (im_bn M) (hA h 23) n qn (fun _ => by exfalso; omega) (fun _ _ _ => C) (fun _ _ _ _ => by exfalso; omega) (fun _ _ _ _ => by exfalso; omega)
  · refine gd_of (fun hg1 => ?_)
    have C1 := CLS_rd hg L (FQ_sh F1 c1 r1) C
    have M1 := BM_read hg B0 (FQ_sh F1 c1 r1) K1
    have ea : ∀ a, a < 122 → a ≠ 23 → a ≠ 25 → hA h1 a = hA h a := fun a z1 z2 z3 => (F1.2.2 a (l z1)).2.2.1 (fun z => by unfold rdA2 at z; omega)
    have e17 : hF h1 77 17 = hF h 1 1 := ((F1.2.2 77 (l (by omega))).2.2.2.2 17 (fun z => by unfold rdF2 at z; omega)).trans p2
    obtain ⟨n1, a1, m1, M1b⟩ := M1.2.2.1
    exact ct_148 (kt_L K1) ((ea 94 (by omega) (by omega) (by omega)).trans p1) bv e17 ql ((congrFun (ea 78 (by omega) (by omega) (by omega)) 0).trans S.1.1.1.symm) qc (im_bn M1b) (hA h 23) n qn (fun _ => by exfalso; omega) (fun _ _ _ => by exfalso; omega) (fun _ _ _ _ h2 N2 F2 B2 W2 => CLS_FD hg1 (kt_L K1) F2 C1) (fun _ _ _ y => absurd y z4)
  · refine gd_of (fun hg1 => ?_)
    have ea : ∀ a, a < 122 → a ≠ 23 → a ≠ 25 → hA h1 a = hA h a := fun a z1 z2 z3 => (F1.2.2 a (l z1)).2.2.1 (fun z => by unfold rdA2 at z; omega)
    have e17 : hF h1 77 17 = hF h 1 1 := ((F1.2.2 77 (l (by omega))).2.2.2.2 17 (fun z => by unfold rdF2 at z; omega)).trans p2
    have bn1 : BN (hA h1) := fun a z1 z2 j => by rw [ea a (by omega) (by omega) (by omega)]; exact im_bn M a z1 z2 j
    have ef : ∀ k, k ≠ 3 → hF h1 3 k = hF h 3 k := fun k hk => (F1.2.2 3 (l (by omega))).2.2.2.2 k (fun z => by unfold rdF2 at z; omega)
    have hi := FQ_hi mo_low (rd_mo F1)
    have nn : hF h 3 3 = ((hF h 3 3).toNat : Int) := by omega
    have C1 : CLS h1 := by
      obtain ⟨U, S', ⟨x1, x2, x3, x4⟩, x5⟩ := C
      have ww : ∀ q, q < (rbA (hA h 2) n.toNat (hF h 3 3) 0 (adv (hA h 2) n.toNat (0, 0, 0, -1)) (hA h 23)).1 → WRW ((hF h 3 3).toNat : Int) q f := fun q hq => by
        rw [← nn]
        exact WRW_c (rbA_w (by omega) (by omega) (fun q hq => absurd hq (by omega)) z4 q hq) (fun o ho => fj _ (by omega))
      refine ⟨_, _, ⟨PIC_c (c := (hF h 3 3).toNat) hg hi x1 (fun i hi => by rw [c1] at hi; omega) r1 cc ww, fun q hq hh => ?_, fun q hq hh => ?_, WXI_hi hg hi (by rw [F1.1]; omega) ((F1.2.2 0 (l (by omega))).2.2.2.2 7 (fun z => by unfold rdF2 at z; omega)) ((F1.2.2 21 (l (by omega))).2.2.2.1 (fun z => by omega)) x4⟩, ?_⟩
      · rw [ef 4 (by decide)] at hh
        rw [ea (6 + q) (by omega) (by omega) (by omega)]
        exact x2 q hq hh
      · rw [ef 5 (by decide)] at hh
        rw [ea (15 + q) (by omega) (by omega) (by omega)]
        exact x3 q hq hh
      · rw [c1, ef 4 (by decide), ea 27 (by omega) (by omega) (by omega)]
        exact SUA_c (SUA_n x5 (fun j hj => ⟨if_neg (by omega), if_neg (by omega)⟩)) (fun q h1 _ => ea (6 + q) (by omega) (by omega) (by omega))
    refine ct_148 (kt_L K1) ((ea 94 (by omega) (by omega) (by omega)).trans p1) bv e17 ql ((congrFun (ea 78 (by omega) (by omega) (by omega)) 0).trans S.1.1.1.symm) qc bn1 (hA h 23) n qn (fun _ => by exfalso; omega) (fun _ _ _ => by exfalso; omega) (fun _ _ _ y => absurd z4 y) (fun _ _ _ _ g2 N2 F2 B2 W2 Y2 => ?_)
    refine CLS_md hg1 (kt_L K1) (eF := fdF2) ?_ (fun q j z => z.1) C1
    exact md_FQ (g2 := g2) (A2 := av_u2 (av_u2 (hA g2) 81 (Int.toNat (hF h 3 3)) _) 78 0 (hF h 3 3 + 1)) F2 (fun a ha => by
      rw [av_u2_ne (fun z => ha (by unfold mdA; omega)), av_u2_ne (fun z => ha (by unfold mdA; omega))])
theorem os_more {h : av_H} (B : BK h) (C : CLS h) (k n : Int) (qk : -2147483648 ≤ k ∧ k ≤ 2147483647) (qn : -2147483648 ≤ n ∧ n ≤ 2147483647) : av_wp none cd_96 0 [some (.inr (.inr (.inl (some (0))))), some (.inl k), some (.inl n), none, none] [] h (fun _ h1 => av_wp none cd_151 0 [some (.inr (.inr (.inl (some (77))))), some (.inl k), some (.inl n), none] [] h1 (fun _ h2 => CLS h2)) := by
  refine gd_of (fun hg => ?_)
  have B0 := B
  obtain ⟨I, K, ⟨n0, a0, m0, M⟩, ⟨p1, p2, p3⟩, S, X⟩ := B
  have L := I.1
  have bv := kt_bv K
  have ql := K.2.1
  have qc := S.1.2.1
  have l : ∀ {q : Nat}, q < 122 → q < h.1 := fun hq => ly_lt hg L hq
  have hcs : ∀ i : Nat, i < 16 → (i : Int) < hF h 3 3 → ∃ t c s f, CC h (hR h 4 i) t c s f := fun i z1 z2 => by
    obtain ⟨t, c, s, f, x1, _⟩ := S.2.2.1 i z1 z2
    exact ⟨t, c, s, f, x1⟩
  refine cy_96 I K hcs k n qk qn (fun zA => ?_) (fun z1 z2 z3 z4 ot oc os of occ z5 h1 F1 K1 l1 w1 c1 r1 d1 => ?_) (fun z1 z2 z3 z4 ot oc os of occ z5 h1 t tc f F1 K1 l1 w1 c1 r1 cc fj d1 y27 => ?_)
  · by_cases hk : 0 ≤ k ∧ k < hF h 3 3
    · obtain ⟨ot, oc, os, of, occ⟩ := hcs k.toNat (by omega) (by omega)
      have cm := cs_more (hA h 23) (S.2.2.1 k.toNat (by omega) (by omega)) occ
      exact ct_151 L p1 bv p2 ql S.1.1.1.symm qc (im_bn M) (im_m81 M) (cpr h oc os (hA h 23)) k n qk qn (fun _ _ s hs j hj => cm.2 j (by omega)) (fun _ => C) (fun _ _ _ _ => by exfalso; omega) (fun _ _ _ _ => by exfalso; omega)
    · exact ct_151 L p1 bv p2 ql S.1.1.1.symm qc (im_bn M) (im_m81 M) (hA h 23) k n qk qn (fun _ _ => by exfalso; omega) (fun _ => C) (fun _ _ => by exfalso; omega) (fun _ _ => by exfalso; omega)
  · refine gd_of (fun hg1 => ?_)
    have C1 := CLS_rd hg L (FQ_sh F1 c1 r1) C
    have cm := cs_more (hA h 23) (S.2.2.1 k.toNat (by omega) (by omega)) occ
    have M1 := BM_read hg B0 (FQ_sh F1 c1 r1) K1
    have ea : ∀ a, a < 122 → a ≠ 23 → a ≠ 25 → hA h1 a = hA h a := fun a z1 z2 z3 => (F1.2.2 a (l z1)).2.2.1 (fun z => by unfold rdA2 at z; omega)
    have e17 : hF h1 77 17 = hF h 1 1 := ((F1.2.2 77 (l (by omega))).2.2.2.2 17 (fun z => by unfold rdF2 at z; omega)).trans p2
    obtain ⟨n1, a1, m1, M1b⟩ := M1.2.2.1
    have e81 : hA h1 81 k.toNat = (os : Int) := (congrFun (ea 81 (by omega) (by omega) (by omega)) _).trans cm.1
    have erw : ∀ i o, o < 19 → rwA (hA h1) i o = rwA (hA h) i o := fun i o ho => by
      have := vq_in o ho
      show hA h1 (vq o) _ = hA h (vq o) _
      rw [ea (vq o) (by omega) (by omega) (by omega)]
    exact ct_151 (kt_L K1) ((ea 94 (by omega) (by omega) (by omega)).trans p1) bv e17 ql ((congrFun (ea 78 (by omega) (by omega) (by omega)) 0).trans S.1.1.1.symm) qc (im_bn M1b) (im_m81 M1b) (cpr h oc os (hA h 23)) k n qk qn (fun _ _ s hs j hj => ry_eq (cm.2 j (by omega)) (fun o ho => erw _ o ho) (fun _ _ => rfl)) (fun _ => by exfalso; omega) (fun _ _ _ _ _ h2 N2 F2 B2 W2 => CLS_FD hg1 (kt_L K1) F2 C1) (fun _ _ _ _ y => by rw [e81, show ((os : Nat) : Int).toNat = os from rfl] at y; exact absurd y z5)
  · refine gd_of (fun hg1 => ?_)
    have cm := cs_more (hA h 23) (S.2.2.1 k.toNat (by omega) (by omega)) occ
    have ea : ∀ a, a < 122 → a ≠ 23 → a ≠ 25 → a ≠ 27 → hA h1 a = hA h a := fun a z1 z2 z3 z4 => (F1.2.2 a (l z1)).2.2.1 (fun z => by unfold moA at z; omega)
    have e17 : hF h1 77 17 = hF h 1 1 := ((F1.2.2 77 (l (by omega))).2.2.2.2 17 (fun z => by unfold rdF2 at z; omega)).trans p2
    have bn1 : BN (hA h1) := fun a z1 z2 j => by rw [ea a (by omega) (by omega) (by omega) (by omega)]; exact im_bn M a z1 z2 j
    have m81 : ∀ j, 0 ≤ hA h1 81 j ∧ hA h1 81 j ≤ 12 := fun j => by rw [ea 81 (by omega) (by omega) (by omega) (by omega)]; exact im_m81 M j
    have e81 : hA h1 81 k.toNat = (os : Int) := (congrFun (ea 81 (by omega) (by omega) (by omega) (by omega)) _).trans cm.1
    have erw : ∀ i o, o < 19 → rwA (hA h1) i o = rwA (hA h) i o := fun i o ho => by
      have := vq_in o ho
      show hA h1 (vq o) _ = hA h (vq o) _
      rw [ea (vq o) (by omega) (by omega) (by omega) (by omega)]
    have ef : ∀ k, k ≠ 3 → hF h1 3 k = hF h 3 k := fun k hk => (F1.2.2 3 (l (by omega))).2.2.2.2 k (fun z => by unfold rdF2 at z; omega)
    have hi := FQ_hi mo_low F1
    have nn : k = (k.toNat : Int) := by omega
    have C1 : CLS h1 := by
      obtain ⟨U, S', ⟨x1, x2, x3, x4⟩, x5⟩ := C
      obtain ⟨t0, c0, f0, y1, y2, y3⟩ := x1 k.toNat (by omega) (by omega)
      obtain ⟨e1, e2, e3⟩ := CC_uni occ y1
      have u0 := cc_u y1
      rw [← e2, ← e3] at u0
      rw [← e3] at y3
      have v12 := occ.2.2.1.1
      have ww : ∀ q, q < (rbA (hA h 2) n.toNat k os (adv (hA h 2) n.toNat (0, 0, 0, -1)) (cpr h oc os (hA h 23))).1 → WRW (k.toNat : Int) q f := fun q hq => by
        refine WRW_c (rbA_w (ah := (k.toNat : Int)) (by omega) v12 (fun p hp => ?_) (by rw [← nn]; exact z5) q (by rw [← nn]; exact hq)) (fun o ho => ?_)
        · refine WRW_c (y3 p hp) (fun o ho => ?_)
          have e : cpr h oc os (hA h 23) (p * 21 + o) = hA h oc (p * 21 + o) := if_pos (by omega)
          rw [e, u0, ctn_o (by omega)]
        · rw [← nn]
          exact fj _ (by omega)
      refine ⟨_, _, ⟨PIC_c (c := k.toNat) hg hi x1 (fun i hi => by rw [c1] at hi; omega) r1 cc ww, fun q hq hh => ?_, fun q hq hh => ?_, WXI_hi hg hi (by rw [F1.1]; omega) ((F1.2.2 0 (l (by omega))).2.2.2.2 7 (fun z => by unfold rdF2 at z; omega)) ((F1.2.2 21 (l (by omega))).2.2.2.1 (fun z => by omega)) x4⟩, SUA_0 y27⟩
      · rw [ef 4 (by decide)] at hh
        rw [ea (6 + q) (by omega) (by omega) (by omega) (by omega)]
        exact x2 q hq hh
      · rw [ef 5 (by decide)] at hh
        rw [ea (15 + q) (by omega) (by omega) (by omega) (by omega)]
        exact x3 q hq hh
    refine ct_151 (kt_L K1) ((ea 94 (by omega) (by omega) (by omega) (by omega)).trans p1) bv e17 ql ((congrFun (ea 78 (by omega) (by omega) (by omega) (by omega)) 0).trans S.1.1.1.symm) qc bn1 m81 (cpr h oc os (hA h 23)) k n qk qn (fun _ _ s hs j hj => ry_eq (cm.2 j (by omega)) (fun o ho => erw _ o ho) (fun _ _ => rfl)) (fun _ => by exfalso; omega) (fun _ _ _ _ y => by rw [e81, show ((os : Nat) : Int).toNat = os from rfl] at y; exact absurd z5 y) (fun _ _ _ _ _ g2 N2 F2 B2 W2 Y2 => ?_)
    refine CLS_md hg1 (kt_L K1) (eF := fdF2) ?_ (fun q j z => z.1) C1
    exact md_FQ (g2 := g2) (A2 := av_u2 (hA g2) 81 (Int.toNat k) _) F2 (fun a ha => by
      rw [av_u2_ne (fun z => ha (by unfold mdA; omega))])
theorem os_law {h : av_H} (B : BK h) (C : CLS h) (n : Int) (qn : -2147483648 ≤ n ∧ n ≤ 2147483647) : av_wp none cd_97 0 [some (.inr (.inr (.inl (some (0))))), some (.inl n), none] [] h (fun _ h1 => av_wp none cd_156 0 [some (.inr (.inr (.inl (some (77))))), some (.inl n)] [] h1 (fun _ h2 => CLS h2)) := by
  refine gd_of (fun hg => ?_)
  obtain ⟨I, K, ⟨n0, a0, m0, M⟩, ⟨p1, p2, p3⟩, S, XX⟩ := B
  have L := I.1
  have bv := kt_bv K
  have ql := K.2.1
  have qc := S.1.2.2.1
  have l : ∀ {q : Nat}, q < 122 → q < h.1 := fun hq => ly_lt hg L hq
  refine ct_97 I K n qn (fun zA => ?_) (fun z1 z2 z3 => ?_) (fun z1 z2 z3 z4 h1 F1 K1 l1 w1 c1 => ?_) (fun z1 z2 z3 z4 h1 F1 K1 l1 w1 c1 r1 dv => ?_)
  · exact ct_156 L p1 bv p2 ql S.1.1.2.1.symm qc (hA h 25) n qn (fun _ => C) (fun _ _ _ => by exfalso; omega) (fun _ _ _ _ => by exfalso; omega) (fun _ _ _ _ => by exfalso; omega)
  · exact ct_156 L p1 bv p2 ql S.1.1.2.1.symm qc (hA h 25) n qn (fun _ => by exfalso; omega) (fun _ _ _ => C) (fun _ _ _ _ => by exfalso; omega) (fun _ _ _ _ => by exfalso; omega)
  · refine gd_of (fun hg1 => ?_)
    have C1 := CLS_rd hg L (FQ_s0 F1 c1) C
    have ea : ∀ a, a < 122 → a ≠ 23 → a ≠ 25 → hA h1 a = hA h a := fun a z1 z2 z3 => (F1.2.2 a (l z1)).2.2.1 (fun z => by unfold rdA2 at z; omega)
    have e17 : hF h1 77 17 = hF h 1 1 := ((F1.2.2 77 (l (by omega))).2.2.2.2 17 (fun z => by unfold rdF2 at z; omega)).trans p2
    exact ct_156 (kt_L K1) ((ea 94 (by omega) (by omega) (by omega)).trans p1) bv e17 ql ((congrFun (ea 79 (by omega) (by omega) (by omega)) 0).trans S.1.1.2.1.symm) qc (hA h 25) n qn (fun _ => by exfalso; omega) (fun _ _ _ => by exfalso; omega) (fun _ _ _ _ h2 N2 F2 W2 => CLS_FD hg1 (kt_L K1) F2 C1) (fun _ _ _ y => absurd y z4)
  · refine gd_of (fun hg1 => ?_)
    have ea : ∀ a, a < 122 → a ≠ 23 → a ≠ 25 → a ≠ 6 + (hF h 3 4).toNat → hA h1 a = hA h a := fun a z1 z2 z3 z4 => (F1.2.2 a (l z1)).2.2.1 (fun z => by unfold lwA at z; omega)
    have e17 : hF h1 77 17 = hF h 1 1 := ((F1.2.2 77 (l (by omega))).2.2.2.2 17 (fun z => by unfold rdF2 at z; omega)).trans p2
    have ef : ∀ k, k ≠ 4 → hF h1 3 k = hF h 3 k := fun k hk => (F1.2.2 3 (l (by omega))).2.2.2.2 k (fun z => by unfold rdF2 at z; omega)
    have er1 : hR h1 4 = hR h 4 := (F1.2.2 4 (l (by omega))).2.2.2.1 (fun z => z)
    have low := lw_low (x := 4) (y := 6 + (hF h 3 4).toNat) (by omega)
    have hi := FQ_hi low F1
    have C1 : CLS h1 := by
      obtain ⟨U, S', ⟨x1, x2, x3, x4⟩, x5⟩ := C
      refine ⟨U, S', ⟨fun i hi' hh => ?_, fun q hq hh => ?_, fun q hq hh => ?_, WXI_hi hg hi (by rw [F1.1]; omega) ((F1.2.2 0 (l (by omega))).2.2.2.2 7 (fun z => by unfold rdF2 at z; omega)) ((F1.2.2 21 (l (by omega))).2.2.2.1 (fun z => z)) x4⟩, ?_⟩
      · rw [ef 3 (by decide)] at hh
        obtain ⟨t, c, f, y1, y2⟩ := x1 i hi' hh
        exact ⟨t, c, f, by rw [er1]; exact CC_cf hg hi y1, y2⟩
      · by_cases e : q = (hF h 3 4).toNat
        · rw [e, r1]
          exact RLW_lov (dq_A z4)
        · rw [ea (6 + q) (by omega) (by omega) (by omega) (by omega)]
          exact x2 q hq (by rw [c1] at hh; omega)
      · rw [ef 5 (by decide)] at hh
        rw [ea (15 + q) (by omega) (by omega) (by omega) (by omega)]
        exact x3 q hq hh
      · rw [ef 3 (by decide), c1, ea 27 (by omega) (by omega) (by omega) (by omega)]
        exact SUA_l x5 (fun q h1 h2 => ea (6 + q) (by omega) (by omega) (by omega) (by omega))
    refine ct_156 (kt_L K1) ((ea 94 (by omega) (by omega) (by omega) (by omega)).trans p1) bv e17 ql ((congrFun (ea 79 (by omega) (by omega) (by omega) (by omega)) 0).trans S.1.1.2.1.symm) qc (hA h 25) n qn (fun _ => by exfalso; omega) (fun _ _ _ => by exfalso; omega) (fun _ _ _ y => absurd z4 y) (fun _ _ _ _ g2 N2 F2 W2 Y2 => ?_)
    refine CLS_md hg1 (kt_L K1) (eF := fdF2) ?_ (fun q j z => z.1) C1
    exact md_FQ (g2 := g2) (A2 := av_u2 (hA g2) 79 0 (hF h 3 4 + 1)) F2 (fun a ha => av_u2_ne (fun z => ha (by unfold mdA; omega)))
theorem os_clause {h : av_H} (B : BK h) (C : CLS h) (n : Int) (qn : -2147483648 ≤ n ∧ n ≤ 2147483647) : av_wp none cd_98 0 [some (.inr (.inr (.inl (some (0))))), some (.inl n), none] [] h (fun _ h1 => av_wp none cd_157 0 [some (.inr (.inr (.inl (some (77))))), some (.inl n)] [] h1 (fun _ h2 => CLS h2)) := by
  refine gd_of (fun hg => ?_)
  obtain ⟨I, K, ⟨n0, a0, m0, M⟩, ⟨p1, p2, p3⟩, S, XX⟩ := B
  have L := I.1
  have bv := kt_bv K
  have ql := K.2.1
  have qc := S.1.2.2.2
  have l : ∀ {q : Nat}, q < 122 → q < h.1 := fun hq => ly_lt hg L hq
  refine ct_98 I K n qn (fun zA => ?_) (fun z1 z2 z3 => ?_) (fun z1 z2 z3 z4 h1 F1 K1 l1 w1 c1 => ?_) (fun z1 z2 z3 z4 h1 F1 K1 l1 w1 c1 r1 dv => ?_)
  · exact ct_157 L p1 bv p2 ql S.1.1.2.2.symm qc (hA h 25) n qn (fun _ => C) (fun _ _ _ => by exfalso; omega) (fun _ _ _ _ => by exfalso; omega) (fun _ _ _ _ => by exfalso; omega)
  · exact ct_157 L p1 bv p2 ql S.1.1.2.2.symm qc (hA h 25) n qn (fun _ => by exfalso; omega) (fun _ _ _ => C) (fun _ _ _ _ => by exfalso; omega) (fun _ _ _ _ => by exfalso; omega)
  · refine gd_of (fun hg1 => ?_)
    have C1 := CLS_rd hg L (FQ_s0 F1 c1) C
    have ea : ∀ a, a < 122 → a ≠ 23 → a ≠ 25 → hA h1 a = hA h a := fun a z1 z2 z3 => (F1.2.2 a (l z1)).2.2.1 (fun z => by unfold rdA2 at z; omega)
    have e17 : hF h1 77 17 = hF h 1 1 := ((F1.2.2 77 (l (by omega))).2.2.2.2 17 (fun z => by unfold rdF2 at z; omega)).trans p2
    exact ct_157 (kt_L K1) ((ea 94 (by omega) (by omega) (by omega)).trans p1) bv e17 ql ((congrFun (ea 80 (by omega) (by omega) (by omega)) 0).trans S.1.1.2.2.symm) qc (hA h 25) n qn (fun _ => by exfalso; omega) (fun _ _ _ => by exfalso; omega) (fun _ _ _ _ h2 N2 F2 W2 => CLS_FD hg1 (kt_L K1) F2 C1) (fun _ _ _ y => absurd y z4)
  · refine gd_of (fun hg1 => ?_)
    have ea : ∀ a, a < 122 → a ≠ 23 → a ≠ 25 → a ≠ 15 + (hF h 3 5).toNat → hA h1 a = hA h a := fun a z1 z2 z3 z4 => (F1.2.2 a (l z1)).2.2.1 (fun z => by unfold lwA at z; omega)
    have e17 : hF h1 77 17 = hF h 1 1 := ((F1.2.2 77 (l (by omega))).2.2.2.2 17 (fun z => by unfold rdF2 at z; omega)).trans p2
    have ef : ∀ k, k ≠ 5 → hF h1 3 k = hF h 3 k := fun k hk => (F1.2.2 3 (l (by omega))).2.2.2.2 k (fun z => by unfold rdF2 at z; omega)
    have er1 : hR h1 4 = hR h 4 := (F1.2.2 4 (l (by omega))).2.2.2.1 (fun z => z)
    have low := lw_low (x := 5) (y := 15 + (hF h 3 5).toNat) (by omega)
    have hi := FQ_hi low F1
    have C1 : CLS h1 := by
      obtain ⟨U, S', ⟨x1, x2, x3, x4⟩, x5⟩ := C
      refine ⟨U, S', ⟨fun i hi' hh => ?_, fun q hq hh => ?_, fun q hq hh => ?_, WXI_hi hg hi (by rw [F1.1]; omega) ((F1.2.2 0 (l (by omega))).2.2.2.2 7 (fun z => by unfold rdF2 at z; omega)) ((F1.2.2 21 (l (by omega))).2.2.2.1 (fun z => z)) x4⟩, ?_⟩
      · rw [ef 3 (by decide)] at hh
        obtain ⟨t, c, f, y1, y2⟩ := x1 i hi' hh
        exact ⟨t, c, f, by rw [er1]; exact CC_cf hg hi y1, y2⟩
      · rw [ef 4 (by decide)] at hh
        rw [ea (6 + q) (by omega) (by omega) (by omega) (by omega)]
        exact x2 q hq hh
      · by_cases e : q = (hF h 3 5).toNat
        · rw [e, r1]
          exact RQW_c (dq_A z4) (fun j hj => plr_lt (by omega))
        · rw [ea (15 + q) (by omega) (by omega) (by omega) (by omega)]
          exact x3 q hq (by rw [c1] at hh; omega)
      · rw [ef 3 (by decide), ef 4 (by decide), ea 27 (by omega) (by omega) (by omega) (by omega)]
        exact SUA_c x5 (fun q h1 h2 => ea (6 + q) (by omega) (by omega) (by omega) (by omega))
    refine ct_157 (kt_L K1) ((ea 94 (by omega) (by omega) (by omega) (by omega)).trans p1) bv e17 ql ((congrFun (ea 80 (by omega) (by omega) (by omega) (by omega)) 0).trans S.1.1.2.2.symm) qc (hA h 25) n qn (fun _ => by exfalso; omega) (fun _ _ _ => by exfalso; omega) (fun _ _ _ y => absurd z4 y) (fun _ _ _ _ g2 N2 F2 W2 Y2 => ?_)
    refine CLS_md hg1 (kt_L K1) (eF := fdF2) ?_ (fun q j z => z.1) C1
    exact md_FQ (g2 := g2) (A2 := av_u2 (hA g2) 80 0 (hF h 3 5 + 1)) F2 (fun a ha => av_u2_ne (fun z => ha (by unfold mdA; omega)))
theorem os_feed {h : av_H} (B : BK h) (C : CLS h) (a b c d e : Int) : av_wp none cd_94 0 [some (.inr (.inr (.inl (some (0))))), some (.inl a), some (.inl b), some (.inl c), some (.inl d), some (.inl e)] [] h (fun _ h1 => av_wp none cd_128 0 [some (.inr (.inr (.inl (some (77))))), some (.inl a), some (.inl b), some (.inl c), some (.inl d), some (.inl e), none, none] [] h1 (fun _ h2 => CLS h2)) := by
  refine gd_of (fun hg => ?_)
  obtain ⟨I, K, ⟨n0, a0, m0, M⟩, ⟨p1, p2, p3⟩, S, X⟩ := B
  have L := I.1
  have ql := K.2.1
  have el : hF h 1 1 = ((hF h 1 1).toNat : Int) := by omega
  refine ct_94 L el (by omega) a b c d e (fun z => ?_) (fun z h1 F1 b1 l1 => ?_)
  · exact ct_128 L (p2.trans el) (by omega) a b c d e (fun _ => C) (fun z2 => by exfalso; omega)
  · refine gd_of (fun hg1 => ?_)
    have L1 := FE_ly F1 L
    have e17 : hF h1 77 17 = ((hF h 1 1).toNat : Int) := (F1.2.2.2.2.2.2 77 17 (fun z => by unfold fdF at z; omega)).trans (p2.trans el)
    have Q1 : FQ fdA nun1 fdF nun2 h h1 0 0 := FE_fq F1
    have C1 : CLS h1 := CLS_cf hg (CF0_fq hg L fe_lowc Q1 ⟨fun z => by unfold fdF at z; omega, fun z => by unfold fdF at z; omega, fun z => by unfold fdF at z; omega, fun z => by unfold fdF at z; omega⟩ ⟨fun z => z, fun z => z⟩ (fun q h1 h2 z => by unfold fdA at z; omega)) (FQ_27 hg L Q1 (fun z => by unfold fdA at z; omega)) C
    refine ct_128 L1 e17 (by omega) a b c d e (fun z2 => by exfalso; omega) (fun _ h2 F2 b2 l2 => ?_)
    have Q2 : FQ mfA nun1 mfF nun2 h1 h2 0 0 := FE_fq F2
    exact CLS_cf hg1 (CF0_fq hg1 L1 fe_lowm Q2 ⟨fun z => by unfold mfF at z; omega, fun z => by unfold mfF at z; omega, fun z => by unfold mfF at z; omega, fun z => by unfold mfF at z; omega⟩ ⟨fun z => z, fun z => z⟩ (fun q h1 h2 z => by unfold mfA at z; omega)) (FQ_27 hg1 L1 Q2 (fun z => by unfold mfA at z; omega)) C1
/-- a shelf is another's copy -/
theorem WSH_copy {h h' : av_H} {p o : Nat} (x : WSH h p) (ef : hF h' o 3 = hF h p 3 ∧ hF h' o 4 = hF h p 4 ∧ hF h' o 5 = hF h p 5) (e3 : ∀ q, q < 8 → ∀ k, k < 14 → hA h' (o + 3 + q) k = hA h (p + 3 + q) k) (e12 : ∀ q, q < 6 → ∀ k, k < 14 → hA h' (o + 12 + q) k = hA h (p + 12 + q) k) (er : ∀ i, i < 16 → hR h' (o + 1) i = hR h (p + 1) i) (cc : ∀ v t c s f, CC h v t c s f → CC h' v t c s f) : WSH h' o := by
  obtain ⟨x1, x2, x3⟩ := x
  refine ⟨fun i hi hh => ?_, fun q hq hh => ?_, fun q hq hh => ?_⟩
  · rw [ef.1] at hh
    obtain ⟨t, c, s, f, y1, y2⟩ := x1 i hi hh
    exact ⟨t, c, s, f, by rw [er i hi]; exact cc _ _ _ _ _ y1, y2⟩
  · rw [ef.2.1] at hh
    exact RLW_c (x2 q hq hh) (fun j hj => e3 q hq j (by omega))
  · rw [ef.2.2] at hh
    exact RQW_c (x3 q hq hh) (fun j hj => e12 q hq j (by omega))
theorem WSH_3 {U : Nat → Nat → Int} {S : Nat → Nat} {h : av_H} (x : CLU U S h) : WSH h 3 := ⟨fun i hi hh => by
  obtain ⟨t, c, f, y1, y2, y3⟩ := x.1 i hi hh
  exact ⟨t, c, S i, f, y1, y3⟩, fun l hl hh => by
  rw [show 3 + 3 + l = 6 + l by omega]
  exact x.2.1 l hl hh, fun c hc hh => by
  rw [show 3 + 12 + c = 15 + c by omega]
  exact x.2.2.1 c hc hh⟩
theorem CLU_3 {h : av_H} (x : WSH h 3) (y : WXI h) : ∃ U S, CLU U S h := by
  have ch : ∀ i : Nat, ∃ p : Nat × (Nat → Int), i < 16 → (i : Int) < hF h 3 3 → ∃ t c f, CC h (hR h 4 i) t c p.1 f ∧ p.2 = ctn f p.1 ∧ ∀ q, q < p.1 → WRW (i : Int) q f := fun i => by
    by_cases c : i < 16 ∧ (i : Int) < hF h 3 3
    · obtain ⟨t, tc, s, f, y1, y2⟩ := x.1 i c.1 c.2
      exact ⟨(s, ctn f s), fun _ _ => ⟨t, tc, f, y1, rfl, y2⟩⟩
    · exact ⟨(0, fun _ => 0), fun h1 h2 => absurd ⟨h1, h2⟩ c⟩
  refine ⟨fun i => (Classical.choose (ch i)).2, fun i => (Classical.choose (ch i)).1, fun i hi hh => Classical.choose_spec (ch i) hi hh, fun l hl hh => ?_, fun c hc hh => ?_, y⟩
  · rw [show 6 + l = 3 + 3 + l by omega]
    exact x.2.1 l hl hh
  · rw [show 15 + c = 3 + 12 + c by omega]
    exact x.2.2 c hc hh
theorem os_image {h : av_H} (B : BK h) (C : CLS h) : av_wp none cd_123 0 [some (.inr (.inr (.inl (some (0))))), none] [] h (fun _ h1 => av_wp none cd_214 0 [some (.inr (.inr (.inl (some (77)))))] [] h1 (fun _ h2 => CLS h2)) := by
  refine gd_of (fun hg => ?_)
  obtain ⟨I, K, ⟨n0, a0, m0, M⟩, ⟨p1, p2, p3⟩, S, X⟩ := B
  have L := I.1
  have l : ∀ {q : Nat}, q < 122 → q < h.1 := fun hq => ly_lt hg L hq
  have l122 : 122 ≤ h.1 := by have := l (q := 121) (by omega); omega
  obtain ⟨qm, e77, X3⟩ := X
  refine ct_123 L rfl qm (fun i hi q e => cw_k1 (S.2.1.1 i hi) e) (fun z => ?_) (fun z => ?_)
  · exact ct_214 L e77 qm (fun _ => C) (fun z2 => by exfalso; omega)
  · refine gd_of (fun hg1 => ?_)
    have F1 := him_fq (m := hF h 0 7) l122
    have r21 : hR (him h (hF h 0 7)) 21 = av_u1 (hR h 21) (hF h 0 7).toNat (some h.1) := by
      have e1 : hR (blk (nsh h) h.1 3) 21 = hR h 21 := by
        rw [blk_R, if_neg (by omega)]
        exact (nsh_al.2.2 21 (l (by omega))).2.2.2.2
      have e2 : hR (him h (hF h 0 7)) 21 = av_u1 (hR (blk (nsh h) h.1 3) 21) (hF h 0 7).toNat (some h.1) := by
        funext j
        show av_u2 _ 21 _ _ 21 j = _
        unfold av_u2 av_u1
        by_cases c : j = (hF h 0 7).toNat
        · rw [if_pos ⟨rfl, c⟩, if_pos c]
        · rw [if_neg (fun z => c z.2), if_neg c]
      rw [e2, e1]
    have f07 : hF (him h (hF h 0 7)) 0 7 = hF h 0 7 + 1 := hF_self
    have nF : ∀ k, hF (him h (hF h 0 7)) h.1 k = hF (blk (nsh h) h.1 3) h.1 k := fun k => by
      show av_u2 _ 0 7 _ h.1 k = _
      rw [av_u2_ne (by omega)]
      rfl
    have nR : hR (him h (hF h 0 7)) (h.1 + 1) = hR (blk (nsh h) h.1 3) (h.1 + 1) := av_u2_ne (by omega)
    have nA : hA (him h (hF h 0 7)) = hA (blk (nsh h) h.1 3) := rfl
    change av_wp none cd_214 0 _ [] (him h (hF h 0 7)) _
    change av_Gd (him h (hF h 0 7)) at hg1
    generalize hh1 : him h (hF h 0 7) = h1 at *
    have ea1 : ∀ q, q < 122 → hA h1 q = hA h q := fun q hq => (F1.2.2 q (l hq)).2.2.1 (fun z => z)
    have ef1 : ∀ q k, q < 122 → ¬ (q = 0 ∧ k = 7) → hF h1 q k = hF h q k := fun q k hq e => (F1.2.2 q (l hq)).2.2.2.2 k e
    have fb : FB h h1 18 232 := FQ_fb F1 (fun q e => e.elim) (fun q e => by subst e; rfl) (fun q j e => by unfold i0F at e; obtain ⟨e1, e2⟩ := e; subst e1; subst e2; rfl) (fun _ _ z => z)
    have L1 : LY h1 := LY_fb hg L fb
    have hi := FQ_hi im_low F1
    have er4 : hR h1 4 = hR h 4 := (F1.2.2 4 (l (by omega))).2.2.2.1 (fun z => by omega)
    have C1 : CLS h1 := by
      obtain ⟨U, S', x0, x5⟩ := C
      have w3 := WSH_3 x0
      obtain ⟨x1, x2, x3, x4⟩ := x0
      refine ⟨U, S', ⟨fun i hi' hh => ?_, fun q hq hh => ?_, fun q hq hh => ?_, fun i hi' hh => ?_⟩, ?_⟩
      · rw [ef1 3 3 (by omega) (by omega)] at hh
        obtain ⟨t, c, f, y1, y2⟩ := x1 i hi' hh
        exact ⟨t, c, f, by rw [er4]; exact CC_cf hg hi y1, y2⟩
      · rw [ef1 3 4 (by omega) (by omega)] at hh
        rw [ea1 _ (by omega)]
        exact x2 q hq hh
      · rw [ef1 3 5 (by omega) (by omega)] at hh
        rw [ea1 _ (by omega)]
        exact x3 q hq hh
      · rw [f07] at hh
        by_cases e : i = (hF h 0 7).toNat
        · refine ⟨h.1, ?_, l122, by have := F1.1; omega, ?_⟩
          · rw [r21, e]
            exact if_pos rfl
          · have eA3 : ∀ q, q < 8 → hA h1 (h.1 + 3 + q) = plr (hA (nsh h) (h.1 + 3 + q)) (hA (nsh h) (3 + 3 + q)) := fun q hq => by
              rw [nA]
              exact blk_A3 hq (by omega)
            have eA12 : ∀ q, q < 6 → hA h1 (h.1 + 12 + q) = plr (hA (nsh h) (h.1 + 12 + q)) (hA (nsh h) (3 + 12 + q)) := fun q hq => by
              rw [nA]
              exact blk_A12 hq (by omega)
            have on : ∀ q, q < 122 → hA (nsh h) q = hA h q := fun q hq => (nsh_al.2.2 q (l hq)).2.1
            have bo := blk_Fo (h := nsh h) (o := h.1) (p := 3)
            refine WSH_copy w3 ⟨?_, ?_, ?_⟩ (fun q hq k hk => ?_) (fun q hq k hk => ?_) (fun j hj => ?_) (fun v t c s f x => CC_cf hg hi x)
            · rw [nF 3, bo.1]; exact nsh_F 3 (by omega)
            · rw [nF 4, bo.2.1]; exact nsh_F 4 (by omega)
            · rw [nF 5, bo.2.2]; exact nsh_F 5 (by omega)
            · rw [eA3 q hq, plr_lt hk, on _ (by omega)]
            · rw [eA12 q hq, plr_lt hk, on _ (by omega)]
            · rw [nR, blk_R, if_pos rfl]
              show (if j < 16 then _ else _) = _
              rw [if_pos hj]
              exact congrFun (nsh_al.2.2 4 (l (by omega))).2.2.2.2 j
        · obtain ⟨o, y1, y2, y3, y4⟩ := x4 i hi' (by omega)
          refine ⟨o, ?_, y2, by have := F1.1; omega, WSH_cf hg hi y2 y3 y4⟩
          rw [r21]
          exact (if_neg e).trans y1
      · rw [ef1 3 3 (by omega) (by omega), ef1 3 4 (by omega) (by omega), ea1 27 (by omega)]
        exact SUA_c x5 (fun q h1 _ => ea1 _ (by omega))
    refine ct_214 L1 ((ef1 77 62 (by omega) (by omega)).trans e77) qm (fun z2 => by exfalso; omega) (fun _ => ?_)
    refine CLS_md hg1 L1 (eF := i7F) ?_ (fun q j z => z.1) C1
    exact FQ_tr (FQ_A (fun q hq => cp_lo (by unfold mdA at hq; omega))) (FQ_wF (h := stA h1 (cpL (hA h1) 0 ((hF h 0 7).toNat + 1) czt)) ⟨rfl, rfl⟩)
theorem os_back {h : av_H} (B : BK h) (C : CLS h) (k : Int) (qk : -2147483648 ≤ k ∧ k ≤ 2147483647) : av_wp none cd_124 0 [some (.inr (.inr (.inl (some (0))))), some (.inl k)] [] h (fun _ h1 => av_wp none cd_215 0 [some (.inr (.inr (.inl (some (77))))), some (.inl k)] [] h1 (fun _ h2 => CLS h2)) := by
  refine gd_of (fun hg => ?_)
  obtain ⟨I, K, ⟨n0, a0, m0, M⟩, ⟨p1, p2, p3⟩, S, X⟩ := B
  have L := I.1
  have l : ∀ {q : Nat}, q < 122 → q < h.1 := fun hq => ly_lt hg L hq
  obtain ⟨qm, e77, X3⟩ := X
  refine ct_124 L rfl qm k qk (fun i hi hh => ?_) (fun p i hi hh e j hj q eq => ?_) (fun z => ?_) (fun z1 z2 p ep _ _ => ?_)
  · obtain ⟨o, y1, y2, _, y4, _⟩ := X3 i hi hh
    exact ⟨o, y1, y2, y4⟩
  · obtain ⟨o, y1, _, _, _, y5⟩ := X3 i hi hh
    rw [y1] at e
    cases e
    exact cw_k1 (y5.2.1.1 j hj) eq
  · exact ct_215 L e77 qm k qk (fun _ => C) (fun z2 z3 => by exfalso; omega)
  · refine gd_of (fun hg1 => ?_)
    obtain ⟨U, S', x0, x5⟩ := C
    obtain ⟨o, y1, y2, y3, y4⟩ := x0.2.2.2 k.toNat (by omega) (by omega)
    rw [y1] at ep
    have eo : o = p := Option.some.inj ep
    subst eo
    have F1 := hbk_fq (h := h) (p := o)
    have bo := blk_Fo (h := h) (o := 3) (p := o)
    have nF : ∀ f, hF (hfil (blk h 3 o) 27 0 144 0) 3 f = hF (blk h 3 o) 3 f := fun _ => rfl
    have nR : hR (hfil (blk h 3 o) 27 0 144 0) 4 = hR (blk h 3 o) 4 := rfl
    have nA : ∀ q, q ≠ 27 → hA (hfil (blk h 3 o) 27 0 144 0) q = hA (blk h 3 o) q := fun q hq => by
      funext j
      exact if_neg (fun z => hq z.1)
    have n27 : ∀ j, j < 144 → hA (hfil (blk h 3 o) 27 0 144 0) 27 j = 0 := fun j hj => if_pos ⟨rfl, Nat.zero_le j, hj⟩
    generalize hfil (blk h 3 o) 27 0 144 0 = h1 at *
    have ef1 : ∀ q f, q < 122 → q ≠ 3 → hF h1 q f = hF h q f := fun q f hq e => (F1.2.2 q (l hq)).2.2.2.2 f (fun z => e z.1)
    have bb1 : ∀ q, bkA q → bA q = true := fun q e => by
      have hh : ∀ q, q < 28 → (q = 27 ∨ (6 ≤ q ∧ q ≤ 13) ∨ (15 ≤ q ∧ q ≤ 20)) → bA q = true := by decide
      exact hh q (by unfold bkA at e; omega) e
    have bb2 : ∀ q j, bkF q j → bF q j = true := fun q j e => by
      unfold bkF at e
      obtain ⟨e1, e2⟩ := e
      subst e1
      rcases (show j = 3 ∨ j = 4 ∨ j = 5 by omega) with e | e | e <;> subst e <;> rfl
    have fb : FB h h1 0 0 := FQ_fb F1 bb1 (fun q e => by subst e; rfl) bb2 (fun _ _ z => z)
    have L1 : LY h1 := LY_fb hg L fb
    have hi := FQ_hi bk_low F1
    have C1 : CLS h1 := by
      have w3 : WSH h1 3 := by
        refine WSH_copy y4 ⟨(nF 3).trans bo.1, (nF 4).trans bo.2.1, (nF 5).trans bo.2.2⟩ (fun q hq j hj => ?_) (fun q hq j hj => ?_) (fun j hj => ?_) (fun v t c s f x => CC_cf hg hi x)
        · rw [nA _ (by omega), blk_A3 hq (by omega), plr_lt hj]
        · rw [nA _ (by omega), blk_A12 hq (by omega), plr_lt hj]
        · show hR h1 4 j = _
          rw [nR, blk_R, if_pos rfl]
          show (if j < 16 then _ else _) = _
          rw [if_pos hj]
      have wx : WXI h1 := WXI_hi hg hi (by rw [F1.1]; omega) (ef1 0 7 (by omega) (by omega)) ((F1.2.2 21 (l (by omega))).2.2.2.1 (fun z => by omega)) x0.2.2.2
      obtain ⟨U1, S1, z⟩ := CLU_3 w3 wx
      exact ⟨U1, S1, z, SUA_0 n27⟩
    refine ct_215 L1 ((ef1 77 62 (by omega) (by omega)).trans e77) qm k qk (fun z2 => by exfalso; omega) (fun _ _ => ?_)
    refine CLS_md hg1 L1 (eF := nun2) ?_ (fun q j z => z.elim) C1
    exact FQ_A (fun q hq => cp_lo (by unfold mdA at hq; omega))
