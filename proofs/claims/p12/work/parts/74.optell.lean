/-! TELL, MORE: class and reference, one behind the other -/
theorem kt_bv {h : av_H} (K : KT h) : ∀ j, -128 ≤ hA h 2 j ∧ hA h 2 j ≤ 127 := by
  obtain ⟨⟨lim, t, C⟩, _⟩ := K
  exact C.2.2.1
theorem kt_L {h : av_H} (K : KT h) : LY h := by
  obtain ⟨⟨lim, t, C⟩, _⟩ := K
  exact C.1
theorem stA_wA {h : av_H} {a j : Nat} {v : Int} : hwA h a j v = stA h (av_u2 (hA h) a j v) := rfl
theorem stA_st {h : av_H} {A B : Nat → Nat → Int} : stA (stA h A) B = stA h B := rfl
theorem RM_0 {h h2 : av_H} (e1 : h2.1 = h.1) (e2 : h2.2.1 = h.2.1) : RM h h2 := ⟨by omega, by omega⟩
theorem op_tell {h : av_H} (B : BK h) (n : Int) (qn : -2147483648 ≤ n ∧ n ≤ 2147483647) : av_wp none cd_95 0 [some (.inr (.inr (.inl (some (0))))), some (.inl n), none] [] h (OPr cd_148 [some (.inr (.inr (.inl (some (77))))), some (.inl n), none] h (fun x y => x = y)) := by
  refine gd_of (fun hg => ?_)
  have B0 := B
  obtain ⟨I, K, ⟨n0, a0, m0, M⟩, ⟨p1, p2, p3⟩, S, X⟩ := B
  have L := I.1
  have bv := kt_bv K
  have ql := K.2.1
  have qc := S.1.2.1
  have l : ∀ {q : Nat}, q < 122 → q < h.1 := fun hq => ly_lt hg L hq
  refine ct_95 I K n qn (fun zA => ?_) (fun z1 z2 z3 => ?_) (fun z1 z2 z3 z4 h1 F1 K1 l1 w1 c1 r1 d1 => ?_) (fun z1 z2 z3 z4 h1 t tc f F1 K1 l1 w1 c1 r1 cc fj d1 => ?_)
  · refine ⟨-2, rfl, ly_k L 77 rfl, ?_⟩
    exact ct_148 L p1 bv p2 ql S.1.1.1.symm qc (im_bn M) (hA h 23) n qn (fun _ => ⟨-2, rfl, rfl, B0, RM_0 rfl rfl⟩) (fun _ _ _ => by exfalso; omega) (fun _ _ _ _ => by exfalso; omega) (fun _ _ _ _ => by exfalso; omega)
  · refine ⟨-3, rfl, ly_k L 77 rfl, ?_⟩
    exact ct_148 L p1 bv p2 ql S.1.1.1.symm qc (im_bn M) (hA h 23) n qn (fun _ => by exfalso; omega) (fun _ _ _ => ⟨-3, rfl, rfl, B0, RM_0 rfl rfl⟩) (fun _ _ _ _ => by exfalso; omega) (fun _ _ _ _ => by exfalso; omega)
  · refine ⟨-1, rfl, ly_k (kt_L K1) 77 rfl, gd_of (fun hg1 => ?_)⟩
    have M1 := BM_read hg B0 (FQ_sh F1 c1 r1) K1
    have ea : ∀ a, a < 122 → a ≠ 23 → a ≠ 25 → hA h1 a = hA h a := fun a z1 z2 z3 => (F1.2.2 a (l z1)).2.2.1 (fun z => by unfold rdA2 at z; omega)
    have e17 : hF h1 77 17 = hF h 1 1 := ((F1.2.2 77 (l (by omega))).2.2.2.2 17 (fun z => by unfold rdF2 at z; omega)).trans p2
    obtain ⟨n1, a1, m1, M1b⟩ := M1.2.2.1
    refine ct_148 (kt_L K1) ((ea 94 (by omega) (by omega) (by omega)).trans p1) bv e17 ql ((congrFun (ea 78 (by omega) (by omega) (by omega)) 0).trans S.1.1.1.symm) qc (im_bn M1b) (hA h 23) n qn (fun _ => by exfalso; omega) (fun _ _ _ => by exfalso; omega) (fun _ _ _ _ h2 N2 F2 B2 W2 => ⟨-1, rfl, rfl, ?_, ?_⟩) (fun _ _ _ y => absurd y z4)
    · refine BM_fault hg1 M1 N2 F2 B2 W2 (by omega) (fun z => ?_) l1 w1
      rw [c1] at z
      exfalso
      omega
    · exact RM_0 (F2.1.trans F1.1) (F2.2.1.trans F1.2.1)
  · refine ⟨hF h 3 3, rfl, ly_k (kt_L K1) 77 rfl, gd_of (fun hg1 => ?_)⟩
    have ea : ∀ a, a < 122 → a ≠ 23 → a ≠ 25 → hA h1 a = hA h a := fun a z1 z2 z3 => (F1.2.2 a (l z1)).2.2.1 (fun z => by unfold rdA2 at z; omega)
    have e17 : hF h1 77 17 = hF h 1 1 := ((F1.2.2 77 (l (by omega))).2.2.2.2 17 (fun z => by unfold rdF2 at z; omega)).trans p2
    have bn1 : BN (hA h1) := fun a z1 z2 j => by rw [ea a (by omega) (by omega) (by omega)]; exact im_bn M a z1 z2 j
    refine ct_148 (kt_L K1) ((ea 94 (by omega) (by omega) (by omega)).trans p1) bv e17 ql ((congrFun (ea 78 (by omega) (by omega) (by omega)) 0).trans S.1.1.1.symm) qc bn1 (hA h 23) n qn (fun _ => by exfalso; omega) (fun _ _ _ => by exfalso; omega) (fun _ _ _ y => absurd z4 y) (fun _ _ _ _ g2 N2 F2 B2 W2 Y2 => ⟨hF h 3 3, rfl, rfl, ?_, ?_⟩)
    · refine BK_rok (c := (hF h 3 3).toNat) hg hg1 B0 (rd_mo F1) K1 l1 w1 (by omega) (by rw [c1]; omega) (fun i hi => by rw [c1] at hi; omega) r1 cc N2 z4 F2 B2 W2 Y2 fj (A2 := av_u2 (av_u2 (hA g2) 81 (Int.toNat (hF h 3 3)) _) 78 0 (hF h 3 3 + 1)) rfl ?_ ?_ ?_ ?_
      · rw [av_u2_ne (by decide)]
        funext j
        unfold av_u2 av_u1
        by_cases e : j = (hF h 3 3).toNat
        · rw [if_pos ⟨rfl, e⟩, if_pos e]
        · rw [if_neg (fun z => e z.2), if_neg e]
      · rw [av_u2_self, c1]
      · intro j hj
        rw [av_u2_oth (by omega), av_u2_ne (by decide)]
      · intro a e1 e2
        rw [av_u2_ne e1, av_u2_ne e2]
    · have e1 := F2.1
      have e2 := F2.2.1
      have e3 := F1.1
      have e4 := F1.2.1
      have s12 := cc.2.2.1.1
      exact ⟨by show g2.1 ≤ _; omega, by show g2.2.1 ≤ _; omega⟩
theorem CC_uni {h : av_H} {v : Option Nat} {t c s t' c' s' : Nat} {f f' : Nat → Int} (x : CC h v t c s f) (y : CC h v t' c' s' f') : t = t' ∧ c = c' ∧ s = s' := by
  have e1 : t = t' := by
    have h1 := x.1
    rw [y.1] at h1
    cases h1
    rfl
  subst e1
  have e2 : c = c' := by
    have h1 := x.2.1.2.2.2.1
    rw [y.2.1.2.2.2.1] at h1
    cases h1
    rfl
  have e3 : s = s' := by
    have h1 := x.2.1.2.1
    rw [y.2.1.2.1] at h1
    omega
  exact ⟨rfl, e2, e3⟩
theorem cs_more {h : av_H} {A : Nat → Nat → Int} {i t c s : Nat} {f : Nat → Int} (r : Nat → Int) (x : CS h A 3 0 i) (y : CC h (hR h 4 i) t c s f) : A 81 i = (s : Int) ∧ ∀ j, j < s → RY (rwA A (12 * i + j)) (cpr h c s r) (j * 21) := by
  obtain ⟨t', c', s', f', x1, x2, x3⟩ := x
  obtain ⟨e1, e2, e3⟩ := CC_uni y x1
  subst e1
  subst e2
  subst e3
  rw [show 16 * 0 + i = i by omega] at x2
  refine ⟨x2, fun j hj => ?_⟩
  have y3 := x3 j hj
  rw [show 192 * 0 + 12 * i + j = 12 * i + j by omega] at y3
  refine ry_eq y3 (fun _ _ => rfl) (fun o ho => ?_)
  have e : cpr h c s r (j * 21 + o) = hA h c (j * 21 + o) := if_pos (by omega)
  rw [e, x1.2.1.2.2.2.2.2, ctn_o (by omega)]
theorem op_more {h : av_H} (B : BK h) (k n : Int) (qk : -2147483648 ≤ k ∧ k ≤ 2147483647) (qn : -2147483648 ≤ n ∧ n ≤ 2147483647) : av_wp none cd_96 0 [some (.inr (.inr (.inl (some (0))))), some (.inl k), some (.inl n), none, none] [] h (OPr cd_151 [some (.inr (.inr (.inl (some (77))))), some (.inl k), some (.inl n), none] h (fun x y => x = y)) := by
  refine gd_of (fun hg => ?_)
  have B0 := B
  obtain ⟨I, K, ⟨n0, a0, m0, M⟩, ⟨p1, p2, p3⟩, S, X⟩ := B
  have L := I.1
  have bv := kt_bv K
  have ql := K.2.1
  have qc := S.1.2.1
  have l : ∀ {q : Nat}, q < 122 → q < h.1 := fun hq => ly_lt hg L hq
  have hcs : ∀ i : Nat, i < 16 → (i : Int) < hF h 3 3 → ∃ t c s f, CC h (hR h 4 i) t c s f := fun i z1 z2 => by
    obtain ⟨t, c, s, f, x1, _⟩ := S.2.2.1 i z1 z2
    exact ⟨t, c, s, f, x1⟩
  refine ct_96 I K hcs k n qk qn (fun zA => ?_) (fun z1 z2 z3 z4 ot oc os of occ z5 h1 F1 K1 l1 w1 c1 r1 d1 => ?_) (fun z1 z2 z3 z4 ot oc os of occ z5 h1 t tc f F1 K1 l1 w1 c1 r1 cc fj d1 => ?_)
  · refine ⟨-2, rfl, ly_k L 77 rfl, ?_⟩
    by_cases hk : 0 ≤ k ∧ k < hF h 3 3
    · obtain ⟨ot, oc, os, of, occ⟩ := hcs k.toNat (by omega) (by omega)
      have cm := cs_more (hA h 23) (S.2.2.1 k.toNat (by omega) (by omega)) occ
      exact ct_151 L p1 bv p2 ql S.1.1.1.symm qc (im_bn M) (im_m81 M) (cpr h oc os (hA h 23)) k n qk qn (fun _ _ s hs j hj => cm.2 j (by omega)) (fun _ => ⟨-2, rfl, rfl, B0, RM_0 rfl rfl⟩) (fun _ _ _ _ => by exfalso; omega) (fun _ _ _ _ => by exfalso; omega)
    · exact ct_151 L p1 bv p2 ql S.1.1.1.symm qc (im_bn M) (im_m81 M) (hA h 23) k n qk qn (fun _ _ => by exfalso; omega) (fun _ => ⟨-2, rfl, rfl, B0, RM_0 rfl rfl⟩) (fun _ _ => by exfalso; omega) (fun _ _ => by exfalso; omega)
  · refine ⟨-1, rfl, ly_k (kt_L K1) 77 rfl, gd_of (fun hg1 => ?_)⟩
    have cm := cs_more (hA h 23) (S.2.2.1 k.toNat (by omega) (by omega)) occ
    have M1 := BM_read hg B0 (FQ_sh F1 c1 r1) K1
    have ea : ∀ a, a < 122 → a ≠ 23 → a ≠ 25 → hA h1 a = hA h a := fun a z1 z2 z3 => (F1.2.2 a (l z1)).2.2.1 (fun z => by unfold rdA2 at z; omega)
    have e17 : hF h1 77 17 = hF h 1 1 := ((F1.2.2 77 (l (by omega))).2.2.2.2 17 (fun z => by unfold rdF2 at z; omega)).trans p2
    obtain ⟨n1, a1, m1, M1b⟩ := M1.2.2.1
    have e81 : hA h1 81 k.toNat = (os : Int) := (congrFun (ea 81 (by omega) (by omega) (by omega)) _).trans cm.1
    have erw : ∀ i o, o < 19 → rwA (hA h1) i o = rwA (hA h) i o := fun i o ho => by
      have := vq_in o ho
      show hA h1 (vq o) _ = hA h (vq o) _
      rw [ea (vq o) (by omega) (by omega) (by omega)]
    refine ct_151 (kt_L K1) ((ea 94 (by omega) (by omega) (by omega)).trans p1) bv e17 ql ((congrFun (ea 78 (by omega) (by omega) (by omega)) 0).trans S.1.1.1.symm) qc (im_bn M1b) (im_m81 M1b) (cpr h oc os (hA h 23)) k n qk qn (fun _ _ s hs j hj => ry_eq (cm.2 j (by omega)) (fun o ho => erw _ o ho) (fun _ _ => rfl)) (fun _ => by exfalso; omega) (fun _ _ _ _ _ h2 N2 F2 B2 W2 => ⟨-1, rfl, rfl, ?_, ?_⟩) (fun _ _ _ _ y => by rw [e81, show ((os : Nat) : Int).toNat = os from rfl] at y; exact absurd y z5)
    · rw [e81, show ((os : Nat) : Int).toNat = os from rfl] at N2 W2
      exact BM_fault hg1 M1 N2 F2 B2 W2 (by omega) (fun z => by rw [e81]; omega) l1 w1
    · exact RM_0 (F2.1.trans F1.1) (F2.2.1.trans F1.2.1)
  · refine ⟨_, rfl, ly_k (kt_L K1) 77 rfl, gd_of (fun hg1 => ?_)⟩
    have cm := cs_more (hA h 23) (S.2.2.1 k.toNat (by omega) (by omega)) occ
    have ea : ∀ a, a < 122 → a ≠ 23 → a ≠ 25 → a ≠ 27 → hA h1 a = hA h a := fun a z1 z2 z3 z4 => (F1.2.2 a (l z1)).2.2.1 (fun z => by unfold moA at z; omega)
    have e17 : hF h1 77 17 = hF h 1 1 := ((F1.2.2 77 (l (by omega))).2.2.2.2 17 (fun z => by unfold rdF2 at z; omega)).trans p2
    have bn1 : BN (hA h1) := fun a z1 z2 j => by rw [ea a (by omega) (by omega) (by omega) (by omega)]; exact im_bn M a z1 z2 j
    have m81 : ∀ j, 0 ≤ hA h1 81 j ∧ hA h1 81 j ≤ 12 := fun j => by rw [ea 81 (by omega) (by omega) (by omega) (by omega)]; exact im_m81 M j
    have e81 : hA h1 81 k.toNat = (os : Int) := (congrFun (ea 81 (by omega) (by omega) (by omega) (by omega)) _).trans cm.1
    have erw : ∀ i o, o < 19 → rwA (hA h1) i o = rwA (hA h) i o := fun i o ho => by
      have := vq_in o ho
      show hA h1 (vq o) _ = hA h (vq o) _
      rw [ea (vq o) (by omega) (by omega) (by omega) (by omega)]
    refine ct_151 (kt_L K1) ((ea 94 (by omega) (by omega) (by omega) (by omega)).trans p1) bv e17 ql ((congrFun (ea 78 (by omega) (by omega) (by omega) (by omega)) 0).trans S.1.1.1.symm) qc bn1 m81 (cpr h oc os (hA h 23)) k n qk qn (fun _ _ s hs j hj => ry_eq (cm.2 j (by omega)) (fun o ho => erw _ o ho) (fun _ _ => rfl)) (fun _ => by exfalso; omega) (fun _ _ _ _ y => by rw [e81, show ((os : Nat) : Int).toNat = os from rfl] at y; exact absurd z5 y) (fun _ _ _ _ _ g2 N2 F2 B2 W2 Y2 => ?_)
    rw [e81, show ((os : Nat) : Int).toNat = os from rfl] at N2 W2 Y2 ⊢
    refine ⟨_, rfl, rfl, ?_, ?_⟩
    · refine BK_rok (c := k.toNat) hg hg1 B0 F1 K1 l1 w1 (by omega) (by rw [c1]; exact qc) (fun i hi => by rw [c1] at hi; omega) r1 cc N2 z5 F2 B2 W2 Y2 fj (A2 := av_u2 (hA g2) 81 (Int.toNat k) _) rfl ?_ ?_ ?_ ?_
      · funext j
        unfold av_u2 av_u1
        by_cases e : j = k.toNat
        · rw [if_pos ⟨rfl, e⟩, if_pos e]
        · rw [if_neg (fun z => e z.2), if_neg e]
      · rw [av_u2_ne (by decide), FR2_a W2 (a := 78) (by omega), ea 78 (by omega) (by omega) (by omega) (by omega), c1]
        exact S.1.1.1.symm
      · intro j hj
        rw [av_u2_ne (by decide)]
      · intro a e1 e2
        rw [av_u2_ne e2]
    · have e1 := F2.1
      have e2 := F2.2.1
      have e3 := F1.1
      have e4 := F1.2.1
      have s12 := cc.2.2.1.1
      exact ⟨by show g2.1 ≤ _; omega, by show g2.2.1 ≤ _; omega⟩
