/-! TELL AND MORE KEEP THE BOOK -/
def RM (h h2 : av_H) : Prop := h2.1 ≤ h.1 + 20 ∧ h2.2.1 ≤ h.2.1 + 600
def OPr (cm : List (Nat × av_E)) (lm : av_L) (h : av_H) (P : Int → Int → Prop) (v : Option av_V) (h1 : av_H) : Prop := ∃ x : Int, v = some (.inl x) ∧ hK h1 77 = (8, 0) ∧ av_wp none cm 0 lm [] h1 (fun w h2 => ∃ y : Int, w = some (.inl y) ∧ P x y ∧ BK h2 ∧ RM h h2)
def rdF0 (o f : Nat) : Prop := o = 1 ∨ o = 22 ∨ (o = 0 ∧ f = 8)
theorem rd_low1 : LOW rdA2 nun1 rdF0 nun2 := ⟨fun q e => by unfold rdA2 at e; omega, fun q e => e.elim, fun q j e => by unfold rdF0 at e; omega, fun q j e => e.elim⟩
theorem FQ_sh {x n m : Nat} {g h : av_H} (a : FQ rdA2 (fun q => q = 4) (rdF2 x) nun2 g h n m) (e1 : hF h 3 x = hF g 3 x) (e2 : hR h 4 = hR g 4) : FQ rdA2 nun1 rdF0 nun2 g h n m := ⟨a.1, a.2.1, fun q hq => by
  obtain ⟨a1, a2, a3, a4, a5⟩ := a.2.2 q hq
  refine ⟨a1, a2, a3, fun _ => ?_, fun j e => ?_⟩
  · by_cases c : q = 4
    · rw [c]; exact e2
    · exact a4 c
  · by_cases c : q = 3 ∧ j = x
    · rw [c.1, c.2]; exact e1
    · exact a5 j (fun z => by unfold rdF2 at z; unfold rdF0 at e; omega)⟩
theorem FQ_s0 {x n m : Nat} {g h : av_H} (a : FQ rdA2 nun1 (rdF2 x) nun2 g h n m) (e1 : hF h 3 x = hF g 3 x) : FQ rdA2 nun1 rdF0 nun2 g h n m := ⟨a.1, a.2.1, fun q hq => by
  obtain ⟨a1, a2, a3, a4, a5⟩ := a.2.2 q hq
  refine ⟨a1, a2, a3, a4, fun j e => ?_⟩
  by_cases c : q = 3 ∧ j = x
  · rw [c.1, c.2]; exact e1
  · exact a5 j (fun z => by unfold rdF2 at z; unfold rdF0 at e; omega)⟩
/-- the book between the class's call and the reference's -/
def BM (h : av_H) : Prop := IC h ∧ KT h ∧ (∃ n a m, IMF n a m h) ∧ hA h 94 = hA h 2 ∧ SL h (hA h) 3 0 ∧ XI h (hA h)
theorem cn_sl {h : av_H} {A : Nat → Nat → Int} (S : SL h A 3 0) : CN h := S.1.2
theorem BM_read {g h : av_H} (G : av_Gd g) (B : BK g) (F : FQ rdA2 nun1 rdF0 nun2 g h 0 0) (K : KT h) : BM h := by
  obtain ⟨I, _, ⟨n0, a0, m0, M⟩, ⟨p1, _, _⟩, S, X⟩ := B
  have L := I.1
  have l : ∀ {q : Nat}, q < 122 → q < g.1 := fun hq => ly_lt G L hq
  have l18 : 3 + 18 ≤ g.1 := by have := l (q := 100) (by omega); omega
  have ea : ∀ a, a < 122 → a ≠ 23 → a ≠ 25 → hA h a = hA g a := fun a h1 h2 h3 => (F.2.2 a (l h1)).2.2.1 (fun z => by unfold rdA2 at z; omega)
  have S1 : SL h (hA h) 3 0 := SL_ag (SL_fq G rd_low1 F l18 (fun j z => by unfold rdF0 at z; omega) (fun z => z) (fun j h1 h2 z => by unfold rdA2 at z; omega) S) (AGB_eq 0 (fun a h1 h2 => ea a (by omega) (by omega) (by omega)))
  have I1 : IC h := IC_op G I F (fun q e => by rcases e with e | e <;> subst e <;> rfl) (fun q e => e.elim) (fun q j e => by
    rcases e with e | e | e
    · subst e; rfl
    · subst e; rfl
    · obtain ⟨e1, e2⟩ := e; subst e1; subst e2; rfl) K S1.2.1 (cn_sl S1)
  refine ⟨I1, K, ⟨n0, a0, m0, IMF_eq I1.1 (fun q h1 h2 => ea q (by omega) (by omega) (by omega)) (fun k _ => (F.2.2 77 (l (by omega))).2.2.2.2 k (fun z => by unfold rdF0 at z; omega)) M⟩, ?_, S1, ?_⟩
  · rw [ea 94 (by omega) (by omega) (by omega), ea 2 (by omega) (by omega) (by omega)]
    exact p1
  · exact XI_ag (XI_fq G L rd_low1 F (fun z => by unfold rdF0 at z; omega) (fun z => by unfold rdF0 at z; omega) (fun z => z) X) (fun i _ _ => AGB_eq (i + 1) (fun a h1 h2 => ea a (by omega) (by omega) (by omega)))
theorem mF_rdF {k : Nat} (e : mF 77 k = true) : rdF 77 k = false := by
  have h1 : k = 27 ∨ k = 28 ∨ k = 29 ∨ k = 50 ∨ k = 51 ∨ k = 52 ∨ k = 53 ∨ k = 60 ∨ k = 61 := by
    simp only [mF, Bool.and_eq_true, Bool.or_eq_true] at e
    rcases e.2 with (((((((h | h) | h) | h) | h) | h) | h) | h) | h <;> (have := Nat.eq_of_beq_eq_true h; omega)
  rcases h1 with e | e | e | e | e | e | e | e | e <;> subst e <;> rfl
theorem rdA_big {q : Nat} (h : 93 < q ∨ q < 82) : rdA q = false := by
  rcases h with h | h
  · simp only [rdA, nble (show 93 < q by omega), Bool.and_false]
  · simp only [rdA, nble (show q < 82 by omega), Bool.false_and]
/-- the reference finds the fault too -/
theorem BM_fault {h1 h2 : av_H} {b : Nat → Int} {lim c k0 : Nat} {t : TT} (G : av_Gd h1) (B : BM h1) (N : MT b lim t 0 (hA h2) h2) (F : FD h1 h2) (BN2 : BN (hA h2)) (W : FR2 c k0 (hA h1) (hA h2)) (hc : c ≤ 15) (hk : (c : Int) < hF h1 3 3 → hA h1 81 c ≤ (k0 : Int)) (l1 : hF h1 1 1 = 0) (w1 : hF h1 0 8 = t.2.2.2) : BK h2 := by
  obtain ⟨I, K, ⟨n0, a0, m0, M⟩, p1, S, X⟩ := B
  have L := I.1
  have l : ∀ {q : Nat}, q < 122 → q < h1.1 := fun hq => ly_lt G L hq
  have l18 : 3 + 18 ≤ h1.1 := by have := l (q := 100) (by omega); omega
  have Q := FQ_FD F
  have I2 : IC h2 := IC_FD F I
  have fF : ∀ q k, q ≠ 77 → hF h2 q k = hF h1 q k := fun q k hq => F.2.2.2.2.2.1 q k (by simp only [rdF, nbeq hq, Bool.false_and])
  have S2 : SL h2 (hA h2) 3 0 := SL_fq G fd_low Q l18 (fun j z => by unfold fdF2 at z; omega) (fun z => z) (fun j h1 h2 z => by unfold fdA2 at z; omega) (SL_fr2 S W hc hk)
  refine ⟨I2, KT_fq G L I2.1 Q (fun z => by unfold fdA2 at z; omega) (fun z => by unfold fdA2 at z; omega) (fun z => by unfold fdA2 at z; omega) (fun z => by unfold fdA2 at z; omega) (fun j z => by unfold fdF2 at z; omega) (fun j z => by unfold fdF2 at z; omega) (fun j z => z) K, ⟨n0, a0, m0, IMF_of M I2.1 (fun q h1 _ => F.2.2.2.2.2.2 q (rdA_big (by omega))) (fun k hk => F.2.2.2.2.2.1 77 k (mF_rdF hk)) (MV_of BN2 (fun j => by rw [F.2.2.2.2.2.2 81 rfl]; exact im_m81 M j) S2)⟩, ⟨?_, ?_, ?_⟩, S2, ?_⟩
  · rw [F.2.2.2.2.2.2 94 rfl, F.2.2.2.2.2.2 2 rfl]; exact p1
  · rw [ns_17 N.1, fF 1 1 (by decide), l1]
  · rw [ns_18 N.1, fF 0 8 (by decide), w1]
  · exact XI_fq G L fd_low Q (fun z => by unfold fdF2 at z; omega) (fun z => by unfold fdF2 at z; omega) (fun z => z) (XI_ag X (fun i _ _ => AGB_fr2 W hc (by omega)))
def mdA (a : Nat) : Prop := 78 ≤ a ∧ a ≤ 93
theorem md_low : LOW mdA nun1 fdF2 nun2 := ⟨fun q e => by unfold mdA at e; omega, fun q e => e.elim, fun q j e => by unfold fdF2 at e; omega, fun q j e => e.elim⟩
/-- a case is new, or is told on -/
theorem BK_rok {h h1 g2 h2 : av_H} {b : Nat → Int} {lim c k0 s t tc nn mm : Nat} {ta : TT} {f r' : Nat → Int} {A2 : Nat → Nat → Int} (G : av_Gd h) (G1 : av_Gd h1) (B : BK h) (F1 : FQ moA (fun q => q = 4) (rdF2 3) nun2 h h1 nn mm) (K1 : KT h1) (l1 : hF h1 1 1 = 0) (w1 : hF h1 0 8 = -1) (hc : c ≤ 15) (c1 : 0 ≤ hF h1 3 3 ∧ hF h1 3 3 ≤ 16) (c2 : ∀ i : Nat, (i : Int) < hF h1 3 3 → i = c ∨ (i : Int) < hF h 3 3) (r1 : hR h1 4 = av_u1 (hR h 4) c (some t)) (cc : CC h1 (some t) t tc s f)
    (N : MT b lim ta 0 (hA g2) g2) (hta : ta.2.2.2 = -1) (F2 : FD h1 g2) (B2 : BN (hA g2)) (W2 : FR2 c k0 (hA h1) (hA g2)) (Y2 : ∀ j, j < s → RY (rwA (hA g2) (12 * c + j)) r' (j * 21)) (fj : ∀ j, j < 21 * s → f j = r' j)
    (e2 : h2 = stA g2 A2) (e81 : A2 81 = av_u1 (hA g2 81) c (s : Int)) (e78 : A2 78 0 = hF h1 3 3) (e78b : ∀ j, 1 ≤ j → A2 78 j = hA g2 78 j) (eo : ∀ a, a ≠ 78 → a ≠ 81 → A2 a = hA g2 a) : BK h2 := by
  subst e2
  obtain ⟨I, K, ⟨n0, a0, m0, M⟩, ⟨p1, _, _⟩, S, X⟩ := B
  have L := I.1
  have l : ∀ {q : Nat}, q < 122 → q < h.1 := fun hq => ly_lt G L hq
  have l18 : 3 + 18 ≤ h.1 := by have := l (q := 100) (by omega); omega
  have ea1 : ∀ a, a < 122 → a ≠ 23 → a ≠ 25 → a ≠ 27 → hA h1 a = hA h a := fun a z1 z2 z3 z4 => (F1.2.2 a (l z1)).2.2.1 (fun z => by unfold moA at z; omega)
  have ef1 : ∀ k, k ≠ 3 → hF h1 3 k = hF h 3 k := fun k hk => (F1.2.2 3 (l (by omega))).2.2.2.2 k (fun z => by unfold rdF2 at z; omega)
  have er1 : ∀ i, i ≠ c → hR h1 4 i = hR h 4 i := fun i hi => by rw [r1]; exact if_neg hi
  have erc : hR h1 4 c = some t := by rw [r1]; exact if_pos rfl
  have s12 : s ≤ 12 := cc.2.2.1.1
  -- the class's part
  have cw1 : ∀ i, i < 16 → CW h1 3 i := fun i hi => by
    by_cases e : i = c
    · subst e
      exact Or.inr ⟨t, tc, s, f, by rw [erc]; exact cc⟩
    · exact CW_fq G mo_low F1 (er1 i e) (S.2.1.1 i hi)
  have sr1 : SLr h1 3 := by
    refine ⟨cw1, fun q hq k => ?_, fun q hq k => ?_⟩
    · rw [ea1 (3 + 3 + q) (by omega) (by omega) (by omega) (by omega)]; exact S.2.1.2.1 q hq k
    · rw [ea1 (3 + 12 + q) (by omega) (by omega) (by omega) (by omega)]; exact S.2.1.2.2 q hq k
  have cn1 : CN h1 := by
    refine ⟨c1, ?_, ?_⟩
    · rw [ef1 4 (by decide)]; exact S.1.2.2.1
    · rw [ef1 5 (by decide)]; exact S.1.2.2.2
  have I1 : IC h1 := IC_op G I F1 (fun q e => by rcases e with e | e | e <;> subst e <;> rfl) (fun q e => by subst e; rfl) (rdF2_bF (by omega)) K1 sr1 cn1
  have L1 := I1.1
  have l1' : ∀ {q : Nat}, q < 122 → q < h1.1 := fun hq => ly_lt G1 L1 hq
  -- the reference's part
  have I2g : IC g2 := IC_FD F2 I1
  have Q2 : FQ mdA nun1 fdF2 nun2 h1 (stA g2 A2) 0 0 := FQ_tr (FQ_mo (FQ_FD F2) (fun q e => by unfold fdA2 at e; unfold mdA; omega) (fun _ e => e) (fun _ _ e => e) (fun _ _ e => e)) (FQ_A (fun q hq => eo q (fun z => hq (by unfold mdA; omega)) (fun z => hq (by unfold mdA; omega))))
  have I2 : IC (stA g2 A2) := IC_eq (g := g2) (h := stA g2 A2) I2g.1 (fun _ => rfl) (fun q hq => eo q (by omega) (by omega)) (fun _ _ _ => rfl) (fun _ => rfl) (fun _ => rfl) I2g
  have fF : ∀ q k, q ≠ 77 → hF (stA g2 A2) q k = hF h1 q k := fun q k hq => F2.2.2.2.2.2.1 q k (by simp only [rdF, nbeq hq, Bool.false_and])
  have eR : hR (stA g2 A2) = hR h1 := F2.2.2.2.1
  have eA : ∀ a, (a < 78 ∨ 93 < a) → hA (stA g2 A2) a = hA h1 a := fun a ha => (eo a (by omega) (by omega)).trans (F2.2.2.2.2.2.2 a (rdA_big (by omega)))
  have rw2 : ∀ i o, o < 19 → rwA A2 i o = rwA (hA g2) i o := fun i o ho => by
    have := vq_in o ho
    show A2 (vq o) _ = hA g2 (vq o) _
    rw [eo (vq o) (by omega) (by omega)]
  have a93 : A2 93 = hA h 93 := (eo 93 (by decide) (by decide)).trans ((FR2_a W2 (by omega)).trans (ea1 93 (by omega) (by omega) (by omega) (by omega)))
  have a81 : ∀ i, i ≠ c → A2 81 i = hA h 81 i := fun i hi => by
    rw [e81, u1_ne hi, FR2_a W2 (a := 81) (by omega), ea1 81 (by omega) (by omega) (by omega) (by omega)]
  have rwo : ∀ i o, o < 19 → (∀ k, k0 ≤ k → k < 12 → 12 * c + k ≠ i) → rwA A2 i o = rwA (hA h) i o := fun i o ho hi => by
    rw [rw2 i o ho, FR2_row W2 hi o ho]
    have := vq_in o ho
    show hA h1 (vq o) _ = hA h (vq o) _
    rw [ea1 (vq o) (by omega) (by omega) (by omega) (by omega)]
  have S2 : SL (stA g2 A2) A2 3 0 := by
    refine ⟨⟨⟨?_, ?_, ?_⟩, ?_, ?_, ?_⟩, ⟨fun i hi => CW_fq G1 md_low Q2 (congrFun (congrFun eR _) _) (cw1 i hi), fun q hq k => ?_, fun q hq k => ?_⟩, fun i hi h1 => ?_, fun q hq h1 => ?_, fun q hq h1 => ?_⟩
    · rw [fF 3 3 (by decide), e78]
    · rw [fF 3 4 (by decide), ef1 4 (by decide), eo 79 (by decide) (by decide), FR2_a W2 (a := 79) (by omega), ea1 79 (by omega) (by omega) (by omega) (by omega)]; exact S.1.1.2.1
    · rw [fF 3 5 (by decide), ef1 5 (by decide), eo 80 (by decide) (by decide), FR2_a W2 (a := 80) (by omega), ea1 80 (by omega) (by omega) (by omega) (by omega)]; exact S.1.1.2.2
    · rw [fF 3 3 (by decide)]; exact c1
    · rw [fF 3 4 (by decide)]; exact cn1.2.1
    · rw [fF 3 5 (by decide)]; exact cn1.2.2
    · rw [eA (3 + 3 + q) (by omega)]; exact sr1.2.1 q hq k
    · rw [eA (3 + 12 + q) (by omega)]; exact sr1.2.2 q hq k
    · rw [fF 3 3 (by decide)] at h1
      by_cases e : i = c
      · subst e
        refine ⟨t, tc, s, f, ?_, ?_, fun j hj => ?_⟩
        · rw [show hR (stA g2 A2) (3 + 1) i = some t from (congrFun (congrFun eR 4) i).trans erc]
          exact CC_fq G1 md_low Q2 cc
        · rw [show 16 * 0 + i = i by omega, e81, u1_eq]
        · rw [show 192 * 0 + 12 * i + j = 12 * i + j by omega]
          exact ry_eq (Y2 j hj) (fun o ho => rw2 _ o ho) (fun o ho => fj _ (by omega))
      · have h3 := c2 i h1
        have x := S.2.2.1 i hi (by omega)
        refine CS_fq G1 md_low Q2 (congrFun (congrFun eR _) _) (CS_ag2 (CS_fq G mo_low F1 (er1 i e) x) ?_ (fun j hj h12 q hq => ?_))
        · rw [show 16 * 0 + i = i by omega]; exact a81 i e
        · exact rwo _ q hq (fun k h4 h5 => by omega)
    · rw [fF 3 4 (by decide), ef1 4 (by decide)] at h1
      have x := S.2.2.2.1 q hq h1
      have e1 : hA (stA g2 A2) (3 + 3 + q) = hA h (3 + 3 + q) := (eA _ (by omega)).trans (ea1 _ (by omega) (by omega) (by omega) (by omega))
      unfold LW at x ⊢
      rw [e1, a93]
      exact x
    · rw [fF 3 5 (by decide), ef1 5 (by decide)] at h1
      have x := S.2.2.2.2 q hq h1
      have e1 : hA (stA g2 A2) (3 + 12 + q) = hA h (3 + 12 + q) := (eA _ (by omega)).trans (ea1 _ (by omega) (by omega) (by omega) (by omega))
      unfold QW at x ⊢
      rw [e1, a93]
      exact x
  refine ⟨I2, KT_fq G1 L1 I2.1 Q2 (fun z => by unfold mdA at z; omega) (fun z => by unfold mdA at z; omega) (fun z => by unfold mdA at z; omega) (fun z => by unfold mdA at z; omega) (fun j z => by unfold fdF2 at z; omega) (fun j z => by unfold fdF2 at z; omega) (fun j z => z) K1, ⟨n0, a0, m0, IMF_of M I2.1 (fun q z1 z2 => (eA q (by omega)).trans (ea1 q (by omega) (by omega) (by omega) (by omega))) (fun k hk => (F2.2.2.2.2.2.1 77 k (mF_rdF hk)).trans ((F1.2.2 77 (l (by omega))).2.2.2.2 k (fun z => by unfold rdF2 at z; omega))) (MV_of (fun a z1 z2 j => by rw [show hA (stA g2 A2) a = hA g2 a from eo a (by omega) (by omega)]; exact B2 a z1 z2 j) (fun j => ?_) S2)⟩, ⟨?_, ?_, ?_⟩, S2, ?_⟩
  · by_cases e : j = c
    · subst e
      rw [show hA (stA g2 A2) 81 j = (s : Int) by show A2 81 j = _; rw [e81, u1_eq]]
      omega
    · rw [show hA (stA g2 A2) 81 j = hA h 81 j from a81 j e]
      exact im_m81 M j
  · rw [eA 94 (by omega), eA 2 (by omega), ea1 94 (by omega) (by omega) (by omega) (by omega), ea1 2 (by omega) (by omega) (by omega) (by omega)]
    exact p1
  · rw [fF 1 1 (by decide), l1]
    exact (show hF g2 77 17 = 0 from ns_17 N.1)
  · rw [fF 0 8 (by decide), w1, ← hta]
    exact (show hF g2 77 18 = ta.2.2.2 from ns_18 N.1)
  · have X1 : XI h1 (hA h) := XI_fq G L mo_low F1 (fun z => by unfold rdF2 at z; omega) (fun z => by unfold rdF2 at z; omega) (fun z => by omega) X
    refine XI_fq G1 L1 md_low Q2 (fun z => by unfold fdF2 at z; omega) (fun z => by unfold fdF2 at z; omega) (fun z => z) (XI_ag X1 (fun i hi _ => ⟨⟨?_, ?_, ?_⟩, fun q hq => ?_, fun q hq o ho => rwo _ o ho (fun k z1 z2 => by omega), fun k hk => by rw [show hA (stA g2 A2) 93 = hA h 93 from a93]⟩))
    · rw [show hA (stA g2 A2) 78 (i + 1) = hA g2 78 (i + 1) from e78b _ (by omega), FR2_a W2 (a := 78) (by omega), ea1 78 (by omega) (by omega) (by omega) (by omega)]
    · rw [show hA (stA g2 A2) 79 = hA g2 79 from eo 79 (by decide) (by decide), FR2_a W2 (a := 79) (by omega), ea1 79 (by omega) (by omega) (by omega) (by omega)]
    · rw [show hA (stA g2 A2) 80 = hA g2 80 from eo 80 (by decide) (by decide), FR2_a W2 (a := 80) (by omega), ea1 80 (by omega) (by omega) (by omega) (by omega)]
    · exact a81 _ (by omega)
