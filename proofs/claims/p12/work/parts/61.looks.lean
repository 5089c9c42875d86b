/-! LOOKS KEEP THE BOOK -/
def lkA (a : Nat) : Prop := sA a = true ∨ mA a = true
def lkF (o f : Nat) : Prop := sF o f = true ∨ mF o f = true
def lkG (o f : Nat) : Prop := sG o f = true
theorem sA_lt {a : Nat} (e : sA a = true) : a ≤ 72 := by
  by_cases h : a ≤ 72
  · exact h
  · have : sA a = false := by simp only [sA, nble (show 31 < a by omega), nble (show 46 < a by omega), nble (show 59 < a by omega), nble (show 72 < a by omega), Bool.and_false, Bool.or_false]
    rw [this] at e; cases e
theorem mA_lt {a : Nat} (e : mA a = true) : 95 ≤ a ∧ a ≤ 121 := by
  simp only [mA, Bool.and_eq_true] at e
  exact ⟨Nat.le_of_ble_eq_true e.1, Nat.le_of_ble_eq_true e.2⟩
theorem sF_lt {o f : Nat} (e : sF o f = true) : o = 26 ∨ o = 35 ∨ o = 48 ∨ o = 61 := by
  by_cases h : o = 26 ∨ o = 35 ∨ o = 48 ∨ o = 61
  · exact h
  · have : sF o f = false := by simp only [sF, sB, nbeq (show o ≠ 26 by omega), nbeq (show o ≠ 35 by omega), nbeq (show o ≠ 48 by omega), nbeq (show o ≠ 61 by omega), Bool.false_and, Bool.or_false]
    rw [this] at e; cases e
theorem mF_lt {o f : Nat} (e : mF o f = true) : o = 77 := by
  simp only [mF, Bool.and_eq_true] at e
  exact Nat.eq_of_beq_eq_true e.1
theorem sG_lt {o f : Nat} (e : sG o f = true) : o = 35 ∨ o = 48 ∨ o = 61 := by
  by_cases h : o = 35 ∨ o = 48 ∨ o = 61
  · exact h
  · have : sG o f = false := by simp only [sG, sB, nbeq (show o ≠ 35 by omega), nbeq (show o ≠ 48 by omega), nbeq (show o ≠ 61 by omega), Bool.false_and, Bool.or_false]
    rw [this] at e; cases e
theorem lk_low : LOW lkA nun1 lkF lkG := by
  refine ⟨fun q e => ?_, fun q e => e.elim, fun q j e => ?_, fun q j e => ?_⟩
  · rcases e with e | e
    · have := sA_lt e; omega
    · have := mA_lt e; omega
  · rcases e with e | e
    · have := sF_lt e; omega
    · have := mF_lt e; omega
  · have := sG_lt e; omega
section
variable {g h : av_H}
theorem FQ_Fr (F : Fr g h) : FQ lkA nun1 lkF lkG g h 0 0 := ⟨F.1, F.2.1, fun q _ => ⟨congrFun F.2.2.1 q, fun j e => F.2.2.2.2.1 q j (by cases z : sG q j with | false => rfl | true => exact absurd z e), fun e => F.2.2.2.2.2.2 q (by cases z : sA q with | false => rfl | true => exact absurd (Or.inl z) e), fun _ => congrFun F.2.2.2.1 q, fun j e => F.2.2.2.2.2.1 q j (by cases z : sF q j with | false => rfl | true => exact absurd (Or.inl z) e)⟩⟩
theorem FQ_FM (F : FM g h) : FQ lkA nun1 lkF lkG g h 0 0 := ⟨F.1, F.2.1, fun q _ => ⟨congrFun F.2.2.1 q, fun j _ => congrFun (congrFun F.2.2.2.2.1 q) j, fun e => F.2.2.2.2.2.2 q (by cases z : mA q with | false => rfl | true => exact absurd (Or.inr z) e), fun _ => congrFun F.2.2.2.1 q, fun j e => F.2.2.2.2.2.1 q j (by cases z : mF q j with | false => rfl | true => exact absurd (Or.inr z) e)⟩⟩
/-- the reference's part is the same -/
theorem IMF_eq {n a m : Int} (L : LY h) (eA : ∀ q, 78 ≤ q → q ≤ 121 → hA h q = hA g q) (eF : ∀ k, mF 77 k = true → hF h 77 k = hF g 77 k) (x : IMF n a m g) : IMF n a m h := by
  obtain ⟨⟨⟨_, x2, x3, x4, x5⟩, x6⟩, x7, x8, x9⟩ := x
  refine ⟨⟨⟨L, MV_A x2 (fun q h1 h2 => eA q (by omega) (by omega)), fun q h1 h2 j => ?_, ?_, ?_⟩, WR_A x6 (eA 96 (by omega) (by omega)) (eA 100 (by omega) (by omega))⟩, (eF 27 rfl).trans x7, (eF 28 rfl).trans x8, (eF 29 rfl).trans x9⟩
  · rw [eA q (by omega) (by omega)]; exact x3 q h1 h2 j
  · unfold AK at x4 ⊢
    rw [eF 28 rfl, eF 29 rfl, eA 108 (by omega) (by omega)]
    exact x4
  · unfold NF at x5 ⊢
    rw [eF 27 rfl, eF 50 rfl, eF 51 rfl, eF 52 rfl]
    exact x5
theorem IMF_Fr {n a m : Int} (L : LY g) (F : Fr g h) (x : IMF n a m g) : IMF n a m h := IMF_eq (LY_fr L F) (fun q h1 _ => F.2.2.2.2.2.2 q (by cases z : sA q with | false => rfl | true => exact absurd (sA_lt z) (by omega))) (fun k _ => F.2.2.2.2.2.1 77 k rfl) x
/-- the class's part is the same -/
theorem IC_eq (L : LY h) (eK : ∀ q, hK h q = hK g q) (eA : ∀ q, q < 77 ∨ 122 ≤ q → hA h q = hA g q) (eF : ∀ q k, q ≠ 77 → hF h q k = hF g q k) (eG : ∀ q, hG h q = hG g q) (eR : ∀ q, hR h q = hR g q) (x : IC g) : IC h := by
  obtain ⟨x1, x2, x3, x4, x5, x6⟩ := x
  have co : ∀ {t c s : Nat} {cb : Int}, CO g t c s cb → CO h t c s cb := fun {t c s cb} o => by
    obtain ⟨o1, o2, o3, o4, o5, o6, o7, o8, o9⟩ := o
    have e77 : t ≠ 77 := fun z => by rw [z, x1.1 77 rfl] at o1; cases o1
    refine ⟨(eK t).trans o1, (eF t 1 e77).trans o2, o3, (eF t 3 e77).trans o4, o5, (congrFun (eG t) 0).trans o6, (eK c).trans o7, o8, ?_⟩
    rw [eA c (by omega)]
    exact o9
  refine ⟨L, fun a ha j => ?_, fun i hi => ?_, ?_, ?_, fun b hb => ?_⟩
  · have h77 : a < 77 := by
      have h1 := rwc_lt ha
      by_cases h2 : a < 77
      · exact h2
      · have : rwc a = false := by simp only [rwc, nble (show 13 < a by omega), nble (show 20 < a by omega), nbeq (show a ≠ 25 by omega), nbeq (show a ≠ 30 by omega), nbeq (show a ≠ 47 by omega), nbeq (show a ≠ 60 by omega), nbeq (show a ≠ 73 by omega), Bool.and_false, Bool.or_false]
        rw [this] at ha; cases ha
    rw [eA a (Or.inl h77)]
    exact x2 a ha j
  · rw [eR 4]
    rcases x3 i hi with e | ⟨t, c, s, cb, e, o⟩
    · exact Or.inl e
    · exact Or.inr ⟨t, c, s, cb, e, co o⟩
  · unfold CN at x4 ⊢
    rw [eF 3 3 (by decide), eF 3 4 (by decide), eF 3 5 (by decide)]
    exact x4
  · unfold HD at x5 ⊢
    rw [eF 26 9 (by decide), eF 26 10 (by decide)]
    exact x5
  · obtain ⟨y1, y2, t, c, s, cb, r, z1, z2, z3, z4, z5⟩ := x6 b hb
    have b77 : b ≠ 77 := by rcases hb with e | e | e <;> omega
    rw [eF b 13 b77, eF b 14 b77, eG b]
    exact ⟨y1, y2, t, c, s, cb, r, z1, co z2, z3, (eK r).trans z4, z5⟩
theorem IC_FM (F : FM g h) (x : IC g) : IC h := IC_eq (LY_fm x.1 F) (fun q => congrFun F.2.2.1 q) (fun q hq => F.2.2.2.2.2.2 q (by cases z : mA q with | false => rfl | true => exact absurd (mA_lt z) (by omega))) (fun q k hq => F.2.2.2.2.2.1 q k (by simp only [mF, nbeq hq, Bool.false_and])) (fun q => congrFun F.2.2.2.2.1 q) (fun q => congrFun F.2.2.2.1 q) x
/-- the tape of the class is the same -/
theorem KT_fq {eA eR : Nat → Prop} {eF eG : Nat → Nat → Prop} {n m : Nat} (G : av_Gd g) (L : LY g) (L' : LY h) (F : FQ eA eR eF eG g h n m) (n2 : ¬ eA 2) (n23 : ¬ eA 23) (n25 : ¬ eA 25) (n76 : ¬ eA 76) (n1 : ∀ j, ¬ eF 1 j) (n74 : ∀ j, ¬ eF 74 j) (g74 : ∀ j, ¬ eG 74 j) (x : KT g) : KT h := by
  obtain ⟨⟨lim, t, C⟩, x2, x3, o1, o2, o3, o4, o5, o6⟩ := x
  have l : ∀ {q : Nat}, q < 122 → q < g.1 := fun hq => ly_lt G L hq
  have e2 := (F.2.2 2 (l (by omega))).2.2.1 n2
  have e23 := (F.2.2 23 (l (by omega))).2.2.1 n23
  have e25 := (F.2.2 25 (l (by omega))).2.2.1 n25
  have f1 : ∀ j, hF h 1 j = hF g 1 j := fun j => (F.2.2 1 (l (by omega))).2.2.2.2 j (n1 j)
  have f74 := F.2.2 74 (l (by omega))
  have f76 := F.2.2 76 (l (by omega))
  refine ⟨⟨lim, t, ?_⟩, by rw [f1 1]; exact x2, by rw [e23]; exact x3, f74.1.trans o1, (f74.2.2.2.2 1 (n74 1)).trans o2, (f74.2.2.2.2 3 (n74 3)).trans o3, (f74.2.1 0 (g74 0)).trans o4, f76.1.trans o5, (f76.2.2.1 n76).trans o6⟩
  obtain ⟨_, _, c3, c4, c5, c6, c7, c8, _, _, c11, c12, c13⟩ := C
  rw [e2, e23, e25]
  exact ⟨L', e2, c3, (f1 2).trans c4, (f1 3).trans c5, (f1 4).trans c6, (f1 5).trans c7, (f1 6).trans c8, e23, e25, c11, c12, c13⟩
theorem AGB_eq {A A' : Nat → Nat → Int} (b : Nat) (e : ∀ a, 78 ≤ a → a ≤ 93 → A' a = A a) : AGB b A A' := by
  refine ⟨⟨by rw [e 78 (by omega) (by omega)], by rw [e 79 (by omega) (by omega)], by rw [e 80 (by omega) (by omega)]⟩, fun i _ => by rw [e 81 (by omega) (by omega)], fun i _ o ho => ?_, fun k _ => by rw [e 93 (by omega) (by omega)]⟩
  have := vq_in o ho
  show A' (vq o) _ = A (vq o) _
  rw [e (vq o) (by omega) (by omega)]
theorem BK_look (G : av_Gd g) (B : BK g) (F : FQ lkA nun1 lkF lkG g h 0 0) (I : IC h) (M : ∃ n a m, IMF n a m h) : BK h := by
  obtain ⟨b1, b2, b3, b4, b5, b6⟩ := B
  have L := b1.1
  have l : ∀ {q : Nat}, q < 122 → q < g.1 := fun hq => ly_lt G L hq
  have nA : ∀ {q : Nat}, (72 < q ∧ q < 95) ∨ (∃ _ : sA q = false, q < 95) → ¬ lkA q := fun {q} hq z => by
    rcases z with z | z
    · rcases hq with h1 | ⟨h1, _⟩
      · have := sA_lt z; omega
      · rw [h1] at z; cases z
    · have := mA_lt z
      rcases hq with h1 | ⟨_, h1⟩ <;> omega
  have nF : ∀ {q j : Nat}, q ≠ 26 → q ≠ 35 → q ≠ 48 → q ≠ 61 → q ≠ 77 → ¬ lkF q j := fun h1 h2 h3 h4 h5 z => by
    rcases z with z | z
    · have := sF_lt z; omega
    · have := mF_lt z; omega
  have ea : ∀ a, 78 ≤ a → a ≤ 94 → hA h a = hA g a := fun a h1 h2 => (F.2.2 a (l (by omega))).2.2.1 (nA (Or.inl (by omega)))
  have l18 : 3 + 18 ≤ g.1 := by have := l (q := 100) (by omega); omega
  refine ⟨I, KT_fq G L I.1 F (nA (Or.inr ⟨rfl, by omega⟩)) (nA (Or.inr ⟨rfl, by omega⟩)) (nA (Or.inr ⟨rfl, by omega⟩)) (nA (Or.inl (by omega))) (fun j => nF (by decide) (by decide) (by decide) (by decide) (by decide)) (fun j => nF (by decide) (by decide) (by decide) (by decide) (by decide)) (fun j z => by have := sG_lt z; omega) b2, M, ?_, ?_, ?_⟩
  · obtain ⟨c1, c2, c3⟩ := b4
    have nF7 : ∀ j, mF 77 j = false → ¬ lkF 77 j := fun j hj z => by
      rcases z with z | z
      · have := sF_lt z; omega
      · rw [hj] at z; cases z
    refine ⟨?_, ?_, ?_⟩
    · rw [ea 94 (by omega) (by omega), (F.2.2 2 (l (by omega))).2.2.1 (nA (Or.inr ⟨rfl, by omega⟩))]
      exact c1
    · rw [(F.2.2 77 (l (by omega))).2.2.2.2 17 (nF7 17 rfl), (F.2.2 1 (l (by omega))).2.2.2.2 1 (nF (by decide) (by decide) (by decide) (by decide) (by decide))]
      exact c2
    · rw [(F.2.2 77 (l (by omega))).2.2.2.2 18 (nF7 18 rfl), (F.2.2 0 (l (by omega))).2.2.2.2 8 (nF (by decide) (by decide) (by decide) (by decide) (by decide))]
      exact c3
  · refine SL_ag (SL_fq G lk_low F l18 (fun j => nF (by decide) (by decide) (by decide) (by decide) (by decide)) (fun z => z) (fun j h1 h2 => nA (Or.inr ⟨?_, by omega⟩)) b5) (AGB_eq 0 (fun a h1 h2 => ea a h1 (by omega)))
    have hh : ∀ j, j < 18 → sA (3 + j) = false := by decide
    exact hh j h2
  · have nF7 : ¬ lkF 77 62 := fun z => by
      rcases z with z | z
      · have := sF_lt z; omega
      · cases z
    exact XI_ag (XI_fq G L lk_low F (nF (by decide) (by decide) (by decide) (by decide) (by decide)) nF7 (fun z => z) b6) (fun i _ _ => AGB_eq (i + 1) (fun a h1 h2 => ea a h1 (by omega)))
/-- a look of the class, then one of the reference -/
theorem BK_Fr (G : av_Gd g) (B : BK g) (F : Fr g h) (I : IC h) : BK h := by
  obtain ⟨n, a, m, x⟩ := B.2.2.1
  exact BK_look G B (FQ_Fr F) I ⟨n, a, m, IMF_Fr B.1.1 F x⟩
theorem BK_FM {n a m : Int} (G : av_Gd g) (B : BK g) (F : FM g h) (x : IMF n a m h) : BK h := BK_look G B (FQ_FM F) (IC_FM F B.1) ⟨n, a, m, x⟩
end
