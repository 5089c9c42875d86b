/-! THE CLASS'S CASES AS PICTURES: cells U i, sizes S i -/
def CSP (U : Nat → Nat → Int) (S : Nat → Nat) (n : Int) (h : av_H) : Prop := hF h 3 3 = n ∧ (0 ≤ n ∧ n ≤ 16) ∧ ∀ i : Nat, (i : Int) < n → ∃ t c, hR h 4 i = some t ∧ CO h t c (S i) (cbv (U i) (S i)) ∧ hA h c = U i
/-- a case as texts make it, the i-th -/
def CWF (U : Nat → Int) (s i : Nat) : Prop := UW U s ∧ (1 ≤ s ∧ s ≤ 12) ∧ (∀ k, k < s → -1 ≤ U (21 * k + 6) ∧ U (21 * k + 6) < (i : Int)) ∧ (∀ q, q < s → U (21 * q + 20) = tnv U q) ∧ (∀ j, U j ≤ 2000 ∨ j % 21 = 20) ∧ (∀ x : Int, 0 ≤ x → x ≤ 1023 → ∀ k, k < s → ∀ j, j < 3 → -1 ≤ hrv U x k j ∧ hrv U x k j ≤ 5000)
/-- rows that don't belong to the benches, to what is sure and to what is needed stay -/
def FJ (g h : av_H) : Prop := Fr g h ∧ hG h = hG g ∧ hF h = hF g ∧ ∀ q, q ≠ 27 → q ≠ 28 → hA h q = hA g q
theorem FJ_rf (h : av_H) : FJ h h := ⟨Fr_rf h, rfl, rfl, fun _ _ _ => rfl⟩
theorem FJ_tr {g h k : av_H} (a : FJ g h) (b : FJ h k) : FJ g k := ⟨Fr_tr a.1 b.1, b.2.1.trans a.2.1, b.2.2.1.trans a.2.2.1, fun q e1 e2 => (b.2.2.2 q e1 e2).trans (a.2.2.2 q e1 e2)⟩
theorem FJ_w {g h : av_H} {q i : Nat} {v : Int} (F : FJ g h) (hq : q = 27 ∨ q = 28) : FJ g (hwA h q i v) := ⟨Fr_wA F.1 (by rcases hq with e | e <;> subst e <;> rfl), F.2.1, F.2.2.1, fun p e1 e2 => by
  rw [hA_ne (by omega)]
  exact F.2.2.2 p e1 e2⟩
theorem CSP_fr {U : Nat → Nat → Int} {S : Nat → Nat} {n : Int} {g h : av_H} (L : LY g) (x : CSP U S n g) (F : Fr g h) : CSP U S n h := by
  obtain ⟨x1, x2, x3⟩ := x
  refine ⟨(F.2.2.2.2.2.1 3 3 rfl).trans x1, x2, fun i hi => ?_⟩
  obtain ⟨t, c, y1, y2, y3⟩ := x3 i hi
  exact ⟨t, c, by rw [F.2.2.2.1]; exact y1, CO_fr L y2 F, (F.2.2.2.2.2.2 c (sA_cells y2.2.2.2.2.2.2.2.1)).trans y3⟩
/-- the class between calls of its court -/
def CJ (U : Nat → Nat → Int) (S : Nat → Nat) (n : Int) (sr nd : Nat → Int) (h : av_H) : Prop := IC h ∧ CSP U S n h ∧ hA h 27 = sr ∧ hA h 28 = nd
section
variable {U : Nat → Nat → Int} {S : Nat → Nat} {n : Int} {sr nd : Nat → Int} {g h : av_H}
theorem cj_27 (x : CJ U S n sr nd h) (i : Nat) (v : Int) : CJ U S n (av_u1 sr i v) nd (hwA h 27 i v) := by
  have F : Fr h (hwA h 27 i v) := Fr_wA (Fr_rf h) rfl
  exact ⟨IC_wA x.1 rfl (fun z => by cases z), CSP_fr x.1.1 x.2.1 F, by rw [hA_wu, x.2.2.1], (hA_ne (by decide)).trans x.2.2.2⟩
theorem cj_28 (x : CJ U S n sr nd h) (i : Nat) (v : Int) : CJ U S n sr (av_u1 nd i v) (hwA h 28 i v) := by
  have F : Fr h (hwA h 28 i v) := Fr_wA (Fr_rf h) rfl
  exact ⟨IC_wA x.1 rfl (fun z => by cases z), CSP_fr x.1.1 x.2.1 F, (hA_ne (by decide)).trans x.2.2.1, by rw [hA_wu, x.2.2.2]⟩
end
section
variable {sc : av_Sr} {cd : List (Nat × av_E)} {Q : Option av_V → av_H → Prop} {pc p' : Nat} {lv : av_L} {r' : List av_V} {g h : av_H} {U : Nat → Nat → Int} {S : Nat → Nat} {n : Int} {sr nd : Nat → Int}
theorem xj_28 {i v : Int} (hx : cd.lookup pc = some (av_q (.bastore))) (hp : pc + 1 = p') (x : CJ U S n sr nd h) (F : FJ g h) (hi : 0 ≤ i ∧ i < 16) (hv : v = 0 ∨ v = 1) (hw : ∀ h', CJ U S n sr (av_u1 nd i.toNat v) h' → FJ g h' → av_wp sc cd p' lv r' h' Q) : av_wp sc cd pc lv (.inl v :: .inl i :: .inr (.inr (.inl (some 28))) :: r') h Q :=
  wq_zs (n := 16) hx hp (ly_k x.1.1 28 rfl) (by omega) hv (hw _ (cj_28 x _ _) (FJ_w F (Or.inr rfl)))
theorem xj_27 {i v : Int} (hx : cd.lookup pc = some (av_q (.iastore))) (hp : pc + 1 = p') (x : CJ U S n sr nd h) (F : FJ g h) (hi : 0 ≤ i ∧ i < 144) (hw : ∀ h', CJ U S n (av_u1 sr i.toNat v) nd h' → FJ g h' → av_wp sc cd p' lv r' h' Q) : av_wp sc cd pc lv (.inl v :: .inl i :: .inr (.inr (.inl (some 27))) :: r') h Q :=
  wq_as (n := 144) hx hp (ly_k x.1.1 27 rfl) (by omega) (hw _ (cj_27 x _ _) (FJ_w F (Or.inl rfl)))
end
/-! what is needed -/
def gvn (u : Nat → Int) (s j : Nat) : Prop := ∃ k, k < s ∧ u (21 * k + 6) = (j : Int) ∧ j < 16
/-- the first k sayings' givens are marked -/
def MGI (u : Nat → Int) (nd : Nat → Int) (k : Nat) (nd' : Nat → Int) : Prop := (∀ j, j < 16 → (nd' j = 1 ↔ (nd j = 1 ∨ gvn u k j))) ∧ ∀ j, j < 16 → 0 ≤ nd' j ∧ nd' j ≤ 1
section
variable {u nd nd' : Nat → Int} {k : Nat} {v : Int}
theorem MGI_0 (h : ∀ j, j < 16 → 0 ≤ nd j ∧ nd j ≤ 1) : MGI u nd 0 nd := ⟨fun j _ => ⟨Or.inl, fun z => z.elim id (fun ⟨k, hk, _⟩ => by omega)⟩, h⟩
theorem MGI_n (x : MGI u nd k nd') (e : u (21 * k + 6) = v) (h : v < 0 ∨ 16 ≤ v) : MGI u nd (k + 1) nd' := by
  refine ⟨fun j hj => ?_, x.2⟩
  rw [x.1 j hj]
  constructor
  · rintro (z | ⟨q, q1, q2, q3⟩)
    · exact Or.inl z
    · exact Or.inr ⟨q, by omega, q2, q3⟩
  · rintro (z | ⟨q, q1, q2, q3⟩)
    · exact Or.inl z
    · by_cases c : q = k
      · rw [c, e] at q2
        omega
      · exact Or.inr ⟨q, by omega, q2, q3⟩
theorem MGI_s (x : MGI u nd k nd') (e : u (21 * k + 6) = v) (h : 0 ≤ v ∧ v < 16) : MGI u nd (k + 1) (av_u1 nd' v.toNat 1) := by
  refine ⟨fun j hj => ?_, fun j hj => ?_⟩
  · by_cases c : j = v.toNat
    · rw [c, u1_eq]
      exact ⟨fun _ => Or.inr ⟨k, by omega, by rw [e]; omega, by omega⟩, fun _ => rfl⟩
    · rw [u1_ne c, x.1 j hj]
      constructor
      · rintro (z | ⟨q, q1, q2, q3⟩)
        · exact Or.inl z
        · exact Or.inr ⟨q, by omega, q2, q3⟩
      · rintro (z | ⟨q, q1, q2, q3⟩)
        · exact Or.inl z
        · by_cases d : q = k
          · rw [d, e] at q2
            omega
          · exact Or.inr ⟨q, by omega, q2, q3⟩
  · by_cases c : j = v.toNat
    · rw [c, u1_eq]
      omega
    · rw [u1_ne c]
      exact x.2 j hj
end
/-- what is needed has what it needs marked: those above j -/
def NDI (U : Nat → Nat → Int) (S : Nat → Nat) (u : Nat → Int) (s : Nat) (m : Nat) (j : Int) (nd : Nat → Int) : Prop := (∀ i, i < 16 → 0 ≤ nd i ∧ nd i ≤ 1) ∧ (∀ g, gvn u s g → nd g = 1) ∧ ∀ i : Nat, j < (i : Int) → i < m → nd i = 1 → ∀ g, gvn (U i) (S i) g → nd g = 1
theorem gvn_l {u : Nat → Int} {s j : Nat} (x : gvn u s j) : j < 16 := by
  obtain ⟨_, _, _, h⟩ := x
  exact h
theorem NDI_0 {U : Nat → Nat → Int} {S : Nat → Nat} {u : Nat → Int} {s m : Nat} {nd nd' : Nat → Int} (M : MGI u nd s nd') : NDI U S u s m ((m : Int) - 1) nd' := ⟨M.2, fun g hg => (M.1 g (gvn_l hg)).mpr (Or.inr hg), fun i h1 h2 => by omega⟩
theorem NDI_s {U : Nat → Nat → Int} {S : Nat → Nat} {u : Nat → Int} {s m : Nat} {j : Int} {nd nd' : Nat → Int} (x : NDI U S u s m j nd) (hj : 0 ≤ j) (hm : m ≤ 16) (W : ∀ k, k < S j.toNat → U j.toNat (21 * k + 6) < j) (M : MGI (U j.toNat) nd (S j.toNat) nd') : NDI U S u s m (j - 1) nd' := by
  refine ⟨M.2, fun g hg => (M.1 g (gvn_l hg)).mpr (Or.inl (x.2.1 g hg)), fun i h1 h2 h3 g hg => ?_⟩
  by_cases c : i = j.toNat
  · subst c
    exact (M.1 g (gvn_l hg)).mpr (Or.inr hg)
  · refine (M.1 g (gvn_l hg)).mpr (Or.inl (x.2.2 i (by omega) h2 ?_ g hg))
    rcases (M.1 i (by omega)).mp h3 with z | ⟨q, q1, q2, q3⟩
    · exact z
    · have := W q q1
      omega
theorem NDI_n {U : Nat → Nat → Int} {S : Nat → Nat} {u : Nat → Int} {s m : Nat} {j : Int} {nd : Nat → Int} (x : NDI U S u s m j nd) (hj : 0 ≤ j) (h : nd j.toNat = 0) : NDI U S u s m (j - 1) nd := by
  refine ⟨x.1, x.2.1, fun i h1 h2 h3 g hg => ?_⟩
  by_cases c : i = j.toNat
  · rw [c, h] at h3
    omega
  · exact x.2.2 i (by omega) h2 h3 g hg
/-! what is sure -/
def SUI (U : Nat → Nat → Int) (S : Nat → Nat) (ro : Nat → Int) (y : Int) (m : Nat) (sr : Nat → Int) : Prop := ∀ i, i < m → sr (y.toNat + i) = 0 ∨ sr (y.toNat + i) = sre U S ro i
/-- all that is needed below j is known -/
def SUJ (U : Nat → Nat → Int) (S : Nat → Nat) (ro nd : Nat → Int) (y : Int) (m : Nat) (j : Nat) (sr : Nat → Int) : Prop := SUI U S ro y m sr ∧ ∀ i, i < j → i < m → nd i = 1 → sr (y.toNat + i) = sre U S ro i
/-- nothing is left to mark -/
theorem NDI_m {U : Nat → Nat → Int} {S : Nat → Nat} {u : Nat → Int} {s m : Nat} {j : Int} {nd : Nat → Int} (x : NDI U S u s m j nd) (hj : j < 0) : NDI U S u s m (-1) nd := ⟨x.1, x.2.1, fun i _ h2 h3 g hg => x.2.2 i (by omega) h2 h3 g hg⟩
