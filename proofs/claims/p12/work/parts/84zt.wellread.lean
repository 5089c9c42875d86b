/-! WHAT IS READ IS WELL FORMED: kinds, hands, whom -/
section
variable {b : Nat → Int} {lim row : Nat} {t : TT} {r : Nat → Int}
theorem rsT_in {ah : Int} {j : Nat} (hj : j < row + 5 ∨ row + 15 ≤ j) : (rsT b lim row ah t r).2 j = r j := by
  have w := rsW_in (b := b) (lim := lim) (row := row) (j := j) (by omega) 900 t r
  unfold rsT
  generalize rsW b lim row 900 t r = x at w ⊢
  rw [← w]
  have e1 : (rsT1 b lim row x).2 j = x.2 j := by
    unfold rsT1
    split
    · rfl
    · exact u1_ne (by omega)
  rw [← e1]
  unfold rsT2
  split
  · rfl
  · exact u1_ne (by omega)
theorem rsT_ok {ah : Int} (h : (rsT b lim row ah t r).1.2.2.2 = -1) : t.2.2.2 = -1 := by
  by_cases e : t.2.2.2 = -1
  · exact e
  · rw [rsT_w e] at h
    exact absurd h e
theorem rsP_ok {i : Nat} {most : Int} (h : (rsP b lim row i most t r).1.2.2.2 = -1) : t.2.2.2 = -1 := by
  by_cases e : t.2.2.2 = -1
  · exact e
  · rw [rsP_w e] at h
    exact absurd h e
theorem rsM3_ok {x : TT × (Nat → Int)} (h : (rsM3 b lim row x).1.2.2.2 = -1) : x.1.2.2.2 = -1 := by
  by_cases e : x.1.2.2.2 = -1
  · exact e
  · rw [rsM3_w e] at h
    exact absurd h e
theorem rsM3_in {x : TT × (Nat → Int)} {j : Nat} (hj : j < row + 8) : (rsM3 b lim row x).2 j = x.2 j := by
  unfold rsM3
  have p1 := rsP_in (b := b) (lim := lim) (row := row) (t := cho b lim x.1 9) (r := x.2) (i := 1) (most := 999) (j := j) (by omega) (by omega)
  generalize rsP b lim row 1 999 (cho b lim x.1 9) x.2 = y at p1 ⊢
  rw [← p1]
  have e1 : (rsM1 b lim row y).2 j = y.2 j := by
    unfold rsM1
    split
    · rfl
    · exact rsP_in (by omega) (by omega)
  rw [← e1]
  unfold rsM2
  split
  · rfl
  · exact u1_ne (by omega)
theorem rsM_4 (h : (rsM b lim row t r).1.2.2.2 = -1) : 0 ≤ (rsM b lim row t r).2 (row + 4) := by
  have g1 := pkv_le (b := b) (t := t) 6 3 rfl
  have e0 : (rsM0 b lim row t r).2 (row + 4) = pkv b t 6 := by
    unfold rsM0
    rw [rsP_in (by omega) (by omega)]
    exact u1_eq
  have o0 : (rsM0 b lim row t r).1.2.2.2 = -1 → pkv b t 6 ≠ -1 := fun z => (cho_o (cho_o (rsP_ok z)).1).2.1
  unfold rsM at h ⊢
  split
  · next c =>
    rw [if_pos c] at h
    rw [rsM3_in (by omega), e0]
    have := o0 (rsM3_ok h)
    omega
  · next c =>
    rw [if_neg c] at h
    rw [e0]
    have := o0 h
    omega
theorem rsM_18 : (rsM b lim row t r).2 (row + 18) = r (row + 18) ∨ (rsM b lim row t r).2 (row + 18) = 2 := by
  have e0 : (rsM0 b lim row t r).2 (row + 18) = r (row + 18) := by
    unfold rsM0
    rw [rsP_in (by omega) (by omega)]
    exact u1_ne (by omega)
  have e3 : ∀ x : TT × (Nat → Int), (rsM3 b lim row x).2 (row + 18) = x.2 (row + 18) ∨ (rsM3 b lim row x).2 (row + 18) = 2 := by
    intro x
    unfold rsM3
    have p1 := rsP_in (b := b) (lim := lim) (row := row) (t := cho b lim x.1 9) (r := x.2) (i := 1) (most := 999) (j := row + 18) (by omega) (by omega)
    generalize rsP b lim row 1 999 (cho b lim x.1 9) x.2 = y at p1 ⊢
    rw [← p1]
    have e1 : (rsM1 b lim row y).2 (row + 18) = y.2 (row + 18) := by
      unfold rsM1
      split
      · rfl
      · exact rsP_in (by omega) (by omega)
    rw [← e1]
    unfold rsM2
    split
    · exact Or.inl rfl
    · exact Or.inr u1_eq
  unfold rsM
  split
  · rcases e3 (rsM0 b lim row t r) with z | z
    · exact Or.inl (z.trans e0)
    · exact Or.inr z
  · exact Or.inl e0
theorem rsB_3 : (rsB b lim row t r).2 row = 3 := by
  unfold rsB
  rw [rsW_in (by omega)]
  unfold rsB0
  split
  · exact (u1_ne (by omega)).trans u1_eq
  · exact u1_eq
theorem rsB_1 : (rsB b lim row t r).2 (row + 1) = r (row + 1) := by
  unfold rsB
  rw [rsW_in (by omega)]
  unfold rsB0
  split
  · exact (u1_ne (by omega)).trans (u1_ne (by omega))
  · exact u1_ne (by omega)
theorem rsB_18 : (rsB b lim row t r).2 (row + 18) = r (row + 18) := by
  unfold rsB
  rw [rsW_in (by omega)]
  unfold rsB0
  split
  · exact (u1_ne (by omega)).trans (u1_ne (by omega))
  · exact u1_ne (by omega)
theorem rsB_2 {q : Nat} (e : r (row + 3) = (q : Int)) (hq : q < 12) (hn : q * 21 + 1 ≠ row) : (rsB b lim row t r).2 (row + 2) = r (q * 21 + 1) := by
  unfold rsB
  rw [rsW_in (by omega)]
  unfold rsB0
  rw [u1_ne (show row + 3 ≠ row by omega), e, if_pos (by omega), u1_eq, Int.toNat_natCast, u1_ne hn]
end
/-- of one saying -/
def WRD (k : Nat) (R : Nat → Int) : Prop := 0 ≤ R (k * 21) ∧ 0 ≤ R (k * 21 + 1) ∧ (R (k * 21) < 2 → R (k * 21 + 3) = -1) ∧ ((R (k * 21) = 0 ∨ R (k * 21) = 1 ∨ R (k * 21) = 3) → 0 ≤ R (k * 21 + 2)) ∧ 0 ≤ R (k * 21 + 4) ∧ (R (k * 21 + 18) = 0 ∨ R (k * 21 + 18) = 2)
theorem rsy_wd {b : Nat → Int} {lim k : Nat} {ah : Int} {t : TT} {r : Nat → Int} (hk : k ≤ 11) (hr : ∀ q : Nat, q < k → 0 ≤ r (q * 21 + 1)) (h : (rsy b lim k ah t r).1.2.2.2 = -1) : WRD k (rsy b lim k ah t r).2 := by
  have g0 := pkv_le (b := b) (t := t) 0 6 rfl
  have g1 := pkv_le (b := b) (t := cho b lim t 0) 1 2 rfl
  have e0 : (rs1 b lim k t r).2 (k * 21) = rsK b t := by
    show av_u1 (av_u1 (rs0 k r) (k * 21) (rsK b t)) (k * 21 + 1) _ (k * 21) = _
    rw [u1_ne (by omega), u1_eq]
  have e1 : (rs1 b lim k t r).2 (k * 21 + 1) = pkv b (cho b lim t 0) 1 := by
    show av_u1 (av_u1 (rs0 k r) (k * 21) (rsK b t)) (k * 21 + 1) _ (k * 21 + 1) = _
    exact u1_eq
  have eo : ∀ o, 2 ≤ o → o < 21 → (rs1 b lim k t r).2 (k * 21 + o) = if (7 ≤ o ∧ o < 10) ∨ 15 ≤ o then 0 else -1 := fun o h1 h2 => by
    show av_u1 (av_u1 (rs0 k r) (k * 21) (rsK b t)) (k * 21 + 1) _ (k * 21 + o) = _
    rw [u1_ne (by omega), u1_ne (by omega), rs0_v h2]
  have e3 : (rs1 b lim k t r).2 (k * 21 + 3) = -1 := eo 3 (by omega) (by omega)
  have e18 : (rs1 b lim k t r).2 (k * 21 + 18) = 0 := eo 18 (by omega) (by omega)
  have ej : ∀ j, j < k * 21 → (rs1 b lim k t r).2 j = r j := fun j hj => by
    show av_u1 (av_u1 (rs0 k r) (k * 21) (rsK b t)) (k * 21 + 1) _ j = r j
    rw [u1_ne (by omega), u1_ne (by omega), rs0_n (by omega)]
  have eok : (rs1 b lim k t r).1.2.2.2 = -1 → 0 ≤ rsK b t ∧ 0 ≤ pkv b (cho b lim t 0) 1 := fun z => by
    have z1 := cho_o z
    have z2 := (cho_o z1.1).2.1
    have z3 := z1.2.1
    refine ⟨?_, by omega⟩
    unfold rsK
    split <;> omega
  have k3 : rsK b t ≠ 3 := by
    unfold rsK
    split <;> omega
  clear eo g0 g1
  unfold rsy at h ⊢
  generalize rsK b t = kind at e0 eok k3 h ⊢
  generalize pkv b (cho b lim t 0) 1 = hd at e1 eok
  generalize rs1 b lim k t r = x at e0 e1 e3 e18 ej eok h ⊢
  have o5 : ∀ u : TT × (Nat → Int), (rs5 b lim k u).1.2.2.2 = -1 → u.1.2.2.2 = -1 ∧ 0 ≤ (rs5 b lim k u).2 (k * 21 + 4) := fun u z => ⟨rsM_ok (sem_o z), rsM_4 (sem_o z)⟩
  have i5 : ∀ (u : TT × (Nat → Int)) (j : Nat), j < k * 21 + 4 → (rs5 b lim k u).2 j = u.2 j := fun u j hj => rsM_in hj
  have i18 : ∀ u : TT × (Nat → Int), u.2 (k * 21 + 18) = 0 → (rs5 b lim k u).2 (k * 21 + 18) = 0 ∨ (rs5 b lim k u).2 (k * 21 + 18) = 2 := fun u z => by
    rcases rsM_18 (b := b) (lim := lim) (row := k * 21) (t := u.1) (r := u.2) with y | y
    · exact Or.inl (y.trans z)
    · exact Or.inr y
  have h4 := (o5 _ h).1
  have h44 := (o5 _ h).2
  unfold WRD
  rw [i5 _ (k * 21) (by omega), i5 _ (k * 21 + 1) (by omega), i5 _ (k * 21 + 2) (by omega), i5 _ (k * 21 + 3) (by omega)]
  by_cases c : kind = 0 ∨ kind = 1
  · have e4 : ∀ y, rs4 b lim k kind y = y := fun y => by
      unfold rs4
      rw [if_neg (by omega)]
    rw [e4] at h4 ⊢
    rw [e4] at h44
    have e2 : rs2 b lim k kind x = rsO b lim (k * 21) x.1 x.2 := by
      unfold rs2
      rw [if_pos c]
    rw [e2] at h4 h44 ⊢
    have h2 : (rsO b lim (k * 21) x.1 x.2).1.2.2.2 = -1 := by
      unfold rs3 at h4
      split at h4
      · exact rsT_ok h4
      · exact h4
    have i3 : ∀ j, j < k * 21 + 5 ∨ k * 21 + 15 ≤ j → (rs3 b lim k ah kind (rsO b lim (k * 21) x.1 x.2)).2 j = (rsO b lim (k * 21) x.1 x.2).2 j := fun j hj => by
      unfold rs3
      split
      · exact rsT_in hj
      · rfl
    have r18 := i18 (rs3 b lim k ah kind (rsO b lim (k * 21) x.1 x.2))
    rw [i3 (k * 21 + 18) (by omega)] at r18
    rw [i3 (k * 21) (by omega), i3 (k * 21 + 1) (by omega), i3 (k * 21 + 2) (by omega), i3 (k * 21 + 3) (by omega)]
    have g1 := pkv_le (b := b) (t := x.1) 1 2 rfl
    unfold rsO at h2 r18 h44 ⊢
    split at h2
    · exact absurd (cho_o h2).1 fal_ne
    · next q =>
      have z := cho_o h2
      have ok := eok z.1
      have z2 := z.2.1
      rw [if_neg q] at r18 h44 ⊢
      have f0 : av_u1 x.2 (k * 21 + 2) (pkv b x.1 1) (k * 21) = kind := (u1_ne (by omega)).trans e0
      have f1 : av_u1 x.2 (k * 21 + 2) (pkv b x.1 1) (k * 21 + 1) = hd := (u1_ne (by omega)).trans e1
      have f3 : av_u1 x.2 (k * 21 + 2) (pkv b x.1 1) (k * 21 + 3) = -1 := (u1_ne (by omega)).trans e3
      have f18 : av_u1 x.2 (k * 21 + 2) (pkv b x.1 1) (k * 21 + 18) = 0 := (u1_ne (by omega)).trans e18
      refine ⟨?_, ?_, fun _ => f3, fun _ => ?_, h44, r18 f18⟩
      · show 0 ≤ av_u1 x.2 (k * 21 + 2) (pkv b x.1 1) (k * 21)
        rw [f0]; exact ok.1
      · show 0 ≤ av_u1 x.2 (k * 21 + 2) (pkv b x.1 1) (k * 21 + 1)
        rw [f1]; exact ok.2
      · show 0 ≤ av_u1 x.2 (k * 21 + 2) (pkv b x.1 1) (k * 21 + 2)
        rw [u1_eq]; omega
  · have e3' : rs3 b lim k ah kind (rs2 b lim k kind x) = rs2 b lim k kind x := by
      unfold rs3
      rw [if_neg (by omega)]
    rw [e3'] at h4 h44 ⊢
    have e2 : rs2 b lim k kind x = rsS b lim k kind x.1 x.2 := by
      unfold rs2
      rw [if_neg c]
    rw [e2] at h4 h44 ⊢
    have r4 := rs4_in h4
    have o1 := rsS_o r4.1
    have ok := eok o1.1
    rw [o1.2.2.2] at h4 h44 ⊢
    generalize vlv b x.1 = w at o1 h4 h44 ⊢
    have f0 : av_u1 x.2 (k * 21 + 3) w (k * 21) = kind := (u1_ne (by omega)).trans e0
    have f1 : av_u1 x.2 (k * 21 + 3) w (k * 21 + 1) = hd := (u1_ne (by omega)).trans e1
    have f3 : av_u1 x.2 (k * 21 + 3) w (k * 21 + 3) = w := u1_eq
    have f18 : av_u1 x.2 (k * 21 + 3) w (k * 21 + 18) = 0 := (u1_ne (by omega)).trans e18
    have r18 := i18 (rs4 b lim k kind (adv b lim x.1, av_u1 x.2 (k * 21 + 3) w))
    by_cases d : kind = 2 ∧ ¬ pkv b (adv b lim x.1) 5 = -1
    · have e4 : rs4 b lim k kind (adv b lim x.1, av_u1 x.2 (k * 21 + 3) w) = rsB b lim (k * 21) (adv b lim (adv b lim x.1)) (av_u1 x.2 (k * 21 + 3) w) := by
        unfold rs4
        rw [if_pos d.1, if_neg d.2]
      rw [e4] at h44 r18 ⊢
      rw [rsB_18] at r18
      have b2 := rsB_2 (b := b) (lim := lim) (row := k * 21) (t := adv b lim (adv b lim x.1)) (r := av_u1 x.2 (k * 21 + 3) w) (q := w.toNat) (by rw [f3]; omega) (by omega) (by omega)
      rw [rsB_3, rsB_1, b2, f1, u1_ne (by omega), ej _ (by omega)]
      exact ⟨by omega, ok.2, fun z => by omega, fun _ => hr _ (by omega), h44, r18 f18⟩
    · have e4 : rs4 b lim k kind (adv b lim x.1, av_u1 x.2 (k * 21 + 3) w) = (adv b lim x.1, av_u1 x.2 (k * 21 + 3) w) := by
        unfold rs4
        by_cases d1 : kind = 2
        · have d2 : pkv b (adv b lim x.1) 5 = -1 := Classical.byContradiction (fun z => d ⟨d1, z⟩)
          rw [if_pos d1, if_pos d2]
        · rw [if_neg d1]
      rw [e4] at h44 r18 ⊢
      refine ⟨?_, ?_, fun z => ?_, fun z => ?_, h44, r18 f18⟩
      · show 0 ≤ av_u1 x.2 (k * 21 + 3) w (k * 21)
        rw [f0]; exact ok.1
      · show 0 ≤ av_u1 x.2 (k * 21 + 3) w (k * 21 + 1)
        rw [f1]; exact ok.2
      · have z : av_u1 x.2 (k * 21 + 3) w (k * 21) < 2 := z
        rw [f0] at z
        have := ok.1
        omega
      · have z : av_u1 x.2 (k * 21 + 3) w (k * 21) = 0 ∨ av_u1 x.2 (k * 21 + 3) w (k * 21) = 1 ∨ av_u1 x.2 (k * 21 + 3) w (k * 21) = 3 := z
        rw [f0] at z
        omega
