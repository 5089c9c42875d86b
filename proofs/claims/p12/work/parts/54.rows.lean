/-! ALL SAYINGS OF A TEXT, as functions; what they leave as it was; their cells' bounds -/
section
variable (b : Nat → Int) (lim : Nat)
def rbf (ah : Int) : Nat → Nat → TT → (Nat → Int) → Nat × TT × (Nat → Int)
  | 0, k, t, r => (k, t, r)
  | f + 1, k, t, r => if t.2.2.2 = -1 ∧ t.2.2.1 ≠ 0 then (if k = 12 then (k, fal t, r) else rbf ah f (k + 1) (rsy b lim k ah t r).1 (rsy b lim k ah t r).2) else (k, t, r)
/-- behind those that were there: how many, the place, the rows -/
def rbA (ah : Int) (had : Nat) (t : TT) (r : Nat → Int) : Nat × TT × (Nat → Int) := ((rbf b lim ah (13 - had) had t r).1, (if (rbf b lim ah (13 - had) had t r).1 = had then fal (rbf b lim ah (13 - had) had t r).2.1 else (rbf b lim ah (13 - had) had t r).2.1), (rbf b lim ah (13 - had) had t r).2.2)
end
section
variable {b : Nat → Int} {lim : Nat} {t : TT} {row : Nat} {r : Nat → Int} {j : Nat}
theorem u1_out {f : Nat → Int} {i : Nat} {v : Int} (hj : j < row ∨ row + 21 ≤ j) (hi : row ≤ i ∧ i < row + 21) : av_u1 f i v j = f j := u1_ne (by omega)
theorem rsO_fr (hj : j < row ∨ row + 21 ≤ j) : (rsO b lim row t r).2 j = r j := by
  unfold rsO
  split <;> exact u1_out hj (by omega)
theorem rsW_fr (hj : j < row ∨ row + 21 ≤ j) : ∀ (n : Nat) (t : TT) (r : Nat → Int), (rsW b lim row n t r).2 j = r j := by
  intro n
  induction n with
  | zero => intro t r; rfl
  | succ n ih =>
    intro t r
    by_cases e : pkv b t 2 = -1
    · rw [rsW_e e]
    · rw [rsW_g e, ih]
      have g1 := pkv_le (b := b) (t := t) 2 4 rfl
      exact u1_out hj (by omega)
theorem rsT_fr {ah : Int} (hj : j < row ∨ row + 21 ≤ j) : (rsT b lim row ah t r).2 j = r j := by
  have e1 := rsW_fr (b := b) (lim := lim) hj 900 t r
  unfold rsT
  generalize rsW b lim row 900 t r = x at e1 ⊢
  have e2 : (rsT1 b lim row x).2 j = x.2 j := by
    unfold rsT1
    split
    · rfl
    · exact u1_out hj (by omega)
  generalize rsT1 b lim row x = y at e2 ⊢
  rw [← e1, ← e2]
  unfold rsT2
  split
  · rfl
  · exact u1_out hj (by omega)
theorem rsB0_fr (hj : j < row ∨ row + 21 ≤ j) : (rsB0 row r) j = r j := by
  unfold rsB0
  split
  · exact u1_out hj (by omega)
  · rfl
theorem rsB_fr (hj : j < row ∨ row + 21 ≤ j) : (rsB b lim row t r).2 j = r j := by
  unfold rsB
  rw [rsW_fr hj, rsB0_fr hj]
  exact u1_out hj (by omega)
theorem rsP_fr {i : Nat} {most : Int} (hi : i ≤ 2) (hj : j < row ∨ row + 21 ≤ j) : (rsP b lim row i most t r).2 j = r j := by
  unfold rsP rsP1
  split
  · exact u1_out hj (by omega)
  · exact (u1_out hj (by omega)).trans (u1_out hj (by omega))
theorem rsM_fr (hj : j < row ∨ row + 21 ≤ j) : (rsM b lim row t r).2 j = r j := by
  have e0 : (rsM0 b lim row t r).2 j = r j := by
    unfold rsM0
    rw [rsP_fr (by omega) hj]
    exact u1_out hj (by omega)
  have e3 : ∀ x : TT × (Nat → Int), (rsM3 b lim row x).2 j = x.2 j := by
    intro x
    unfold rsM3
    have p1 := rsP_fr (b := b) (lim := lim) (t := cho b lim x.1 9) (r := x.2) (i := 1) (most := 999) (by omega) hj
    generalize rsP b lim row 1 999 (cho b lim x.1 9) x.2 = y at p1 ⊢
    rw [← p1]
    have e1 : (rsM1 b lim row y).2 j = y.2 j := by
      unfold rsM1
      split
      · rfl
      · exact rsP_fr (by omega) hj
    rw [← e1]
    unfold rsM2
    split
    · rfl
    · exact u1_out hj (by omega)
  unfold rsM
  split
  · rw [e3, e0]
  · exact e0
theorem rsy_fr {k : Nat} {ah : Int} (hj : j < k * 21 ∨ k * 21 + 21 ≤ j) : (rsy b lim k ah t r).2 j = r j := by
  have e1 : (rs1 b lim k t r).2 j = r j := by
    show av_u1 (av_u1 (rs0 k r) (k * 21) (rsK b t)) (k * 21 + 1) _ j = r j
    rw [u1_out (row := k * 21) hj (by omega), u1_out (row := k * 21) hj (by omega), rs0_n (by omega)]
  unfold rsy
  generalize rsK b t = kind
  generalize rs1 b lim k t r = x at e1 ⊢
  have e2 : (rs2 b lim k kind x).2 j = x.2 j := by
    unfold rs2
    split
    · exact rsO_fr hj
    · exact rsS_fr (by omega)
  generalize rs2 b lim k kind x = y at e2 ⊢
  have e3 : (rs3 b lim k ah kind y).2 j = y.2 j := by
    unfold rs3
    split
    · exact rsT_fr hj
    · rfl
  generalize rs3 b lim k ah kind y = z at e3 ⊢
  have e4 : (rs4 b lim k kind z).2 j = z.2 j := by
    unfold rs4
    split
    · split
      · rfl
      · exact rsB_fr hj
    · rfl
  generalize rs4 b lim k kind z = u at e4 ⊢
  rw [← e1, ← e2, ← e3, ← e4]
  unfold rs5
  exact rsM_fr hj
end
/-! bounds of a row's cells -/
def VR (t : TT) (r : Nat → Int) (row : Nat) : Prop := t.2.2.2 = -1 → ∀ o, o < 21 → -1 ≤ r (row + o) ∧ r (row + o) ≤ 2000 ∧ (15 ≤ o → o < 19 → r (row + o) ≤ 16)
section
variable {b : Nat → Int} {lim : Nat} {t t' : TT} {row : Nat} {r : Nat → Int}
theorem vr_t (V : VR t r row) (e : t'.2.2.2 = -1 → t.2.2.2 = -1) : VR t' r row := fun z => V (e z)
theorem vr_u {i : Nat} {v : Int} (V : VR t r row) (o : Nat) (ei : i = row + o) (e : t.2.2.2 = -1 → -1 ≤ v ∧ v ≤ 2000 ∧ (15 ≤ o → o < 19 → v ≤ 16)) : VR t (av_u1 r i v) row := fun z q hq => by
  subst ei
  by_cases eq : q = o
  · subst eq
    rw [u1_eq]
    exact e z
  · rw [u1_ne (by omega)]
    exact V z q hq
theorem nmv_b {lo hi : Int} (h : (nmt b lim t lo hi).2.2.2 = -1) : lo ≤ nmv b t lo hi ∧ nmv b t lo hi ≤ hi := by
  have z := nmt_o h
  rw [z.2.2.2.2.1]
  exact ⟨z.2.2.1, z.2.2.2.1⟩
theorem vr_O (V : VR t r row) : VR (rsO b lim row t r).1 (rsO b lim row t r).2 row := by
  unfold rsO
  have g1 := pkv_le (b := b) (t := t) 1 2 rfl
  split
  · exact fun z => absurd ((cho_o z).1) fal_ne
  · exact vr_u (vr_t V (fun z => (cho_o z).1)) 2 rfl (fun _ => by omega)
theorem vr_S {k : Nat} {kind : Int} (V : VR t r (k * 21)) (hk : k ≤ 11) : VR (rsS b lim k kind t r).1 (rsS b lim k kind t r).2 (k * 21) := by
  unfold rsS
  split
  · next c => exact vr_u (vr_t V (fun z => z)) 3 rfl (fun _ => by have := c.1; omega)
  · exact fun z => absurd z fal_ne
theorem vr_W : ∀ (n : Nat) (t : TT) (r : Nat → Int), VR t r row → VR (rsW b lim row n t r).1 (rsW b lim row n t r).2 row := by
  intro n
  induction n with
  | zero => intro t r V; exact V
  | succ n ih =>
    intro t r V
    by_cases e : pkv b t 2 = -1
    · rw [rsW_e e]; exact V
    · rw [rsW_g e]
      have g1 := pkv_le (b := b) (t := t) 2 4 rfl
      refine ih _ _ (vr_u (vr_t V (fun z => (nmt_o z).1)) (10 + (pkv b t 2).toNat) (by omega) (fun z => ?_))
      have := nmv_b z
      omega
theorem vr_T {ah : Int} (ha : ah ≤ 16) (V : VR t r row) : VR (rsT b lim row ah t r).1 (rsT b lim row ah t r).2 row := by
  have e1 := vr_W (b := b) (lim := lim) (row := row) 900 t r V
  unfold rsT
  generalize rsW b lim row 900 t r = x at e1 ⊢
  have e2 : VR (rsT1 b lim row x).1 (rsT1 b lim row x).2 row := by
    unfold rsT1
    split
    · exact e1
    · exact vr_u (vr_t e1 (fun z => (nmt_o z).1)) 5 rfl (fun z => by have := nmv_b z; omega)
  generalize rsT1 b lim row x = y at e2 ⊢
  unfold rsT2
  split
  · exact e2
  · exact vr_u (vr_t e2 (fun z => (nmt_o z).1)) 6 rfl (fun z => by have := nmv_b z; omega)
theorem vr_B (V : VR t r row) (hr : t.2.2.2 = -1 → 0 ≤ r (row + 3) → r (row + 3) < 12 → -1 ≤ r ((r (row + 3)).toNat * 21 + 1) ∧ r ((r (row + 3)).toNat * 21 + 1) ≤ 2000) : VR (rsB b lim row t r).1 (rsB b lim row t r).2 row := by
  unfold rsB
  refine vr_W 900 _ _ ?_
  have V1 : VR t (av_u1 r row 3) row := vr_u V 0 rfl (fun _ => by omega)
  have V2 : VR t (rsB0 row (av_u1 r row 3)) row := by
    unfold rsB0
    rw [u1_ne (show row + 3 ≠ row by omega)]
    split
    · next c =>
      refine vr_u V1 2 rfl (fun z => ?_)
      by_cases e : (r (row + 3)).toNat * 21 + 1 = row
      · rw [e, u1_eq]
        omega
      · rw [u1_ne e]
        have := hr z c.1 c.2
        omega
    · exact V1
  split
  · exact fun z => absurd z fal_ne
  · exact V2
theorem vr_P {i : Nat} {most : Int} (hi : i ≤ 2) (hm : most ≤ 1999) (V : VR t r row) : VR (rsP b lim row i most t r).1 (rsP b lim row i most t r).2 row := by
  have V1 : VR (nmt b lim t 0 most) (av_u1 r (row + 7 + i) (nmv b t 0 most)) row := vr_u (vr_t V (fun z => (nmt_o z).1)) (7 + i) (by omega) (fun z => by have := nmv_b z; omega)
  unfold rsP
  generalize nmt b lim t 0 most = t1 at V1 ⊢
  generalize nmv b t 0 most = v at V1 ⊢
  generalize av_u1 r (row + 7 + i) v = r1 at V1 ⊢
  unfold rsP1
  split
  · exact V1
  · refine vr_u (vr_t V1 (fun z => (nmt_o z).1)) (15 + i) (by omega) (fun z => ?_)
    have h1 := nmv_b z
    have h2 : mn2 most (v + 15) ≤ v + 15 := by unfold mn2; split <;> omega
    omega
theorem vr_M (V : VR t r row) : VR (rsM b lim row t r).1 (rsM b lim row t r).2 row := by
  have g1 := pkv_le (b := b) (t := t) 6 3 rfl
  have e0 : VR (rsM0 b lim row t r).1 (rsM0 b lim row t r).2 row := by
    unfold rsM0
    refine vr_P (by omega) (by omega) ?_
    exact vr_u (vr_t V (fun z => (cho_o (cho_o z).1).1)) 4 rfl (fun _ => by omega)
  have e3 : ∀ x : TT × (Nat → Int), VR x.1 x.2 row → VR (rsM3 b lim row x).1 (rsM3 b lim row x).2 row := by
    intro x V
    unfold rsM3
    have p1 : VR (rsP b lim row 1 999 (cho b lim x.1 9) x.2).1 (rsP b lim row 1 999 (cho b lim x.1 9) x.2).2 row := vr_P (by omega) (by omega) (vr_t V (fun z => (cho_o z).1))
    generalize rsP b lim row 1 999 (cho b lim x.1 9) x.2 = y at p1 ⊢
    have e1 : VR (rsM1 b lim row y).1 (rsM1 b lim row y).2 row := by
      unfold rsM1
      split
      · exact p1
      · exact vr_P (by omega) (by omega) (vr_t p1 (fun z => z))
    generalize rsM1 b lim row y = u at e1 ⊢
    unfold rsM2
    split
    · exact e1
    · exact vr_u (vr_t e1 (fun z => z)) 18 rfl (fun _ => by omega)
  unfold rsM
  split
  · exact e3 _ e0
  · exact e0
theorem vr_y {k : Nat} {ah : Int} (hk : k ≤ 11) (ha : ah ≤ 16) (hr : ∀ q : Nat, q < k → -1 ≤ r (q * 21 + 1) ∧ r (q * 21 + 1) ≤ 2000) : VR (rsy b lim k ah t r).1 (rsy b lim k ah t r).2 (k * 21) := by
  have g0 := pkv_le (b := b) (t := t) 0 6 rfl
  have e1 : VR (rs1 b lim k t r).1 (rs1 b lim k t r).2 (k * 21) ∧ ∀ j, j < k * 21 → (rs1 b lim k t r).2 j = r j := by
    have g1 := pkv_le (b := b) (t := cho b lim t 0) 1 2 rfl
    have g2 : -1 ≤ rsK b t ∧ rsK b t ≤ 7 := by unfold rsK; split <;> omega
    constructor
    · refine vr_u (vr_u (fun _ o ho => ?_) 0 rfl (fun _ => by omega)) 1 rfl (fun _ => by omega)
      rw [rs0_v ho]
      split <;> omega
    · intro j hj
      show av_u1 (av_u1 (rs0 k r) (k * 21) (rsK b t)) (k * 21 + 1) _ j = r j
      rw [u1_ne (by omega), u1_ne (by omega), rs0_n (by omega)]
  unfold rsy
  generalize rsK b t = kind
  generalize rs1 b lim k t r = x at e1 ⊢
  have e2 : VR (rs2 b lim k kind x).1 (rs2 b lim k kind x).2 (k * 21) ∧ (∀ j, j < k * 21 → (rs2 b lim k kind x).2 j = r j) ∧ (kind = 2 → (rs2 b lim k kind x).1.2.2.2 = -1 → (rs2 b lim k kind x).2 (k * 21 + 3) < k) := by
    unfold rs2
    split
    · next c => exact ⟨vr_O e1.1, fun j hj => (rsO_fr (by omega)).trans (e1.2 j hj), fun h => by omega⟩
    · refine ⟨vr_S e1.1 hk, fun j hj => (rsS_fr (by omega)).trans (e1.2 j hj), fun _ zz => ?_⟩
      have o1 := rsS_o zz
      rw [o1.2.2.2]
      show av_u1 x.2 (k * 21 + 3) (vlv b x.1) (k * 21 + 3) < k
      rw [u1_eq]
      exact o1.2.2.1
  generalize rs2 b lim k kind x = y at e2 ⊢
  have e3 : VR (rs3 b lim k ah kind y).1 (rs3 b lim k ah kind y).2 (k * 21) ∧ (∀ j, j < k * 21 → (rs3 b lim k ah kind y).2 j = r j) ∧ (kind = 2 → (rs3 b lim k ah kind y).1.2.2.2 = -1 → (rs3 b lim k ah kind y).2 (k * 21 + 3) < k) := by
    unfold rs3
    split
    · exact ⟨vr_T ha e2.1, fun j hj => (rsT_fr (by omega)).trans (e2.2.1 j hj), fun h => by omega⟩
    · exact e2
  generalize rs3 b lim k ah kind y = z at e3 ⊢
  have e4 : VR (rs4 b lim k kind z).1 (rs4 b lim k kind z).2 (k * 21) := by
    unfold rs4
    split
    · next c =>
      split
      · exact e3.1
      · refine vr_B (vr_t e3.1 (fun z => z)) (fun zz h1 h2 => ?_)
        have h3 := e3.2.2 c zz
        rw [e3.2.1 _ (by omega)]
        exact hr _ (by omega)
    · exact e3.1
  generalize rs4 b lim k kind z = u at e4 ⊢
  unfold rs5
  exact vr_t (vr_M e4) (fun z => sem_o z)
end
/-- what a saying says of another: one ahead of it -/
theorem rsW_in {b : Nat → Int} {lim row j : Nat} (hj : j < row + 10 ∨ row + 15 ≤ j) : ∀ (n : Nat) (t : TT) (r : Nat → Int), (rsW b lim row n t r).2 j = r j := by
  intro n
  induction n with
  | zero => intro t r; rfl
  | succ n ih =>
    intro t r
    by_cases e : pkv b t 2 = -1
    · rw [rsW_e e]
    · rw [rsW_g e, ih]
      have g1 := pkv_le (b := b) (t := t) 2 4 rfl
      exact u1_ne (by omega)
theorem rsP_in {b : Nat → Int} {lim row i j : Nat} {most : Int} {t : TT} {r : Nat → Int} (h1 : j ≠ row + 7 + i) (h2 : j ≠ row + 15 + i) : (rsP b lim row i most t r).2 j = r j := by
  unfold rsP rsP1
  split
  · exact u1_ne h1
  · exact (u1_ne h2).trans (u1_ne h1)
theorem rsM_in {b : Nat → Int} {lim row j : Nat} {t : TT} {r : Nat → Int} (hj : j < row + 4) : (rsM b lim row t r).2 j = r j := by
  have e0 : (rsM0 b lim row t r).2 j = r j := by
    unfold rsM0
    rw [rsP_in (by omega) (by omega)]
    exact u1_ne (by omega)
  have e3 : ∀ x : TT × (Nat → Int), (rsM3 b lim row x).2 j = x.2 j := by
    intro x
    unfold rsM3
    have p1 := rsP_in (b := b) (lim := lim) (row := row) (t := cho b lim x.1 9) (r := x.2) (i := 1) (most := 999) (j := j) (by omega) (by omega)
    generalize rsP b lim row 1 999 (cho b lim x.1 9) x.2 = y at p1 ⊢
    rw [← p1]
    have e1 : (rsM1 b lim row y).2 j = y.2 j := by
      unfold rsM1
      split
      · rfl
      · exact rsP_in (by omega) (by omega)
    rw [← e1]
    unfold rsM2
    split
    · rfl
    · exact u1_ne (by omega)
  unfold rsM
  split
  · rw [e3, e0]
  · exact e0
theorem rsM_ok {b : Nat → Int} {lim row : Nat} {t : TT} {r : Nat → Int} (h : (rsM b lim row t r).1.2.2.2 = -1) : t.2.2.2 = -1 := by
  by_cases e : t.2.2.2 = -1
  · exact e
  · rw [rsM_w e] at h
    exact absurd h e
theorem rsB_ok {b : Nat → Int} {lim row : Nat} {t : TT} {r : Nat → Int} (h : (rsB b lim row t r).1.2.2.2 = -1) : t.2.2.2 = -1 := by
  by_cases e : t.2.2.2 = -1
  · exact e
  · rw [rsB_w e] at h
    exact absurd h e
theorem rsB_in {b : Nat → Int} {lim row : Nat} {t : TT} {r : Nat → Int} : (rsB b lim row t r).2 (row + 3) = r (row + 3) := by
  unfold rsB
  rw [rsW_in (by omega)]
  unfold rsB0
  split
  · exact (u1_ne (by omega)).trans (u1_ne (by omega))
  · exact u1_ne (by omega)
theorem adv_w {b : Nat → Int} {lim : Nat} {t : TT} : (adv b lim t).2.2.2 = t.2.2.2 := rfl
theorem rs4_in {b : Nat → Int} {lim k : Nat} {kind : Int} {y : TT × (Nat → Int)} (h : (rs4 b lim k kind y).1.2.2.2 = -1) : y.1.2.2.2 = -1 ∧ (rs4 b lim k kind y).2 (k * 21 + 3) = y.2 (k * 21 + 3) := by
  obtain ⟨t, r⟩ := y
  by_cases c1 : kind = 2
  · by_cases c2 : pkv b t 5 = -1
    · have e : rs4 b lim k kind (t, r) = (t, r) := by
        unfold rs4
        rw [if_pos c1, if_pos c2]
      rw [e] at h ⊢
      exact ⟨h, rfl⟩
    · have e : rs4 b lim k kind (t, r) = rsB b lim (k * 21) (adv b lim t) r := by
        unfold rs4
        rw [if_pos c1, if_neg c2]
      rw [e] at h ⊢
      have h1 := rsB_ok h
      rw [adv_w] at h1
      exact ⟨h1, rsB_in⟩
  · have e : rs4 b lim k kind (t, r) = (t, r) := by
      unfold rs4
      rw [if_neg c1]
    rw [e] at h ⊢
    exact ⟨h, rfl⟩
theorem rsy_sd {b : Nat → Int} {lim k : Nat} {ah : Int} {t : TT} {r : Nat → Int} (h : (rsy b lim k ah t r).1.2.2.2 = -1) (h2 : 2 ≤ (rsy b lim k ah t r).2 (k * 21)) : 0 ≤ (rsy b lim k ah t r).2 (k * 21 + 3) ∧ (rsy b lim k ah t r).2 (k * 21 + 3) < k := by
  have e1 : (rs1 b lim k t r).2 (k * 21) = rsK b t := by
    show av_u1 (av_u1 (rs0 k r) (k * 21) (rsK b t)) (k * 21 + 1) _ (k * 21) = _
    rw [u1_ne (by omega), u1_eq]
  unfold rsy at h h2 ⊢
  generalize rsK b t = kind at e1 h h2 ⊢
  generalize rs1 b lim k t r = x at e1 h h2 ⊢
  have h5 : ∀ u : TT × (Nat → Int), (rs5 b lim k u).1.2.2.2 = -1 → u.1.2.2.2 = -1 := fun u z => rsM_ok (sem_o z)
  have i5 : ∀ (u : TT × (Nat → Int)) (j : Nat), j < k * 21 + 4 → (rs5 b lim k u).2 j = u.2 j := fun u j hj => rsM_in hj
  rw [i5 _ _ (by omega)] at h2
  rw [i5 _ _ (by omega)]
  have h := h5 _ h
  by_cases c : kind = 0 ∨ kind = 1
  · exfalso
    have e2 : (rs2 b lim k kind x).2 (k * 21) = kind := by
      unfold rs2
      rw [if_pos c]
      unfold rsO
      split <;> exact (u1_ne (by omega)).trans e1
    have e3 : (rs3 b lim k ah kind (rs2 b lim k kind x)).2 (k * 21) = kind := by
      unfold rs3
      split
      · unfold rsT rsT2 rsT1
        have w := rsW_in (b := b) (lim := lim) (row := k * 21) (j := k * 21) (by omega) 900 (rs2 b lim k kind x).1 (rs2 b lim k kind x).2
        generalize rsW b lim (k * 21) 900 (rs2 b lim k kind x).1 (rs2 b lim k kind x).2 = y at w ⊢
        (repeat' split) <;> first | exact w.trans e2 | exact (u1_ne (by omega)).trans (w.trans e2) | exact (u1_ne (by omega)).trans ((u1_ne (by omega)).trans (w.trans e2))
      · exact e2
    have e4 : rs4 b lim k kind (rs3 b lim k ah kind (rs2 b lim k kind x)) = rs3 b lim k ah kind (rs2 b lim k kind x) := by
      unfold rs4
      rw [if_neg (by omega)]
    rw [e4, e3] at h2
    omega
  · have e3 : rs3 b lim k ah kind (rs2 b lim k kind x) = rs2 b lim k kind x := by
      unfold rs3
      rw [if_neg (by omega)]
    rw [e3] at h h2 ⊢
    have e2 : rs2 b lim k kind x = rsS b lim k kind x.1 x.2 := by
      unfold rs2
      rw [if_neg c]
    rw [e2] at h h2 ⊢
    have h4 := rs4_in h
    have o1 := rsS_o h4.1
    have o2 : (rsS b lim k kind x.1 x.2).2 (k * 21 + 3) = vlv b x.1 := by
      rw [o1.2.2.2]
      exact u1_eq
    rw [h4.2, o2]
    exact ⟨o1.2.1, o1.2.2.1⟩
def SD (s : Nat) (f : Nat → Int) : Prop := ∀ k, k < s → 2 ≤ f (k * 21) → 0 ≤ f (k * 21 + 3) ∧ f (k * 21 + 3) < k
/-! the loop over sayings -/
def VA (n : Nat) (r : Nat → Int) : Prop := ∀ j, j < n * 21 → -1 ≤ r j ∧ r j ≤ 100000 ∧ (15 ≤ j % 21 → j % 21 < 19 → r j ≤ 16) ∧ (j % 21 ≠ 20 → r j ≤ 2000)
section
variable {b : Nat → Int} {lim : Nat} {ah : Int}
theorem va_s {n : Nat} {r r' : Nat → Int} (V : VA n r) (e : ∀ j, j < n * 21 → r' j = r j) (w : ∀ o, o < 21 → -1 ≤ r' (n * 21 + o) ∧ r' (n * 21 + o) ≤ 2000 ∧ (15 ≤ o → o < 19 → r' (n * 21 + o) ≤ 16)) : VA (n + 1) r' := by
  intro j hj
  by_cases c : j < n * 21
  · rw [e j c]; exact V j c
  · have h1 := w (j - n * 21) (by omega)
    rw [show n * 21 + (j - n * 21) = j by omega] at h1
    refine ⟨h1.1, by omega, fun h2 h3 => h1.2.2 (by omega) (by omega), fun _ => h1.2.1⟩
theorem rbf_p (ha : ah ≤ 16) : ∀ (f k : Nat) (t : TT) (r : Nat → Int), k ≤ 12 → (t.2.2.2 = -1 → ∀ q : Nat, q < k → -1 ≤ r (q * 21 + 1) ∧ r (q * 21 + 1) ≤ 2000) → k ≤ (rbf b lim ah f k t r).1 ∧ (rbf b lim ah f k t r).1 ≤ 12 ∧ (∀ j, j < k * 21 ∨ 252 ≤ j → (rbf b lim ah f k t r).2.2 j = r j) ∧ ((rbf b lim ah f k t r).2.1.2.2.2 = -1 → t.2.2.2 = -1 ∧ (VA k r → VA (rbf b lim ah f k t r).1 (rbf b lim ah f k t r).2.2) ∧ (SD k r → SD (rbf b lim ah f k t r).1 (rbf b lim ah f k t r).2.2)) := by
  intro f
  induction f with
  | zero => intro k t r hk _; exact ⟨Nat.le_refl k, hk, fun _ _ => rfl, fun z => ⟨z, fun V => V, fun V => V⟩⟩
  | succ f ih =>
    intro k t r hk hq
    unfold rbf
    split
    · next c =>
      split
      · exact ⟨Nat.le_refl k, hk, fun _ _ => rfl, fun z => absurd z fal_ne⟩
      · have v := vr_y (b := b) (lim := lim) (t := t) (r := r) (k := k) (ah := ah) (by omega) ha (hq c.1)
        have fr : ∀ j, (j < k * 21 ∨ k * 21 + 21 ≤ j) → (rsy b lim k ah t r).2 j = r j := fun j hj => rsy_fr hj
        have i1 := ih (k + 1) (rsy b lim k ah t r).1 (rsy b lim k ah t r).2 (by omega) (fun z q h => by
          by_cases e : q < k
          · rw [fr _ (by omega)]; exact hq c.1 q e
          · have h1 := v z 1 (by omega)
            rw [show q = k by omega]
            exact ⟨h1.1, h1.2.1⟩)
        refine ⟨by omega, i1.2.1, fun j hj => (i1.2.2.1 j (by omega)).trans (fr j (by omega)), fun z => ?_⟩
        have i2 := i1.2.2.2 z
        refine ⟨c.1, fun V => i2.2.1 (va_s V (fun j hj => fr j (by omega)) (v i2.1)), fun V => i2.2.2 (fun q hq h2 => ?_)⟩
        by_cases e : q < k
        · have f1 := fr (q * 21) (by omega)
          have f2 := fr (q * 21 + 3) (by omega)
          rw [f1] at h2
          rw [f2]
          exact V q e h2
        · have e : q = k := by omega
          subst e
          exact rsy_sd i2.1 h2
    · exact ⟨Nat.le_refl k, hk, fun _ _ => rfl, fun z => ⟨z, fun V => V, fun V => V⟩⟩
end
