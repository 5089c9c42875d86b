/-! WHAT IS READ IS WELL FORMED: the bounds of each cell -/
def vlo (o : Nat) : Int := if o < 7 then -1 else if o < 10 then 0 else if o < 15 then -1 else 0
def vhi (ah : Int) (o : Nat) : Int := if o = 0 then 7 else if o ≤ 2 then 2 else if o = 3 then 11 else if o = 4 then 3 else if o = 5 then 1999 else if o = 6 then ah - 1 else if o = 7 then 1999 else if o < 15 then 999 else if o < 18 then 16 else if o = 18 then 2 else 0
def VB (ah : Int) (t : TT) (r : Nat → Int) (row : Nat) : Prop := t.2.2.2 = -1 → ∀ o, o < 21 → vlo o ≤ r (row + o) ∧ r (row + o) ≤ vhi ah o
section
variable {b : Nat → Int} {lim : Nat} {t t' : TT} {row : Nat} {r : Nat → Int} {ah : Int}
theorem vb_t (V : VB ah t r row) (e : t'.2.2.2 = -1 → t.2.2.2 = -1) : VB ah t' r row := fun z => V (e z)
theorem vb_u {i : Nat} {v : Int} (V : VB ah t r row) (o : Nat) (ei : i = row + o) (e : t.2.2.2 = -1 → vlo o ≤ v ∧ v ≤ vhi ah o) : VB ah t (av_u1 r i v) row := fun z q hq => by
  subst ei
  by_cases eq : q = o
  · subst eq
    rw [u1_eq]
    exact e z
  · rw [u1_ne (by omega)]
    exact V z q hq
theorem vb_O (V : VB ah t r row) : VB ah (rsO b lim row t r).1 (rsO b lim row t r).2 row := by
  unfold rsO
  have g1 := pkv_le (b := b) (t := t) 1 2 rfl
  split
  · exact fun z => absurd ((cho_o z).1) fal_ne
  · exact vb_u (vb_t V (fun z => (cho_o z).1)) 2 rfl (fun _ => by show (-1 : Int) ≤ _ ∧ _ ≤ (2 : Int); omega)
theorem vb_S {k : Nat} {kind : Int} (V : VB ah t r (k * 21)) (hk : k ≤ 11) : VB ah (rsS b lim k kind t r).1 (rsS b lim k kind t r).2 (k * 21) := by
  unfold rsS
  split
  · next c => exact vb_u (vb_t V (fun z => z)) 3 rfl (fun _ => by have := c.1; show (-1 : Int) ≤ _ ∧ _ ≤ (11 : Int); omega)
  · exact fun z => absurd z fal_ne
theorem vb_W : ∀ (n : Nat) (t : TT) (r : Nat → Int), VB ah t r row → VB ah (rsW b lim row n t r).1 (rsW b lim row n t r).2 row := by
  intro n
  induction n with
  | zero => intro t r V; exact V
  | succ n ih =>
    intro t r V
    by_cases e : pkv b t 2 = -1
    · rw [rsW_e e]; exact V
    · rw [rsW_g e]
      have g1 := pkv_le (b := b) (t := t) 2 4 rfl
      refine ih _ _ (vb_u (vb_t V (fun z => (nmt_o z).1)) (10 + (pkv b t 2).toNat) (by omega) (fun z => ?_))
      have := nmv_b z
      unfold vlo vhi
      rw [if_neg (by omega), if_neg (by omega), if_pos (by omega), if_neg (by omega), if_neg (by omega), if_neg (by omega), if_neg (by omega), if_neg (by omega), if_neg (by omega), if_neg (by omega), if_pos (by omega)]
      omega
theorem vb_T (V : VB ah t r row) : VB ah (rsT b lim row ah t r).1 (rsT b lim row ah t r).2 row := by
  have e1 := vb_W (b := b) (lim := lim) (row := row) (ah := ah) 900 t r V
  unfold rsT
  generalize rsW b lim row 900 t r = x at e1 ⊢
  have e2 : VB ah (rsT1 b lim row x).1 (rsT1 b lim row x).2 row := by
    unfold rsT1
    split
    · exact e1
    · exact vb_u (vb_t e1 (fun z => (nmt_o z).1)) 5 rfl (fun z => by have := nmv_b z; show (-1 : Int) ≤ _ ∧ _ ≤ (1999 : Int); omega)
  generalize rsT1 b lim row x = y at e2 ⊢
  unfold rsT2
  split
  · exact e2
  · exact vb_u (vb_t e2 (fun z => (nmt_o z).1)) 6 rfl (fun z => by have := nmv_b z; show (-1 : Int) ≤ _ ∧ _ ≤ ah - 1; omega)
theorem vb_B (V : VB ah t r row) (hr : t.2.2.2 = -1 → 0 ≤ r (row + 3) → r (row + 3) < 12 → (r (row + 3)).toNat * 21 + 1 ≠ row ∧ -1 ≤ r ((r (row + 3)).toNat * 21 + 1) ∧ r ((r (row + 3)).toNat * 21 + 1) ≤ 2) : VB ah (rsB b lim row t r).1 (rsB b lim row t r).2 row := by
  unfold rsB
  refine vb_W 900 _ _ ?_
  have V1 : VB ah t (av_u1 r row 3) row := vb_u V 0 rfl (fun _ => by show (-1 : Int) ≤ 3 ∧ (3 : Int) ≤ 7; omega)
  have V2 : VB ah t (rsB0 row (av_u1 r row 3)) row := by
    unfold rsB0
    rw [u1_ne (show row + 3 ≠ row by omega)]
    split
    · next c =>
      refine vb_u V1 2 rfl (fun z => ?_)
      have h := hr z c.1 c.2
      rw [u1_ne h.1]
      exact h.2
    · exact V1
  split
  · exact fun z => absurd z fal_ne
  · exact V2
theorem vb_P {i : Nat} {most : Int} (hi : i ≤ 2) (hm : most = if i = 0 then 1999 else 999) (V : VB ah t r row) : VB ah (rsP b lim row i most t r).1 (rsP b lim row i most t r).2 row := by
  have V1 : VB ah (nmt b lim t 0 most) (av_u1 r (row + 7 + i) (nmv b t 0 most)) row := vb_u (vb_t V (fun z => (nmt_o z).1)) (7 + i) (by omega) (fun z => by
    have := nmv_b z
    rcases (show i = 0 ∨ i = 1 ∨ i = 2 by omega) with e | e | e <;> subst e
    · show (0 : Int) ≤ _ ∧ _ ≤ (1999 : Int)
      rw [if_pos rfl] at hm
      omega
    · show (0 : Int) ≤ _ ∧ _ ≤ (999 : Int)
      rw [if_neg (by decide)] at hm
      omega
    · show (0 : Int) ≤ _ ∧ _ ≤ (999 : Int)
      rw [if_neg (by decide)] at hm
      omega)
  unfold rsP
  generalize nmt b lim t 0 most = t1 at V1 ⊢
  generalize nmv b t 0 most = v at V1 ⊢
  generalize av_u1 r (row + 7 + i) v = r1 at V1 ⊢
  unfold rsP1
  split
  · exact V1
  · refine vb_u (vb_t V1 (fun z => (nmt_o z).1)) (15 + i) (by omega) (fun z => ?_)
    have h1 := nmv_b z
    have h2 : mn2 most (v + 15) ≤ v + 15 := by unfold mn2; split <;> omega
    rcases (show i = 0 ∨ i = 1 ∨ i = 2 by omega) with e | e | e <;> subst e
    · show (0 : Int) ≤ _ ∧ _ ≤ (16 : Int); omega
    · show (0 : Int) ≤ _ ∧ _ ≤ (16 : Int); omega
    · show (0 : Int) ≤ _ ∧ _ ≤ (16 : Int); omega
theorem vb_M (V : VB ah t r row) : VB ah (rsM b lim row t r).1 (rsM b lim row t r).2 row := by
  have g1 := pkv_le (b := b) (t := t) 6 3 rfl
  have e0 : VB ah (rsM0 b lim row t r).1 (rsM0 b lim row t r).2 row := by
    unfold rsM0
    refine vb_P (by omega) rfl ?_
    exact vb_u (vb_t V (fun z => (cho_o (cho_o z).1).1)) 4 rfl (fun _ => by show (-1 : Int) ≤ _ ∧ _ ≤ (3 : Int); omega)
  have e3 : ∀ x : TT × (Nat → Int), VB ah x.1 x.2 row → VB ah (rsM3 b lim row x).1 (rsM3 b lim row x).2 row := by
    intro x V
    unfold rsM3
    have p1 : VB ah (rsP b lim row 1 999 (cho b lim x.1 9) x.2).1 (rsP b lim row 1 999 (cho b lim x.1 9) x.2).2 row := vb_P (by omega) rfl (vb_t V (fun z => (cho_o z).1))
    generalize rsP b lim row 1 999 (cho b lim x.1 9) x.2 = y at p1 ⊢
    have e1 : VB ah (rsM1 b lim row y).1 (rsM1 b lim row y).2 row := by
      unfold rsM1
      split
      · exact p1
      · exact vb_P (by omega) rfl (vb_t p1 (fun z => z))
    generalize rsM1 b lim row y = u at e1 ⊢
    unfold rsM2
    split
    · exact e1
    · exact vb_u (vb_t e1 (fun z => z)) 18 rfl (fun _ => by show (0 : Int) ≤ 2 ∧ (2 : Int) ≤ 2; omega)
  unfold rsM
  split
  · exact e3 _ e0
  · exact e0
theorem vb_0 {k : Nat} (ha : 0 ≤ ah) : VB ah (rs1 b lim k t r).1 (rs1 b lim k t r).2 (k * 21) := by
  have g0 := pkv_le (b := b) (t := t) 0 6 rfl
  have g1 := pkv_le (b := b) (t := cho b lim t 0) 1 2 rfl
  have g2 : -1 ≤ rsK b t ∧ rsK b t ≤ 7 := by unfold rsK; split <;> omega
  refine vb_u (vb_u (fun _ o ho => ?_) 0 rfl (fun _ => by show (-1 : Int) ≤ _ ∧ _ ≤ (7 : Int); omega)) 1 rfl (fun _ => by show (-1 : Int) ≤ _ ∧ _ ≤ (2 : Int); omega)
  rw [rs0_v ho]
  unfold vlo vhi
  (repeat' split) <;> omega
theorem vb_y {k : Nat} (hk : k ≤ 11) (ha : 0 ≤ ah) (hr : ∀ q : Nat, q < k → -1 ≤ r (q * 21 + 1) ∧ r (q * 21 + 1) ≤ 2) : VB ah (rsy b lim k ah t r).1 (rsy b lim k ah t r).2 (k * 21) := by
  have e1 : VB ah (rs1 b lim k t r).1 (rs1 b lim k t r).2 (k * 21) ∧ ∀ j, j < k * 21 → (rs1 b lim k t r).2 j = r j := by
    refine ⟨vb_0 ha, fun j hj => ?_⟩
    show av_u1 (av_u1 (rs0 k r) (k * 21) (rsK b t)) (k * 21 + 1) _ j = r j
    rw [u1_ne (by omega), u1_ne (by omega), rs0_n (by omega)]
  unfold rsy
  generalize rsK b t = kind
  generalize rs1 b lim k t r = x at e1 ⊢
  have e2 : VB ah (rs2 b lim k kind x).1 (rs2 b lim k kind x).2 (k * 21) ∧ (∀ j, j < k * 21 → (rs2 b lim k kind x).2 j = r j) ∧ (kind = 2 → (rs2 b lim k kind x).1.2.2.2 = -1 → (rs2 b lim k kind x).2 (k * 21 + 3) < k) := by
    unfold rs2
    split
    · next c => exact ⟨vb_O e1.1, fun j hj => (rsO_fr (by omega)).trans (e1.2 j hj), fun h => by omega⟩
    · refine ⟨vb_S e1.1 hk, fun j hj => (rsS_fr (by omega)).trans (e1.2 j hj), fun _ zz => ?_⟩
      have o1 := rsS_o zz
      rw [o1.2.2.2]
      show av_u1 x.2 (k * 21 + 3) (vlv b x.1) (k * 21 + 3) < k
      rw [u1_eq]
      exact o1.2.2.1
  generalize rs2 b lim k kind x = y at e2 ⊢
  have e3 : VB ah (rs3 b lim k ah kind y).1 (rs3 b lim k ah kind y).2 (k * 21) ∧ (∀ j, j < k * 21 → (rs3 b lim k ah kind y).2 j = r j) ∧ (kind = 2 → (rs3 b lim k ah kind y).1.2.2.2 = -1 → (rs3 b lim k ah kind y).2 (k * 21 + 3) < k) := by
    unfold rs3
    split
    · exact ⟨vb_T e2.1, fun j hj => (rsT_fr (by omega)).trans (e2.2.1 j hj), fun h => by omega⟩
    · exact e2
  generalize rs3 b lim k ah kind y = z at e3 ⊢
  have e4 : VB ah (rs4 b lim k kind z).1 (rs4 b lim k kind z).2 (k * 21) := by
    unfold rs4
    split
    · next c =>
      split
      · exact e3.1
      · refine vb_B (vb_t e3.1 (fun z => z)) (fun zz h1 h2 => ?_)
        have h3 := e3.2.2 c zz
        have h4 := e3.2.1 ((z.2 (k * 21 + 3)).toNat * 21 + 1) (by omega)
        have h5 := hr (z.2 (k * 21 + 3)).toNat (by omega)
        rw [h4]
        exact ⟨by omega, h5⟩
    · exact e3.1
  generalize rs4 b lim k kind z = u at e4 ⊢
  unfold rs5
  exact vb_t (vb_M e4) (fun z => sem_o z)
end
