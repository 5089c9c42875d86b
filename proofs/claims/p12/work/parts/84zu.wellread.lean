/-! WHOLE CASES THAT ARE READ ARE WELL FORMED -/
/-- row k of a case that has ah ahead -/
def WRW (ah : Int) (k : Nat) (R : Nat → Int) : Prop := WRD k R ∧ (∀ o, o < 20 → vlo o ≤ R (k * 21 + o) ∧ R (k * 21 + o) ≤ vhi ah o) ∧ (2 ≤ R (k * 21) → 0 ≤ R (k * 21 + 3) ∧ R (k * 21 + 3) < (k : Int))
theorem WRW_c {ah : Int} {k : Nat} {R R' : Nat → Int} (x : WRW ah k R) (e : ∀ o, o < 20 → R' (k * 21 + o) = R (k * 21 + o)) : WRW ah k R' := by
  have e0 : R' (k * 21) = R (k * 21) := e 0 (by omega)
  unfold WRW WRD
  rw [e0, e 1 (by omega), e 2 (by omega), e 3 (by omega), e 4 (by omega), e 18 (by omega)]
  refine ⟨x.1, fun o ho => ?_, x.2.2⟩
  rw [e o ho]
  exact x.2.1 o ho
theorem WRW_h {ah : Int} {k : Nat} {R : Nat → Int} (x : WRW ah k R) : 0 ≤ R (k * 21 + 1) ∧ R (k * 21 + 1) ≤ 2 := ⟨x.1.2.1, (x.2.1 1 (by omega)).2⟩
theorem rbf_w {b : Nat → Int} {lim : Nat} {ah : Int} (ha : 0 ≤ ah) : ∀ (f k : Nat) (t : TT) (r : Nat → Int), k ≤ 12 → (∀ q, q < k → WRW ah q r) → (rbf b lim ah f k t r).2.1.2.2.2 = -1 → ∀ q, q < (rbf b lim ah f k t r).1 → WRW ah q (rbf b lim ah f k t r).2.2 := by
  intro f
  induction f with
  | zero => intro k t r _ hr _ q hq; exact hr q hq
  | succ f ih =>
    intro k t r hk hr z q hq
    unfold rbf at z hq ⊢
    split at z
    · next c =>
      rw [if_pos c] at hq ⊢
      split at z
      · exact absurd z fal_ne
      · next d =>
        rw [if_neg d] at hq ⊢
        have ok : (rsy b lim k ah t r).1.2.2.2 = -1 := by
          by_cases e : (rsy b lim k ah t r).1.2.2.2 = -1
          · exact e
          · exfalso
            have : ∀ (f k : Nat) (t : TT) (r : Nat → Int), t.2.2.2 ≠ -1 → rbf b lim ah f k t r = (k, t, r) := fun f k t r h => by
              cases f with
              | zero => rfl
              | succ f =>
                unfold rbf
                rw [if_neg (fun y => h y.1)]
            rw [this _ _ _ _ e] at z
            exact e z
        refine ih (k + 1) _ _ (by omega) (fun p hp => ?_) z q hq
        by_cases e : p < k
        · exact WRW_c (hr p e) (fun o ho => rsy_fr (by omega))
        · have e : p = k := by omega
          subst e
          refine ⟨rsy_wd (by omega) (fun q hq => (WRW_h (hr q hq)).1) ok, fun o ho => ?_, fun h2 => rsy_sd ok h2⟩
          exact vb_y (by omega) ha (fun q hq => by have := WRW_h (hr q hq); omega) ok o (by omega)
    · next c =>
      rw [if_neg c] at hq ⊢
      exact hr q hq
/-! a case's hours -/
theorem hsm_3 (u d : Nat → Int) (k : Nat) : hsm u d k 1 = 0 + u (21 * k + 7 + 0) + d 0 ∧ hsm u d k 2 = 0 + u (21 * k + 7 + 0) + d 0 + u (21 * k + 7 + 1) + d 1 ∧ hsm u d k 3 = 0 + u (21 * k + 7 + 0) + d 0 + u (21 * k + 7 + 1) + d 1 + u (21 * k + 7 + 2) + d 2 := ⟨rfl, rfl, rfl⟩
theorem hrv_b {u : Nat → Int} {x : Int} {k i : Nat} (hx : 0 ≤ x) (hi : i < 3) (h7 : 0 ≤ u (21 * k + 7 + 0) ∧ u (21 * k + 7 + 0) ≤ 1999) (h8 : 0 ≤ u (21 * k + 7 + 1) ∧ u (21 * k + 7 + 1) ≤ 999) (h9 : 0 ≤ u (21 * k + 7 + 2) ∧ u (21 * k + 7 + 2) ≤ 999) (hm : ∀ j, j < 3 → u (21 * k + 15 + j) ≤ 16) : -1 ≤ hrv u x k i ∧ hrv u x k i ≤ 5000 := by
  have hd : ∀ j, j < 3 → 0 ≤ dgt (dvu u) x (4 * k + j) ∧ dgt (dvu u) x (4 * k + j) < 16 := fun j hj => by
    have a := dgt_r (w := dvu u) (fun t => mx1_p _) hx (4 * k + j)
    have m := (mx1_b (hm j hj)).2
    have e : dvu u (4 * k + j) = mx1 (u (21 * k + 15 + j)) := by
      unfold dvu
      rw [show (4 * k + j) / 4 = k by omega, show (4 * k + j) % 4 = j by omega]
    rw [e] at a
    omega
  have d0 := hd 0 (by omega)
  have d1 := hd 1 (by omega)
  have d2 := hd 2 (by omega)
  have s := hsm_3 u (fun j => dgt (dvu u) x (4 * k + j)) k
  unfold hrv
  split
  · omega
  · rcases (show i = 0 ∨ i = 1 ∨ i = 2 by omega) with e | e | e <;> subst e
    · rw [s.1]
      show -1 ≤ 0 + u (21 * k + 7 + 0) + dgt (dvu u) x (4 * k + 0) ∧ 0 + u (21 * k + 7 + 0) + dgt (dvu u) x (4 * k + 0) ≤ 5000
      omega
    · rw [s.2.1]
      show -1 ≤ 0 + u (21 * k + 7 + 0) + dgt (dvu u) x (4 * k + 0) + u (21 * k + 7 + 1) + dgt (dvu u) x (4 * k + 1) ∧ 0 + u (21 * k + 7 + 0) + dgt (dvu u) x (4 * k + 0) + u (21 * k + 7 + 1) + dgt (dvu u) x (4 * k + 1) ≤ 5000
      omega
    · rw [s.2.2]
      show -1 ≤ 0 + u (21 * k + 7 + 0) + dgt (dvu u) x (4 * k + 0) + u (21 * k + 7 + 1) + dgt (dvu u) x (4 * k + 1) + u (21 * k + 7 + 2) + dgt (dvu u) x (4 * k + 2) ∧ 0 + u (21 * k + 7 + 0) + dgt (dvu u) x (4 * k + 0) + u (21 * k + 7 + 1) + dgt (dvu u) x (4 * k + 1) + u (21 * k + 7 + 2) + dgt (dvu u) x (4 * k + 2) ≤ 5000
      omega
theorem cbf_1 (u : Nat → Int) : ∀ s, 1 ≤ cbf u s := by
  intro s
  induction s with
  | zero => exact Int.le_refl 1
  | succ s ih =>
    show 1 ≤ mn2 (cbf u s * tnv u s) 1025
    have t1 : 1 ≤ tnv u s := by
      unfold tnv
      have a := mx1_p (u (21 * s + 15))
      have b := mx1_p (u (21 * s + 16))
      have c := mx1_p (u (21 * s + 17))
      have d := mx1_p (u (21 * s + 18))
      have h1 : 1 * 1 ≤ mx1 (u (21 * s + 15)) * mx1 (u (21 * s + 16)) := Int.mul_le_mul a b (by omega) (by omega)
      have h2 : 1 * 1 ≤ mx1 (u (21 * s + 15)) * mx1 (u (21 * s + 16)) * mx1 (u (21 * s + 17)) := Int.mul_le_mul (by omega) c (by omega) (by omega)
      have h3 : 1 * 1 ≤ mx1 (u (21 * s + 15)) * mx1 (u (21 * s + 16)) * mx1 (u (21 * s + 17)) * mx1 (u (21 * s + 18)) := Int.mul_le_mul (by omega) d (by omega) (by omega)
      rw [Int.one_mul]
      omega
    have h : 1 * 1 ≤ cbf u s * tnv u s := Int.mul_le_mul ih t1 (by omega) (by omega)
    unfold mn2
    split <;> omega
/-- a case of which all rows are well formed -/
theorem CWF_of {f : Nat → Int} {s i : Nat} (w : ∀ q, q < s → WRW (i : Int) q f) (V : FV s f) (h1 : 1 ≤ s) : CWF (ctn f s) s i := by
  have oc : ∀ q o, o < 20 → ctn f s (21 * q + o) = f (q * 21 + o) := fun q o ho => by
    rw [ctn_o (by omega), show 21 * q + o = q * 21 + o by omega]
  have oc0 : ∀ q, ctn f s (21 * q + 0) = f (q * 21) := fun q => oc q 0 (by omega)
  refine ⟨fun k hk => ?_, ⟨h1, V.1⟩, fun k hk => ?_, fun q hq => ctn_t hq, fun j => ?_, fun x x0 _ k hk j hj => ?_⟩
  · have a := w k hk
    have v := a.2.1
    have v0 := v 0 (by omega)
    have v3 := v 3 (by omega)
    have v4 := v 4 (by omega)
    have v5 := v 5 (by omega)
    rw [oc0, oc k 3 (by omega), oc k 4 (by omega), oc k 5 (by omega)]
    have c0 := a.1.1
    have c3 := a.1.2.2.1
    have c4 := a.1.2.2.2.2.1
    have c2 := a.2.2
    refine ⟨⟨c0, v0.2⟩, ⟨v3.1, ?_⟩, fun z => (c2 z).1, c3, ⟨c4, v4.2⟩, v5, fun j hj => ?_⟩
    · by_cases z : 2 ≤ f (k * 21)
      · exact (c2 z).2
      · have := c3 (by omega)
        omega
    · have v10 := v (10 + j) (by omega)
      rw [show 21 * k + 10 + j = 21 * k + (10 + j) by omega, oc k (10 + j) (by omega)]
      unfold vlo vhi at v10
      rw [if_neg (by omega), if_neg (by omega), if_pos (by omega), if_neg (by omega), if_neg (by omega), if_neg (by omega), if_neg (by omega), if_neg (by omega), if_neg (by omega), if_neg (by omega), if_pos (by omega)] at v10
      exact v10
  · have v6 := (w k hk).2.1 6 (by omega)
    rw [oc k 6 (by omega)]
    have z : f (k * 21 + 6) ≤ (i : Int) - 1 := v6.2
    exact ⟨v6.1, by omega⟩
  · by_cases c : j % 21 = 20
    · exact Or.inr c
    · rw [ctn_o c]
      exact Or.inl (V.2.2.2 j c)
  · have v := (w k hk).2.1
    refine hrv_b x0 hj ?_ ?_ ?_ (fun p hp => ?_)
    · rw [show 21 * k + 7 + 0 = 21 * k + 7 by omega, oc k 7 (by omega)]
      exact v 7 (by omega)
    · rw [show 21 * k + 7 + 1 = 21 * k + 8 by omega, oc k 8 (by omega)]
      exact v 8 (by omega)
    · rw [show 21 * k + 7 + 2 = 21 * k + 9 by omega, oc k 9 (by omega)]
      exact v 9 (by omega)
    · rw [ctn_o (by omega)]
      exact V.2.2.1 k p (by omega)
/-- offers have a hand and a whom -/
def UHW (u : Nat → Int) (s : Nat) : Prop := ∀ k, k < s → (0 ≤ u (21 * k + 1) ∧ u (21 * k + 1) ≤ 2) ∧ ((u (21 * k + 0) = 0 ∨ u (21 * k + 0) = 1 ∨ u (21 * k + 0) = 3) → 0 ≤ u (21 * k + 2) ∧ u (21 * k + 2) ≤ 2)
theorem UHW_of {f : Nat → Int} {s : Nat} {ah : Int} (w : ∀ q, q < s → WRW ah q f) : UHW (ctn f s) s := fun k hk => by
  have a := w k hk
  have oc : ∀ o, o < 20 → ctn f s (21 * k + o) = f (k * 21 + o) := fun o ho => by
    rw [ctn_o (by omega), show 21 * k + o = k * 21 + o by omega]
  have oc0 : ctn f s (21 * k + 0) = f (k * 21) := oc 0 (by omega)
  rw [oc0, oc 1 (by omega), oc 2 (by omega)]
  exact ⟨⟨a.1.2.1, (a.2.1 1 (by omega)).2⟩, fun z => ⟨a.1.2.2.2.1 z, (a.2.1 2 (by omega)).2⟩⟩
