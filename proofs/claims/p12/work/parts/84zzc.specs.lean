/-! WHAT MORE LOOKS ANSWER -/
/-- whom a bargain binds -/
def bdv (u : Nat → Int) (b : T3) : Int := if b.2.2 = 9999 then 0 else av_or (av_shl (1) (u (21 * b.2.1.toNat + 1))) (av_shl (1) (u (21 * b.2.1.toNat + 2)))
theorem UHW_o {u ro : Nat → Int} {s k : Nat} (x : UHW u s) (hk : k < s) (e : ofv u ro k ≠ 0) : (0 ≤ u (21 * k + 1) ∧ u (21 * k + 1) ≤ 2) ∧ 0 ≤ u (21 * k + 2) ∧ u (21 * k + 2) ≤ 2 := by
  have h := x k hk
  refine ⟨h.1, h.2 ?_⟩
  unfold ofv at e
  split at e
  · next c =>
    rcases c with c | c
    · exact Or.inl c
    · exact Or.inr (Or.inr c.1)
  · exact absurd rfl e
/-- the first hour at which goods of the bargain of mo were sent or came, by what the rules say; 9999: none -/
def rpv (u ro : Nat → Int) (a : Nat → Nat → Int) (mo : Int) : Nat → Int
  | 0 => 9999
  | k + 1 => if u (21 * k + 0) = 7 ∧ u (21 * k + 3) = mo ∧ hw a k (ro 12 - 1) ≠ -1 then mn2 (rpv u ro a mo k) (hw a k (ro 12 - 1)) else rpv u ro a mo k
theorem rpv_g {u ro : Nat → Int} {a a' : Nat → Nat → Int} {s : Nat} {mo : Int} (g : AGR s a a') : ∀ k, k ≤ s → rpv u ro a mo k = rpv u ro a' mo k := by
  intro k
  induction k with
  | zero => intro _; rfl
  | succ k ih =>
    intro hk
    show (if u (21 * k + 0) = 7 ∧ u (21 * k + 3) = mo ∧ hw a k (ro 12 - 1) ≠ -1 then mn2 (rpv u ro a mo k) (hw a k (ro 12 - 1)) else rpv u ro a mo k) = (if u (21 * k + 0) = 7 ∧ u (21 * k + 3) = mo ∧ hw a' k (ro 12 - 1) ≠ -1 then mn2 (rpv u ro a' mo k) (hw a' k (ro 12 - 1)) else rpv u ro a' mo k)
    rw [hw_g g (by omega), ih (by omega)]
theorem rpv_n {u ro : Nat → Int} {a : Nat → Nat → Int} {mo x : Int} {k : Nat} (e0 : u (21 * k + 0) = x) (c : x ≠ 7) : rpv u ro a mo (k + 1) = rpv u ro a mo k := if_neg (fun z => c (e0.symm.trans z.1))
theorem rpv_m {u ro : Nat → Int} {a : Nat → Nat → Int} {mo y : Int} {k : Nat} (e3 : u (21 * k + 3) = y) (c : y ≠ mo) : rpv u ro a mo (k + 1) = rpv u ro a mo k := if_neg (fun z => c (e3.symm.trans z.2.1))
theorem rpv_h {u ro : Nat → Int} {a : Nat → Nat → Int} {mo x : Int} {k : Nat} (e : hw a k (ro 12 - 1) = x) (c : x = -1) : rpv u ro a mo (k + 1) = rpv u ro a mo k := if_neg (fun z => z.2.2 (e.trans c))
theorem rpv_y {u ro : Nat → Int} {a : Nat → Nat → Int} {mo x y v : Int} {k : Nat} (e0 : u (21 * k + 0) = x) (c0 : x = 7) (e3 : u (21 * k + 3) = y) (c3 : y = mo) (e : hw a k (ro 12 - 1) = v) (c : v ≠ -1) : rpv u ro a mo (k + 1) = mn2 (rpv u ro a mo k) v := by
  have h : rpv u ro a mo (k + 1) = if u (21 * k + 0) = 7 ∧ u (21 * k + 3) = mo ∧ hw a k (ro 12 - 1) ≠ -1 then mn2 (rpv u ro a mo k) (hw a k (ro 12 - 1)) else rpv u ro a mo k := rfl
  rw [h, if_pos ⟨e0.trans c0, e3.trans c3, by rw [e]; exact c⟩, e]
theorem rpv_r {u ro : Nat → Int} {a : Nat → Nat → Int} {s : Nat} {mo : Int} (H : HBd s a) : ∀ k, k ≤ s → rpv u ro a mo k = 9999 ∨ (0 ≤ rpv u ro a mo k ∧ rpv u ro a mo k ≤ 5000) := by
  intro k
  induction k with
  | zero => intro _; exact Or.inl rfl
  | succ k ih =>
    intro hk
    have i := ih (by omega)
    have w := hw_r H (k := k) (by omega) (ro 12 - 1)
    have e : rpv u ro a mo (k + 1) = if u (21 * k + 0) = 7 ∧ u (21 * k + 3) = mo ∧ hw a k (ro 12 - 1) ≠ -1 then mn2 (rpv u ro a mo k) (hw a k (ro 12 - 1)) else rpv u ro a mo k := rfl
    rw [e]
    split
    · next c =>
      have := c.2.2
      unfold mn2
      split <;> omega
    · exact i
/-- from when on the other hand bears the goods; 9999: never -/
def rpx (u ro : Nat → Int) (a : Nat → Nat → Int) (s : Nat) (b : T3) : Int := if ro 12 = 0 then b.2.2 else rpv u ro a b.2.1 s
/-- who bears them at hour w -/
def bev (u ro : Nat → Int) (a : Nat → Nat → Int) (s : Nat) (b : T3) (w : Int) : Int := if b.2.2 = 9999 then -1 else if rpx u ro a s b ≠ 9999 ∧ rpx u ro a s b ≤ w ∧ b.2.2 ≤ w then u (21 * b.2.1.toNat + 2) else u (21 * b.2.1.toNat + 1)
theorem rpx_r {u ro : Nat → Int} {a : Nat → Nat → Int} {s : Nat} {mb mo ma : Int} (H : HBd s a) (qm : -1 ≤ ma ∧ ma ≤ 9999) : -1 ≤ rpx u ro a s (mb, mo, ma) ∧ rpx u ro a s (mb, mo, ma) ≤ 9999 := by
  have h := rpv_r (u := u) (ro := ro) (mo := mo) H s (Nat.le_refl s)
  show -1 ≤ (if ro 12 = 0 then ma else rpv u ro a mo s) ∧ (if ro 12 = 0 then ma else rpv u ro a mo s) ≤ 9999
  split
  · exact qm
  · omega
theorem HBd_g {u : Nat → Int} {s : Nat} {x : Int} {a : Nat → Nat → Int} (W : ∀ x : Int, 0 ≤ x → x ≤ 1023 → ∀ k, k < s → ∀ j, j < 3 → -1 ≤ hrv u x k j ∧ hrv u x k j ≤ 5000) (X : HX u s x a) (hx : 0 ≤ x ∧ x ≤ 1023) : HBd s a := fun k hk i hi => by
  rw [X k hk i hi]
  exact W x hx.1 hx.2 k hk i hi
theorem bev_g {u ro : Nat → Int} {a a' : Nat → Nat → Int} {s : Nat} {b : T3} {w : Int} (g : AGR s a a') : bev u ro a s b w = bev u ro a' s b w := by
  unfold bev rpx
  rw [rpv_g g s (Nat.le_refl s)]
/-- a bargain's hour isn't before the beginning -/
theorem yv_0 {u ro : Nat → Int} {a : Nat → Nat → Int} {s : Nat} (H : HBd s a) : ∀ k, k ≤ s → 0 ≤ (yv u ro a s k).2.2 := by
  intro k
  induction k with
  | zero => intro _; show (0 : Int) ≤ 9999; omega
  | succ k ih =>
    intro hk
    show 0 ≤ (if yc u ro a s k (yv u ro a s k).2.2 = 1 then ((k : Int), u (21 * k + 3), hw a k (yw u ro k)) else yv u ro a s k).2.2
    split
    · next z =>
      show 0 ≤ hw a k (yw u ro k)
      have w := hw_r H (k := k) (by omega) (yw u ro k)
      have o := fun q hq => o5_r (ro := ro) H (q := q) hq
      unfold yc at z
      split at z
      · next y =>
        have q5 := o (u (21 * k + 3)).toNat (by omega)
        have p := opn_1 _ _ _ y.2.2.2.2.2.2.2.2
        omega
      · omega
    · exact ih (by omega)
theorem sv_0 {u ro : Nat → Int} {a : Nat → Nat → Int} {s : Nat} (H : HBd s a) : ∀ k, k ≤ s → 0 ≤ (sv u ro a s k).2.2 := by
  intro k
  induction k with
  | zero => intro _; exact yv_0 H s (Nat.le_refl s)
  | succ k ih =>
    intro hk
    show 0 ≤ (if slc u ro a s k (sv u ro a s k).2.2 = 1 then (-1, (k : Int), hw a k 2 + ro 8) else sv u ro a s k).2.2
    split
    · next z =>
      show 0 ≤ hw a k 2 + ro 8
      have w := hw_r H (k := k) (by omega) 2
      have q5 := o5_r (ro := ro) H (q := k) (by omega)
      unfold slc at z
      split at z
      · next y =>
        have p := opn_1 _ _ _ y.2.2.2.2
        omega
      · omega
    · exact ih (by omega)
theorem bgn_0 {u ro bar : Nat → Int} {s : Nat} {x : Int} (H : HBd s (arr u ro bar x)) : (bgn u ro bar s x).2.2 = 9999 ∨ (0 ≤ (bgn u ro bar s x).2.2 ∧ (bgn u ro bar s x).2.2 < 9999) := by
  have h0 : 0 ≤ (bgn u ro bar s x).2.2 := by
    unfold bgn brg
    split
    · exact sv_0 H s (Nat.le_refl s)
    · exact yv_0 H s (Nat.le_refl s)
  rcases bgn_f (u := u) (ro := ro) (bar := bar) (s := s) (x := x) with y | y
  · exact Or.inl y.1
  · exact Or.inr ⟨h0, y.1⟩
