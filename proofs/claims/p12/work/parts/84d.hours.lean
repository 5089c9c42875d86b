/-! HOURS: numbers by many bases -/
theorem i_dd {x a b : Int} (hx : 0 ≤ x) (ha : 0 ≤ a) (hb : 0 ≤ b) : x / a / b = x / (a * b) := by
  obtain ⟨n, rfl⟩ := Int.eq_ofNat_of_zero_le hx
  obtain ⟨p, rfl⟩ := Int.eq_ofNat_of_zero_le ha
  obtain ⟨q, rfl⟩ := Int.eq_ofNat_of_zero_le hb
  exact congrArg Int.ofNat (Nat.div_div_eq_div_mul n p q)
theorem i_md {x a b : Int} (hx : 0 ≤ x) (ha : 0 ≤ a) (hb : 0 ≤ b) : x % (a * b) / a = x / a % b := by
  obtain ⟨n, rfl⟩ := Int.eq_ofNat_of_zero_le hx
  obtain ⟨p, rfl⟩ := Int.eq_ofNat_of_zero_le ha
  obtain ⟨q, rfl⟩ := Int.eq_ofNat_of_zero_le hb
  exact congrArg Int.ofNat (Nat.mod_mul_right_div_self n p q)
theorem i_mm {x a b : Int} (hx : 0 ≤ x) (ha : 0 ≤ a) (hb : 0 ≤ b) : x % (a * b) % a = x % a := by
  obtain ⟨n, rfl⟩ := Int.eq_ofNat_of_zero_le hx
  obtain ⟨p, rfl⟩ := Int.eq_ofNat_of_zero_le ha
  obtain ⟨q, rfl⟩ := Int.eq_ofNat_of_zero_le hb
  exact congrArg Int.ofNat (Nat.mod_mod_of_dvd n (Nat.dvd_mul_right p q))
theorem i_dr {x y : Int} (hx : 0 ≤ x) (hy : 1 ≤ y) : 0 ≤ x / y ∧ x / y ≤ x := by
  obtain ⟨n, rfl⟩ := Int.eq_ofNat_of_zero_le hx
  obtain ⟨p, rfl⟩ := Int.eq_ofNat_of_zero_le (show 0 ≤ y by omega)
  have h := Nat.div_le_self n p
  have e : ((n : Int) / (p : Int)) = ((n / p : Nat) : Int) := rfl
  rw [e]
  generalize n / p = q at h ⊢
  omega
theorem i_mr {x y : Int} (hx : 0 ≤ x) (hy : 1 ≤ y) : 0 ≤ x % y ∧ x % y < y ∧ x % y ≤ x := by
  obtain ⟨n, rfl⟩ := Int.eq_ofNat_of_zero_le hx
  obtain ⟨p, rfl⟩ := Int.eq_ofNat_of_zero_le (show 0 ≤ y by omega)
  have h := Nat.mod_lt n (show p > 0 by omega)
  have h2 := Nat.mod_le n p
  have e : ((n : Int) % (p : Int)) = ((n % p : Nat) : Int) := rfl
  rw [e]
  omega
theorem i_d1 (x : Int) : x / 1 = x := by omega
theorem i_m1 (x : Int) : x % 1 = 0 := by omega
def prd (v : Nat → Int) : Nat → Int
  | 0 => 1
  | t + 1 => prd v t * v t
def dgt (v : Nat → Int) (x : Int) (t : Nat) : Int := x / prd v t % v t
theorem prd_p {v : Nat → Int} (hv : ∀ t, 1 ≤ v t) : ∀ t, 1 ≤ prd v t := by
  intro t
  induction t with
  | zero => exact Int.le_refl 1
  | succ t ih =>
    show 1 ≤ prd v t * v t
    have h1 : 1 * 1 ≤ prd v t * v t := Int.mul_le_mul ih (hv t) (by omega) (by omega)
    omega
theorem prd_d {v : Nat → Int} (hv : ∀ t, 1 ≤ v t) {x : Int} (hx : 0 ≤ x) (t : Nat) : x / prd v (t + 1) = x / prd v t / v t := by
  have h1 := prd_p hv t
  have h2 := hv t
  exact (i_dd hx (by omega) (by omega)).symm
/-- by how many the t-th asked one may be -/
def dvu (u : Nat → Int) (t : Nat) : Int := mx1 (u (21 * (t / 4) + 15 + t % 4))
theorem mx1_p (x : Int) : 1 ≤ mx1 x := by
  unfold mx1
  split <;> omega
theorem dvu_p (u : Nat → Int) (t : Nat) : 1 ≤ dvu u t := mx1_p _
theorem dvu_i {u : Nat → Int} {k j : Nat} (hj : j < 4) : dvu u (4 * k + j) = mx1 (u (21 * k + 15 + j)) := by
  unfold dvu
  rw [show (4 * k + j) / 4 = k by omega, show (4 * k + j) % 4 = j by omega]
/-- a saying's hours, by the digits d -/
def hsm (u : Nat → Int) (d : Nat → Int) (k : Nat) : Nat → Int
  | 0 => 0
  | i + 1 => hsm u d k i + u (21 * k + 7 + i) + d i
theorem hsm_c {u : Nat → Int} {d d' : Nat → Int} {k : Nat} : ∀ n, (∀ i, i < n → d i = d' i) → hsm u d k n = hsm u d' k n := by
  intro n
  induction n with
  | zero => intro _; rfl
  | succ n ih =>
    intro h
    show hsm u d k n + u (21 * k + 7 + n) + d n = hsm u d' k n + u (21 * k + 7 + n) + d' n
    rw [ih (fun i hi => h i (by omega)), h n (by omega)]
def hrv (u : Nat → Int) (x : Int) (k i : Nat) : Int := if (u (21 * k + 19) = 1 ∨ dgt (dvu u) x (4 * k + 3) = 1) ∧ 1 ≤ i then -1 else hsm u (fun j => dgt (dvu u) x (4 * k + j)) k (i + 1)
/-! the class: a saying's own turn -/
def mvu (u : Nat → Int) (k i : Nat) : Int := mx1 (u (21 * k + 15 + i))
def rst (m : Nat → Int) (y : Int) : Nat → Int
  | 0 => y
  | i + 1 => rst m y i / m i
def chv (u : Nat → Int) (k : Nat) (y : Int) (i : Nat) : Int := if (u (21 * k + 19) = 1 ∨ rst (mvu u k) y 3 = 1) ∧ 1 ≤ i then -1 else hsm u (fun j => rst (mvu u k) y j % mvu u k j) k (i + 1)
theorem rst_dg {m : Nat → Int} (hm : ∀ j, 1 ≤ m j) {R : Int} (hR : 0 ≤ R) : (rst m (R % (1 * m 0 * m 1 * m 2 * m 3)) 0 % m 0 = R % m 0) ∧ (rst m (R % (1 * m 0 * m 1 * m 2 * m 3)) 1 % m 1 = R / m 0 % m 1) ∧ (rst m (R % (1 * m 0 * m 1 * m 2 * m 3)) 2 % m 2 = R / m 0 / m 1 % m 2) ∧ (rst m (R % (1 * m 0 * m 1 * m 2 * m 3)) 3 = R / m 0 / m 1 / m 2 % m 3) := by
  have h0 := hm 0
  have h1 := hm 1
  have h2 := hm 2
  have h3 := hm 3
  have p23 : 1 ≤ m 2 * m 3 := by
    have h1 : 1 * 1 ≤ m 2 * m 3 := Int.mul_le_mul h2 h3 (by omega) (by omega)
    omega
  have p123 : 1 ≤ m 1 * (m 2 * m 3) := by
    have h1 : 1 * 1 ≤ m 1 * (m 2 * m 3) := Int.mul_le_mul h1 p23 (by omega) (by omega)
    omega
  have d0 := i_dr hR h0
  have d1 := i_dr d0.1 h1
  have d2 := i_dr d1.1 h2
  have e : 1 * m 0 * m 1 * m 2 * m 3 = m 0 * (m 1 * (m 2 * m 3)) := by
    rw [Int.one_mul, Int.mul_assoc, Int.mul_assoc]
  have r1 : rst m (R % (m 0 * (m 1 * (m 2 * m 3)))) 1 = R / m 0 % (m 1 * (m 2 * m 3)) := i_md hR (by omega) (by omega)
  have r2 : rst m (R % (m 0 * (m 1 * (m 2 * m 3)))) 2 = R / m 0 / m 1 % (m 2 * m 3) := by
    show rst m (R % (m 0 * (m 1 * (m 2 * m 3)))) 1 / m 1 = _
    rw [r1]
    exact i_md d0.1 (by omega) (by omega)
  have r3 : rst m (R % (m 0 * (m 1 * (m 2 * m 3)))) 3 = R / m 0 / m 1 / m 2 % m 3 := by
    show rst m (R % (m 0 * (m 1 * (m 2 * m 3)))) 2 / m 2 = _
    rw [r2]
    exact i_md d1.1 (by omega) (by omega)
  rw [e]
  refine ⟨?_, ?_, ?_, r3⟩
  · exact i_mm hR (by omega) (by omega)
  · rw [r1]; exact i_mm d0.1 (by omega) (by omega)
  · rw [r2]; exact i_mm d1.1 (by omega) (by omega)
/-- a saying's own turn in combo x -/
def own (u : Nat → Int) (x : Int) (k : Nat) : Int := x / prd (dvu u) (4 * k) % tnv u k
theorem own_hv {u : Nat → Int} {x : Int} (hx : 0 ≤ x) (k i : Nat) (hi : i < 3) : chv u k (own u x k) i = hrv u x k i := by
  have hm : ∀ j, 1 ≤ mvu u k j := fun j => mx1_p _
  have hp := prd_p (dvu_p u) (4 * k)
  have hR := (i_dr hx hp).1
  have D := rst_dg hm hR
  have e4 : tnv u k = 1 * mvu u k 0 * mvu u k 1 * mvu u k 2 * mvu u k 3 := rfl
  have g : ∀ j, j < 4 → dvu u (4 * k + j) = mvu u k j := fun j hj => dvu_i hj
  have x1 : x / prd (dvu u) (4 * k + 1) = x / prd (dvu u) (4 * k) / mvu u k 0 := by
    rw [prd_d (dvu_p u) hx, show dvu u (4 * k) = mvu u k 0 from g 0 (by omega)]
  have x2 : x / prd (dvu u) (4 * k + 2) = x / prd (dvu u) (4 * k) / mvu u k 0 / mvu u k 1 := by
    rw [prd_d (dvu_p u) hx, x1, g 1 (by omega)]
  have x3 : x / prd (dvu u) (4 * k + 3) = x / prd (dvu u) (4 * k) / mvu u k 0 / mvu u k 1 / mvu u k 2 := by
    rw [prd_d (dvu_p u) hx, x2, g 2 (by omega)]
  have d0 : rst (mvu u k) (own u x k) 0 % mvu u k 0 = dgt (dvu u) x (4 * k + 0) := by
    unfold own dgt
    rw [e4, D.1, g 0 (by omega)]
    rfl
  have d1 : rst (mvu u k) (own u x k) 1 % mvu u k 1 = dgt (dvu u) x (4 * k + 1) := by
    unfold own dgt
    rw [e4, D.2.1, g 1 (by omega), x1]
  have d2 : rst (mvu u k) (own u x k) 2 % mvu u k 2 = dgt (dvu u) x (4 * k + 2) := by
    unfold own dgt
    rw [e4, D.2.2.1, g 2 (by omega), x2]
  have d3 : rst (mvu u k) (own u x k) 3 = dgt (dvu u) x (4 * k + 3) := by
    unfold own dgt
    rw [e4, D.2.2.2, g 3 (by omega), x3]
  unfold chv hrv
  rw [d3, hsm_c (d := fun j => rst (mvu u k) (own u x k) j % mvu u k j) (d' := fun j => dgt (dvu u) x (4 * k + j)) (i + 1) (fun j hj => ?_)]
  rcases (show j = 0 ∨ j = 1 ∨ j = 2 by omega) with e | e | e <;> subst e
  · exact d0
  · exact d1
  · exact d2
theorem own_n {u : Nat → Int} {x : Int} (hx : 0 ≤ x) (k : Nat) : x / prd (dvu u) (4 * (k + 1)) = x / prd (dvu u) (4 * k) / tnv u k := by
  have hp := prd_p (dvu_p u) (4 * k)
  have hR := (i_dr hx hp).1
  have g : ∀ j, j < 4 → dvu u (4 * k + j) = mvu u k j := fun j hj => dvu_i hj
  have hm : ∀ j, 1 ≤ mvu u k j := fun j => mx1_p _
  have h0 := hm 0
  have h1 := hm 1
  have h2 := hm 2
  have h3 := hm 3
  have d0 := i_dr hR h0
  have d1 := i_dr d0.1 h1
  have d2 := i_dr d1.1 h2
  rw [show 4 * (k + 1) = 4 * k + 3 + 1 by omega, prd_d (dvu_p u) hx, prd_d (dvu_p u) hx, prd_d (dvu_p u) hx, prd_d (dvu_p u) hx, show dvu u (4 * k) = mvu u k 0 from g 0 (by omega), g 1 (by omega), g 2 (by omega), g 3 (by omega)]
  have e4 : tnv u k = 1 * mvu u k 0 * mvu u k 1 * mvu u k 2 * mvu u k 3 := rfl
  have p01 : 1 ≤ mvu u k 0 * mvu u k 1 := by
    have q : 1 * 1 ≤ mvu u k 0 * mvu u k 1 := Int.mul_le_mul h0 h1 (by omega) (by omega)
    omega
  have p012 : 1 ≤ mvu u k 0 * mvu u k 1 * mvu u k 2 := by
    have q : 1 * 1 ≤ mvu u k 0 * mvu u k 1 * mvu u k 2 := Int.mul_le_mul p01 h2 (by omega) (by omega)
    omega
  rw [e4, Int.one_mul, i_dd hR (by omega) (by omega), i_dd hR (by omega) (by omega), i_dd hR (by omega) (by omega)]
