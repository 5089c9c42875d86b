section
/-! FAULT, SAYING, RULE, COUNT: class and reference give the same -/
theorem ox_100 {h : av_H} (B : BK h) : av_wp none cd_100 0 [some (.inr (.inr (.inl (some (0)))))] [] h (OPr cd_158 [some (.inr (.inr (.inl (some (77)))))] h (fun x y => x = y)) := by
  refine cx_100 B.1 ⟨_, rfl, ly_k B.1.1 77 rfl, ?_⟩
  obtain ⟨n, a, m, M⟩ := B.2.2.1
  exact cx_158 M.1 ⟨_, rfl, B.2.2.2.1.2.2.symm, B, RM_0 rfl rfl⟩
theorem cel_in {u : Nat → Int} {s : Nat} {k w : Int} (h : (0 ≤ k ∧ k < (s : Int)) ∧ 0 ≤ w ∧ w < 21) : cel u s k w = u (k.toNat * 21 + w.toNat) := by
  unfold cel
  rw [if_pos h]
  congr 1
  omega
theorem ry_o {R r : Nat → Int} {row o : Nat} (x : RY R r row) (h : o < 15) : R o = r (row + o) := by
  have y := x rfl
  by_cases e : o = 4
  · subst e
    exact y.2.2.2.2 rfl
  · exact y.1 o h e
theorem ox_101 {h : av_H} (B : BK h) (x1 x2 x3 : Int) (q1 : -2147483648 ≤ x1 ∧ x1 ≤ 2147483647) (q2 : -2147483648 ≤ x2 ∧ x2 ≤ 2147483647) (q3 : -2147483648 ≤ x3 ∧ x3 ≤ 2147483647) : av_wp none cd_101 0 [some (.inr (.inr (.inl (some (0))))), some (.inl x1), some (.inl x2), some (.inl x3), none, none] [] h (OPr cd_161 [some (.inr (.inr (.inl (some (77))))), some (.inl x1), some (.inl x2), some (.inl x3), none] h (fun x y => x = y)) := by
  obtain ⟨n, a, m, M⟩ := B.2.2.1
  have S := B.2.2.2.2.1
  have c78 : hF h 3 3 = hA h 78 0 := S.1.1.1
  refine cx_101 B.1 S x1 q1 x2 q2 x3 q3 (fun z => ⟨_, rfl, ly_k B.1.1 77 rfl, ?_⟩) (fun z1 z2 z3 t c s f y1 y2 y3 z4 z5 z6 => ⟨_, rfl, ly_k B.1.1 77 rfl, ?_⟩)
  · exact cx_161 M.1 x1 q1 x2 q2 x3 q3 (fun _ => ⟨_, rfl, rfl, B, RM_0 rfl rfl⟩) (fun v w1 w2 w3 w4 w5 _ => by exfalso; omega)
  · refine cx_161 M.1 x1 q1 x2 q2 x3 q3 (fun _ => by exfalso; omega) (fun v w1 w2 w3 w4 w5 w6 => ⟨_, rfl, ?_, B, RM_0 rfl rfl⟩)
    rw [w6, cel_in ⟨⟨z4, z5⟩, by omega⟩, ry_o (y3 x2.toNat (by omega)) (by omega), y1.2.1.2.2.2.2.2, ctn_o (by omega)]
theorem ox_125 {h : av_H} (B : BK h) (x1 : Int) (q1 : -2147483648 ≤ x1 ∧ x1 ≤ 2147483647) : av_wp none cd_125 0 [some (.inr (.inr (.inl (some (0))))), some (.inl x1)] [] h (OPr cd_217 [some (.inr (.inr (.inl (some (77))))), some (.inl x1)] h (fun x y => x = y)) := by
  obtain ⟨n, a, m, M⟩ := B.2.2.1
  have S := B.2.2.2.2.1
  have c3 : hF h 3 3 = hA h 78 0 := S.1.1.1
  have c4 : hF h 3 4 = hA h 79 0 := S.1.1.2.1
  have c5 : hF h 3 5 = hA h 80 0 := S.1.1.2.2
  have ct : hF h 77 17 = hF h 1 1 := B.2.2.2.1.2.1
  have ci : hF h 77 62 = hF h 0 7 := B.2.2.2.2.2.2.1
  refine cx_125 B.1 S x1 q1 (fun v z => ⟨_, rfl, ly_k B.1.1 77 rfl, ?_⟩)
  rw [c3] at z
  exact cx_217 M.1 x1 q1 (fun w y => ⟨_, rfl, by omega, B, RM_0 rfl rfl⟩)
theorem ox_105 {h : av_H} (B : BK h) (x1 x2 : Int) (q1 : -2147483648 ≤ x1 ∧ x1 ≤ 2147483647) (q2 : -2147483648 ≤ x2 ∧ x2 ≤ 2147483647) : av_wp none cd_105 0 [some (.inr (.inr (.inl (some (0))))), some (.inl x1), some (.inl x2)] [] h (OPr cd_160 [some (.inr (.inr (.inl (some (77))))), some (.inl x1), some (.inl x2)] h (fun x y => x = y)) := by
  obtain ⟨n, a, m, M⟩ := B.2.2.1
  have S := B.2.2.2.2.1
  have c4 : hF h 3 4 = hA h 79 0 := S.1.1.2.1
  have c5 : hF h 3 5 = hA h 80 0 := S.1.1.2.2
  have b4 := S.1.2.2.1
  have b5 := S.1.2.2.2
  have lw : ∀ l : Int, 0 ≤ l → l < hA h 79 0 → LW h (hA h) 3 0 l.toNat := fun l h1 h2 => S.2.2.2.1 l.toNat (by omega) (by omega)
  have ix : ∀ l j : Int, 0 ≤ l → 0 ≤ j → 196 * 0 + 14 * l.toNat + j.toNat = (14 * l + j).toNat := fun l j h1 h2 => by omega
  have rb : ∀ l j : Int, 0 ≤ l → l < hA h 79 0 → 0 ≤ j → j < 13 → -2 ≤ hA h 93 (Int.toNat (14 * l + j)) ∧ hA h 93 (Int.toNat (14 * l + j)) ≤ 999 := fun l j h1 h2 h3 h4 => by
    have y := (lw l h1 h2).1 j.toNat (by omega)
    have y2 := S.2.1.2.1 l.toNat (by omega) j.toNat
    rw [ix l j h1 h3] at y
    by_cases e : hA h 93 (Int.toNat (14 * l + j)) = -2
    · omega
    · rw [if_neg e] at y
      rw [← y]
      exact y2
  have cb : ∀ c j : Int, 0 ≤ c → c < hA h 80 0 → 0 ≤ j → j < 13 → -2 ≤ hA h 93 (Int.toNat (112 + 14 * c + j)) ∧ hA h 93 (Int.toNat (112 + 14 * c + j)) ≤ 999 := fun c j h1 h2 h3 h4 => by
    have y := S.2.2.2.2 c.toNat (by omega) (by omega) j.toNat (by omega)
    have y2 := S.2.1.2.2 c.toNat (by omega) j.toNat
    rw [show 196 * 0 + 112 + 14 * c.toNat + j.toNat = (112 + 14 * c + j).toNat by omega] at y
    rw [← y]
    exact y2
  refine cx_105 B.1 x1 q1 x2 q2 (fun z => ⟨_, rfl, ly_k B.1.1 77 rfl, ?_⟩) (fun v z1 z2 z3 z4 z5 => ⟨_, rfl, ly_k B.1.1 77 rfl, gd_of (fun hg => ?_)⟩)
  · exact cx_160 M (FM_rf h) x1 q1 x2 q2 rb cb (fun _ => ⟨_, rfl, rfl, B, RM_0 rfl rfl⟩) (fun v w1 w2 w3 _ => by exfalso; omega) (fun v h' w1 w2 w3 w4 _ _ _ => by exfalso; omega)
  · have y := lw x1 z1 (by omega)
    refine cx_160 M (FM_rf h) x1 q1 x2 q2 rb cb (fun _ => by exfalso; omega) (fun v' w1 w2 w3 w4 => ⟨_, rfl, ?_, B, RM_0 rfl rfl⟩) (fun v' h' w1 w2 w3 w4 w5 M2 F2 => ⟨_, rfl, ?_, BK_FM hg B F2 M2, RM_0 F2.1 F2.2.1⟩)
    · subst w3
      rw [z5, w4]
      have y3 := y.2
      rw [show 196 * 0 + 14 * x1.toNat + 13 = (14 * x1 + 13).toNat by omega] at y3
      exact y3
    · have y3 := y.1 x2.toNat (by omega)
      rw [ix x1 x2 w1 w3] at y3
      rw [z5, w5]
      unfold lyb
      rw [Int.toNat_of_nonneg w3]
      exact y3
end
section
/-! HOURS: numbers by many bases -/
theorem i_dd {x a b : Int} (hx : 0 ≤ x) (ha : 0 ≤ a) (hb : 0 ≤ b) : x / a / b = x / (a * b) := by
  obtain ⟨n, rfl⟩ := Int.eq_ofNat_of_zero_le hx
  obtain ⟨p, rfl⟩ := Int.eq_ofNat_of_zero_le ha
  obtain ⟨q, rfl⟩ := Int.eq_ofNat_of_zero_le hb
  exact congrArg Int.ofNat (Nat.div_div_eq_div_mul n p q)
theorem i_md {x a b : Int} (hx : 0 ≤ x) (ha : 0 ≤ a) (hb : 0 ≤ b) : x % (a * b) / a = x / a % b := by
  obtain ⟨n, rfl⟩ := Int.eq_ofNat_of_zero_le hx
  obtain ⟨p, rfl⟩ := Int.eq_ofNat_of_zero_le ha
  obtain ⟨q, rfl⟩ := Int.eq_ofNat_of_zero_le hb
  exact congrArg Int.ofNat (Nat.mod_mul_right_div_self n p q)
theorem i_mm {x a b : Int} (hx : 0 ≤ x) (ha : 0 ≤ a) (hb : 0 ≤ b) : x % (a * b) % a = x % a := by
  obtain ⟨n, rfl⟩ := Int.eq_ofNat_of_zero_le hx
  obtain ⟨p, rfl⟩ := Int.eq_ofNat_of_zero_le ha
  obtain ⟨q, rfl⟩ := Int.eq_ofNat_of_zero_le hb
  exact congrArg Int.ofNat (Nat.mod_mod_of_dvd n (Nat.dvd_mul_right p q))
theorem i_dr {x y : Int} (hx : 0 ≤ x) (hy : 1 ≤ y) : 0 ≤ x / y ∧ x / y ≤ x := by
  obtain ⟨n, rfl⟩ := Int.eq_ofNat_of_zero_le hx
  obtain ⟨p, rfl⟩ := Int.eq_ofNat_of_zero_le (show 0 ≤ y by omega)
  have h := Nat.div_le_self n p
  have e : ((n : Int) / (p : Int)) = ((n / p : Nat) : Int) := rfl
  rw [e]
  generalize n / p = q at h ⊢
  omega
theorem i_mr {x y : Int} (hx : 0 ≤ x) (hy : 1 ≤ y) : 0 ≤ x % y ∧ x % y < y ∧ x % y ≤ x := by
  obtain ⟨n, rfl⟩ := Int.eq_ofNat_of_zero_le hx
  obtain ⟨p, rfl⟩ := Int.eq_ofNat_of_zero_le (show 0 ≤ y by omega)
  have h := Nat.mod_lt n (show p > 0 by omega)
  have h2 := Nat.mod_le n p
  have e : ((n : Int) % (p : Int)) = ((n % p : Nat) : Int) := rfl
  rw [e]
  omega
theorem i_d1 (x : Int) : x / 1 = x := by omega
theorem i_m1 (x : Int) : x % 1 = 0 := by omega
def prd (v : Nat → Int) : Nat → Int
  | 0 => 1
  | t + 1 => prd v t * v t
def dgt (v : Nat → Int) (x : Int) (t : Nat) : Int := x / prd v t % v t
theorem prd_p {v : Nat → Int} (hv : ∀ t, 1 ≤ v t) : ∀ t, 1 ≤ prd v t := by
  intro t
  induction t with
  | zero => exact Int.le_refl 1
  | succ t ih =>
    show 1 ≤ prd v t * v t
    have h1 : 1 * 1 ≤ prd v t * v t := Int.mul_le_mul ih (hv t) (by omega) (by omega)
    omega
theorem prd_d {v : Nat → Int} (hv : ∀ t, 1 ≤ v t) {x : Int} (hx : 0 ≤ x) (t : Nat) : x / prd v (t + 1) = x / prd v t / v t := by
  have h1 := prd_p hv t
  have h2 := hv t
  exact (i_dd hx (by omega) (by omega)).symm
/-- by how many the t-th asked one may be -/
def dvu (u : Nat → Int) (t : Nat) : Int := mx1 (u (21 * (t / 4) + 15 + t % 4))
theorem mx1_p (x : Int) : 1 ≤ mx1 x := by
  unfold mx1
  split <;> omega
theorem dvu_p (u : Nat → Int) (t : Nat) : 1 ≤ dvu u t := mx1_p _
theorem dvu_i {u : Nat → Int} {k j : Nat} (hj : j < 4) : dvu u (4 * k + j) = mx1 (u (21 * k + 15 + j)) := by
  unfold dvu
  rw [show (4 * k + j) / 4 = k by omega, show (4 * k + j) % 4 = j by omega]
/-- a saying's hours, by the digits d -/
def hsm (u : Nat → Int) (d : Nat → Int) (k : Nat) : Nat → Int
  | 0 => 0
  | i + 1 => hsm u d k i + u (21 * k + 7 + i) + d i
theorem hsm_c {u : Nat → Int} {d d' : Nat → Int} {k : Nat} : ∀ n, (∀ i, i < n → d i = d' i) → hsm u d k n = hsm u d' k n := by
  intro n
  induction n with
  | zero => intro _; rfl
  | succ n ih =>
    intro h
    show hsm u d k n + u (21 * k + 7 + n) + d n = hsm u d' k n + u (21 * k + 7 + n) + d' n
    rw [ih (fun i hi => h i (by omega)), h n (by omega)]
def hrv (u : Nat → Int) (x : Int) (k i : Nat) : Int := if (u (21 * k + 19) = 1 ∨ dgt (dvu u) x (4 * k + 3) = 1) ∧ 1 ≤ i then -1 else hsm u (fun j => dgt (dvu u) x (4 * k + j)) k (i + 1)
/-! the class: a saying's own turn -/
def mvu (u : Nat → Int) (k i : Nat) : Int := mx1 (u (21 * k + 15 + i))
def rst (m : Nat → Int) (y : Int) : Nat → Int
  | 0 => y
  | i + 1 => rst m y i / m i
def chv (u : Nat → Int) (k : Nat) (y : Int) (i : Nat) : Int := if (u (21 * k + 19) = 1 ∨ rst (mvu u k) y 3 = 1) ∧ 1 ≤ i then -1 else hsm u (fun j => rst (mvu u k) y j % mvu u k j) k (i + 1)
theorem rst_dg {m : Nat → Int} (hm : ∀ j, 1 ≤ m j) {R : Int} (hR : 0 ≤ R) : (rst m (R % (1 * m 0 * m 1 * m 2 * m 3)) 0 % m 0 = R % m 0) ∧ (rst m (R % (1 * m 0 * m 1 * m 2 * m 3)) 1 % m 1 = R / m 0 % m 1) ∧ (rst m (R % (1 * m 0 * m 1 * m 2 * m 3)) 2 % m 2 = R / m 0 / m 1 % m 2) ∧ (rst m (R % (1 * m 0 * m 1 * m 2 * m 3)) 3 = R / m 0 / m 1 / m 2 % m 3) := by
  have h0 := hm 0
  have h1 := hm 1
  have h2 := hm 2
  have h3 := hm 3
  have p23 : 1 ≤ m 2 * m 3 := by
    have h1 : 1 * 1 ≤ m 2 * m 3 := Int.mul_le_mul h2 h3 (by omega) (by omega)
    omega
  have p123 : 1 ≤ m 1 * (m 2 * m 3) := by
    have h1 : 1 * 1 ≤ m 1 * (m 2 * m 3) := Int.mul_le_mul h1 p23 (by omega) (by omega)
    omega
  have d0 := i_dr hR h0
  have d1 := i_dr d0.1 h1
  have d2 := i_dr d1.1 h2
  have e : 1 * m 0 * m 1 * m 2 * m 3 = m 0 * (m 1 * (m 2 * m 3)) := by
    rw [Int.one_mul, Int.mul_assoc, Int.mul_assoc]
  have r1 : rst m (R % (m 0 * (m 1 * (m 2 * m 3)))) 1 = R / m 0 % (m 1 * (m 2 * m 3)) := i_md hR (by omega) (by omega)
  have r2 : rst m (R % (m 0 * (m 1 * (m 2 * m 3)))) 2 = R / m 0 / m 1 % (m 2 * m 3) := by
    show rst m (R % (m 0 * (m 1 * (m 2 * m 3)))) 1 / m 1 = _
    rw [r1]
    exact i_md d0.1 (by omega) (by omega)
  have r3 : rst m (R % (m 0 * (m 1 * (m 2 * m 3)))) 3 = R / m 0 / m 1 / m 2 % m 3 := by
    show rst m (R % (m 0 * (m 1 * (m 2 * m 3)))) 2 / m 2 = _
    rw [r2]
    exact i_md d1.1 (by omega) (by omega)
  rw [e]
  refine ⟨?_, ?_, ?_, r3⟩
  · exact i_mm hR (by omega) (by omega)
  · rw [r1]; exact i_mm d0.1 (by omega) (by omega)
  · rw [r2]; exact i_mm d1.1 (by omega) (by omega)
/-- a saying's own turn in combo x -/
def own (u : Nat → Int) (x : Int) (k : Nat) : Int := x / prd (dvu u) (4 * k) % tnv u k
theorem own_hv {u : Nat → Int} {x : Int} (hx : 0 ≤ x) (k i : Nat) (hi : i < 3) : chv u k (own u x k) i = hrv u x k i := by
  have hm : ∀ j, 1 ≤ mvu u k j := fun j => mx1_p _
  have hp := prd_p (dvu_p u) (4 * k)
  have hR := (i_dr hx hp).1
  have D := rst_dg hm hR
  have e4 : tnv u k = 1 * mvu u k 0 * mvu u k 1 * mvu u k 2 * mvu u k 3 := rfl
  have g : ∀ j, j < 4 → dvu u (4 * k + j) = mvu u k j := fun j hj => dvu_i hj
  have x1 : x / prd (dvu u) (4 * k + 1) = x / prd (dvu u) (4 * k) / mvu u k 0 := by
    rw [prd_d (dvu_p u) hx, show dvu u (4 * k) = mvu u k 0 from g 0 (by omega)]
  have x2 : x / prd (dvu u) (4 * k + 2) = x / prd (dvu u) (4 * k) / mvu u k 0 / mvu u k 1 := by
    rw [prd_d (dvu_p u) hx, x1, g 1 (by omega)]
  have x3 : x / prd (dvu u) (4 * k + 3) = x / prd (dvu u) (4 * k) / mvu u k 0 / mvu u k 1 / mvu u k 2 := by
    rw [prd_d (dvu_p u) hx, x2, g 2 (by omega)]
  have d0 : rst (mvu u k) (own u x k) 0 % mvu u k 0 = dgt (dvu u) x (4 * k + 0) := by
    unfold own dgt
    rw [e4, D.1, g 0 (by omega)]
    rfl
  have d1 : rst (mvu u k) (own u x k) 1 % mvu u k 1 = dgt (dvu u) x (4 * k + 1) := by
    unfold own dgt
    rw [e4, D.2.1, g 1 (by omega), x1]
  have d2 : rst (mvu u k) (own u x k) 2 % mvu u k 2 = dgt (dvu u) x (4 * k + 2) := by
    unfold own dgt
    rw [e4, D.2.2.1, g 2 (by omega), x2]
  have d3 : rst (mvu u k) (own u x k) 3 = dgt (dvu u) x (4 * k + 3) := by
    unfold own dgt
    rw [e4, D.2.2.2, g 3 (by omega), x3]
  unfold chv hrv
  rw [d3, hsm_c (d := fun j => rst (mvu u k) (own u x k) j % mvu u k j) (d' := fun j => dgt (dvu u) x (4 * k + j)) (i + 1) (fun j hj => ?_)]
  rcases (show j = 0 ∨ j = 1 ∨ j = 2 by omega) with e | e | e <;> subst e
  · exact d0
  · exact d1
  · exact d2
theorem own_n {u : Nat → Int} {x : Int} (hx : 0 ≤ x) (k : Nat) : x / prd (dvu u) (4 * (k + 1)) = x / prd (dvu u) (4 * k) / tnv u k := by
  have hp := prd_p (dvu_p u) (4 * k)
  have hR := (i_dr hx hp).1
  have g : ∀ j, j < 4 → dvu u (4 * k + j) = mvu u k j := fun j hj => dvu_i hj
  have hm : ∀ j, 1 ≤ mvu u k j := fun j => mx1_p _
  have h0 := hm 0
  have h1 := hm 1
  have h2 := hm 2
  have h3 := hm 3
  have d0 := i_dr hR h0
  have d1 := i_dr d0.1 h1
  have d2 := i_dr d1.1 h2
  rw [show 4 * (k + 1) = 4 * k + 3 + 1 by omega, prd_d (dvu_p u) hx, prd_d (dvu_p u) hx, prd_d (dvu_p u) hx, prd_d (dvu_p u) hx, show dvu u (4 * k) = mvu u k 0 from g 0 (by omega), g 1 (by omega), g 2 (by omega), g 3 (by omega)]
  have e4 : tnv u k = 1 * mvu u k 0 * mvu u k 1 * mvu u k 2 * mvu u k 3 := rfl
  have p01 : 1 ≤ mvu u k 0 * mvu u k 1 := by
    have q : 1 * 1 ≤ mvu u k 0 * mvu u k 1 := Int.mul_le_mul h0 h1 (by omega) (by omega)
    omega
  have p012 : 1 ≤ mvu u k 0 * mvu u k 1 * mvu u k 2 := by
    have q : 1 * 1 ≤ mvu u k 0 * mvu u k 1 * mvu u k 2 := Int.mul_le_mul p01 h2 (by omega) (by omega)
    omega
  rw [e4, Int.one_mul, i_dd hR (by omega) (by omega), i_dd hR (by omega) (by omega), i_dd hR (by omega) (by omega)]
end
section
/-! BENCHES, exactly: cells u, rules ro, the bench's arrays a, its bargain x y z -/
def EB (b t c s r : Nat) (cb : Int) (u ro : Nat → Int) (a : Nat → Nat → Int) (x y z : Int) (h : av_H) : Prop := IB b t c s r cb h ∧ hA h c = u ∧ hA h r = ro ∧ (∀ j, j < 11 → hA h (b + 1 + j) = a j) ∧ hF h b 13 = x ∧ hF h b 14 = y ∧ hF h b 15 = z
/-- but for the bench's own rows and its bargain nothing changed -/
def FN (b : Nat) (g h : av_H) : Prop := Fr1 g h ∧ (∀ q, (∀ j, j < 11 → q ≠ b + 1 + j) → hA h q = hA g q) ∧ ∀ o f, o ≠ b → hF h o f = hF g o f
theorem FN_rf (b : Nat) (h : av_H) : FN b h h := ⟨Fr1_rf h, fun _ _ => rfl, fun _ _ _ => rfl⟩
section
variable {b t c s r : Nat} {cb : Int} {u ro : Nat → Int} {a : Nat → Nat → Int} {x y z : Int} {g h : av_H}
theorem eb_u (e : EB b t c s r cb u ro a x y z h) : hA h c = u := e.2.1
theorem eb_ro (e : EB b t c s r cb u ro a x y z h) : hA h r = ro := e.2.2.1
theorem eb_a (e : EB b t c s r cb u ro a x y z h) (j : Nat) (hj : Nat.blt j 11 = true) : hA h (b + 1 + j) = a j := e.2.2.2.1 j (Nat.le_of_ble_eq_true hj)
theorem eb_x (e : EB b t c s r cb u ro a x y z h) : hF h b 13 = x := e.2.2.2.2.1
theorem eb_y (e : EB b t c s r cb u ro a x y z h) : hF h b 14 = y := e.2.2.2.2.2.1
theorem eb_z (e : EB b t c s r cb u ro a x y z h) : hF h b 15 = z := e.2.2.2.2.2.2
theorem eb_uv (e : EB b t c s r cb u ro a x y z h) (j : Nat) : -1 ≤ u j ∧ u j ≤ 100000 := by
  have := co_v (ib_co e.1) j
  rw [eb_u e] at this
  exact this
theorem eb_um (e : EB b t c s r cb u ro a x y z h) (k j : Nat) (hj : j < 4) : u (21 * k + 15 + j) ≤ 16 := by
  have := (ib_co e.1).2.2.2.2.2.2.2.2.2 k j hj
  rw [eb_u e] at this
  exact this
theorem eb_rv (e : EB b t c s r cb u ro a x y z h) (j : Nat) : -2 ≤ ro j ∧ ro j ≤ 999 := by
  have := ib_rv e.1 j
  rw [eb_ro e] at this
  exact this
theorem eb_xr (e : EB b t c s r cb u ro a x y z h) : -1 ≤ x ∧ x ≤ 11 := by
  have := ib_mb e.1
  rw [eb_x e] at this
  exact this
theorem eb_yr (e : EB b t c s r cb u ro a x y z h) : -1 ≤ y ∧ y ≤ 11 := by
  have := ib_mo e.1
  rw [eb_y e] at this
  exact this
theorem EB_wA {j i : Nat} {v : Int} (e : EB b t c s r cb u ro a x y z h) (hj : Nat.blt j 11 = true) : EB b t c s r cb u ro (av_u2 a j i v) x y z (hwA h (b + 1 + j) i v) := by
  have sa := sA_bn e.1.2.1 j hj
  have ra := rwc_bn e.1.2.1 j hj
  refine ⟨IB_wA e.1 _ sa ra _ _, ?_, ?_, fun k hk => ?_, e.2.2.2.2⟩
  · rw [hA_ne (fun q => by rw [← q, sA_cells (ib_co e.1).2.2.2.2.2.2.2.1] at sa; cases sa)]
    exact e.2.1
  · rw [hA_ne (fun q => by rw [← q, e.1.2.2.2.2.2.2] at ra; cases ra)]
    exact e.2.2.1
  · by_cases q : k = j
    · subst q
      rw [hA_wu, e.2.2.2.1 k hk]
      funext p
      unfold av_u1 av_u2
      by_cases w : p = i
      · rw [if_pos w, if_pos ⟨rfl, w⟩]
      · rw [if_neg w, if_neg (fun z => w z.2)]
    · rw [hA_ne (by omega), e.2.2.2.1 k hk, av_u2_ne q]
theorem FN_wA {j i : Nat} {v : Int} (F : FN b g h) (hb : bn b) (hj : Nat.blt j 11 = true) : FN b g (hwA h (b + 1 + j) i v) := by
  refine ⟨Fr1_wA F.1 (sA_bn hb j hj), fun q e => ?_, F.2.2⟩
  rw [hA_ne (e j (Nat.le_of_ble_eq_true hj))]
  exact F.2.1 q e
theorem bn_sF {f : Nat} (hb : bn b) (hf : f = 13 ∨ f = 14 ∨ f = 15) : sF b f = true := by
  have := sB_bn hb
  rcases hf with e | e | e <;> subst e <;> simp [sF, this]
theorem FN_wF {f : Nat} {v : Int} (F : FN b g h) (hb : bn b) (hf : f = 13 ∨ f = 14 ∨ f = 15) : FN b g (hwF h b f v) := by
  refine ⟨Fr1_wF F.1 (bn_sF hb hf), F.2.1, fun o k e => ?_⟩
  rw [show hF (hwF h b f v) o = hF h o from av_u2_ne e]
  exact F.2.2 o k e
theorem EB_w13 {v : Int} (e : EB b t c s r cb u ro a x y z h) (hv : -1 ≤ v ∧ v ≤ 11) : EB b t c s r cb u ro a v y z (hwF h b 13 v) := ⟨IB_wF e.1 13 (Or.inl rfl) v (Or.inr hv), e.2.1, e.2.2.1, e.2.2.2.1, hF_self, (hF_oth (by decide)).trans (eb_y e), (hF_oth (by decide)).trans (eb_z e)⟩
theorem EB_w14 {v : Int} (e : EB b t c s r cb u ro a x y z h) (hv : -1 ≤ v ∧ v ≤ 11) : EB b t c s r cb u ro a x v z (hwF h b 14 v) := ⟨IB_wF e.1 14 (Or.inr (Or.inl rfl)) v (Or.inr hv), e.2.1, e.2.2.1, e.2.2.2.1, (hF_oth (by decide)).trans (eb_x e), hF_self, (hF_oth (by decide)).trans (eb_z e)⟩
theorem EB_w15 {v : Int} (e : EB b t c s r cb u ro a x y z h) : EB b t c s r cb u ro a x y v (hwF h b 15 v) := ⟨IB_wF e.1 15 (Or.inr (Or.inr rfl)) v (Or.inl rfl), e.2.1, e.2.2.1, e.2.2.2.1, (hF_oth (by decide)).trans (eb_x e), (hF_oth (by decide)).trans (eb_y e), hF_self⟩
end
section
variable {sc : av_Sr} {cd : List (Nat × av_E)} {Q : Option av_V → av_H → Prop} {pc p' : Nat} {lv : av_L} {r' : List av_V} {g h : av_H} {b t c s r : Nat} {cb : Int} {u ro : Nat → Int} {a : Nat → Nat → Int} {x y z : Int}
theorem xb_as {n : Nat} {i v : Int} (hx : cd.lookup pc = some (av_q (.iastore))) (hp : pc + 1 = p') (e : EB b t c s r cb u ro a x y z h) (F : FN b g h) (j : Nat) (hj : Nat.blt j 11 = true) (hn : c_K (36 + j) = (20, n)) (hi : 0 ≤ i ∧ i < n ∧ (n : Int) < 2147483648) (hw : ∀ h', EB b t c s r cb u ro (av_u2 a j i.toNat v) x y z h' → FN b g h' → av_wp sc cd p' lv r' h' Q) : av_wp sc cd pc lv (.inl v :: .inl i :: .inr (.inr (.inl (some (b + 1 + j)))) :: r') h Q :=
  wq_as hx hp ((ib_k e.1 j (Nat.ble_eq_true_of_le (Nat.le_succ_of_le (Nat.le_of_ble_eq_true hj)))).trans hn) hi (hw _ (EB_wA e hj) (FN_wA F e.1.2.1 hj))
theorem xb_zs {n : Nat} {i v : Int} (hx : cd.lookup pc = some (av_q (.bastore))) (hp : pc + 1 = p') (e : EB b t c s r cb u ro a x y z h) (F : FN b g h) (j : Nat) (hj : Nat.blt j 11 = true) (hn : c_K (36 + j) = (22, n)) (hi : 0 ≤ i ∧ i < n ∧ (n : Int) < 2147483648) (hv : v = 0 ∨ v = 1) (hw : ∀ h', EB b t c s r cb u ro (av_u2 a j i.toNat v) x y z h' → FN b g h' → av_wp sc cd p' lv r' h' Q) : av_wp sc cd pc lv (.inl v :: .inl i :: .inr (.inr (.inl (some (b + 1 + j)))) :: r') h Q :=
  wq_zs hx hp ((ib_k e.1 j (Nat.ble_eq_true_of_le (Nat.le_succ_of_le (Nat.le_of_ble_eq_true hj)))).trans hn) hi hv (hw _ (EB_wA e hj) (FN_wA F e.1.2.1 hj))
theorem xb_p13 {idx : Nat} {v : Int} (hx : cd.lookup pc = some (av_qf (.putfield idx) 0 13 0)) (hp : pc + 3 = p') (e : EB b t c s r cb u ro a x y z h) (F : FN b g h) (hv : -1 ≤ v ∧ v ≤ 11) (hw : ∀ h', EB b t c s r cb u ro a v y z h' → FN b g h' → av_wp sc cd p' lv r' h' Q) : av_wp sc cd pc lv (.inl v :: .inr (.inr (.inl (some b))) :: r') h Q :=
  wq_pi hx hp (congrArg Prod.fst (ib_k0 e.1)) rfl (hw _ (EB_w13 e hv) (FN_wF F e.1.2.1 (Or.inl rfl)))
theorem xb_p14 {idx : Nat} {v : Int} (hx : cd.lookup pc = some (av_qf (.putfield idx) 0 14 0)) (hp : pc + 3 = p') (e : EB b t c s r cb u ro a x y z h) (F : FN b g h) (hv : -1 ≤ v ∧ v ≤ 11) (hw : ∀ h', EB b t c s r cb u ro a x v z h' → FN b g h' → av_wp sc cd p' lv r' h' Q) : av_wp sc cd pc lv (.inl v :: .inr (.inr (.inl (some b))) :: r') h Q :=
  wq_pi hx hp (congrArg Prod.fst (ib_k0 e.1)) rfl (hw _ (EB_w14 e hv) (FN_wF F e.1.2.1 (Or.inr (Or.inl rfl))))
theorem xb_p15 {idx : Nat} {v : Int} (hx : cd.lookup pc = some (av_qf (.putfield idx) 0 15 0)) (hp : pc + 3 = p') (e : EB b t c s r cb u ro a x y z h) (F : FN b g h) (hw : ∀ h', EB b t c s r cb u ro a x y v h' → FN b g h' → av_wp sc cd p' lv r' h' Q) : av_wp sc cd pc lv (.inl v :: .inr (.inr (.inl (some b))) :: r') h Q :=
  wq_pi hx hp (congrArg Prod.fst (ib_k0 e.1)) rfl (hw _ (EB_w15 e) (FN_wF F e.1.2.1 (Or.inr (Or.inr rfl))))
end
/-! a saying's hours are set -/
def SHf (k : Nat) (a a' : Nat → Nat → Int) : Prop := (∀ q, (∀ i, i < 3 → q ≠ 12 * i + k) → a' 0 q = a 0 q) ∧ ∀ j, j ≠ 0 → a' j = a j
def SHc (u : Nat → Int) (k : Nat) (y : Int) (a a' : Nat → Nat → Int) : Prop := (∀ i, i < 3 → a' 0 (12 * i + k) = chv u k y i) ∧ SHf k a a'
def cdg (u : Nat → Int) (k : Nat) (y : Int) : Nat → Int := fun j => rst (mvu u k) y j % mvu u k j
def SHi (u : Nat → Int) (k : Nat) (y : Int) (a : Nat → Nat → Int) (i : Nat) (a' : Nat → Nat → Int) : Prop := (∀ q, q < i → a' 0 (12 * q + k) = hsm u (cdg u k y) k (q + 1)) ∧ SHf k a a'
section
variable {u : Nat → Int} {k : Nat} {y v : Int} {a a' : Nat → Nat → Int} {i : Nat}
theorem SHf_w {n : Nat} (x : SHf k a a') (hn : ∃ i, i < 3 ∧ n = 12 * i + k) : SHf k a (av_u2 a' 0 n v) := by
  obtain ⟨i, hi, e⟩ := hn
  refine ⟨fun q hq => ?_, fun j hj => ?_⟩
  · rw [av_u2_oth (fun z => hq i hi (by omega))]
    exact x.1 q hq
  · rw [av_u2_ne hj]
    exact x.2 j hj
theorem SHi_0 : SHi u k y a 0 a := ⟨fun q hq => absurd hq (by omega), fun _ _ => rfl, fun _ _ => rfl⟩
theorem SHi_s (x : SHi u k y a i a') (hi : i < 3) (hk : k < 12) (hv : v = hsm u (cdg u k y) k (i + 1)) {n : Nat} (hn : n = 12 * i + k) : SHi u k y a (i + 1) (av_u2 a' 0 n v) := by
  subst hn
  refine ⟨fun q hq => ?_, SHf_w x.2 ⟨i, hi, rfl⟩⟩
  by_cases e : q = i
  · rw [e, av_u2_self, hv]
  · rw [av_u2_oth (by omega)]
    exact x.1 q (by omega)
theorem SH_no (x : SHi u k y a 3 a') (h1 : u (21 * k + 19) ≠ 1) (h2 : rst (mvu u k) y 3 ≠ 1) : SHc u k y a a' := by
  refine ⟨fun i hi => ?_, x.2⟩
  rw [x.1 i hi]
  unfold chv
  rw [if_neg (fun z => z.1.elim h1 h2)]
  rfl
theorem SH_lo (x : SHi u k y a 3 a') (hk : k < 12) (h : u (21 * k + 19) = 1 ∨ rst (mvu u k) y 3 = 1) {n m : Nat} (hn : n = 12 + k) (hm : m = 24 + k) : SHc u k y a (av_u2 (av_u2 a' 0 n (-1)) 0 m (-1)) := by
  subst hn
  subst hm
  refine ⟨fun i hi => ?_, SHf_w (SHf_w x.2 ⟨1, by omega, by omega⟩) ⟨2, by omega, by omega⟩⟩
  unfold chv
  rcases (show i = 0 ∨ i = 1 ∨ i = 2 by omega) with e | e | e <;> subst e
  · rw [av_u2_oth (by omega), av_u2_oth (by omega), x.1 0 (by omega), if_neg (fun z => by omega)]
    rfl
  · rw [if_pos ⟨h, by omega⟩, av_u2_oth (by omega), show 12 * 1 + k = 12 + k by omega, av_u2_self]
  · rw [if_pos ⟨h, by omega⟩, show 12 * 2 + k = 24 + k by omega, av_u2_self]
end
/-! all sayings hear their hours -/
def HO (u : Nat → Int) (q : Nat) (a : Nat → Nat → Int) : Prop := (0 ≤ a 1 q ∧ a 1 q ≤ 65536) ∧ ∀ i, i < 3 → a 0 (12 * i + q) = chv u q (a 1 q) i
def HZ (u : Nat → Int) (a : Nat → Nat → Int) : Prop := ∀ q, q < 12 → a 1 q = -1 ∨ HO u q a
def HK (u : Nat → Int) (x : Int) (a : Nat → Nat → Int) (k : Nat) (a' : Nat → Nat → Int) : Prop := (∀ q, q < k → a' 1 q = own u x q ∧ HO u q a') ∧ HZ u a' ∧ ∀ j, 2 ≤ j → a' j = a j
section
variable {u : Nat → Int} {x : Int} {a a' a'' : Nat → Nat → Int} {k : Nat}
theorem HK_0 (z : HZ u a) : HK u x a 0 a := ⟨fun q hq => absurd hq (by omega), z, fun _ _ => rfl⟩
theorem HK_same (z : HK u x a k a') (hk : k < 12) (e : a' 1 k = own u x k) (p : 0 ≤ own u x k) : HK u x a (k + 1) a' := by
  refine ⟨fun q hq => ?_, z.2⟩
  by_cases c : q = k
  · subst c
    refine ⟨e, ?_⟩
    rcases z.2.1 q hk with w | w
    · omega
    · exact w
  · exact z.1 q (by omega)
theorem HK_set (z : HK u x a k a') (hk : k < 12) (p : 0 ≤ own u x k ∧ own u x k ≤ 65536) {n : Nat} (hn : n = k) {w : Int} (hw : w = own u x k) (S : SHc u k w (av_u2 a' 1 n w) a'') : HK u x a (k + 1) a'' := by
  subst hn
  subst hw
  have e1 : ∀ q, a'' 1 q = if q = n then own u x n else a' 1 q := fun q => by
    rw [S.2.2 1 (by omega)]
    by_cases c : q = n
    · rw [if_pos c, c, av_u2_self]
    · rw [if_neg c, av_u2_oth c]
  have e0 : ∀ q, q < 12 → q ≠ n → ∀ i, i < 3 → a'' 0 (12 * i + q) = a' 0 (12 * i + q) := fun q hq hn i hi => by
    rw [S.2.1 (12 * i + q) (fun j hj => by omega), av_u2_ne (by omega)]
  have hn2 : HO u n a'' := ⟨by rw [e1, if_pos rfl]; exact p, fun i hi => by rw [e1, if_pos rfl]; exact S.1 i hi⟩
  have ho : ∀ q, q < 12 → q ≠ n → HO u q a' → HO u q a'' := fun q hq hne H => ⟨by rw [e1, if_neg hne]; exact H.1, fun i hi => by rw [e1, if_neg hne, e0 q hq hne i hi]; exact H.2 i hi⟩
  refine ⟨fun q hq => ?_, fun q hq => ?_, fun j hj => ?_⟩
  · by_cases c : q = n
    · rw [c, e1, if_pos rfl]
      exact ⟨rfl, hn2⟩
    · rw [e1, if_neg c]
      exact ⟨(z.1 q (by omega)).1, ho q (by omega) c (z.1 q (by omega)).2⟩
  · by_cases c : q = n
    · rw [c]; exact Or.inr hn2
    · rcases z.2.1 q hq with w | w
      · exact Or.inl (by rw [e1, if_neg c]; exact w)
      · exact Or.inr (ho q hq c w)
  · rw [S.2.2 j (by omega), av_u2_ne (by omega)]
    exact z.2.2 j hj
/-- the hours of combo x -/
def HX (u : Nat → Int) (s : Nat) (x : Int) (a : Nat → Nat → Int) : Prop := ∀ q, q < s → ∀ i, i < 3 → a 0 (12 * i + q) = hrv u x q i
theorem HK_e {s : Nat} (z : HK u x a s a') (hx : 0 ≤ x) : HX u s x a' := fun q hq i hi => by
  have w := z.1 q hq
  rw [w.2.2 i hi, w.1]
  exact own_hv hx q i hi
end
def hof (a : Nat → Nat → Int) (k w : Int) : Int := if (0 ≤ k ∧ k < 12) ∧ 0 ≤ w ∧ w ≤ 2 then a 0 (w * 12 + k).toNat else -1
theorem HZ_r {u : Nat → Int} {a : Nat → Nat → Int} (z : HZ u a) {q : Nat} (hq : q < 12) : -1 ≤ a 1 q ∧ a 1 q ≤ 65536 := by
  rcases z q hq with e | e
  · omega
  · have := e.1
    omega
section
variable {u : Nat → Int} {k i y w w7 v rest now : Int}
theorem mvu_x (hk : 0 ≤ k) (hi : 0 ≤ i) (e : u (Int.toNat (k * 21 + 15 + i)) = w) : mvu u k.toNat i.toNat = mx1 w := by
  unfold mvu
  rw [← e]
  congr 2
  omega
theorem SH_a (hk : 0 ≤ k) (hi : 0 ≤ i) (e : u (Int.toNat (k * 21 + 15 + i)) = w) (h : w ≤ 0) (e1 : rest = rst (mvu u k.toNat) y i.toNat) : rest = rst (mvu u k.toNat) y (i.toNat + 1) := by
  show rest = rst (mvu u k.toNat) y i.toNat / mvu u k.toNat i.toNat
  rw [mvu_x hk hi e, ← e1, show mx1 w = 1 from if_pos (by omega), i_d1]
theorem SH_b (hk : 0 ≤ k) (hi : 0 ≤ i) (e : u (Int.toNat (k * 21 + 15 + i)) = w) (h : 0 < w) (e1 : rest = rst (mvu u k.toNat) y i.toNat) (ev : v = rest / w) : v = rst (mvu u k.toNat) y (i.toNat + 1) := by
  show v = rst (mvu u k.toNat) y i.toNat / mvu u k.toNat i.toNat
  rw [mvu_x hk hi e, ← e1, show mx1 w = w from if_neg (by omega), ev]
theorem SH_c (hk : 0 ≤ k) (hi : 0 ≤ i) (e : u (Int.toNat (k * 21 + 15 + i)) = w) (h : w ≤ 0) (e2 : now = hsm u (cdg u k.toNat y) k.toNat i.toNat) (e7 : u (Int.toNat (k * 21 + 7 + i)) = w7) : now + w7 = hsm u (cdg u k.toNat y) k.toNat (i.toNat + 1) := by
  show now + w7 = hsm u (cdg u k.toNat y) k.toNat i.toNat + u (21 * k.toNat + 7 + i.toNat) + rst (mvu u k.toNat) y i.toNat % mvu u k.toNat i.toNat
  rw [mvu_x hk hi e, ← e2, show mx1 w = 1 from if_pos (by omega), i_m1, ← e7, show (k * 21 + 7 + i).toNat = 21 * k.toNat + 7 + i.toNat by omega]
  omega
theorem SH_d (hk : 0 ≤ k) (hi : 0 ≤ i) (e : u (Int.toNat (k * 21 + 15 + i)) = w) (h : 0 < w) (e1 : rest = rst (mvu u k.toNat) y i.toNat) (e2 : now = hsm u (cdg u k.toNat y) k.toNat i.toNat) (e7 : u (Int.toNat (k * 21 + 7 + i)) = w7) (ev : v = rest % w) : now + w7 + v = hsm u (cdg u k.toNat y) k.toNat (i.toNat + 1) := by
  show now + w7 + v = hsm u (cdg u k.toNat y) k.toNat i.toNat + u (21 * k.toNat + 7 + i.toNat) + rst (mvu u k.toNat) y i.toNat % mvu u k.toNat i.toNat
  rw [mvu_x hk hi e, ← e2, ← e1, show mx1 w = w from if_neg (by omega), ev, ← e7, show (k * 21 + 7 + i).toNat = 21 * k.toNat + 7 + i.toNat by omega]
end
end
section
/-! A BENCH HEARS, exactly -/
set_option maxRecDepth 100000 in
set_option maxHeartbeats 4000000 in
theorem cx_6 {g h : av_H} {b t c s r : Nat} {cb : Int} {u ro : Nat → Int} {a : Nat → Nat → Int} {mb mo ma : Int} (E : EB b t c s r cb u ro a mb mo ma h) (F : FN b g h) (k : Int) (qk : -2147483648 ≤ k ∧ k ≤ 2147483647) (w : Int) (qw : -2147483648 ≤ w ∧ w ≤ 2147483647) {Q : Option av_V → av_H → Prop} (hq : Q (some (.inl (hof a k w))) h) : av_wp none cd_6 0 [some (.inr (.inr (.inl (some (b))))), some (.inl k), some (.inl w)] [] h Q := by
  have s12 := co_s12 (ib_co E.1)
  have cbr := co_cbr (ib_co E.1)
  have mbr := eb_xr E
  have mor := eb_yr E
  refine av_wp_sqF ck_6 1 (pc' := 1) (lv' := [some (.inr (.inr (.inl (some (b))))), some (.inl k), some (.inl w)]) (st' := [.inl k]) (h' := h) rfl ?_
  refine wq_k1 (p' := 4) (ck_6 _ _ rfl) rfl ⟨by omega, by omega⟩ (fun c1 => ?_) (fun c2 => ?_)
  · have c1 : k < (0) := c1
    refine av_wp_sqF ck_6 1 (pc' := 20) (lv' := [some (.inr (.inr (.inl (some (b))))), some (.inl k), some (.inl w)]) (st' := [.inl (-1)]) (h' := h) rfl ?_
    refine av_wp_ret (v := some (.inl (-1))) (ck_6 _ _ rfl) rfl rfl ?_
    have z : hof a k w = -1 := if_neg (by omega)
    rw [← z]
    exact hq
  · have c2 : (0) ≤ k := c2
    refine av_wp_sqF ck_6 2 (pc' := 7) (lv' := [some (.inr (.inr (.inl (some (b))))), some (.inl k), some (.inl w)]) (st' := [.inl (12), .inl k]) (h' := h) rfl ?_
    refine wq_k2 (p' := 10) (ck_6 _ _ rfl) rfl ⟨by omega, by omega⟩ ⟨by omega, by omega⟩ (fun c3 => ?_) (fun c4 => ?_)
    · have c3 : (12) ≤ k := c3
      refine av_wp_sqF ck_6 1 (pc' := 20) (lv' := [some (.inr (.inr (.inl (some (b))))), some (.inl k), some (.inl w)]) (st' := [.inl (-1)]) (h' := h) rfl ?_
      refine av_wp_ret (v := some (.inl (-1))) (ck_6 _ _ rfl) rfl rfl ?_
      have z : hof a k w = -1 := if_neg (by omega)
      rw [← z]
      exact hq
    · have c4 : k < (12) := c4
      refine av_wp_sqF ck_6 1 (pc' := 11) (lv' := [some (.inr (.inr (.inl (some (b))))), some (.inl k), some (.inl w)]) (st' := [.inl w]) (h' := h) rfl ?_
      refine wq_k1 (p' := 14) (ck_6 _ _ rfl) rfl ⟨by omega, by omega⟩ (fun c5 => ?_) (fun c6 => ?_)
      · have c5 : w < (0) := c5
        refine av_wp_sqF ck_6 1 (pc' := 20) (lv' := [some (.inr (.inr (.inl (some (b))))), some (.inl k), some (.inl w)]) (st' := [.inl (-1)]) (h' := h) rfl ?_
        refine av_wp_ret (v := some (.inl (-1))) (ck_6 _ _ rfl) rfl rfl ?_
        have z : hof a k w = -1 := if_neg (by omega)
        rw [← z]
        exact hq
      · have c6 : (0) ≤ w := c6
        refine av_wp_sqF ck_6 2 (pc' := 16) (lv' := [some (.inr (.inr (.inl (some (b))))), some (.inl k), some (.inl w)]) (st' := [.inl (2), .inl w]) (h' := h) rfl ?_
        refine wq_k2 (p' := 19) (ck_6 _ _ rfl) rfl ⟨by omega, by omega⟩ ⟨by omega, by omega⟩ (fun c7 => ?_) (fun c8 => ?_)
        · have c7 : w ≤ (2) := c7
          refine av_wp_sqF ck_6 1 (pc' := 22) (lv' := [some (.inr (.inr (.inl (some (b))))), some (.inl k), some (.inl w)]) (st' := [.inr (.inr (.inl (some (b))))]) (h' := h) rfl ?_
          refine wq_gr (p' := 25) (ck_6 _ _ rfl) rfl (congrArg Prod.fst (ib_k0 E.1)) rfl (ib_g E.1 0 rfl) ?_
          refine av_wp_sqF ck_6 5 (pc' := 31) (lv' := [some (.inr (.inr (.inl (some (b))))), some (.inl k), some (.inl w)]) (st' := [.inl ((w * (12)) + k), .inr (.inr (.inl (some (b + 1 + 0))))]) (h' := h) rfl ?_
          obtain ⟨v10, e11⟩ : ∃ v, a 0 (Int.toNat (((w * (12)) + k))) = v := ⟨_, rfl⟩
          refine wq_al (p' := 32) (n := 36) (ck_6 _ _ rfl) rfl (ib_k E.1 0 rfl) (by omega) ((congrFun (eb_a E 0 rfl) _).trans e11) ?_
          refine av_wp_ret (v := some (.inl v10)) (ck_6 _ _ rfl) rfl rfl ?_
          have z : hof a k w = v10 := (if_pos (by omega)).trans e11
          rw [← z]
          exact hq
        · have c8 : (2) < w := c8
          refine av_wp_sqF ck_6 1 (pc' := 20) (lv' := [some (.inr (.inr (.inl (some (b))))), some (.inl k), some (.inl w)]) (st' := [.inl (-1)]) (h' := h) rfl ?_
          refine av_wp_ret (v := some (.inl (-1))) (ck_6 _ _ rfl) rfl rfl ?_
          have z : hof a k w = -1 := if_neg (by omega)
          rw [← z]
          exact hq

set_option maxRecDepth 100000 in
set_option maxHeartbeats 4000000 in
theorem cx_5 {g h : av_H} {b t c s r : Nat} {cb : Int} {u ro : Nat → Int} {a : Nat → Nat → Int} {mb mo ma : Int} (E : EB b t c s r cb u ro a mb mo ma h) (F : FN b g h) (k : Int) (qk : 0 ≤ k ∧ k < (s : Int)) (y : Int) (qy : 0 ≤ y ∧ y ≤ 65536) {Q : Option av_V → av_H → Prop} (hq : ∀ h' a', EB b t c s r cb u ro a' mb mo ma h' → FN b g h' → SHc u (Int.toNat k) y a a' → Q none h') : av_wp none cd_5 0 [some (.inr (.inr (.inl (some (b))))), some (.inl k), some (.inl y), none, none, none, none, none] [] h Q := by
  have s12 := co_s12 (ib_co E.1)
  have cbr := co_cbr (ib_co E.1)
  have mbr := eb_xr E
  have mor := eb_yr E
  refine av_wp_sqF ck_5 10 (pc' := 14) (lv' := [some (.inr (.inr (.inl (some (b))))), some (.inl k), some (.inl y), some (.inl (k * (21))), some (.inl y), some (.inl (0)), some (.inl (0)), none]) (st' := []) (h' := h) rfl ?_
  have L11 : ∀ (m10 : Nat) (k1 : Int) (k2 : Int) (k3 : Int) (a4 : Option av_V) (h5 : av_H) (a8 : Nat → Nat → Int), av_lg a4 = false → k1 = rst (mvu u (Int.toNat k)) y (Int.toNat k3) → k2 = hsm u (cdg u (Int.toNat k) y) (Int.toNat k) (Int.toNat k3) → (0 ≤ k3 ∧ k3 ≤ 3) → (0 ≤ k1 ∧ k1 ≤ 65536) → EB b t c s r cb u ro a8 mb mo ma h5 → FN b g h5 → SHi u (Int.toNat k) y a (Int.toNat k3) a8 → (3 - k3).toNat = m10 → av_wp none cd_5 14 [some (.inr (.inr (.inl (some (b))))), some (.inl k), some (.inl y), some (.inl (k * (21))), some (.inl k1), some (.inl k2), some (.inl k3), a4] [] h5 Q := by
    intro m10
    induction m10 using Nat.strongRecOn with
    | _ m10 I12 =>
      intro k1 k2 k3 a4 h5 a8 g14 g15 g16 g17 g18 E6 F7 X9 e13
      have la4 := g14
      refine av_wp_sqF ck_5 2 (pc' := 17) (lv' := [some (.inr (.inr (.inl (some (b))))), some (.inl k), some (.inl y), some (.inl (k * (21))), some (.inl k1), some (.inl k2), some (.inl k3), a4]) (st' := [.inl (3), .inl k3]) (h' := h5) rfl ?_
      refine wq_k2 (p' := 20) (ck_5 _ _ rfl) rfl ⟨by omega, by omega⟩ ⟨by omega, by omega⟩ (fun c19 => ?_) (fun c20 => ?_)
      · have c19 : (3) ≤ k3 := c19
        refine av_wp_sqF ck_5 1 (pc' := 100) (lv' := [some (.inr (.inr (.inl (some (b))))), some (.inl k), some (.inl y), some (.inl (k * (21))), some (.inl k1), some (.inl k2), some (.inl k3), a4]) (st' := [.inr (.inr (.inl (some (b))))]) (h' := h5) rfl ?_
        refine wq_gr (p' := 103) (ck_5 _ _ rfl) rfl (congrArg Prod.fst (ib_k0 E6.1)) rfl (ib_t E6.1) ?_
        refine wq_gr (p' := 106) (ck_5 _ _ rfl) rfl (congrArg Prod.fst (co_kt (ib_co E6.1))) rfl (co_c (ib_co E6.1)) ?_
        refine av_wp_sqF ck_5 3 (pc' := 110) (lv' := [some (.inr (.inr (.inl (some (b))))), some (.inl k), some (.inl y), some (.inl (k * (21))), some (.inl k1), some (.inl k2), some (.inl k3), a4]) (st' := [.inl ((k * (21)) + (19)), .inr (.inr (.inl (some (c))))]) (h' := h5) rfl ?_
        obtain ⟨v22, e23⟩ : ∃ v, u (Int.toNat (((k * (21)) + (19)))) = v := ⟨_, rfl⟩
        have g21 := eb_uv E6 (Int.toNat (((k * (21)) + (19))))
        rw [e23] at g21
        refine wq_al (p' := 111) (n := 21 * s) (ck_5 _ _ rfl) rfl (co_kc (ib_co E6.1)) (by omega) ((congrFun (eb_u E6) _).trans e23) ?_
        refine av_wp_sqF ck_5 1 (pc' := 112) (lv' := [some (.inr (.inr (.inl (some (b))))), some (.inl k), some (.inl y), some (.inl (k * (21))), some (.inl k1), some (.inl k2), some (.inl k3), a4]) (st' := [.inl (1), .inl v22]) (h' := h5) rfl ?_
        refine wq_k2 (p' := 115) (ck_5 _ _ rfl) rfl ⟨by omega, by omega⟩ ⟨by omega, by omega⟩ (fun c24 => ?_) (fun c25 => ?_)
        · have c24 : v22 = (1) := c24
          refine av_wp_sqF ck_5 1 (pc' := 122) (lv' := [some (.inr (.inr (.inl (some (b))))), some (.inl k), some (.inl y), some (.inl (k * (21))), some (.inl k1), some (.inl k2), some (.inl k3), a4]) (st' := [.inr (.inr (.inl (some (b))))]) (h' := h5) rfl ?_
          refine wq_gr (p' := 125) (ck_5 _ _ rfl) rfl (congrArg Prod.fst (ib_k0 E6.1)) rfl (ib_g E6.1 0 rfl) ?_
          refine av_wp_sqF ck_5 4 (pc' := 130) (lv' := [some (.inr (.inr (.inl (some (b))))), some (.inl k), some (.inl y), some (.inl (k * (21))), some (.inl k1), some (.inl k2), some (.inl k3), a4]) (st' := [.inl (-1), .inl ((12) + k), .inr (.inr (.inl (some (b + 1 + 0))))]) (h' := h5) rfl ?_
          refine xb_as (p' := 131) (n := 36) rfl rfl E6 F7 0 rfl rfl (by omega) (fun h26 E27 F28 => ?_)
          refine av_wp_sqF ck_5 1 (pc' := 132) (lv' := [some (.inr (.inr (.inl (some (b))))), some (.inl k), some (.inl y), some (.inl (k * (21))), some (.inl k1), some (.inl k2), some (.inl k3), a4]) (st' := [.inr (.inr (.inl (some (b))))]) (h' := h26) rfl ?_
          refine wq_gr (p' := 135) (ck_5 _ _ rfl) rfl (congrArg Prod.fst (ib_k0 E27.1)) rfl (ib_g E27.1 0 rfl) ?_
          refine av_wp_sqF ck_5 4 (pc' := 140) (lv' := [some (.inr (.inr (.inl (some (b))))), some (.inl k), some (.inl y), some (.inl (k * (21))), some (.inl k1), some (.inl k2), some (.inl k3), a4]) (st' := [.inl (-1), .inl ((24) + k), .inr (.inr (.inl (some (b + 1 + 0))))]) (h' := h26) rfl ?_
          refine xb_as (p' := 141) (n := 36) rfl rfl E27 F28 0 rfl rfl (by omega) (fun h29 E30 F31 => ?_)
          refine av_wp_ret (v := none) (ck_5 _ _ rfl) rfl rfl ?_
          have z32 : Int.toNat k3 = 3 := by omega
          rw [z32] at X9 g15
          have u19 : u (21 * (Int.toNat k) + 19) = _ := (congrArg u (by omega)).trans e23
          exact hq h29 _ E30 F31 (SH_lo X9 (by omega) (by rw [u19, ← g15]; omega) (by omega) (by omega))
        · have c25 : v22 ≠ (1) := c25
          refine av_wp_sqF ck_5 2 (pc' := 118) (lv' := [some (.inr (.inr (.inl (some (b))))), some (.inl k), some (.inl y), some (.inl (k * (21))), some (.inl k1), some (.inl k2), some (.inl k3), a4]) (st' := [.inl (1), .inl k1]) (h' := h5) rfl ?_
          refine wq_k2 (p' := 121) (ck_5 _ _ rfl) rfl ⟨by omega, by omega⟩ ⟨by omega, by omega⟩ (fun c33 => ?_) (fun c34 => ?_)
          · have c33 : k1 ≠ (1) := c33
            refine av_wp_ret (v := none) (ck_5 _ _ rfl) rfl rfl ?_
            have z35 : Int.toNat k3 = 3 := by omega
            rw [z35] at X9 g15
            have u19 : u (21 * (Int.toNat k) + 19) = _ := (congrArg u (by omega)).trans e23
            exact hq h5 _ E6 F7 (SH_no X9 (by rw [u19]; omega) (by rw [← g15]; omega))
          · have c34 : k1 = (1) := c34
            refine av_wp_sqF ck_5 1 (pc' := 122) (lv' := [some (.inr (.inr (.inl (some (b))))), some (.inl k), some (.inl y), some (.inl (k * (21))), some (.inl k1), some (.inl k2), some (.inl k3), a4]) (st' := [.inr (.inr (.inl (some (b))))]) (h' := h5) rfl ?_
            refine wq_gr (p' := 125) (ck_5 _ _ rfl) rfl (congrArg Prod.fst (ib_k0 E6.1)) rfl (ib_g E6.1 0 rfl) ?_
            refine av_wp_sqF ck_5 4 (pc' := 130) (lv' := [some (.inr (.inr (.inl (some (b))))), some (.inl k), some (.inl y), some (.inl (k * (21))), some (.inl k1), some (.inl k2), some (.inl k3), a4]) (st' := [.inl (-1), .inl ((12) + k), .inr (.inr (.inl (some (b + 1 + 0))))]) (h' := h5) rfl ?_
            refine xb_as (p' := 131) (n := 36) rfl rfl E6 F7 0 rfl rfl (by omega) (fun h36 E37 F38 => ?_)
            refine av_wp_sqF ck_5 1 (pc' := 132) (lv' := [some (.inr (.inr (.inl (some (b))))), some (.inl k), some (.inl y), some (.inl (k * (21))), some (.inl k1), some (.inl k2), some (.inl k3), a4]) (st' := [.inr (.inr (.inl (some (b))))]) (h' := h36) rfl ?_
            refine wq_gr (p' := 135) (ck_5 _ _ rfl) rfl (congrArg Prod.fst (ib_k0 E37.1)) rfl (ib_g E37.1 0 rfl) ?_
            refine av_wp_sqF ck_5 4 (pc' := 140) (lv' := [some (.inr (.inr (.inl (some (b))))), some (.inl k), some (.inl y), some (.inl (k * (21))), some (.inl k1), some (.inl k2), some (.inl k3), a4]) (st' := [.inl (-1), .inl ((24) + k), .inr (.inr (.inl (some (b + 1 + 0))))]) (h' := h36) rfl ?_
            refine xb_as (p' := 141) (n := 36) rfl rfl E37 F38 0 rfl rfl (by omega) (fun h39 E40 F41 => ?_)
            refine av_wp_ret (v := none) (ck_5 _ _ rfl) rfl rfl ?_
            have z42 : Int.toNat k3 = 3 := by omega
            rw [z42] at X9 g15
            have u19 : u (21 * (Int.toNat k) + 19) = _ := (congrArg u (by omega)).trans e23
            exact hq h39 _ E40 F41 (SH_lo X9 (by omega) (by rw [u19, ← g15]; omega) (by omega) (by omega))
      · have c20 : k3 < (3) := c20
        refine av_wp_sqF ck_5 1 (pc' := 21) (lv' := [some (.inr (.inr (.inl (some (b))))), some (.inl k), some (.inl y), some (.inl (k * (21))), some (.inl k1), some (.inl k2), some (.inl k3), a4]) (st' := [.inr (.inr (.inl (some (b))))]) (h' := h5) rfl ?_
        refine wq_gr (p' := 24) (ck_5 _ _ rfl) rfl (congrArg Prod.fst (ib_k0 E6.1)) rfl (ib_t E6.1) ?_
        refine wq_gr (p' := 27) (ck_5 _ _ rfl) rfl (congrArg Prod.fst (co_kt (ib_co E6.1))) rfl (co_c (ib_co E6.1)) ?_
        refine av_wp_sqF ck_5 5 (pc' := 34) (lv' := [some (.inr (.inr (.inl (some (b))))), some (.inl k), some (.inl y), some (.inl (k * (21))), some (.inl k1), some (.inl k2), some (.inl k3), a4]) (st' := [.inl (((k * (21)) + (15)) + k3), .inr (.inr (.inl (some (c))))]) (h' := h5) rfl ?_
        obtain ⟨v44, e45⟩ : ∃ v, u (Int.toNat ((((k * (21)) + (15)) + k3))) = v := ⟨_, rfl⟩
        have g43 := eb_uv E6 (Int.toNat ((((k * (21)) + (15)) + k3)))
        rw [e45] at g43
        refine wq_al (p' := 35) (n := 21 * s) (ck_5 _ _ rfl) rfl (co_kc (ib_co E6.1)) (by omega) ((congrFun (eb_u E6) _).trans e45) ?_
        refine av_wp_sqF ck_5 3 (pc' := 40) (lv' := [some (.inr (.inr (.inl (some (b))))), some (.inl k), some (.inl y), some (.inl (k * (21))), some (.inl k1), some (.inl k2), some (.inl k3), some (.inl v44)]) (st' := [.inr (.inr (.inl (some (b)))), .inl k2]) (h' := h5) rfl ?_
        refine wq_gr (p' := 43) (ck_5 _ _ rfl) rfl (congrArg Prod.fst (ib_k0 E6.1)) rfl (ib_t E6.1) ?_
        refine wq_gr (p' := 46) (ck_5 _ _ rfl) rfl (congrArg Prod.fst (co_kt (ib_co E6.1))) rfl (co_c (ib_co E6.1)) ?_
        refine av_wp_sqF ck_5 5 (pc' := 53) (lv' := [some (.inr (.inr (.inl (some (b))))), some (.inl k), some (.inl y), some (.inl (k * (21))), some (.inl k1), some (.inl k2), some (.inl k3), some (.inl v44)]) (st' := [.inl (((k * (21)) + (7)) + k3), .inr (.inr (.inl (some (c)))), .inl k2]) (h' := h5) rfl ?_
        obtain ⟨v47, e48⟩ : ∃ v, u (Int.toNat ((((k * (21)) + (7)) + k3))) = v := ⟨_, rfl⟩
        have g46 := eb_uv E6 (Int.toNat ((((k * (21)) + (7)) + k3)))
        rw [e48] at g46
        refine wq_al (p' := 54) (n := 21 * s) (ck_5 _ _ rfl) rfl (co_kc (ib_co E6.1)) (by omega) ((congrFun (eb_u E6) _).trans e48) ?_
        refine av_wp_sqF ck_5 3 (pc' := 59) (lv' := [some (.inr (.inr (.inl (some (b))))), some (.inl k), some (.inl y), some (.inl (k * (21))), some (.inl k1), some (.inl (k2 + v47)), some (.inl k3), some (.inl v44)]) (st' := [.inl v44]) (h' := h5) rfl ?_
        refine wq_k1 (p' := 62) (ck_5 _ _ rfl) rfl ⟨by omega, by omega⟩ (fun c49 => ?_) (fun c50 => ?_)
        · have c49 : v44 ≤ (0) := c49
          have r51 := SH_a (k := k) (i := k3) (by omega) (by omega) e45 (by omega) g15
          have n52 := SH_c (k := k) (i := k3) (by omega) (by omega) e45 (by omega) g16 e48
          have z53 : Int.toNat (k3 + (1)) = Int.toNat k3 + 1 := by omega
          refine av_wp_sqF ck_5 1 (pc' := 80) (lv' := [some (.inr (.inr (.inl (some (b))))), some (.inl k), some (.inl y), some (.inl (k * (21))), some (.inl k1), some (.inl (k2 + v47)), some (.inl k3), some (.inl v44)]) (st' := [.inr (.inr (.inl (some (b))))]) (h' := h5) rfl ?_
          refine wq_gr (p' := 83) (ck_5 _ _ rfl) rfl (congrArg Prod.fst (ib_k0 E6.1)) rfl (ib_g E6.1 0 rfl) ?_
          refine av_wp_sqF ck_5 6 (pc' := 92) (lv' := [some (.inr (.inr (.inl (some (b))))), some (.inl k), some (.inl y), some (.inl (k * (21))), some (.inl k1), some (.inl (k2 + v47)), some (.inl k3), some (.inl v44)]) (st' := [.inl (k2 + v47), .inl ((k3 * (12)) + k), .inr (.inr (.inl (some (b + 1 + 0))))]) (h' := h5) rfl ?_
          refine xb_as (p' := 93) (n := 36) rfl rfl E6 F7 0 rfl rfl (by omega) (fun h54 E55 F56 => ?_)
          refine av_wp_sqF ck_5 2 (pc' := 14) (lv' := [some (.inr (.inr (.inl (some (b))))), some (.inl k), some (.inl y), some (.inl (k * (21))), some (.inl k1), some (.inl (k2 + v47)), some (.inl (k3 + (1))), some (.inl v44)]) (st' := []) (h' := h54) rfl ?_
          exact I12 _ (by omega) (k1) ((k2 + v47)) ((k3 + (1))) (some (.inl v44)) h54 (av_u2 a8 0 (Int.toNat (((k3 * (12)) + k))) (k2 + v47)) rfl (by rw [z53]; exact r51) (by rw [z53]; exact n52) (by omega) (by omega) E55 F56 (by rw [z53]; exact SHi_s X9 (by omega) (by omega) n52 (by omega)) rfl
        · have c50 : (0) < v44 := c50
          refine av_wp_sqF ck_5 3 (pc' := 68) (lv' := [some (.inr (.inr (.inl (some (b))))), some (.inl k), some (.inl y), some (.inl (k * (21))), some (.inl k1), some (.inl (k2 + v47)), some (.inl k3), some (.inl v44)]) (st' := [.inl v44, .inl k1, .inl (k2 + v47)]) (h' := h5) rfl ?_
          refine wq_rm (p' := 69) (ck_5 _ _ rfl) rfl ⟨by omega, by omega⟩ (by omega) (fun v57 e58 => ?_)
          have e58 := e58 ⟨by omega, by omega⟩
          rw [Int.tmod_eq_emod_of_nonneg (by omega)] at e58
          have g59 := i_mr (x := k1) (y := v44) (by omega) (by omega)
          rw [← e58] at g59
          refine av_wp_sqF ck_5 4 (pc' := 76) (lv' := [some (.inr (.inr (.inl (some (b))))), some (.inl k), some (.inl y), some (.inl (k * (21))), some (.inl k1), some (.inl ((k2 + v47) + v57)), some (.inl k3), some (.inl v44)]) (st' := [.inl v44, .inl k1]) (h' := h5) rfl ?_
          refine wq_dv (p' := 77) (ck_5 _ _ rfl) rfl ⟨by omega, by omega⟩ (by omega) (fun v60 e61 => ?_)
          have e61 := e61 ⟨by omega, by omega⟩
          rw [Int.tdiv_eq_ediv_of_nonneg (by omega)] at e61
          have g62 := i_dr (x := k1) (y := v44) (by omega) (by omega)
          rw [← e61] at g62
          refine av_wp_sqF ck_5 1 (pc' := 79) (lv' := [some (.inr (.inr (.inl (some (b))))), some (.inl k), some (.inl y), some (.inl (k * (21))), some (.inl v60), some (.inl ((k2 + v47) + v57)), some (.inl k3), some (.inl v44)]) (st' := []) (h' := h5) rfl ?_
          have r63 := SH_b (k := k) (i := k3) (by omega) (by omega) e45 (by omega) g15 e61
          have n64 := SH_d (k := k) (i := k3) (by omega) (by omega) e45 (by omega) g15 g16 e48 e58
          have z65 : Int.toNat (k3 + (1)) = Int.toNat k3 + 1 := by omega
          refine av_wp_sqF ck_5 1 (pc' := 80) (lv' := [some (.inr (.inr (.inl (some (b))))), some (.inl k), some (.inl y), some (.inl (k * (21))), some (.inl v60), some (.inl ((k2 + v47) + v57)), some (.inl k3), some (.inl v44)]) (st' := [.inr (.inr (.inl (some (b))))]) (h' := h5) rfl ?_
          refine wq_gr (p' := 83) (ck_5 _ _ rfl) rfl (congrArg Prod.fst (ib_k0 E6.1)) rfl (ib_g E6.1 0 rfl) ?_
          refine av_wp_sqF ck_5 6 (pc' := 92) (lv' := [some (.inr (.inr (.inl (some (b))))), some (.inl k), some (.inl y), some (.inl (k * (21))), some (.inl v60), some (.inl ((k2 + v47) + v57)), some (.inl k3), some (.inl v44)]) (st' := [.inl ((k2 + v47) + v57), .inl ((k3 * (12)) + k), .inr (.inr (.inl (some (b + 1 + 0))))]) (h' := h5) rfl ?_
          refine xb_as (p' := 93) (n := 36) rfl rfl E6 F7 0 rfl rfl (by omega) (fun h66 E67 F68 => ?_)
          refine av_wp_sqF ck_5 2 (pc' := 14) (lv' := [some (.inr (.inr (.inl (some (b))))), some (.inl k), some (.inl y), some (.inl (k * (21))), some (.inl v60), some (.inl ((k2 + v47) + v57)), some (.inl (k3 + (1))), some (.inl v44)]) (st' := []) (h' := h66) rfl ?_
          exact I12 _ (by omega) (v60) (((k2 + v47) + v57)) ((k3 + (1))) (some (.inl v44)) h66 (av_u2 a8 0 (Int.toNat (((k3 * (12)) + k))) ((k2 + v47) + v57)) rfl (by rw [z65]; exact r63) (by rw [z65]; exact n64) (by omega) (by omega) E67 F68 (by rw [z65]; exact SHi_s X9 (by omega) (by omega) n64 (by omega)) rfl
  exact L11 _ (y) ((0)) ((0)) (none) h a rfl rfl rfl (by omega) (by omega) E F SHi_0 rfl

set_option maxRecDepth 100000 in
set_option maxHeartbeats 4000000 in
theorem cx_4 {g h : av_H} {b t c s r : Nat} {cb : Int} {u ro : Nat → Int} {a : Nat → Nat → Int} {mb mo ma : Int} (E : EB b t c s r cb u ro a mb mo ma h) (F : FN b g h) (x : Int) (qx : 0 ≤ x ∧ x ≤ 1023) (tu : ∀ q, q < s → u (21 * q + 20) = tnv u q) (hz : HZ u a) {Q : Option av_V → av_H → Prop} (hq : ∀ h' a', EB b t c s r cb u ro a' mb mo ma h' → FN b g h' → HX u s x a' → HZ u a' → (∀ j, 2 ≤ j → a' j = a j) → Q none h') : av_wp none cd_4 0 [some (.inr (.inr (.inl (some (b))))), some (.inl x), none, none, none, none] [] h Q := by
  have s12 := co_s12 (ib_co E.1)
  have cbr := co_cbr (ib_co E.1)
  have mbr := eb_xr E
  have mor := eb_yr E
  refine av_wp_sqF ck_4 4 (pc' := 4) (lv' := [some (.inr (.inr (.inl (some (b))))), some (.inl x), some (.inl x), some (.inl (0)), none, none]) (st' := []) (h' := h) rfl ?_
  have L11 : ∀ (m10 : Nat) (k1 : Int) (k2 : Int) (a3 : Option av_V) (a4 : Option av_V) (h5 : av_H) (a8 : Nat → Nat → Int), av_lg a3 = false → av_lg a4 = false → k1 = x / prd (dvu u) (4 * Int.toNat k2) → k2 ≤ (s : Int) → (0 ≤ k2 ∧ k2 ≤ 12) → (0 ≤ k1 ∧ k1 ≤ 1023) → EB b t c s r cb u ro a8 mb mo ma h5 → FN b g h5 → HK u x a (Int.toNat k2) a8 → ((s : Int) - k2).toNat = m10 → av_wp none cd_4 4 [some (.inr (.inr (.inl (some (b))))), some (.inl x), some (.inl k1), some (.inl k2), a3, a4] [] h5 Q := by
    intro m10
    induction m10 using Nat.strongRecOn with
    | _ m10 I12 =>
      intro k1 k2 a3 a4 h5 a8 g14 g15 g16 g17 g18 g19 E6 F7 X9 e13
      have la3 := g14
      have la4 := g15
      refine av_wp_sqF ck_4 2 (pc' := 6) (lv' := [some (.inr (.inr (.inl (some (b))))), some (.inl x), some (.inl k1), some (.inl k2), a3, a4]) (st' := [.inr (.inr (.inl (some (b)))), .inl k2]) (h' := h5) rfl ?_
      refine wq_gr (p' := 9) (ck_4 _ _ rfl) rfl (congrArg Prod.fst (ib_k0 E6.1)) rfl (ib_t E6.1) ?_
      refine wq_gi (p' := 12) (ck_4 _ _ rfl) rfl (congrArg Prod.fst (co_kt (ib_co E6.1))) rfl (co_s (ib_co E6.1)) ?_
      refine wq_k2 (p' := 15) (ck_4 _ _ rfl) rfl ⟨by omega, by omega⟩ ⟨by omega, by omega⟩ (fun c20 => ?_) (fun c21 => ?_)
      · have c20 : (s : Int) ≤ k2 := c20
        refine av_wp_ret (v := none) (ck_4 _ _ rfl) rfl rfl ?_
        have z22 : Int.toNat k2 = s := by omega
        rw [z22] at X9
        exact hq h5 _ E6 F7 (HK_e X9 qx.1) X9.2.1 X9.2.2
      · have c21 : k2 < (s : Int) := c21
        refine av_wp_sqF ck_4 1 (pc' := 16) (lv' := [some (.inr (.inr (.inl (some (b))))), some (.inl x), some (.inl k1), some (.inl k2), a3, a4]) (st' := [.inr (.inr (.inl (some (b))))]) (h' := h5) rfl ?_
        refine wq_gr (p' := 19) (ck_4 _ _ rfl) rfl (congrArg Prod.fst (ib_k0 E6.1)) rfl (ib_t E6.1) ?_
        refine wq_gr (p' := 22) (ck_4 _ _ rfl) rfl (congrArg Prod.fst (co_kt (ib_co E6.1))) rfl (co_c (ib_co E6.1)) ?_
        refine av_wp_sqF ck_4 5 (pc' := 29) (lv' := [some (.inr (.inr (.inl (some (b))))), some (.inl x), some (.inl k1), some (.inl k2), a3, a4]) (st' := [.inl ((k2 * (21)) + (20)), .inr (.inr (.inl (some (c))))]) (h' := h5) rfl ?_
        obtain ⟨v24, e25⟩ : ∃ v, u (Int.toNat (((k2 * (21)) + (20)))) = v := ⟨_, rfl⟩
        have g23 := eb_uv E6 (Int.toNat (((k2 * (21)) + (20))))
        rw [e25] at g23
        refine wq_al (p' := 30) (n := 21 * s) (ck_4 _ _ rfl) rfl (co_kc (ib_co E6.1)) (by omega) ((congrFun (eb_u E6) _).trans e25) ?_
        have tv : v24 = tnv u (Int.toNat k2) := by
          rw [← tu (Int.toNat k2) (by omega), ← e25]
          congr 1; omega
        have tr := tnv_b (f := u) (k := Int.toNat k2) (fun p h1 h2 => by have w := eb_um E6 (Int.toNat k2) (p - 15) (by omega); rw [show 21 * Int.toNat k2 + 15 + (p - 15) = 21 * Int.toNat k2 + p by omega] at w; exact w)
        rw [← tv] at tr
        refine av_wp_sqF ck_4 1 (pc' := 31) (lv' := [some (.inr (.inr (.inl (some (b))))), some (.inl x), some (.inl k1), some (.inl k2), a3, a4]) (st' := [.inl (1), .inl v24]) (h' := h5) rfl ?_
        refine wq_mx (p' := 34) (ck_4 _ _ rfl) rfl rfl (fun _ _ => rfl) rfl (fun v26 e27 e28 => ?_)
        have e28 := e28 ⟨by omega, by omega⟩ ⟨by omega, by omega⟩
        refine av_wp_sqF ck_4 3 (pc' := 39) (lv' := [some (.inr (.inr (.inl (some (b))))), some (.inl x), some (.inl k1), some (.inl k2), some (.inl v26), a4]) (st' := [.inl v26, .inl k1]) (h' := h5) rfl ?_
        refine wq_rm (p' := 40) (ck_4 _ _ rfl) rfl ⟨by omega, by omega⟩ (by omega) (fun v29 e30 => ?_)
        have e30 := e30 ⟨by omega, by omega⟩
        rw [Int.tmod_eq_emod_of_nonneg (by omega)] at e30
        have g31 := i_mr (x := k1) (y := v26) (by omega) (by omega)
        rw [← e30] at g31
        refine av_wp_sqF ck_4 3 (pc' := 45) (lv' := [some (.inr (.inr (.inl (some (b))))), some (.inl x), some (.inl k1), some (.inl k2), some (.inl v26), some (.inl v29)]) (st' := [.inl v26, .inl k1]) (h' := h5) rfl ?_
        refine wq_dv (p' := 46) (ck_4 _ _ rfl) rfl ⟨by omega, by omega⟩ (by omega) (fun v32 e33 => ?_)
        have e33 := e33 ⟨by omega, by omega⟩
        rw [Int.tdiv_eq_ediv_of_nonneg (by omega)] at e33
        have g34 := i_dr (x := k1) (y := v26) (by omega) (by omega)
        rw [← e33] at g34
        refine av_wp_sqF ck_4 1 (pc' := 47) (lv' := [some (.inr (.inr (.inl (some (b))))), some (.inl x), some (.inl v32), some (.inl k2), some (.inl v26), some (.inl v29)]) (st' := []) (h' := h5) rfl ?_
        have t2 : v26 = tnv u (Int.toNat k2) := by omega
        have ow : v29 = own u x (Int.toNat k2) := by
          rw [e30, t2, g16]
          rfl
        have rn : v32 = x / prd (dvu u) (4 * (Int.toNat k2 + 1)) := by
          rw [own_n (by omega), ← g16, ← t2]
          exact e33
        have z35 : Int.toNat (k2 + (1)) = Int.toNat k2 + 1 := by omega
        refine av_wp_sqF ck_4 2 (pc' := 50) (lv' := [some (.inr (.inr (.inl (some (b))))), some (.inl x), some (.inl v32), some (.inl k2), some (.inl v26), some (.inl v29)]) (st' := [.inr (.inr (.inl (some (b)))), .inl v29]) (h' := h5) rfl ?_
        refine wq_gr (p' := 53) (ck_4 _ _ rfl) rfl (congrArg Prod.fst (ib_k0 E6.1)) rfl (ib_g E6.1 1 rfl) ?_
        refine av_wp_sqF ck_4 1 (pc' := 54) (lv' := [some (.inr (.inr (.inl (some (b))))), some (.inl x), some (.inl v32), some (.inl k2), some (.inl v26), some (.inl v29)]) (st' := [.inl k2, .inr (.inr (.inl (some (b + 1 + 1)))), .inl v29]) (h' := h5) rfl ?_
        obtain ⟨v37, e38⟩ : ∃ v, a8 1 (Int.toNat (k2)) = v := ⟨_, rfl⟩
        have g39 := HZ_r X9.2.1 (q := Int.toNat (k2)) (by omega)
        rw [e38] at g39
        refine wq_al (p' := 55) (n := 12) (ck_4 _ _ rfl) rfl (ib_k E6.1 1 rfl) (by omega) ((congrFun (eb_a E6 1 rfl) _).trans e38) ?_
        refine wq_k2 (p' := 58) (ck_4 _ _ rfl) rfl ⟨by omega, by omega⟩ ⟨by omega, by omega⟩ (fun c40 => ?_) (fun c41 => ?_)
        · have c40 : v29 = v37 := c40
          refine av_wp_sqF ck_4 2 (pc' := 4) (lv' := [some (.inr (.inr (.inl (some (b))))), some (.inl x), some (.inl v32), some (.inl (k2 + (1))), some (.inl v26), some (.inl v29)]) (st' := []) (h' := h5) rfl ?_
          exact I12 _ (by omega) (v32) ((k2 + (1))) (some (.inl v26)) (some (.inl v29)) h5 a8 rfl rfl (by rw [z35]; exact rn) (by omega) (by omega) (by omega) E6 F7 (by rw [z35]; exact HK_same X9 (by omega) (by rw [e38, ← ow]; omega) (by rw [← ow]; omega)) rfl
        · have c41 : v29 ≠ v37 := c41
          refine av_wp_sqF ck_4 1 (pc' := 59) (lv' := [some (.inr (.inr (.inl (some (b))))), some (.inl x), some (.inl v32), some (.inl k2), some (.inl v26), some (.inl v29)]) (st' := [.inr (.inr (.inl (some (b))))]) (h' := h5) rfl ?_
          refine wq_gr (p' := 62) (ck_4 _ _ rfl) rfl (congrArg Prod.fst (ib_k0 E6.1)) rfl (ib_g E6.1 1 rfl) ?_
          refine av_wp_sqF ck_4 2 (pc' := 65) (lv' := [some (.inr (.inr (.inl (some (b))))), some (.inl x), some (.inl v32), some (.inl k2), some (.inl v26), some (.inl v29)]) (st' := [.inl v29, .inl k2, .inr (.inr (.inl (some (b + 1 + 1))))]) (h' := h5) rfl ?_
          refine xb_as (p' := 66) (n := 12) rfl rfl E6 F7 1 rfl rfl (by omega) (fun h42 E43 F44 => ?_)
          refine av_wp_sqF ck_4 3 (pc' := 70) (lv' := [some (.inr (.inr (.inl (some (b))))), some (.inl x), some (.inl v32), some (.inl k2), some (.inl v26), some (.inl v29)]) (st' := [.inl v29, .inl k2, .inr (.inr (.inl (some (b))))]) (h' := h42) rfl ?_
          refine wq_cv (p' := 73) (av_qc (.invokevirtual 111) 5 2 0 0) 8 cd_5 [.inl v29, .inl k2] (b) 0 [some (.inr (.inr (.inl (some (b))))), some (.inl k2), some (.inl v29), none, none, none, none, none] (ck_4 _ _ rfl) rfl rfl pp_5 rfl rfl rfl (congrArg Prod.fst (ib_k0 E43.1)) rfl rfl rfl rfl ?_
          refine cx_5 E43 F44 (k2) (by omega) (v29) (by omega) (fun h45 a46 E47 F48 S49 => ?_)
          show av_wp _ cd_4 73 [some (.inr (.inr (.inl (some (b))))), some (.inl x), some (.inl v32), some (.inl k2), some (.inl v26), some (.inl v29)] [] h45 _
          refine av_wp_sqF ck_4 2 (pc' := 4) (lv' := [some (.inr (.inr (.inl (some (b))))), some (.inl x), some (.inl v32), some (.inl (k2 + (1))), some (.inl v26), some (.inl v29)]) (st' := []) (h' := h45) rfl ?_
          exact I12 _ (by omega) (v32) ((k2 + (1))) (some (.inl v26)) (some (.inl v29)) h45 a46 rfl rfl (by rw [z35]; exact rn) (by omega) (by omega) (by omega) E47 F48 (by rw [z35]; exact HK_set X9 (by omega) (by rw [← ow]; omega) rfl ow S49) rfl
  exact L11 _ (x) ((0)) (none) (none) h a rfl rfl (i_d1 x).symm (by omega) (by omega) (by omega) E F (HK_0 hz) rfl
end
section
/-! THE REFERENCE: what is asked, in its list; its hours -/
def cnt (v : Nat → Int) : Nat → Nat
  | 0 => 0
  | t + 1 => cnt v t + if v t < 2 then 0 else 1
def one1 (v : Nat → Int) (t : Nat) : Int := if v t < 2 then 1 else v t
theorem one1_p (v : Nat → Int) (t : Nat) : 1 ≤ one1 v t := by
  unfold one1
  split <;> omega
theorem cnt_s {v : Nat → Int} {t : Nat} : cnt v (t + 1) = cnt v t + if v t < 2 then 0 else 1 := rfl
theorem cnt_le {v : Nat → Int} {t : Nat} : ∀ d, cnt v t ≤ cnt v (t + d) := by
  intro d
  induction d with
  | zero => exact Nat.le_refl _
  | succ d ih =>
    have e : cnt v (t + (d + 1)) = cnt v (t + d) + if v (t + d) < 2 then 0 else 1 := rfl
    rw [e]
    omega
theorem cnt_mo {v : Nat → Int} {t q : Nat} (h : t ≤ q) : cnt v t ≤ cnt v q := by
  have := cnt_le (v := v) (t := t) (q - t)
  rw [show t + (q - t) = q by omega] at this
  exact this
theorem cnt_ex {v : Nat → Int} : ∀ N a, a < cnt v N → ∃ t, t < N ∧ cnt v t = a ∧ 2 ≤ v t := by
  intro N
  induction N with
  | zero => intro a h; exact absurd h (by show ¬ a < 0; omega)
  | succ N ih =>
    intro a h
    rw [cnt_s] at h
    by_cases c : a < cnt v N
    · obtain ⟨t, h1, h2, h3⟩ := ih a c
      exact ⟨t, by omega, h2, h3⟩
    · by_cases d : v N < 2
      · rw [if_pos d] at h; omega
      · rw [if_neg d] at h
        exact ⟨N, by omega, by omega, by omega⟩
/-- between two places with the same count nothing is asked -/
theorem cnt_no {v : Nat → Int} {t q p : Nat} (h : cnt v t = cnt v q) (h1 : t ≤ p) (h2 : p < q) : v p < 2 := by
  have a := cnt_mo (v := v) h1
  have c := cnt_mo (v := v) (show p + 1 ≤ q by omega)
  rw [cnt_s] at c
  by_cases d : v p < 2
  · exact d
  · rw [if_neg d] at c
    omega
theorem prd_no {v : Nat → Int} {t : Nat} : ∀ d, (∀ p, t ≤ p → p < t + d → v p < 2) → prd (one1 v) (t + d) = prd (one1 v) t := by
  intro d
  induction d with
  | zero => intro _; rfl
  | succ d ih =>
    intro h
    show prd (one1 v) (t + d) * one1 v (t + d) = _
    rw [ih (fun p h1 h2 => h p h1 (by omega)), show one1 v (t + d) = 1 from if_pos (h (t + d) (by omega) (by omega)), Int.mul_one]
theorem dgt_0 {v : Nat → Int} {x : Int} {t : Nat} (h : v t < 2) : dgt (one1 v) x t = 0 := by
  unfold dgt
  rw [show one1 v t = 1 from if_pos h, i_m1]
theorem dgt_r {w : Nat → Int} (hw : ∀ t, 1 ≤ w t) {x : Int} (hx : 0 ≤ x) (t : Nat) : 0 ≤ dgt w x t ∧ dgt w x t < w t ∧ dgt w x t ≤ x := by
  have h1 := i_dr hx (prd_p hw t)
  have h2 := i_mr h1.1 (hw t)
  unfold dgt
  omega
/-- the digits are picked up to the a-th asked one -/
def PQI (v : Nat → Int) (N : Nat) (x : Int) (a : Nat) (left : Int) (p : Nat → Int) : Prop := ∀ t, t ≤ N → cnt v t = a → left = x / prd (one1 v) t ∧ (∀ q, q < t → p q = dgt (one1 v) x q) ∧ ∀ q, t ≤ q → q < 48 → p q = 0
theorem PQI_0 {v : Nat → Int} {N : Nat} {x : Int} {p : Nat → Int} (hN : N ≤ 48) (hp : ∀ q, q < 48 → p q = 0) : PQI v N x 0 x p := by
  intro t ht hc
  have hno : ∀ q, q < t → v q < 2 := fun q hq => cnt_no (v := v) (t := 0) (q := t) (by rw [hc]; rfl) (by omega) hq
  have e : prd (one1 v) t = 1 := by
    have := prd_no (v := v) (t := 0) t (fun p _ h2 => hno p (by omega))
    rw [show 0 + t = t by omega] at this
    exact this
  refine ⟨by rw [e, i_d1], fun q hq => ?_, fun q _ h2 => hp q h2⟩
  rw [dgt_0 (hno q hq)]
  exact hp q (by omega)
theorem PQI_s {v : Nat → Int} {N : Nat} {x left : Int} {a : Nat} {p : Nat → Int} (hx : 0 ≤ x) (P : PQI v N x a left p) (hN : N ≤ 48) (ha : a < cnt v N) {ask rad : Nat → Int} (al : ∀ q, q < N → 2 ≤ v q → ask (cnt v q) = (q : Int) ∧ rad (cnt v q) = v q) {i r r2 d m : Int} (ei : ask a = i) (er : rad a = r) (er3 : rad a = r2) (hd : d = left % r) (hm : m = left / r2) : PQI v N x (a + 1) m (av_u1 p i.toNat d) := by
  obtain ⟨t0, h1, h2, h3⟩ := cnt_ex N a ha
  obtain ⟨a1, a2⟩ := al t0 h1 h3
  rw [h2] at a1 a2
  obtain ⟨p1, p2, p3⟩ := P t0 (by omega) h2
  have ei2 : i = (t0 : Int) := ei.symm.trans a1
  have er2 : r = v t0 := er.symm.trans a2
  have er4 : r2 = v t0 := er3.symm.trans a2
  have o1 : one1 v t0 = v t0 := if_neg (by omega)
  subst ei2
  subst er2
  subst er4
  intro t ht hc
  have lt : t0 < t := by
    by_cases c : t0 < t
    · exact c
    · have := cnt_mo (v := v) (show t ≤ t0 by omega)
      omega
  have c1 : cnt v (t0 + 1) = a + 1 := by rw [cnt_s, if_neg (by omega), h2]
  have hno : ∀ q, t0 + 1 ≤ q → q < t → v q < 2 := fun q w1 w2 => cnt_no (v := v) (t := t0 + 1) (q := t) (by rw [c1, hc]) w1 w2
  have e : prd (one1 v) t = prd (one1 v) (t0 + 1) := by
    have := prd_no (v := v) (t := t0 + 1) (t - (t0 + 1)) (fun p w1 w2 => hno p w1 (by omega))
    rw [show t0 + 1 + (t - (t0 + 1)) = t by omega] at this
    exact this
  refine ⟨?_, fun q hq => ?_, fun q w1 w2 => ?_⟩
  · rw [e, prd_d (one1_p v) hx, o1, ← p1]
    exact hm
  · by_cases c : q = t0
    · rw [c, show Int.toNat (t0 : Int) = t0 by omega, u1_eq, hd, p1]
      unfold dgt
      rw [o1]
    · rw [u1_ne (by omega)]
      by_cases c2 : q < t0
      · exact p2 q c2
      · rw [p3 q (by omega) (by omega), dgt_0 (hno q (by omega) hq)]
  · rw [u1_ne (by omega)]
    exact p3 q (by omega) w2
theorem PQI_e {v : Nat → Int} {N : Nat} {x left : Int} {a : Nat} {p : Nat → Int} (P : PQI v N x a left p) (ha : a = cnt v N) : ∀ q, q < N → p q = dgt (one1 v) x q := (P N (Nat.le_refl _) ha.symm).2.1
/-- the reference's hours by its digits -/
def hsl (lo d : Nat → Int) (k : Nat) : Nat → Int
  | 0 => 0
  | i + 1 => hsl lo d k i + lo (3 * k + i) + d (4 * k + i)
def hrq (lo ls d : Nat → Int) (k i : Nat) : Int := if (ls k = 2 ∨ d (4 * k + 3) = 1) ∧ 1 ≤ i then -1 else hsl lo d k (i + 1)
def HQ (lo ls d : Nat → Int) (k : Nat) (A : Nat → Nat → Int) : Prop := ∀ q, q < k → A 109 q = hrq lo ls d q 0 ∧ A 110 q = hrq lo ls d q 1 ∧ A 111 q = hrq lo ls d q 2
theorem HQ_0 {lo ls d : Nat → Int} {A : Nat → Nat → Int} : HQ lo ls d 0 A := fun q hq => absurd hq (by omega)
theorem HQ_s {lo ls d : Nat → Int} {A A1 A2 A3 : Nat → Nat → Int} {k : Nat} {i1 i2 i3 : Nat} {v1 v2 v3 : Int} (H : HQ lo ls d k A) (e1 : A1 109 = av_u1 (A 109) i1 v1) (n1 : A1 110 = A 110 ∧ A1 111 = A 111) (e2 : A2 110 = av_u1 (A1 110) i2 v2) (n2 : A2 109 = A1 109 ∧ A2 111 = A1 111) (e3 : A3 111 = av_u1 (A2 111) i3 v3) (n3 : A3 109 = A2 109 ∧ A3 110 = A2 110) (h1 : i1 = k) (h2 : i2 = k) (h3 : i3 = k) (w1 : v1 = hrq lo ls d k 0) (w2 : v2 = hrq lo ls d k 1) (w3 : v3 = hrq lo ls d k 2) : HQ lo ls d (k + 1) A3 := by
  subst h1
  subst h2
  subst h3
  intro q hq
  rw [e3, n2.2, n1.2, n3.1, n2.1, e1, n3.2, e2, n1.1]
  by_cases c : q = i3
  · subst c
    rw [u1_eq, u1_eq, u1_eq]
    exact ⟨w1, w2, w3⟩
  · rw [u1_ne c, u1_ne c, u1_ne c]
    exact H q (by omega)
theorem hrq_0 {lo ls d : Nat → Int} {k : Nat} : hrq lo ls d k 0 = lo (3 * k) + d (4 * k) := by
  unfold hrq
  rw [if_neg (fun z => by omega)]
  show 0 + lo (3 * k + 0) + d (4 * k + 0) = _
  rw [show 3 * k + 0 = 3 * k by omega, show 4 * k + 0 = 4 * k by omega]
  omega
theorem hrq_l {lo ls d : Nat → Int} {k i : Nat} (h : ls k = 2 ∨ d (4 * k + 3) = 1) (hi : 1 ≤ i) : hrq lo ls d k i = -1 := if_pos ⟨h, hi⟩
theorem hrq_s {lo ls d : Nat → Int} {k i : Nat} (h : ¬ (ls k = 2 ∨ d (4 * k + 3) = 1)) : hrq lo ls d k (i + 1) = hrq lo ls d k i + lo (3 * k + (i + 1)) + d (4 * k + (i + 1)) := by
  unfold hrq
  rw [if_neg (fun z => h z.1), if_neg (fun z => h z.1)]
  rfl
/-- the list of what is asked -/
def AQL (v : Nat → Int) (t : Nat) (h : av_H) : Prop := hF h 77 28 = (cnt v t : Int) ∧ ∀ q, q < t → 2 ≤ v q → hA h 107 (cnt v q) = (q : Int) ∧ hA h 108 (cnt v q) = v q
theorem AQL_0 {v : Nat → Int} {h : av_H} (e : hF h 77 28 = 0) : AQL v 0 h := ⟨e, fun q hq => absurd hq (by omega)⟩
theorem AQL_skip {v : Nat → Int} {t : Nat} {w : Int} {h : av_H} (x : AQL v t h) (hv : v t = w) (h2 : w < 2) : AQL v (t + 1) h := by
  refine ⟨by rw [cnt_s, if_pos (by omega)]; exact x.1, fun q hq hw => ?_⟩
  by_cases c : q = t
  · rw [c] at hw; omega
  · exact x.2 q (by omega) hw
theorem AQL_step {v : Nat → Int} {t : Nat} {w y m' : Int} {h : av_H} (x : AQL v t h) (hv : v t = w) (h2 : 2 ≤ w) (hy : y = (t : Int)) : AQL v (t + 1) (hwF (hwF (hwA (hwA h 107 (hF h 77 28).toNat y) 108 (hF h 77 28).toNat w) 77 28 (hF h 77 28 + 1)) 77 29 m') := by
  have e28 : (hF h 77 28).toNat = cnt v t := by rw [x.1]; omega
  refine ⟨?_, fun q hq hw => ?_⟩
  · rw [hF_oth (by decide), hF_self, x.1, cnt_s, if_neg (by omega)]
    omega
  · rw [e28]
    have a7 : hA (hwF (hwF (hwA (hwA h 107 (cnt v t) y) 108 (cnt v t) w) 77 28 (hF h 77 28 + 1)) 77 29 m') 107 = av_u1 (hA h 107) (cnt v t) y := by
      show hA (hwA (hwA h 107 (cnt v t) y) 108 (cnt v t) w) 107 = _
      rw [hA_ne (h := hwA h 107 (cnt v t) y) (a := 108) (by decide), hA_wu]
    have a8 : hA (hwF (hwF (hwA (hwA h 107 (cnt v t) y) 108 (cnt v t) w) 77 28 (hF h 77 28 + 1)) 77 29 m') 108 = av_u1 (hA h 108) (cnt v t) w := by
      show hA (hwA (hwA h 107 (cnt v t) y) 108 (cnt v t) w) 108 = _
      rw [hA_wu, hA_ne (h := h) (a := 107) (by decide)]
    rw [a7, a8]
    by_cases c : q = t
    · rw [c, u1_eq, u1_eq]
      exact ⟨hy, hv.symm⟩
    · have lt : cnt v q ≠ cnt v t := fun z => by
        have := cnt_no (v := v) (t := q) (q := t) z (Nat.le_refl _) (by omega)
        omega
      rw [u1_ne lt, u1_ne lt]
      exact x.2 q (by omega) hw
section
variable {lo ls d : Nat → Int} {k w a p s : Int} {i : Nat}
theorem hq_a (hk : 0 ≤ k) (e1 : lo (Int.toNat (3 * k)) = a) (e2 : d (Int.toNat (4 * k)) = p) : a + p = hrq lo ls d k.toNat 0 := by
  rw [hrq_0, show 3 * k.toNat = (3 * k).toNat by omega, show 4 * k.toNat = (4 * k).toNat by omega, e1, e2]
theorem hq_l (hk : 0 ≤ k) (e1 : ls k.toNat = w) (h : w = 2) (hi : 1 ≤ i) : -1 = hrq lo ls d k.toNat i := (hrq_l (Or.inl (e1.trans h)) hi).symm
theorem hq_m (hk : 0 ≤ k) (e1 : d (Int.toNat (4 * k + 3)) = p) (h : p = 1) (hi : 1 ≤ i) : -1 = hrq lo ls d k.toNat i := (hrq_l (Or.inr (by rw [show 4 * k.toNat + 3 = (4 * k + 3).toNat by omega]; exact e1.trans h)) hi).symm
theorem hq_s {q : Int} (hk : 0 ≤ k) (el : ls k.toNat = w) (hl : w ≠ 2) (ed : d (Int.toNat (4 * k + 3)) = q) (hd : q ≠ 1) (j : Int) (hj : j = ((i + 1 : Nat) : Int)) (e0 : s = hrq lo ls d k.toNat i) (e1 : lo (Int.toNat (3 * k + j)) = a) (e2 : d (Int.toNat (4 * k + j)) = p) : s + a + p = hrq lo ls d k.toNat (i + 1) := by
  rw [hrq_s (fun z => z.elim (fun y => hl (el.symm.trans y)) (fun y => hd (ed.symm.trans (by rw [show (4 * k + 3).toNat = 4 * k.toNat + 3 by omega]; exact y)))), ← e0, show 3 * k.toNat + (i + 1) = (3 * k + j).toNat by omega, show 4 * k.toNat + (i + 1) = (4 * k + j).toNat by omega, e1, e2]
end
/-- what is asked is found: with the list, and what stays -/
def AJX (g : av_H) (n : Int) (lo hi ls : Nat → Int) (t : Nat) (h : av_H) : Prop := IM h ∧ hF h 77 27 = n ∧ hF h 77 28 ≤ t ∧ 1 ≤ hF h 77 29 ∧ hF h 77 29 = cmf lo hi ls t ∧ hA h 105 = lo ∧ hA h 106 = hi ∧ hA h 98 = ls ∧ AQL (cmv lo hi ls) t h ∧ ZE [107, 108] [28, 29] g h
section
variable {g h : av_H} {n : Int} {lo hi ls : Nat → Int} {t t' : Nat}
theorem AJX_j (J : AJX g n lo hi ls t h) : AJ n lo hi ls t h := ⟨J.1, J.2.1, J.2.2.1, J.2.2.2.1, J.2.2.2.2.1, J.2.2.2.2.2.1, J.2.2.2.2.2.2.1, J.2.2.2.2.2.2.2.1⟩
theorem AJX_of (J : AJ n lo hi ls t h) (a : AQL (cmv lo hi ls) t h) (z : ZE [107, 108] [28, 29] g h) : AJX g n lo hi ls t h := ⟨J.1, J.2.1, J.2.2.1, J.2.2.2.1, J.2.2.2.2.1, J.2.2.2.2.2.1, J.2.2.2.2.2.2.1, J.2.2.2.2.2.2.2, a, z⟩
theorem AJX_eq (J : AJX g n lo hi ls t h) (e : t = t') : AJX g n lo hi ls t' h := e ▸ J
theorem AJX_skip {v : Int} (J : AJX g n lo hi ls t h) (hv : cmv lo hi ls t = v) (h2 : v < 2) : AJX g n lo hi ls (t + 1) h := AJX_of (AJ_skip (AJX_j J) hv h2) (AQL_skip J.2.2.2.2.2.2.2.2.1 hv h2) J.2.2.2.2.2.2.2.2.2
theorem AJX_step {x v m' : Int} (J : AJX g n lo hi ls t h) (hcv : cmv lo hi ls t = v) (hb : t ≤ 47) (hv : 2 ≤ v ∧ v ≤ 2000) (hx : (0 ≤ x ∧ x ≤ 47) ∧ x = (t : Int)) (hm : (1024 < hF h 77 29 * v ∧ m' = 1025) ∨ (hF h 77 29 * v ≤ 1024 ∧ m' = hF h 77 29 * v)) : AJX g n lo hi ls (t + 1) (hwF (hwF (hwA (hwA h 107 (hF h 77 28).toNat x) 108 (hF h 77 28).toNat v) 77 28 (hF h 77 28 + 1)) 77 29 m') ∧ FM h (hwF (hwF (hwA (hwA h 107 (hF h 77 28).toNat x) 108 (hF h 77 28).toNat v) 77 28 (hF h 77 28 + 1)) 77 29 m') := by
  have A := AJ_step (AJX_j J) hcv hb hv hx.1 hm
  exact ⟨AJX_of A.1 (AQL_step J.2.2.2.2.2.2.2.2.1 hcv hv.1 hx.2) (ZE_f (ZE_f (ZE_a (ZE_a J.2.2.2.2.2.2.2.2.2 rfl rfl) rfl rfl) rfl rfl) rfl rfl), A.2⟩
theorem AJX_0 (I : IM h) (hn : hF h 77 27 = n) : AJX h n (hA h 105) (hA h 106) (hA h 98) 0 (hwF (hwF h 77 28 0) 77 29 1) ∧ FM h (hwF (hwF h 77 28 0) 77 29 1) := by
  have A := AJ_0 I hn
  exact ⟨AJX_of A.1 (AQL_0 ((hF_oth (by decide)).trans hF_self)) (ZE_f (ZE_f (ZE_rf h) rfl rfl) rfl rfl), A.2⟩
end
end
