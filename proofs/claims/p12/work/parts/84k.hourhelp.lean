/-! HOURS: class and reference -/
theorem hof_x {u : Nat → Int} {s : Nat} {x k w : Int} {a : Nat → Nat → Int} (H : HX u s x a) (k0 : 0 ≤ k) (ks : k < (s : Int) ∧ (s : Int) ≤ 12) (hw : 0 ≤ w ∧ w ≤ 2) : hof a k w = hrv u x (Int.toNat k) (Int.toNat w) := by
  unfold hof
  rw [if_pos (by omega), show (w * 12 + k).toNat = 12 * w.toNat + k.toNat by omega]
  exact H k.toNat (by omega) w.toNat (by omega)
theorem cc_u {h : av_H} {v : Option Nat} {t c s : Nat} {f : Nat → Int} (x : CC h v t c s f) : hA h c = ctn f s := x.2.1.2.2.2.2.2
theorem tnv_c {f : Nat → Int} {s q : Nat} : tnv (ctn f s) q = tnv f q := by
  unfold tnv
  rw [ctn_o (by omega), ctn_o (by omega), ctn_o (by omega), ctn_o (by omega)]
theorem ctn_t {f : Nat → Int} {s q : Nat} (hq : q < s) : ctn f s (21 * q + 20) = tnv (ctn f s) q := by
  rw [tnv_c]
  unfold ctn
  rw [if_pos (by omega), show (21 * q + 20) / 21 = q by omega]
/-- the reference's rows of a case as the class has them -/
def LH (u : Nat → Int) (s : Nat) (lo hi ls : Nat → Int) : Prop := ∀ k, k < s → (∀ j, j < 3 → lo (3 * k + j) = u (21 * k + 7 + j) ∧ ((u (21 * k + 15 + j) = 0 ∧ hi (3 * k + j) = lo (3 * k + j)) ∨ ((1 ≤ u (21 * k + 15 + j) ∧ u (21 * k + 15 + j) ≤ 16) ∧ hi (3 * k + j) = lo (3 * k + j) + u (21 * k + 15 + j) - 1))) ∧ ((u (21 * k + 18) = 0 ∧ ls k = 0) ∨ (u (21 * k + 18) = 2 ∧ ls k = 1)) ∧ u (21 * k + 19) = 0
theorem LH_v {u : Nat → Int} {s : Nat} {lo hi ls : Nat → Int} (H : LH u s lo hi ls) {t : Nat} (ht : t < 4 * s) : one1 (cmv lo hi ls) t = dvu u t := by
  have hk := H (t / 4) (by omega)
  unfold one1 dvu cmv
  by_cases c : t % 4 < 3
  · have h1 := hk.1 (t % 4) c
    rw [if_pos c]
    unfold mx1
    rcases h1.2 with e | e
    · rw [e.2, e.1, if_pos (by omega), if_pos (by omega)]
    · by_cases d : u (21 * (t / 4) + 15 + t % 4) < 2
      · rw [if_pos (by omega), if_neg (by omega)]
        omega
      · rw [if_neg (by omega), if_neg (by omega)]
        omega
  · have e3 : t % 4 = 3 := by omega
    rw [if_neg c, e3, show 21 * (t / 4) + 15 + 3 = 21 * (t / 4) + 18 by omega]
    unfold mx1
    rcases hk.2.1 with e | e
    · rw [e.1, e.2]
      decide
    · rw [e.1, e.2]
      decide
theorem prd_c {v w : Nat → Int} : ∀ t, (∀ q, q < t → v q = w q) → prd v t = prd w t := by
  intro t
  induction t with
  | zero => intro _; rfl
  | succ t ih =>
    intro h
    show prd v t * v t = prd w t * w t
    rw [ih (fun q hq => h q (by omega)), h t (by omega)]
theorem LH_d {u : Nat → Int} {s : Nat} {lo hi ls : Nat → Int} (H : LH u s lo hi ls) {x : Int} {t : Nat} (ht : t < 4 * s) : dgt (one1 (cmv lo hi ls)) x t = dgt (dvu u) x t := by
  unfold dgt
  rw [prd_c t (fun q hq => LH_v H (by omega)), LH_v H ht]
theorem LH_h {u : Nat → Int} {s : Nat} {lo hi ls : Nat → Int} (H : LH u s lo hi ls) {x : Int} {k i : Nat} (hk : k < s) (hi3 : i < 3) : hrq lo ls (dgt (one1 (cmv lo hi ls)) x) k i = hrv u x k i := by
  have h1 := H k hk
  have e : ∀ n, n ≤ 3 → hsl lo (dgt (one1 (cmv lo hi ls)) x) k n = hsm u (fun j => dgt (dvu u) x (4 * k + j)) k n := by
    intro n
    induction n with
    | zero => intro _; rfl
    | succ n ih =>
      intro hn
      show hsl lo (dgt (one1 (cmv lo hi ls)) x) k n + lo (3 * k + n) + dgt (one1 (cmv lo hi ls)) x (4 * k + n) = hsm u (fun j => dgt (dvu u) x (4 * k + j)) k n + u (21 * k + 7 + n) + dgt (dvu u) x (4 * k + n)
      rw [ih (by omega), (h1.1 n (by omega)).1, LH_d H (by omega)]
  unfold hrq hrv
  rw [LH_d H (show 4 * k + 3 < 4 * s by omega), e (i + 1) (by omega), h1.2.2]
  have l2 : ¬ ls k = 2 := by
    rcases h1.2.1 with z | z <;> omega
  by_cases c : dgt (dvu u) x (4 * k + 3) = 1 ∧ 1 ≤ i
  · rw [if_pos ⟨Or.inr c.1, c.2⟩, if_pos ⟨Or.inr c.1, c.2⟩]
  · rw [if_neg (fun z => z.1.elim l2 (fun y => c ⟨y, z.2⟩)), if_neg (fun z => z.1.elim (fun y => by omega) (fun y => c ⟨y, z.2⟩))]
/-! combos -/
def cap (x : Int) : Int := if 1024 < x then 1025 else x
theorem cap_m {x m : Int} (hx : 1 ≤ x) (hm : 1 ≤ m) : cap (cap x * m) = cap (x * m) := by
  unfold cap
  by_cases c : 1024 < x
  · have h1 : 1025 * 1 ≤ 1025 * m := Int.mul_le_mul_of_nonneg_left hm (by omega)
    have h2 : x * 1 ≤ x * m := Int.mul_le_mul_of_nonneg_left hm (by omega)
    rw [if_pos c, if_pos (by omega), if_pos (by omega)]
  · rw [if_neg c]
theorem cap_r {x : Int} (hx : 1 ≤ x) : 1 ≤ cap x ∧ cap x ≤ 1025 := by
  unfold cap
  split <;> omega
theorem cmf_c {lo hi ls : Nat → Int} : ∀ t, (1 ≤ cmf lo hi ls t ∧ cmf lo hi ls t ≤ 1025) ∧ cmf lo hi ls (t + 1) = cap (cmf lo hi ls t * one1 (cmv lo hi ls) t) := by
  have st : ∀ t, (1 ≤ cmf lo hi ls t ∧ cmf lo hi ls t ≤ 1025) → cmf lo hi ls (t + 1) = cap (cmf lo hi ls t * one1 (cmv lo hi ls) t) := by
    intro t h
    show (if cmv lo hi ls t < 2 then cmf lo hi ls t else if 1024 < cmf lo hi ls t * cmv lo hi ls t then 1025 else cmf lo hi ls t * cmv lo hi ls t) = _
    unfold one1 cap
    by_cases c : cmv lo hi ls t < 2
    · rw [if_pos c, if_pos c, Int.mul_one]
      split <;> omega
    · rw [if_neg c, if_neg c]
  intro t
  induction t with
  | zero =>
    have h : 1 ≤ cmf lo hi ls 0 ∧ cmf lo hi ls 0 ≤ 1025 := by show (1 : Int) ≤ 1 ∧ (1 : Int) ≤ 1025; omega
    exact ⟨h, st 0 h⟩
  | succ t ih =>
    have h : 1 ≤ cmf lo hi ls (t + 1) ∧ cmf lo hi ls (t + 1) ≤ 1025 := by
      rw [ih.2]
      have h1 : 1 * 1 ≤ cmf lo hi ls t * one1 (cmv lo hi ls) t := Int.mul_le_mul ih.1.1 (one1_p _ t) (by omega) (by omega)
      exact cap_r (by omega)
    exact ⟨h, st (t + 1) h⟩
theorem LH_c {u : Nat → Int} {s : Nat} {lo hi ls : Nat → Int} (H : LH u s lo hi ls) : ∀ k, k ≤ s → cmf lo hi ls (4 * k) = cbf u k := by
  intro k
  induction k with
  | zero => intro _; rfl
  | succ k ih =>
    intro hk
    have i1 := ih (by omega)
    have c0 := cmf_c (lo := lo) (hi := hi) (ls := ls) (4 * k)
    have c1 := cmf_c (lo := lo) (hi := hi) (ls := ls) (4 * k + 1)
    have c2 := cmf_c (lo := lo) (hi := hi) (ls := ls) (4 * k + 2)
    have c3 := cmf_c (lo := lo) (hi := hi) (ls := ls) (4 * k + 3)
    have g : ∀ j, j < 4 → one1 (cmv lo hi ls) (4 * k + j) = mvu u k j := fun j hj => (LH_v H (by omega)).trans (dvu_i hj)
    have hm : ∀ j, 1 ≤ mvu u k j := fun j => mx1_p _
    have h0 := hm 0
    have h1 := hm 1
    have h2 := hm 2
    have b0 := c0.1.1
    have p0 : 1 ≤ cmf lo hi ls (4 * k) * mvu u k 0 := by
      have q : 1 * 1 ≤ cmf lo hi ls (4 * k) * mvu u k 0 := Int.mul_le_mul b0 h0 (by omega) (by omega)
      omega
    have p1 : 1 ≤ cmf lo hi ls (4 * k) * mvu u k 0 * mvu u k 1 := by
      have q : 1 * 1 ≤ cmf lo hi ls (4 * k) * mvu u k 0 * mvu u k 1 := Int.mul_le_mul p0 h1 (by omega) (by omega)
      omega
    have p2 : 1 ≤ cmf lo hi ls (4 * k) * mvu u k 0 * mvu u k 1 * mvu u k 2 := by
      have q : 1 * 1 ≤ cmf lo hi ls (4 * k) * mvu u k 0 * mvu u k 1 * mvu u k 2 := Int.mul_le_mul p1 h2 (by omega) (by omega)
      omega
    have e : cmf lo hi ls (4 * (k + 1)) = cap (cmf lo hi ls (4 * k) * mvu u k 0 * mvu u k 1 * mvu u k 2 * mvu u k 3) := by
      rw [show 4 * (k + 1) = 4 * k + 3 + 1 by omega, c3.2, show 4 * k + 3 = 4 * k + 2 + 1 by omega, c2.2, show 4 * k + 2 = 4 * k + 1 + 1 by omega, c1.2, c0.2, show one1 (cmv lo hi ls) (4 * k) = mvu u k 0 from g 0 (by omega), g 1 (by omega), show 4 * k + 1 + 1 = 4 * k + 2 by omega, g 2 (by omega), show 4 * k + 2 + 1 = 4 * k + 3 by omega, g 3 (by omega), cap_m p0 h1, cap_m p1 h2, cap_m p2 (hm 3)]
    rw [e, i1]
    show _ = mn2 (cbf u k * (1 * mvu u k 0 * mvu u k 1 * mvu u k 2 * mvu u k 3)) 1025
    rw [Int.one_mul, ← Int.mul_assoc, ← Int.mul_assoc, ← Int.mul_assoc]
    unfold cap mn2
    split <;> split <;> omega
theorem cbf_ct {f : Nat → Int} {s : Nat} : ∀ k, cbf (ctn f s) k = cbf f k := by
  intro k
  induction k with
  | zero => rfl
  | succ k ih =>
    show mn2 (cbf (ctn f s) k * tnv (ctn f s) k) 1025 = mn2 (cbf f k * tnv f k) 1025
    rw [ih, tnv_c]
/-! the reference's case as it was brought -/
theorem BC_g {c : Nat} {e : Nat → Nat} {g h0 h1 : av_H} (b : BC c e (hA h0) h1) (F : FM g h0) : BC c e (hA g) h1 := fun a h1 h2 i hi => by
  have z : mA (bsrc a) = false := by
    rcases (show a = 96 ∨ a = 97 ∨ a = 98 ∨ a = 99 ∨ a = 100 ∨ a = 101 ∨ a = 102 ∨ a = 103 ∨ a = 104 ∨ a = 105 ∨ a = 106 by omega) with e | e | e | e | e | e | e | e | e | e | e <;> subst e <;> rfl
  rw [b a h1 h2 i hi, F.2.2.2.2.2.2 _ z]
theorem BC_z {c : Nat} {e : Nat → Nat} {A : Nat → Nat → Int} {h1 h2 : av_H} (b : BC c e A h1) (Z : ZE [107, 108] [28, 29] h1 h2) : BC c e A h2 := fun a w1 w2 i hi => by
  have z : [107, 108].elem a = false := by
    rcases (show a = 96 ∨ a = 97 ∨ a = 98 ∨ a = 99 ∨ a = 100 ∨ a = 101 ∨ a = 102 ∨ a = 103 ∨ a = 104 ∨ a = 105 ∨ a = 106 by omega) with e | e | e | e | e | e | e | e | e | e | e <;> subst e <;> rfl
  rw [Z.1 a z]
  exact b a w1 w2 i hi
def BL (A : Nat → Nat → Int) (c : Nat) (lo hi ls : Nat → Int) : Prop := (∀ i, i < 3 * (A 81 c).toNat → lo i = A 91 (36 * c + i)) ∧ (∀ i, i < 3 * (A 81 c).toNat → hi i = A 92 (36 * c + i)) ∧ ∀ i, i < (A 81 c).toNat → ls i = A 89 (12 * c + i)
theorem BL_of {A : Nat → Nat → Int} {c : Nat} {n : Int} {h : av_H} (e : A 81 c = n) (b : BC c (fun a => bmul a * n.toNat) A h) : BL A c (hA h 105) (hA h 106) (hA h 98) := by
  subst e
  refine ⟨fun i hi => ?_, fun i hi => ?_, fun i hi => ?_⟩
  · have := b 105 (by omega) (by omega) i hi
    rw [this]
    show A 91 (3 * (12 * c) + i) = _
    rw [show 3 * (12 * c) + i = 36 * c + i by omega]
  · have := b 106 (by omega) (by omega) i hi
    rw [this]
    show A 92 (3 * (12 * c) + i) = _
    rw [show 3 * (12 * c) + i = 36 * c + i by omega]
  · have := b 98 (by omega) (by omega) i (by show i < 1 * _; omega)
    rw [this]
    show A 89 (1 * (12 * c) + i) = _
    rw [show 1 * (12 * c) + i = 12 * c + i by omega]
theorem hq_w {lo ls d : Nat → Int} {N : Nat} {A : Nat → Nat → Int} {k w v : Int} (H : HQ lo ls d N A) (hk : 0 ≤ k ∧ k < (N : Int)) (hw : 0 ≤ w ∧ w ≤ 2) (p : (w = 0 ∧ v = A 109 (Int.toNat k)) ∨ (w = 1 ∧ v = A 110 (Int.toNat k)) ∨ (w ≠ 0 ∧ w ≠ 1 ∧ v = A 111 (Int.toNat k))) : v = hrq lo ls d (Int.toNat k) (Int.toNat w) := by
  have h := H k.toNat (by omega)
  rcases p with e | e | e
  · rw [e.2, e.1]; exact h.1
  · rw [e.2, e.1]; exact h.2.1
  · rw [e.2.2, show w = 2 by omega]; exact h.2.2
/-- class and reference have the same rows -/
theorem LH_of {A : Nat → Nat → Int} {c s : Nat} {f lo hi ls : Nat → Int} (B : BL A c lo hi ls) (es : A 81 c = (s : Int)) (R : ∀ j, j < s → RY (rwA A (12 * c + j)) f (j * 21)) : LH (ctn f s) s lo hi ls := by
  intro k hk
  have N : (A 81 c).toNat = s := by omega
  unfold BL at B
  rw [N] at B
  have y := R k hk rfl
  have cf : ∀ o, o < 20 → ctn f s (21 * k + o) = f (k * 21 + o) := fun o ho => by rw [ctn_o (by omega), show 21 * k + o = k * 21 + o by omega]
  refine ⟨fun j hj => ?_, ?_, ?_⟩
  · have l1 : lo (3 * k + j) = rwA A (12 * c + k) (7 + j) := by
      rw [B.1 (3 * k + j) (by omega)]
      rcases (show j = 0 ∨ j = 1 ∨ j = 2 by omega) with e | e | e <;> subst e
      · show _ = A 91 (3 * (12 * c + k) + 0)
        congr 1; omega
      · show _ = A 91 (3 * (12 * c + k) + 1)
        congr 1; omega
      · show _ = A 91 (3 * (12 * c + k) + 2)
        congr 1; omega
    have l2 : hi (3 * k + j) = rwA A (12 * c + k) (15 + j) := by
      rw [B.2.1 (3 * k + j) (by omega)]
      rcases (show j = 0 ∨ j = 1 ∨ j = 2 by omega) with e | e | e <;> subst e
      · show _ = A 92 (3 * (12 * c + k) + 0)
        congr 1; omega
      · show _ = A 92 (3 * (12 * c + k) + 1)
        congr 1; omega
      · show _ = A 92 (3 * (12 * c + k) + 2)
        congr 1; omega
    have c7 := cf (7 + j) (by omega)
    have c15 := cf (15 + j) (by omega)
    rw [show 21 * k + (7 + j) = 21 * k + 7 + j by omega, show k * 21 + (7 + j) = k * 21 + 7 + j by omega] at c7
    rw [show 21 * k + (15 + j) = 21 * k + 15 + j by omega, show k * 21 + (15 + j) = k * 21 + 15 + j by omega] at c15
    have y1 := y.1 (7 + j) (by omega) (by omega)
    rw [show k * 21 + (7 + j) = k * 21 + 7 + j by omega] at y1
    rw [l1, l2, c7, c15]
    refine ⟨y1, ?_⟩
    rcases y.2.1 j hj with e | e
    · exact Or.inl e
    · exact Or.inr ⟨⟨e.2.1, e.2.2.1⟩, e.2.2.2⟩
  · have l3 : ls k = rwA A (12 * c + k) 18 := by
      rw [B.2.2 k hk]
      show _ = A 89 (1 * (12 * c + k) + 0)
      congr 1; omega
    rw [l3, cf 18 (by omega)]
    exact y.2.2.1
  · rw [cf 19 (by omega)]
    exact y.2.2.2.1
