/-! EXACTLY: helps -/
/-- an array is filled by P up to k, by R behind -/
def FI (n : Nat) (P R : Nat → Int) (k : Int) (a : Nat → Int) : Prop := ∀ j, j < n → a j = if (j : Int) < k then P j else R j
section
variable {n : Nat} {P R a : Nat → Int} {k v : Int}
theorem FI_0 (e : ∀ j, j < n → a j = R j) : FI n P R 0 a := fun j hj => by
  rw [if_neg (by omega)]
  exact e j hj
theorem FI_s (x : FI n P R k a) (hk : 0 ≤ k) (hv : v = P k.toNat) : FI n P R (k + 1) (av_u1 a k.toNat v) := fun j hj => by
  by_cases e : j = k.toNat
  · rw [e, if_pos (by omega), hv]
    exact u1_eq
  · rw [u1_ne e, x j hj]
    by_cases c : (j : Int) < k
    · rw [if_pos c, if_pos (by omega)]
    · rw [if_neg c, if_neg (by omega)]
theorem FI_n (x : FI n P R k a) (hk : 0 ≤ k) (hv : P k.toNat = R k.toNat) : FI n P R (k + 1) a := fun j hj => by
  rw [x j hj]
  by_cases e : j = k.toNat
  · rw [e, if_neg (by omega), if_pos (by omega), hv]
  · by_cases c : (j : Int) < k
    · rw [if_pos c, if_pos (by omega)]
    · rw [if_neg c, if_neg (by omega)]
theorem FI_e (x : FI n P R k a) (hk : (n : Int) ≤ k) : ∀ j, j < n → a j = P j := fun j hj => by
  rw [x j hj, if_pos (by omega)]
end
/-- outside these arrays and these fields of the reference nothing changed -/
def ZE (L K : List Nat) (g h : av_H) : Prop := (∀ q, L.elem q = false → hA h q = hA g q) ∧ ∀ k, K.elem k = false → hF h 77 k = hF g 77 k
theorem ZE_rf {L K : List Nat} (h : av_H) : ZE L K h h := ⟨fun _ _ => rfl, fun _ _ => rfl⟩
theorem ZE_tr {L K : List Nat} {g h k : av_H} (a : ZE L K g h) (b : ZE L K h k) : ZE L K g k := ⟨fun q e => (b.1 q e).trans (a.1 q e), fun q e => (b.2 q e).trans (a.2 q e)⟩
theorem ZE_a {L K : List Nat} {g h h' : av_H} {q i : Nat} {v : Int} (a : ZE L K g h) (e : h' = hwA h q i v) (m : L.elem q = true) : ZE L K g h' := by
  subst e
  refine ⟨fun p hp => ?_, fun k hk => a.2 k hk⟩
  rw [hA_ne (fun z => by rw [z, m] at hp; cases hp)]
  exact a.1 p hp
theorem ZE_f {L K : List Nat} {g h h' : av_H} {f : Nat} {v : Int} (a : ZE L K g h) (e : h' = hwF h 77 f v) (m : K.elem f = true) : ZE L K g h' := by
  subst e
  refine ⟨fun p hp => a.1 p hp, fun k hk => ?_⟩
  rw [hF_oth (fun z => by rw [z, m] at hk; cases hk)]
  exact a.2 k hk
theorem hA_eu {h h' : av_H} {q i : Nat} {v : Int} (e : h' = hwA h q i v) : hA h' q = av_u1 (hA h q) i v := by
  subst e
  exact hA_wu
theorem hA_en {h h' : av_H} {q p i : Nat} {v : Int} (e : h' = hwA h q i v) (m : p ≠ q) : hA h' p = hA h p := by
  subst e
  exact hA_ne m
section
variable {sc : av_Sr} {cd : List (Nat × av_E)} {Q : Option av_V → av_H → Prop} {pc p' : Nat} {lv : av_L} {r' : List av_V} {g h : av_H} {n a m : Int}
theorem xm_as {q l : Nat} {x v : Int} (hx : cd.lookup pc = some (av_q (.iastore))) (hp : pc + 1 = p') (I : IMF n a m h) (F : FM g h) (hk : hK h q = (20, l)) (ha : q = 95 ∨ (109 ≤ q ∧ q ≤ 121)) (hi : 0 ≤ x ∧ x < l ∧ (l : Int) < 2147483648) (hw : ∀ h', IMF n a m h' → FM g h' → h' = hwA h q x.toNat v → av_wp sc cd p' lv r' h' Q) : av_wp sc cd pc lv (.inl v :: .inl x :: .inr (.inr (.inl (some q))) :: r') h Q :=
  wq_as hx hp hk hi (hw _ ⟨IM_wA I.1 ha, I.2⟩ (FM_wA F (mA_in (by omega) (by omega))) rfl)
end
/-! sums -/
def sumv (a : Nat → Int) : Nat → Int
  | 0 => 0
  | k + 1 => sumv a k + a k
theorem sumv_s {a : Nat → Int} {x k s : Int} (hk : 0 ≤ k) (e : x = sumv a k.toNat) (es : a k.toNat = s) : x + s = sumv a (k + 1).toNat := by
  rw [show (k + 1).toNat = k.toNat + 1 by omega, e, ← es]
  rfl
/-! a cell of a case -/
def cel (u : Nat → Int) (s : Nat) (k w : Int) : Int := if (0 ≤ k ∧ k < (s : Int)) ∧ 0 ≤ w ∧ w < 21 then u (k * 21 + w).toNat else -1
/-! the law laid, the clauses behind -/
def lyb (a : Nat → Int) (l : Int) (j : Nat) : Int := if a (14 * l + j).toNat = -2 then av_plain j else a (14 * l + j).toNat
def lyf (a : Nat → Int) (l x : Int) : Nat → Nat → Int
  | 0, j => lyb a l j
  | c + 1, j => if av_w (av_and (av_shr x (c : Int)) 1) = 1 ∧ a (112 + 14 * (c : Int) + j).toNat ≠ -2 then a (112 + 14 * (c : Int) + j).toNat else lyf a l x c j
theorem plv {k : Int} (h : 0 ≤ k ∧ k < 13) : av_plain k.toNat = if k < 6 then 1 else if 7 ≤ k ∧ k ≤ 8 then -1 else 0 := by
  rcases (show k = 0 ∨ k = 1 ∨ k = 2 ∨ k = 3 ∨ k = 4 ∨ k = 5 ∨ k = 6 ∨ k = 7 ∨ k = 8 ∨ k = 9 ∨ k = 10 ∨ k = 11 ∨ k = 12 by omega) with e | e | e | e | e | e | e | e | e | e | e | e | e <;> subst e <;> rfl
theorem lyb_p {a : Nat → Int} {l k v : Int} (hk : 0 ≤ k) (e : a (14 * l + k).toNat = v) (h : v = -2) : lyb a l k.toNat = av_plain k.toNat := by
  unfold lyb
  rw [Int.toNat_of_nonneg hk, e, if_pos h]
theorem lyb_n {a : Nat → Int} {l k v w : Int} (hk : 0 ≤ k) (e : a (14 * l + k).toNat = v) (h : v ≠ -2) (e2 : a (14 * l + k).toNat = w) : w = lyb a l k.toNat := by
  unfold lyb
  rw [Int.toNat_of_nonneg hk, e, if_neg h, ← e2, e]
theorem lyf_n1 {a : Nat → Int} {l x c k : Int} (hc : 0 ≤ c) (h : ¬ av_w (av_and (av_shr x c) 1) = 1) : lyf a l x (c.toNat + 1) k.toNat = lyf a l x c.toNat k.toNat := by
  show (if av_w (av_and (av_shr x (c.toNat : Int)) 1) = 1 ∧ _ then _ else _) = _
  rw [Int.toNat_of_nonneg hc, if_neg (fun z => h z.1)]
theorem lyf_n2 {a : Nat → Int} {l x c k v : Int} (hc : 0 ≤ c) (hk : 0 ≤ k) (e : a (112 + 14 * c + k).toNat = v) (h : v = -2) : lyf a l x (c.toNat + 1) k.toNat = lyf a l x c.toNat k.toNat := by
  show (if av_w (av_and (av_shr x (c.toNat : Int)) 1) = 1 ∧ a (112 + 14 * (c.toNat : Int) + (k.toNat : Int)).toNat ≠ -2 then _ else _) = _
  rw [Int.toNat_of_nonneg hc, Int.toNat_of_nonneg hk, if_neg (fun z => z.2 (e.trans h))]
theorem lyf_y {a : Nat → Int} {l x c k v w : Int} (hc : 0 ≤ c) (hk : 0 ≤ k) (hb : av_w (av_and (av_shr x c) 1) = 1) (e : a (112 + 14 * c + k).toNat = v) (h : v ≠ -2) (e2 : a (112 + 14 * c + k).toNat = w) : w = lyf a l x (c.toNat + 1) k.toNat := by
  show w = (if av_w (av_and (av_shr x (c.toNat : Int)) 1) = 1 ∧ a (112 + 14 * (c.toNat : Int) + (k.toNat : Int)).toNat ≠ -2 then a (112 + 14 * (c.toNat : Int) + (k.toNat : Int)).toNat else _)
  rw [Int.toNat_of_nonneg hc, Int.toNat_of_nonneg hk, if_pos ⟨hb, by rw [e]; exact h⟩, e2]
/-- no clauses -/
theorem lyf_b0 : ∀ c : Nat, c < 6 → ¬ av_w (av_and (av_shr 0 (c : Int)) 1) = 1 := by decide +kernel
theorem lyf_z {a : Nat → Int} {l : Int} (c j : Nat) (hc : c ≤ 6) : lyf a l 0 c j = lyb a l j := by
  induction c with
  | zero => rfl
  | succ c ih =>
    show (if av_w (av_and (av_shr 0 (c : Int)) 1) = 1 ∧ _ then _ else lyf a l 0 c j) = _
    rw [if_neg (fun z => lyf_b0 c (by omega) z.1)]
    exact ih (by omega)
/-! a saying, as the reference has it -/
theorem rwx_w {A : Nat → Nat → Int} {x k w v : Int} (h0 : 0 ≤ x) (h1 : 0 ≤ k) (hw : 10 ≤ w ∧ w ≤ 14) (e : A 90 (Int.toNat (5 * (12 * x + k) + w - 10)) = v) : v = rwA A (12 * x.toNat + k.toNat) w.toNat := by
  rcases (show w = 10 ∨ w = 11 ∨ w = 12 ∨ w = 13 ∨ w = 14 by omega) with z | z | z | z | z <;> subst z
  · show v = A 90 (5 * (12 * x.toNat + k.toNat) + 0)
    rw [← e]; congr 1; omega
  · show v = A 90 (5 * (12 * x.toNat + k.toNat) + 1)
    rw [← e]; congr 1; omega
  · show v = A 90 (5 * (12 * x.toNat + k.toNat) + 2)
    rw [← e]; congr 1; omega
  · show v = A 90 (5 * (12 * x.toNat + k.toNat) + 3)
    rw [← e]; congr 1; omega
  · show v = A 90 (5 * (12 * x.toNat + k.toNat) + 4)
    rw [← e]; congr 1; omega
theorem rwx_f {A : Nat → Nat → Int} {x k w v : Int} (q o : Nat) (hq : vq o = q ∧ vm o = 1 ∧ vo o = 0) (h0 : 0 ≤ x) (h1 : 0 ≤ k) (hw : w = (o : Int)) (e : A q (Int.toNat (12 * x + k)) = v) : v = rwA A (12 * x.toNat + k.toNat) w.toNat := by
  subst hw
  show v = A (vq o) (vm o * (12 * x.toNat + k.toNat) + vo o)
  rw [hq.1, hq.2.1, hq.2.2, ← e]
  congr 1
  omega
