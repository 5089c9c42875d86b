/-! THE REFERENCE: what is asked, in its list; its hours -/
def cnt (v : Nat → Int) : Nat → Nat
  | 0 => 0
  | t + 1 => cnt v t + if v t < 2 then 0 else 1
def one1 (v : Nat → Int) (t : Nat) : Int := if v t < 2 then 1 else v t
theorem one1_p (v : Nat → Int) (t : Nat) : 1 ≤ one1 v t := by
  unfold one1
  split <;> omega
theorem cnt_s {v : Nat → Int} {t : Nat} : cnt v (t + 1) = cnt v t + if v t < 2 then 0 else 1 := rfl
theorem cnt_le {v : Nat → Int} {t : Nat} : ∀ d, cnt v t ≤ cnt v (t + d) := by
  intro d
  induction d with
  | zero => exact Nat.le_refl _
  | succ d ih =>
    have e : cnt v (t + (d + 1)) = cnt v (t + d) + if v (t + d) < 2 then 0 else 1 := rfl
    rw [e]
    omega
theorem cnt_mo {v : Nat → Int} {t q : Nat} (h : t ≤ q) : cnt v t ≤ cnt v q := by
  have := cnt_le (v := v) (t := t) (q - t)
  rw [show t + (q - t) = q by omega] at this
  exact this
theorem cnt_ex {v : Nat → Int} : ∀ N a, a < cnt v N → ∃ t, t < N ∧ cnt v t = a ∧ 2 ≤ v t := by
  intro N
  induction N with
  | zero => intro a h; exact absurd h (by show ¬ a < 0; omega)
  | succ N ih =>
    intro a h
    rw [cnt_s] at h
    by_cases c : a < cnt v N
    · obtain ⟨t, h1, h2, h3⟩ := ih a c
      exact ⟨t, by omega, h2, h3⟩
    · by_cases d : v N < 2
      · rw [if_pos d] at h; omega
      · rw [if_neg d] at h
        exact ⟨N, by omega, by omega, by omega⟩
/-- between two places with the same count nothing is asked -/
theorem cnt_no {v : Nat → Int} {t q p : Nat} (h : cnt v t = cnt v q) (h1 : t ≤ p) (h2 : p < q) : v p < 2 := by
  have a := cnt_mo (v := v) h1
  have c := cnt_mo (v := v) (show p + 1 ≤ q by omega)
  rw [cnt_s] at c
  by_cases d : v p < 2
  · exact d
  · rw [if_neg d] at c
    omega
theorem prd_no {v : Nat → Int} {t : Nat} : ∀ d, (∀ p, t ≤ p → p < t + d → v p < 2) → prd (one1 v) (t + d) = prd (one1 v) t := by
  intro d
  induction d with
  | zero => intro _; rfl
  | succ d ih =>
    intro h
    show prd (one1 v) (t + d) * one1 v (t + d) = _
    rw [ih (fun p h1 h2 => h p h1 (by omega)), show one1 v (t + d) = 1 from if_pos (h (t + d) (by omega) (by omega)), Int.mul_one]
theorem dgt_0 {v : Nat → Int} {x : Int} {t : Nat} (h : v t < 2) : dgt (one1 v) x t = 0 := by
  unfold dgt
  rw [show one1 v t = 1 from if_pos h, i_m1]
theorem dgt_r {w : Nat → Int} (hw : ∀ t, 1 ≤ w t) {x : Int} (hx : 0 ≤ x) (t : Nat) : 0 ≤ dgt w x t ∧ dgt w x t < w t ∧ dgt w x t ≤ x := by
  have h1 := i_dr hx (prd_p hw t)
  have h2 := i_mr h1.1 (hw t)
  unfold dgt
  omega
/-- the digits are picked up to the a-th asked one -/
def PQI (v : Nat → Int) (N : Nat) (x : Int) (a : Nat) (left : Int) (p : Nat → Int) : Prop := ∀ t, t ≤ N → cnt v t = a → left = x / prd (one1 v) t ∧ (∀ q, q < t → p q = dgt (one1 v) x q) ∧ ∀ q, t ≤ q → q < 48 → p q = 0
theorem PQI_0 {v : Nat → Int} {N : Nat} {x : Int} {p : Nat → Int} (hN : N ≤ 48) (hp : ∀ q, q < 48 → p q = 0) : PQI v N x 0 x p := by
  intro t ht hc
  have hno : ∀ q, q < t → v q < 2 := fun q hq => cnt_no (v := v) (t := 0) (q := t) (by rw [hc]; rfl) (by omega) hq
  have e : prd (one1 v) t = 1 := by
    have := prd_no (v := v) (t := 0) t (fun p _ h2 => hno p (by omega))
    rw [show 0 + t = t by omega] at this
    exact this
  refine ⟨by rw [e, i_d1], fun q hq => ?_, fun q _ h2 => hp q h2⟩
  rw [dgt_0 (hno q hq)]
  exact hp q (by omega)
theorem PQI_s {v : Nat → Int} {N : Nat} {x left : Int} {a : Nat} {p : Nat → Int} (hx : 0 ≤ x) (P : PQI v N x a left p) (hN : N ≤ 48) (ha : a < cnt v N) {ask rad : Nat → Int} (al : ∀ q, q < N → 2 ≤ v q → ask (cnt v q) = (q : Int) ∧ rad (cnt v q) = v q) {i r r2 d m : Int} (ei : ask a = i) (er : rad a = r) (er3 : rad a = r2) (hd : d = left % r) (hm : m = left / r2) : PQI v N x (a + 1) m (av_u1 p i.toNat d) := by
  obtain ⟨t0, h1, h2, h3⟩ := cnt_ex N a ha
  obtain ⟨a1, a2⟩ := al t0 h1 h3
  rw [h2] at a1 a2
  obtain ⟨p1, p2, p3⟩ := P t0 (by omega) h2
  have ei2 : i = (t0 : Int) := ei.symm.trans a1
  have er2 : r = v t0 := er.symm.trans a2
  have er4 : r2 = v t0 := er3.symm.trans a2
  have o1 : one1 v t0 = v t0 := if_neg (by omega)
  subst ei2
  subst er2
  subst er4
  intro t ht hc
  have lt : t0 < t := by
    by_cases c : t0 < t
    · exact c
    · have := cnt_mo (v := v) (show t ≤ t0 by omega)
      omega
  have c1 : cnt v (t0 + 1) = a + 1 := by rw [cnt_s, if_neg (by omega), h2]
  have hno : ∀ q, t0 + 1 ≤ q → q < t → v q < 2 := fun q w1 w2 => cnt_no (v := v) (t := t0 + 1) (q := t) (by rw [c1, hc]) w1 w2
  have e : prd (one1 v) t = prd (one1 v) (t0 + 1) := by
    have := prd_no (v := v) (t := t0 + 1) (t - (t0 + 1)) (fun p w1 w2 => hno p w1 (by omega))
    rw [show t0 + 1 + (t - (t0 + 1)) = t by omega] at this
    exact this
  refine ⟨?_, fun q hq => ?_, fun q w1 w2 => ?_⟩
  · rw [e, prd_d (one1_p v) hx, o1, ← p1]
    exact hm
  · by_cases c : q = t0
    · rw [c, show Int.toNat (t0 : Int) = t0 by omega, u1_eq, hd, p1]
      unfold dgt
      rw [o1]
    · rw [u1_ne (by omega)]
      by_cases c2 : q < t0
      · exact p2 q c2
      · rw [p3 q (by omega) (by omega), dgt_0 (hno q (by omega) hq)]
  · rw [u1_ne (by omega)]
    exact p3 q (by omega) w2
theorem PQI_e {v : Nat → Int} {N : Nat} {x left : Int} {a : Nat} {p : Nat → Int} (P : PQI v N x a left p) (ha : a = cnt v N) : ∀ q, q < N → p q = dgt (one1 v) x q := (P N (Nat.le_refl _) ha.symm).2.1
/-- the reference's hours by its digits -/
def hsl (lo d : Nat → Int) (k : Nat) : Nat → Int
  | 0 => 0
  | i + 1 => hsl lo d k i + lo (3 * k + i) + d (4 * k + i)
def hrq (lo ls d : Nat → Int) (k i : Nat) : Int := if (ls k = 2 ∨ d (4 * k + 3) = 1) ∧ 1 ≤ i then -1 else hsl lo d k (i + 1)
def HQ (lo ls d : Nat → Int) (k : Nat) (A : Nat → Nat → Int) : Prop := ∀ q, q < k → A 109 q = hrq lo ls d q 0 ∧ A 110 q = hrq lo ls d q 1 ∧ A 111 q = hrq lo ls d q 2
theorem HQ_0 {lo ls d : Nat → Int} {A : Nat → Nat → Int} : HQ lo ls d 0 A := fun q hq => absurd hq (by omega)
theorem HQ_s {lo ls d : Nat → Int} {A A1 A2 A3 : Nat → Nat → Int} {k : Nat} {i1 i2 i3 : Nat} {v1 v2 v3 : Int} (H : HQ lo ls d k A) (e1 : A1 109 = av_u1 (A 109) i1 v1) (n1 : A1 110 = A 110 ∧ A1 111 = A 111) (e2 : A2 110 = av_u1 (A1 110) i2 v2) (n2 : A2 109 = A1 109 ∧ A2 111 = A1 111) (e3 : A3 111 = av_u1 (A2 111) i3 v3) (n3 : A3 109 = A2 109 ∧ A3 110 = A2 110) (h1 : i1 = k) (h2 : i2 = k) (h3 : i3 = k) (w1 : v1 = hrq lo ls d k 0) (w2 : v2 = hrq lo ls d k 1) (w3 : v3 = hrq lo ls d k 2) : HQ lo ls d (k + 1) A3 := by
  subst h1
  subst h2
  subst h3
  intro q hq
  rw [e3, n2.2, n1.2, n3.1, n2.1, e1, n3.2, e2, n1.1]
  by_cases c : q = i3
  · subst c
    rw [u1_eq, u1_eq, u1_eq]
    exact ⟨w1, w2, w3⟩
  · rw [u1_ne c, u1_ne c, u1_ne c]
    exact H q (by omega)
theorem hrq_0 {lo ls d : Nat → Int} {k : Nat} : hrq lo ls d k 0 = lo (3 * k) + d (4 * k) := by
  unfold hrq
  rw [if_neg (fun z => by omega)]
  show 0 + lo (3 * k + 0) + d (4 * k + 0) = _
  rw [show 3 * k + 0 = 3 * k by omega, show 4 * k + 0 = 4 * k by omega]
  omega
theorem hrq_l {lo ls d : Nat → Int} {k i : Nat} (h : ls k = 2 ∨ d (4 * k + 3) = 1) (hi : 1 ≤ i) : hrq lo ls d k i = -1 := if_pos ⟨h, hi⟩
theorem hrq_s {lo ls d : Nat → Int} {k i : Nat} (h : ¬ (ls k = 2 ∨ d (4 * k + 3) = 1)) : hrq lo ls d k (i + 1) = hrq lo ls d k i + lo (3 * k + (i + 1)) + d (4 * k + (i + 1)) := by
  unfold hrq
  rw [if_neg (fun z => h z.1), if_neg (fun z => h z.1)]
  rfl
/-- the list of what is asked -/
def AQL (v : Nat → Int) (t : Nat) (h : av_H) : Prop := hF h 77 28 = (cnt v t : Int) ∧ ∀ q, q < t → 2 ≤ v q → hA h 107 (cnt v q) = (q : Int) ∧ hA h 108 (cnt v q) = v q
theorem AQL_0 {v : Nat → Int} {h : av_H} (e : hF h 77 28 = 0) : AQL v 0 h := ⟨e, fun q hq => absurd hq (by omega)⟩
theorem AQL_skip {v : Nat → Int} {t : Nat} {w : Int} {h : av_H} (x : AQL v t h) (hv : v t = w) (h2 : w < 2) : AQL v (t + 1) h := by
  refine ⟨by rw [cnt_s, if_pos (by omega)]; exact x.1, fun q hq hw => ?_⟩
  by_cases c : q = t
  · rw [c] at hw; omega
  · exact x.2 q (by omega) hw
theorem AQL_step {v : Nat → Int} {t : Nat} {w y m' : Int} {h : av_H} (x : AQL v t h) (hv : v t = w) (h2 : 2 ≤ w) (hy : y = (t : Int)) : AQL v (t + 1) (hwF (hwF (hwA (hwA h 107 (hF h 77 28).toNat y) 108 (hF h 77 28).toNat w) 77 28 (hF h 77 28 + 1)) 77 29 m') := by
  have e28 : (hF h 77 28).toNat = cnt v t := by rw [x.1]; omega
  refine ⟨?_, fun q hq hw => ?_⟩
  · rw [hF_oth (by decide), hF_self, x.1, cnt_s, if_neg (by omega)]
    omega
  · rw [e28]
    have a7 : hA (hwF (hwF (hwA (hwA h 107 (cnt v t) y) 108 (cnt v t) w) 77 28 (hF h 77 28 + 1)) 77 29 m') 107 = av_u1 (hA h 107) (cnt v t) y := by
      show hA (hwA (hwA h 107 (cnt v t) y) 108 (cnt v t) w) 107 = _
      rw [hA_ne (h := hwA h 107 (cnt v t) y) (a := 108) (by decide), hA_wu]
    have a8 : hA (hwF (hwF (hwA (hwA h 107 (cnt v t) y) 108 (cnt v t) w) 77 28 (hF h 77 28 + 1)) 77 29 m') 108 = av_u1 (hA h 108) (cnt v t) w := by
      show hA (hwA (hwA h 107 (cnt v t) y) 108 (cnt v t) w) 108 = _
      rw [hA_wu, hA_ne (h := h) (a := 107) (by decide)]
    rw [a7, a8]
    by_cases c : q = t
    · rw [c, u1_eq, u1_eq]
      exact ⟨hy, hv.symm⟩
    · have lt : cnt v q ≠ cnt v t := fun z => by
        have := cnt_no (v := v) (t := q) (q := t) z (Nat.le_refl _) (by omega)
        omega
      rw [u1_ne lt, u1_ne lt]
      exact x.2 q (by omega) hw
section
variable {lo ls d : Nat → Int} {k w a p s : Int} {i : Nat}
theorem hq_a (hk : 0 ≤ k) (e1 : lo (Int.toNat (3 * k)) = a) (e2 : d (Int.toNat (4 * k)) = p) : a + p = hrq lo ls d k.toNat 0 := by
  rw [hrq_0, show 3 * k.toNat = (3 * k).toNat by omega, show 4 * k.toNat = (4 * k).toNat by omega, e1, e2]
theorem hq_l (hk : 0 ≤ k) (e1 : ls k.toNat = w) (h : w = 2) (hi : 1 ≤ i) : -1 = hrq lo ls d k.toNat i := (hrq_l (Or.inl (e1.trans h)) hi).symm
theorem hq_m (hk : 0 ≤ k) (e1 : d (Int.toNat (4 * k + 3)) = p) (h : p = 1) (hi : 1 ≤ i) : -1 = hrq lo ls d k.toNat i := (hrq_l (Or.inr (by rw [show 4 * k.toNat + 3 = (4 * k + 3).toNat by omega]; exact e1.trans h)) hi).symm
theorem hq_s {q : Int} (hk : 0 ≤ k) (el : ls k.toNat = w) (hl : w ≠ 2) (ed : d (Int.toNat (4 * k + 3)) = q) (hd : q ≠ 1) (j : Int) (hj : j = ((i + 1 : Nat) : Int)) (e0 : s = hrq lo ls d k.toNat i) (e1 : lo (Int.toNat (3 * k + j)) = a) (e2 : d (Int.toNat (4 * k + j)) = p) : s + a + p = hrq lo ls d k.toNat (i + 1) := by
  rw [hrq_s (fun z => z.elim (fun y => hl (el.symm.trans y)) (fun y => hd (ed.symm.trans (by rw [show (4 * k + 3).toNat = 4 * k.toNat + 3 by omega]; exact y)))), ← e0, show 3 * k.toNat + (i + 1) = (3 * k + j).toNat by omega, show 4 * k.toNat + (i + 1) = (4 * k + j).toNat by omega, e1, e2]
end
/-- what is asked is found: with the list, and what stays -/
def AJX (g : av_H) (n : Int) (lo hi ls : Nat → Int) (t : Nat) (h : av_H) : Prop := IM h ∧ hF h 77 27 = n ∧ hF h 77 28 ≤ t ∧ 1 ≤ hF h 77 29 ∧ hF h 77 29 = cmf lo hi ls t ∧ hA h 105 = lo ∧ hA h 106 = hi ∧ hA h 98 = ls ∧ AQL (cmv lo hi ls) t h ∧ ZE [107, 108] [28, 29] g h
section
variable {g h : av_H} {n : Int} {lo hi ls : Nat → Int} {t t' : Nat}
theorem AJX_j (J : AJX g n lo hi ls t h) : AJ n lo hi ls t h := ⟨J.1, J.2.1, J.2.2.1, J.2.2.2.1, J.2.2.2.2.1, J.2.2.2.2.2.1, J.2.2.2.2.2.2.1, J.2.2.2.2.2.2.2.1⟩
theorem AJX_of (J : AJ n lo hi ls t h) (a : AQL (cmv lo hi ls) t h) (z : ZE [107, 108] [28, 29] g h) : AJX g n lo hi ls t h := ⟨J.1, J.2.1, J.2.2.1, J.2.2.2.1, J.2.2.2.2.1, J.2.2.2.2.2.1, J.2.2.2.2.2.2.1, J.2.2.2.2.2.2.2, a, z⟩
theorem AJX_eq (J : AJX g n lo hi ls t h) (e : t = t') : AJX g n lo hi ls t' h := e ▸ J
theorem AJX_skip {v : Int} (J : AJX g n lo hi ls t h) (hv : cmv lo hi ls t = v) (h2 : v < 2) : AJX g n lo hi ls (t + 1) h := AJX_of (AJ_skip (AJX_j J) hv h2) (AQL_skip J.2.2.2.2.2.2.2.2.1 hv h2) J.2.2.2.2.2.2.2.2.2
theorem AJX_step {x v m' : Int} (J : AJX g n lo hi ls t h) (hcv : cmv lo hi ls t = v) (hb : t ≤ 47) (hv : 2 ≤ v ∧ v ≤ 2000) (hx : (0 ≤ x ∧ x ≤ 47) ∧ x = (t : Int)) (hm : (1024 < hF h 77 29 * v ∧ m' = 1025) ∨ (hF h 77 29 * v ≤ 1024 ∧ m' = hF h 77 29 * v)) : AJX g n lo hi ls (t + 1) (hwF (hwF (hwA (hwA h 107 (hF h 77 28).toNat x) 108 (hF h 77 28).toNat v) 77 28 (hF h 77 28 + 1)) 77 29 m') ∧ FM h (hwF (hwF (hwA (hwA h 107 (hF h 77 28).toNat x) 108 (hF h 77 28).toNat v) 77 28 (hF h 77 28 + 1)) 77 29 m') := by
  have A := AJ_step (AJX_j J) hcv hb hv hx.1 hm
  exact ⟨AJX_of A.1 (AQL_step J.2.2.2.2.2.2.2.2.1 hcv hv.1 hx.2) (ZE_f (ZE_f (ZE_a (ZE_a J.2.2.2.2.2.2.2.2.2 rfl rfl) rfl rfl) rfl rfl) rfl rfl), A.2⟩
theorem AJX_0 (I : IM h) (hn : hF h 77 27 = n) : AJX h n (hA h 105) (hA h 106) (hA h 98) 0 (hwF (hwF h 77 28 0) 77 29 1) ∧ FM h (hwF (hwF h 77 28 0) 77 29 1) := by
  have A := AJ_0 I hn
  exact ⟨AJX_of A.1 (AQL_0 ((hF_oth (by decide)).trans hF_self)) (ZE_f (ZE_f (ZE_rf h) rfl rfl) rfl rfl), A.2⟩
end
