section
/-! EXACTLY: helps -/
/-- an array is filled by P up to k, by R behind -/
def FI (n : Nat) (P R : Nat → Int) (k : Int) (a : Nat → Int) : Prop := ∀ j, j < n → a j = if (j : Int) < k then P j else R j
section
variable {n : Nat} {P R a : Nat → Int} {k v : Int}
theorem FI_0 (e : ∀ j, j < n → a j = R j) : FI n P R 0 a := fun j hj => by
  rw [if_neg (by omega)]
  exact e j hj
theorem FI_s (x : FI n P R k a) (hk : 0 ≤ k) (hv : v = P k.toNat) : FI n P R (k + 1) (av_u1 a k.toNat v) := fun j hj => by
  by_cases e : j = k.toNat
  · rw [e, if_pos (by omega), hv]
    exact u1_eq
  · rw [u1_ne e, x j hj]
    by_cases c : (j : Int) < k
    · rw [if_pos c, if_pos (by omega)]
    · rw [if_neg c, if_neg (by omega)]
theorem FI_n (x : FI n P R k a) (hk : 0 ≤ k) (hv : P k.toNat = R k.toNat) : FI n P R (k + 1) a := fun j hj => by
  rw [x j hj]
  by_cases e : j = k.toNat
  · rw [e, if_neg (by omega), if_pos (by omega), hv]
  · by_cases c : (j : Int) < k
    · rw [if_pos c, if_pos (by omega)]
    · rw [if_neg c, if_neg (by omega)]
theorem FI_e (x : FI n P R k a) (hk : (n : Int) ≤ k) : ∀ j, j < n → a j = P j := fun j hj => by
  rw [x j hj, if_pos (by omega)]
end
/-- outside these arrays and these fields of the reference nothing changed -/
def ZE (L K : List Nat) (g h : av_H) : Prop := (∀ q, L.elem q = false → hA h q = hA g q) ∧ ∀ k, K.elem k = false → hF h 77 k = hF g 77 k
theorem ZE_rf {L K : List Nat} (h : av_H) : ZE L K h h := ⟨fun _ _ => rfl, fun _ _ => rfl⟩
theorem ZE_tr {L K : List Nat} {g h k : av_H} (a : ZE L K g h) (b : ZE L K h k) : ZE L K g k := ⟨fun q e => (b.1 q e).trans (a.1 q e), fun q e => (b.2 q e).trans (a.2 q e)⟩
theorem ZE_a {L K : List Nat} {g h h' : av_H} {q i : Nat} {v : Int} (a : ZE L K g h) (e : h' = hwA h q i v) (m : L.elem q = true) : ZE L K g h' := by
  subst e
  refine ⟨fun p hp => ?_, fun k hk => a.2 k hk⟩
  rw [hA_ne (fun z => by rw [z, m] at hp; cases hp)]
  exact a.1 p hp
theorem ZE_f {L K : List Nat} {g h h' : av_H} {f : Nat} {v : Int} (a : ZE L K g h) (e : h' = hwF h 77 f v) (m : K.elem f = true) : ZE L K g h' := by
  subst e
  refine ⟨fun p hp => a.1 p hp, fun k hk => ?_⟩
  rw [hF_oth (fun z => by rw [z, m] at hk; cases hk)]
  exact a.2 k hk
theorem hA_eu {h h' : av_H} {q i : Nat} {v : Int} (e : h' = hwA h q i v) : hA h' q = av_u1 (hA h q) i v := by
  subst e
  exact hA_wu
theorem hA_en {h h' : av_H} {q p i : Nat} {v : Int} (e : h' = hwA h q i v) (m : p ≠ q) : hA h' p = hA h p := by
  subst e
  exact hA_ne m
section
variable {sc : av_Sr} {cd : List (Nat × av_E)} {Q : Option av_V → av_H → Prop} {pc p' : Nat} {lv : av_L} {r' : List av_V} {g h : av_H} {n a m : Int}
theorem xm_as {q l : Nat} {x v : Int} (hx : cd.lookup pc = some (av_q (.iastore))) (hp : pc + 1 = p') (I : IMF n a m h) (F : FM g h) (hk : hK h q = (20, l)) (ha : q = 95 ∨ (109 ≤ q ∧ q ≤ 121)) (hi : 0 ≤ x ∧ x < l ∧ (l : Int) < 2147483648) (hw : ∀ h', IMF n a m h' → FM g h' → h' = hwA h q x.toNat v → av_wp sc cd p' lv r' h' Q) : av_wp sc cd pc lv (.inl v :: .inl x :: .inr (.inr (.inl (some q))) :: r') h Q :=
  wq_as hx hp hk hi (hw _ ⟨IM_wA I.1 ha, I.2⟩ (FM_wA F (mA_in (by omega) (by omega))) rfl)
end
/-! sums -/
def sumv (a : Nat → Int) : Nat → Int
  | 0 => 0
  | k + 1 => sumv a k + a k
theorem sumv_s {a : Nat → Int} {x k s : Int} (hk : 0 ≤ k) (e : x = sumv a k.toNat) (es : a k.toNat = s) : x + s = sumv a (k + 1).toNat := by
  rw [show (k + 1).toNat = k.toNat + 1 by omega, e, ← es]
  rfl
/-! a cell of a case -/
def cel (u : Nat → Int) (s : Nat) (k w : Int) : Int := if (0 ≤ k ∧ k < (s : Int)) ∧ 0 ≤ w ∧ w < 21 then u (k * 21 + w).toNat else -1
/-! the law laid, the clauses behind -/
def lyb (a : Nat → Int) (l : Int) (j : Nat) : Int := if a (14 * l + j).toNat = -2 then av_plain j else a (14 * l + j).toNat
def lyf (a : Nat → Int) (l x : Int) : Nat → Nat → Int
  | 0, j => lyb a l j
  | c + 1, j => if av_w (av_and (av_shr x (c : Int)) 1) = 1 ∧ a (112 + 14 * (c : Int) + j).toNat ≠ -2 then a (112 + 14 * (c : Int) + j).toNat else lyf a l x c j
theorem plv {k : Int} (h : 0 ≤ k ∧ k < 13) : av_plain k.toNat = if k < 6 then 1 else if 7 ≤ k ∧ k ≤ 8 then -1 else 0 := by
  rcases (show k = 0 ∨ k = 1 ∨ k = 2 ∨ k = 3 ∨ k = 4 ∨ k = 5 ∨ k = 6 ∨ k = 7 ∨ k = 8 ∨ k = 9 ∨ k = 10 ∨ k = 11 ∨ k = 12 by omega) with e | e | e | e | e | e | e | e | e | e | e | e | e <;> subst e <;> rfl
theorem lyb_p {a : Nat → Int} {l k v : Int} (hk : 0 ≤ k) (e : a (14 * l + k).toNat = v) (h : v = -2) : lyb a l k.toNat = av_plain k.toNat := by
  unfold lyb
  rw [Int.toNat_of_nonneg hk, e, if_pos h]
theorem lyb_n {a : Nat → Int} {l k v w : Int} (hk : 0 ≤ k) (e : a (14 * l + k).toNat = v) (h : v ≠ -2) (e2 : a (14 * l + k).toNat = w) : w = lyb a l k.toNat := by
  unfold lyb
  rw [Int.toNat_of_nonneg hk, e, if_neg h, ← e2, e]
theorem lyf_n1 {a : Nat → Int} {l x c k : Int} (hc : 0 ≤ c) (h : ¬ av_w (av_and (av_shr x c) 1) = 1) : lyf a l x (c.toNat + 1) k.toNat = lyf a l x c.toNat k.toNat := by
  show (if av_w (av_and (av_shr x (c.toNat : Int)) 1) = 1 ∧ _ then _ else _) = _
  rw [Int.toNat_of_nonneg hc, if_neg (fun z => h z.1)]
theorem lyf_n2 {a : Nat → Int} {l x c k v : Int} (hc : 0 ≤ c) (hk : 0 ≤ k) (e : a (112 + 14 * c + k).toNat = v) (h : v = -2) : lyf a l x (c.toNat + 1) k.toNat = lyf a l x c.toNat k.toNat := by
  show (if av_w (av_and (av_shr x (c.toNat : Int)) 1) = 1 ∧ a (112 + 14 * (c.toNat : Int) + (k.toNat : Int)).toNat ≠ -2 then _ else _) = _
  rw [Int.toNat_of_nonneg hc, Int.toNat_of_nonneg hk, if_neg (fun z => z.2 (e.trans h))]
theorem lyf_y {a : Nat → Int} {l x c k v w : Int} (hc : 0 ≤ c) (hk : 0 ≤ k) (hb : av_w (av_and (av_shr x c) 1) = 1) (e : a (112 + 14 * c + k).toNat = v) (h : v ≠ -2) (e2 : a (112 + 14 * c + k).toNat = w) : w = lyf a l x (c.toNat + 1) k.toNat := by
  show w = (if av_w (av_and (av_shr x (c.toNat : Int)) 1) = 1 ∧ a (112 + 14 * (c.toNat : Int) + (k.toNat : Int)).toNat ≠ -2 then a (112 + 14 * (c.toNat : Int) + (k.toNat : Int)).toNat else _)
  rw [Int.toNat_of_nonneg hc, Int.toNat_of_nonneg hk, if_pos ⟨hb, by rw [e]; exact h⟩, e2]
/-- no clauses -/
theorem lyf_b0 : ∀ c : Nat, c < 6 → ¬ av_w (av_and (av_shr 0 (c : Int)) 1) = 1 := by decide +kernel
theorem lyf_z {a : Nat → Int} {l : Int} (c j : Nat) (hc : c ≤ 6) : lyf a l 0 c j = lyb a l j := by
  induction c with
  | zero => rfl
  | succ c ih =>
    show (if av_w (av_and (av_shr 0 (c : Int)) 1) = 1 ∧ _ then _ else lyf a l 0 c j) = _
    rw [if_neg (fun z => lyf_b0 c (by omega) z.1)]
    exact ih (by omega)
/-! a saying, as the reference has it -/
theorem rwx_w {A : Nat → Nat → Int} {x k w v : Int} (h0 : 0 ≤ x) (h1 : 0 ≤ k) (hw : 10 ≤ w ∧ w ≤ 14) (e : A 90 (Int.toNat (5 * (12 * x + k) + w - 10)) = v) : v = rwA A (12 * x.toNat + k.toNat) w.toNat := by
  rcases (show w = 10 ∨ w = 11 ∨ w = 12 ∨ w = 13 ∨ w = 14 by omega) with z | z | z | z | z <;> subst z
  · show v = A 90 (5 * (12 * x.toNat + k.toNat) + 0)
    rw [← e]; congr 1; omega
  · show v = A 90 (5 * (12 * x.toNat + k.toNat) + 1)
    rw [← e]; congr 1; omega
  · show v = A 90 (5 * (12 * x.toNat + k.toNat) + 2)
    rw [← e]; congr 1; omega
  · show v = A 90 (5 * (12 * x.toNat + k.toNat) + 3)
    rw [← e]; congr 1; omega
  · show v = A 90 (5 * (12 * x.toNat + k.toNat) + 4)
    rw [← e]; congr 1; omega
theorem rwx_f {A : Nat → Nat → Int} {x k w v : Int} (q o : Nat) (hq : vq o = q ∧ vm o = 1 ∧ vo o = 0) (h0 : 0 ≤ x) (h1 : 0 ≤ k) (hw : w = (o : Int)) (e : A q (Int.toNat (12 * x + k)) = v) : v = rwA A (12 * x.toNat + k.toNat) w.toNat := by
  subst hw
  show v = A (vq o) (vm o * (12 * x.toNat + k.toNat) + vo o)
  rw [hq.1, hq.2.1, hq.2.2, ← e]
  congr 1
  omega
end
section
/-! THE SMALL LOOKS, exactly -/
theorem cs_co {h : av_H} {v : Option Nat} {t c s : Nat} {f : Nat → Int} (x : CC h v t c s f) : CO h t c s (cbv f s) := cx_co x.2.1 x.2.2.1 (Or.inr (Or.inr x.2.2.2.2.2.1))
set_option maxRecDepth 100000 in
set_option maxHeartbeats 4000000 in
theorem cx_100 {h : av_H} (I : IC h) {Q : Option av_V → av_H → Prop} (hq : Q (some (.inl (hF h 0 8))) h) : av_wp none cd_100 0 [some (.inr (.inr (.inl (some (0)))))] [] h Q := by
  have F := Fr1_rf h
  refine av_wp_seq 1 (pc' := 1) (lv' := [some (.inr (.inr (.inl (some (0)))))]) (st' := [.inr (.inr (.inl (some (0))))]) (h' := h) rfl ?_
  obtain ⟨v1, e2⟩ : ∃ v, hF h 0 8 = v := ⟨_, rfl⟩
  refine wq_gi (p' := 4) rfl rfl (congrArg Prod.fst (ly_k I.1 0 rfl)) rfl (e2) ?_
  refine av_wp_ret (v := some (.inl v1)) rfl rfl rfl ?_
  rw [← e2]
  exact hq

set_option maxRecDepth 100000 in
set_option maxHeartbeats 4000000 in
theorem cx_69 {h : av_H} (I : IC h) {A : Nat → Nat → Int} (SS : SL h A 3 0) (k : Int) (qk : -2147483648 ≤ k ∧ k ≤ 2147483647) {Q : Option av_V → av_H → Prop} (hq0 : (k < 0 ∨ hF h 3 3 ≤ k) → Q (some (.inr (.inr (.inl none)))) h) (hq1 : 0 ≤ k → k < hF h 3 3 → k ≤ 15 → ∀ t c s f, CC h (some t) t c s f → A 81 (Int.toNat k) = (s : Int) → (∀ j, j < s → RY (rwA A (12 * Int.toNat k + j)) f (j * 21)) → Q (some (.inr (.inr (.inl (some t))))) h) : av_wp none cd_69 0 [some (.inr (.inr (.inl (some (3))))), some (.inl k)] [] h Q := by
  have F := Fr1_rf h
  refine av_wp_sqF ck_69 1 (pc' := 1) (lv' := [some (.inr (.inr (.inl (some (3))))), some (.inl k)]) (st' := [.inl k]) (h' := h) rfl ?_
  refine wq_k1 (p' := 4) (ck_69 _ _ rfl) rfl ⟨by omega, by omega⟩ (fun c1 => ?_) (fun c2 => ?_)
  · have c1 : k < (0) := c1
    refine av_wp_sqF ck_69 1 (pc' := 22) (lv' := [some (.inr (.inr (.inl (some (3))))), some (.inl k)]) (st' := [.inr (.inr (.inl none))]) (h' := h) rfl ?_
    refine av_wp_ret (v := some (.inr (.inr (.inl none)))) rfl rfl rfl ?_
    exact hq0 (by omega)
  · have c2 : (0) ≤ k := c2
    refine av_wp_sqF ck_69 2 (pc' := 6) (lv' := [some (.inr (.inr (.inl (some (3))))), some (.inl k)]) (st' := [.inr (.inr (.inl (some (3)))), .inl k]) (h' := h) rfl ?_
    obtain ⟨v3, e4⟩ : ∃ v, hF h 3 3 = v := ⟨_, rfl⟩
    have g5 := ic_cc I
    rw [e4] at g5
    refine wq_gi (p' := 9) (ck_69 _ _ rfl) rfl (congrArg Prod.fst (ly_k I.1 3 rfl)) rfl (e4) ?_
    refine wq_k2 (p' := 12) (ck_69 _ _ rfl) rfl ⟨by omega, by omega⟩ ⟨by omega, by omega⟩ (fun c6 => ?_) (fun c7 => ?_)
    · have c6 : v3 ≤ k := c6
      refine av_wp_sqF ck_69 1 (pc' := 22) (lv' := [some (.inr (.inr (.inl (some (3))))), some (.inl k)]) (st' := [.inr (.inr (.inl none))]) (h' := h) rfl ?_
      refine av_wp_ret (v := some (.inr (.inr (.inl none)))) rfl rfl rfl ?_
      exact hq0 (by omega)
    · have c7 : k < v3 := c7
      refine av_wp_sqF ck_69 1 (pc' := 13) (lv' := [some (.inr (.inr (.inl (some (3))))), some (.inl k)]) (st' := [.inr (.inr (.inl (some (3))))]) (h' := h) rfl ?_
      refine wq_gr (p' := 16) (ck_69 _ _ rfl) rfl (congrArg Prod.fst (ly_k I.1 3 rfl)) rfl (ly_g I.1 3 0 4 rfl) ?_
      refine av_wp_sqF ck_69 1 (pc' := 17) (lv' := [some (.inr (.inr (.inl (some (3))))), some (.inl k)]) (st' := [.inl k, .inr (.inr (.inl (some (4))))]) (h' := h) rfl ?_
      obtain ⟨t8, c9, s10, f11, x12, x13, x14⟩ := SS.2.2.1 (Int.toNat (k)) (by omega) (by omega)
      refine wq_ar (p' := 18) (n := 16) (k := 30) (ck_69 _ _ rfl) rfl (ly_k I.1 4 rfl) (by omega) (by omega) x12.1 ?_
      have g15 := co_s12 (cs_co x12)
      have g16 := co_cbr (cs_co x12)
      refine av_wp_sqF ck_69 1 (pc' := 22) (lv' := [some (.inr (.inr (.inl (some (3))))), some (.inl k)]) (st' := [.inr (.inr (.inl (some (t8))))]) (h' := h) rfl ?_
      refine av_wp_ret (v := some (.inr (.inr (.inl (some (t8)))))) rfl rfl rfl ?_
      exact hq1 (by omega) (by omega) (by omega) _ _ _ _ ⟨rfl, x12.2⟩ (by rw [← x13]; congr 1; omega) (fun j hj => by have y := x14 j hj; rw [show 192 * 0 + 12 * Int.toNat k + j = 12 * Int.toNat k + j by omega] at y; exact y)

set_option maxRecDepth 100000 in
set_option maxHeartbeats 4000000 in
theorem cx_29 {h : av_H} {t c s : Nat} {cb : Int} (o : CO h t c s cb) (k : Int) (qk : -2147483648 ≤ k ∧ k ≤ 2147483647) (w : Int) (qw : -2147483648 ≤ w ∧ w ≤ 2147483647) {Q : Option av_V → av_H → Prop} (hq : Q (some (.inl (cel (hA h c) s k w))) h) : av_wp none cd_29 0 [some (.inr (.inr (.inl (some (t))))), some (.inl k), some (.inl w)] [] h Q := by
  have F := Fr1_rf h
  have g1 := co_s12 o
  have g2 := co_cbr o
  refine av_wp_sqF ck_29 2 (pc' := 2) (lv' := [some (.inr (.inr (.inl (some (t))))), some (.inl k), some (.inl w)]) (st' := [.inl k, .inr (.inr (.inl (some (t))))]) (h' := h) rfl ?_
  refine wq_cv (p' := 5) (av_qc (.invokevirtual 40) 28 1 0 1) 2 cd_28 [.inl k] (t) 1 [some (.inr (.inr (.inl (some (t))))), some (.inl k)] (ck_29 _ _ rfl) rfl rfl pp_28 rfl rfl rfl (congrArg Prod.fst (co_kt o)) rfl rfl rfl rfl ?_
  refine ct_28 o (k) (by omega) (fun v3 p4 => ?_)
  show av_wp _ cd_29 5 [some (.inr (.inr (.inl (some (t))))), some (.inl k), some (.inl w)] [.inl v3] h _
  refine wq_k1 (p' := 8) (ck_29 _ _ rfl) rfl ⟨by omega, by omega⟩ (fun c5 => ?_) (fun c6 => ?_)
  · have c5 : v3 = (0) := c5
    refine av_wp_sqF ck_29 1 (pc' := 19) (lv' := [some (.inr (.inr (.inl (some (t))))), some (.inl k), some (.inl w)]) (st' := [.inl (-1)]) (h' := h) rfl ?_
    refine av_wp_ret (v := some (.inl (-1))) (ck_29 _ _ rfl) rfl rfl ?_
    have z : cel (hA h c) s k w = -1 := if_neg (by omega)
    rw [← z]
    exact hq
  · have c6 : v3 ≠ (0) := c6
    refine av_wp_sqF ck_29 1 (pc' := 9) (lv' := [some (.inr (.inr (.inl (some (t))))), some (.inl k), some (.inl w)]) (st' := [.inl w]) (h' := h) rfl ?_
    refine wq_k1 (p' := 12) (ck_29 _ _ rfl) rfl ⟨by omega, by omega⟩ (fun c7 => ?_) (fun c8 => ?_)
    · have c7 : w < (0) := c7
      refine av_wp_sqF ck_29 1 (pc' := 19) (lv' := [some (.inr (.inr (.inl (some (t))))), some (.inl k), some (.inl w)]) (st' := [.inl (-1)]) (h' := h) rfl ?_
      refine av_wp_ret (v := some (.inl (-1))) (ck_29 _ _ rfl) rfl rfl ?_
      have z : cel (hA h c) s k w = -1 := if_neg (by omega)
      rw [← z]
      exact hq
    · have c8 : (0) ≤ w := c8
      refine av_wp_sqF ck_29 2 (pc' := 15) (lv' := [some (.inr (.inr (.inl (some (t))))), some (.inl k), some (.inl w)]) (st' := [.inl (21), .inl w]) (h' := h) rfl ?_
      refine wq_k2 (p' := 18) (ck_29 _ _ rfl) rfl ⟨by omega, by omega⟩ ⟨by omega, by omega⟩ (fun c9 => ?_) (fun c10 => ?_)
      · have c9 : w < (21) := c9
        refine av_wp_sqF ck_29 1 (pc' := 21) (lv' := [some (.inr (.inr (.inl (some (t))))), some (.inl k), some (.inl w)]) (st' := [.inr (.inr (.inl (some (t))))]) (h' := h) rfl ?_
        refine wq_gr (p' := 24) (ck_29 _ _ rfl) rfl (congrArg Prod.fst (co_kt o)) rfl (co_c o) ?_
        refine av_wp_sqF ck_29 5 (pc' := 30) (lv' := [some (.inr (.inr (.inl (some (t))))), some (.inl k), some (.inl w)]) (st' := [.inl ((k * (21)) + w), .inr (.inr (.inl (some (c))))]) (h' := h) rfl ?_
        obtain ⟨v11, e12⟩ : ∃ v, hA h (c) (Int.toNat (((k * (21)) + w))) = v := ⟨_, rfl⟩
        have g13 := co_v o (Int.toNat (((k * (21)) + w)))
        rw [e12] at g13
        refine wq_al (p' := 31) (n := 21 * s) (ck_29 _ _ rfl) rfl (co_kc o) (by omega) (e12) ?_
        refine av_wp_ret (v := some (.inl v11)) (ck_29 _ _ rfl) rfl rfl ?_
        have z : cel (hA h c) s k w = v11 := (if_pos (by omega)).trans e12
        rw [← z]
        exact hq
      · have c10 : (21) ≤ w := c10
        refine av_wp_sqF ck_29 1 (pc' := 19) (lv' := [some (.inr (.inr (.inl (some (t))))), some (.inl k), some (.inl w)]) (st' := [.inl (-1)]) (h' := h) rfl ?_
        refine av_wp_ret (v := some (.inl (-1))) (ck_29 _ _ rfl) rfl rfl ?_
        have z : cel (hA h c) s k w = -1 := if_neg (by omega)
        rw [← z]
        exact hq

set_option maxRecDepth 100000 in
set_option maxHeartbeats 4000000 in
theorem cx_101 {h : av_H} (I : IC h) {A : Nat → Nat → Int} (SS : SL h A 3 0) (n : Int) (qn : -2147483648 ≤ n ∧ n ≤ 2147483647) (k : Int) (qk : -2147483648 ≤ k ∧ k ≤ 2147483647) (w : Int) (qw : -2147483648 ≤ w ∧ w ≤ 2147483647) {Q : Option av_V → av_H → Prop} (hq0 : (n < 0 ∨ hF h 3 3 ≤ n ∨ k < 0 ∨ A 81 (Int.toNat n) ≤ k ∨ w < 0 ∨ (6 < w ∧ w < 10) ∨ 14 < w) → Q (some (.inl (-2))) h) (hq1 : 0 ≤ n → n < hF h 3 3 → n ≤ 15 → ∀ t c s f, CC h (some t) t c s f → A 81 (Int.toNat n) = (s : Int) → (∀ j, j < s → RY (rwA A (12 * Int.toNat n + j)) f (j * 21)) → 0 ≤ k → k < (s : Int) → ((0 ≤ w ∧ w ≤ 6) ∨ (10 ≤ w ∧ w ≤ 14)) → Q (some (.inl (cel (hA h c) s k w))) h) : av_wp none cd_101 0 [some (.inr (.inr (.inl (some (0))))), some (.inl n), some (.inl k), some (.inl w), none, none] [] h Q := by
  have F := Fr1_rf h
  refine av_wp_sqF ck_101 1 (pc' := 1) (lv' := [some (.inr (.inr (.inl (some (0))))), some (.inl n), some (.inl k), some (.inl w), none, none]) (st' := [.inr (.inr (.inl (some (0))))]) (h' := h) rfl ?_
  refine wq_gr (p' := 4) (ck_101 _ _ rfl) rfl (congrArg Prod.fst (ly_k I.1 0 rfl)) rfl (ly_g I.1 0 1 3 rfl) ?_
  refine av_wp_sqF ck_101 1 (pc' := 5) (lv' := [some (.inr (.inr (.inl (some (0))))), some (.inl n), some (.inl k), some (.inl w), none, none]) (st' := [.inl n, .inr (.inr (.inl (some (3))))]) (h' := h) rfl ?_
  refine wq_cv (p' := 8) (av_qc (.invokevirtual 96) 69 1 0 5) 2 cd_69 [.inl n] (3) 5 [some (.inr (.inr (.inl (some (3))))), some (.inl n)] (ck_101 _ _ rfl) rfl rfl pp_69 rfl rfl rfl (congrArg Prod.fst (ly_k I.1 3 rfl)) rfl rfl rfl rfl ?_
  refine cx_69 I SS (n) (by omega) (fun z8 => ?_) (fun z8 z9 z10 t1 c2 s3 f4 x5 x6 x7 => ?_)
  · show av_wp _ cd_101 8 [some (.inr (.inr (.inl (some (0))))), some (.inl n), some (.inl k), some (.inl w), none, none] [.inr (.inr (.inl none))] h _
    refine av_wp_sqF ck_101 2 (pc' := 11) (lv' := [some (.inr (.inr (.inl (some (0))))), some (.inl n), some (.inl k), some (.inl w), some (.inr (.inr (.inl none))), none]) (st' := [.inl w]) (h' := h) rfl ?_
    refine wq_k1 (p' := 14) (ck_101 _ _ rfl) rfl ⟨by omega, by omega⟩ (fun c12 => ?_) (fun c13 => ?_)
    · have c12 : w < (0) := c12
      refine av_wp_sqF ck_101 1 (pc' := 21) (lv' := [some (.inr (.inr (.inl (some (0))))), some (.inl n), some (.inl k), some (.inl w), some (.inr (.inr (.inl none))), none]) (st' := [.inl w]) (h' := h) rfl ?_
      refine wq_cs (p' := 24) (av_qc (.invokestatic 133) 102 1 2 7) 1 cd_102 [.inl w] [.inl w] [some (.inl w)] (ck_101 _ _ rfl) rfl rfl pp_102 (fun _ => rfl) rfl rfl ?_
      refine ct_102 (w) (by omega) (fun v14 p15 => ?_)
      show av_wp _ cd_101 24 [some (.inr (.inr (.inl (some (0))))), some (.inl n), some (.inl k), some (.inl w), some (.inr (.inr (.inl none))), none] [.inl v14] h _
      refine wq_k1 (p' := 27) (ck_101 _ _ rfl) rfl ⟨by omega, by omega⟩ (fun c16 => ?_) (fun c17 => ?_)
      · have c16 : v14 = (0) := c16
        refine av_wp_sqF ck_101 5 (pc' := 55) (lv' := [some (.inr (.inr (.inl (some (0))))), some (.inl n), some (.inl k), some (.inl w), some (.inr (.inr (.inl none))), some (.inl (0))]) (st' := [.inl (-2)]) (h' := h) rfl ?_
        refine av_wp_ret (v := some (.inl (-2))) (ck_101 _ _ rfl) rfl rfl ?_
        exact hq0 (by omega)
      · have c17 : v14 ≠ (0) := c17
        refine av_wp_sqF ck_101 6 (pc' := 55) (lv' := [some (.inr (.inr (.inl (some (0))))), some (.inl n), some (.inl k), some (.inl w), some (.inr (.inr (.inl none))), some (.inl (1))]) (st' := [.inl (-2)]) (h' := h) rfl ?_
        refine av_wp_ret (v := some (.inl (-2))) (ck_101 _ _ rfl) rfl rfl ?_
        exact hq0 (by omega)
    · have c13 : (0) ≤ w := c13
      refine av_wp_sqF ck_101 2 (pc' := 17) (lv' := [some (.inr (.inr (.inl (some (0))))), some (.inl n), some (.inl k), some (.inl w), some (.inr (.inr (.inl none))), none]) (st' := [.inl (6), .inl w]) (h' := h) rfl ?_
      refine wq_k2 (p' := 20) (ck_101 _ _ rfl) rfl ⟨by omega, by omega⟩ ⟨by omega, by omega⟩ (fun c18 => ?_) (fun c19 => ?_)
      · have c18 : w ≤ (6) := c18
        refine av_wp_sqF ck_101 6 (pc' := 55) (lv' := [some (.inr (.inr (.inl (some (0))))), some (.inl n), some (.inl k), some (.inl w), some (.inr (.inr (.inl none))), some (.inl (1))]) (st' := [.inl (-2)]) (h' := h) rfl ?_
        refine av_wp_ret (v := some (.inl (-2))) (ck_101 _ _ rfl) rfl rfl ?_
        exact hq0 (by omega)
      · have c19 : (6) < w := c19
        refine av_wp_sqF ck_101 1 (pc' := 21) (lv' := [some (.inr (.inr (.inl (some (0))))), some (.inl n), some (.inl k), some (.inl w), some (.inr (.inr (.inl none))), none]) (st' := [.inl w]) (h' := h) rfl ?_
        refine wq_cs (p' := 24) (av_qc (.invokestatic 133) 102 1 2 7) 1 cd_102 [.inl w] [.inl w] [some (.inl w)] (ck_101 _ _ rfl) rfl rfl pp_102 (fun _ => rfl) rfl rfl ?_
        refine ct_102 (w) (by omega) (fun v20 p21 => ?_)
        show av_wp _ cd_101 24 [some (.inr (.inr (.inl (some (0))))), some (.inl n), some (.inl k), some (.inl w), some (.inr (.inr (.inl none))), none] [.inl v20] h _
        refine wq_k1 (p' := 27) (ck_101 _ _ rfl) rfl ⟨by omega, by omega⟩ (fun c22 => ?_) (fun c23 => ?_)
        · have c22 : v20 = (0) := c22
          refine av_wp_sqF ck_101 5 (pc' := 55) (lv' := [some (.inr (.inr (.inl (some (0))))), some (.inl n), some (.inl k), some (.inl w), some (.inr (.inr (.inl none))), some (.inl (0))]) (st' := [.inl (-2)]) (h' := h) rfl ?_
          refine av_wp_ret (v := some (.inl (-2))) (ck_101 _ _ rfl) rfl rfl ?_
          exact hq0 (by omega)
        · have c23 : v20 ≠ (0) := c23
          refine av_wp_sqF ck_101 6 (pc' := 55) (lv' := [some (.inr (.inr (.inl (some (0))))), some (.inl n), some (.inl k), some (.inl w), some (.inr (.inr (.inl none))), some (.inl (1))]) (st' := [.inl (-2)]) (h' := h) rfl ?_
          refine av_wp_ret (v := some (.inl (-2))) (ck_101 _ _ rfl) rfl rfl ?_
          exact hq0 (by omega)
  · have g11 := co_s12 (cs_co x5)
    show av_wp _ cd_101 8 [some (.inr (.inr (.inl (some (0))))), some (.inl n), some (.inl k), some (.inl w), none, none] [.inr (.inr (.inl (some (t1))))] h _
    refine av_wp_sqF ck_101 2 (pc' := 11) (lv' := [some (.inr (.inr (.inl (some (0))))), some (.inl n), some (.inl k), some (.inl w), some (.inr (.inr (.inl (some (t1))))), none]) (st' := [.inl w]) (h' := h) rfl ?_
    refine wq_k1 (p' := 14) (ck_101 _ _ rfl) rfl ⟨by omega, by omega⟩ (fun c24 => ?_) (fun c25 => ?_)
    · have c24 : w < (0) := c24
      refine av_wp_sqF ck_101 1 (pc' := 21) (lv' := [some (.inr (.inr (.inl (some (0))))), some (.inl n), some (.inl k), some (.inl w), some (.inr (.inr (.inl (some (t1))))), none]) (st' := [.inl w]) (h' := h) rfl ?_
      refine wq_cs (p' := 24) (av_qc (.invokestatic 133) 102 1 2 7) 1 cd_102 [.inl w] [.inl w] [some (.inl w)] (ck_101 _ _ rfl) rfl rfl pp_102 (fun _ => rfl) rfl rfl ?_
      refine ct_102 (w) (by omega) (fun v26 p27 => ?_)
      show av_wp _ cd_101 24 [some (.inr (.inr (.inl (some (0))))), some (.inl n), some (.inl k), some (.inl w), some (.inr (.inr (.inl (some (t1))))), none] [.inl v26] h _
      refine wq_k1 (p' := 27) (ck_101 _ _ rfl) rfl ⟨by omega, by omega⟩ (fun c28 => ?_) (fun c29 => ?_)
      · have c28 : v26 = (0) := c28
        refine av_wp_sqF ck_101 6 (pc' := 42) (lv' := [some (.inr (.inr (.inl (some (0))))), some (.inl n), some (.inl k), some (.inl w), some (.inr (.inr (.inl (some (t1))))), some (.inl (0))]) (st' := [.inl k, .inr (.inr (.inl (some (t1))))]) (h' := h) rfl ?_
        refine wq_cv (p' := 45) (av_qc (.invokevirtual 136) 28 1 0 1) 2 cd_28 [.inl k] (t1) 1 [some (.inr (.inr (.inl (some (t1))))), some (.inl k)] (ck_101 _ _ rfl) rfl rfl pp_28 rfl rfl rfl (congrArg Prod.fst (co_kt (cs_co x5))) rfl rfl rfl rfl ?_
        refine ct_28 (cs_co x5) (k) (by omega) (fun v30 p31 => ?_)
        show av_wp _ cd_101 45 [some (.inr (.inr (.inl (some (0))))), some (.inl n), some (.inl k), some (.inl w), some (.inr (.inr (.inl (some (t1))))), some (.inl (0))] [.inl v30] h _
        refine wq_k1 (p' := 48) (ck_101 _ _ rfl) rfl ⟨by omega, by omega⟩ (fun c32 => ?_) (fun c33 => ?_)
        · have c32 : v30 = (0) := c32
          refine av_wp_sqF ck_101 1 (pc' := 55) (lv' := [some (.inr (.inr (.inl (some (0))))), some (.inl n), some (.inl k), some (.inl w), some (.inr (.inr (.inl (some (t1))))), some (.inl (0))]) (st' := [.inl (-2)]) (h' := h) rfl ?_
          refine av_wp_ret (v := some (.inl (-2))) (ck_101 _ _ rfl) rfl rfl ?_
          exact hq0 (by omega)
        · have c33 : v30 ≠ (0) := c33
          refine av_wp_sqF ck_101 3 (pc' := 55) (lv' := [some (.inr (.inr (.inl (some (0))))), some (.inl n), some (.inl k), some (.inl w), some (.inr (.inr (.inl (some (t1))))), some (.inl (0))]) (st' := [.inl (-2)]) (h' := h) rfl ?_
          refine av_wp_ret (v := some (.inl (-2))) (ck_101 _ _ rfl) rfl rfl ?_
          exact hq0 (by omega)
      · have c29 : v26 ≠ (0) := c29
        refine av_wp_sqF ck_101 7 (pc' := 42) (lv' := [some (.inr (.inr (.inl (some (0))))), some (.inl n), some (.inl k), some (.inl w), some (.inr (.inr (.inl (some (t1))))), some (.inl (1))]) (st' := [.inl k, .inr (.inr (.inl (some (t1))))]) (h' := h) rfl ?_
        refine wq_cv (p' := 45) (av_qc (.invokevirtual 136) 28 1 0 1) 2 cd_28 [.inl k] (t1) 1 [some (.inr (.inr (.inl (some (t1))))), some (.inl k)] (ck_101 _ _ rfl) rfl rfl pp_28 rfl rfl rfl (congrArg Prod.fst (co_kt (cs_co x5))) rfl rfl rfl rfl ?_
        refine ct_28 (cs_co x5) (k) (by omega) (fun v34 p35 => ?_)
        show av_wp _ cd_101 45 [some (.inr (.inr (.inl (some (0))))), some (.inl n), some (.inl k), some (.inl w), some (.inr (.inr (.inl (some (t1))))), some (.inl (1))] [.inl v34] h _
        refine wq_k1 (p' := 48) (ck_101 _ _ rfl) rfl ⟨by omega, by omega⟩ (fun c36 => ?_) (fun c37 => ?_)
        · have c36 : v34 = (0) := c36
          refine av_wp_sqF ck_101 1 (pc' := 55) (lv' := [some (.inr (.inr (.inl (some (0))))), some (.inl n), some (.inl k), some (.inl w), some (.inr (.inr (.inl (some (t1))))), some (.inl (1))]) (st' := [.inl (-2)]) (h' := h) rfl ?_
          refine av_wp_ret (v := some (.inl (-2))) (ck_101 _ _ rfl) rfl rfl ?_
          exact hq0 (by omega)
        · have c37 : v34 ≠ (0) := c37
          refine av_wp_sqF ck_101 5 (pc' := 60) (lv' := [some (.inr (.inr (.inl (some (0))))), some (.inl n), some (.inl k), some (.inl w), some (.inr (.inr (.inl (some (t1))))), some (.inl (1))]) (st' := [.inl w, .inl k, .inr (.inr (.inl (some (t1))))]) (h' := h) rfl ?_
          refine wq_cv (p' := 63) (av_qc (.invokevirtual 139) 29 2 0 1) 3 cd_29 [.inl w, .inl k] (t1) 1 [some (.inr (.inr (.inl (some (t1))))), some (.inl k), some (.inl w)] (ck_101 _ _ rfl) rfl rfl pp_29 rfl rfl rfl (congrArg Prod.fst (co_kt (cs_co x5))) rfl rfl rfl rfl ?_
          refine cx_29 (cs_co x5) (k) (by omega) (w) (by omega) ?_
          show av_wp _ cd_101 63 [some (.inr (.inr (.inl (some (0))))), some (.inl n), some (.inl k), some (.inl w), some (.inr (.inr (.inl (some (t1))))), some (.inl (1))] [.inl (cel (hA h c2) s3 k w)] h _
          refine av_wp_ret (v := some (.inl (cel (hA h c2) s3 k w))) (ck_101 _ _ rfl) rfl rfl ?_
          exact hq1 (by omega) (by omega) (by omega) _ _ _ _ x5 x6 x7 (by omega) (by omega) (by omega)
    · have c25 : (0) ≤ w := c25
      refine av_wp_sqF ck_101 2 (pc' := 17) (lv' := [some (.inr (.inr (.inl (some (0))))), some (.inl n), some (.inl k), some (.inl w), some (.inr (.inr (.inl (some (t1))))), none]) (st' := [.inl (6), .inl w]) (h' := h) rfl ?_
      refine wq_k2 (p' := 20) (ck_101 _ _ rfl) rfl ⟨by omega, by omega⟩ ⟨by omega, by omega⟩ (fun c38 => ?_) (fun c39 => ?_)
      · have c38 : w ≤ (6) := c38
        refine av_wp_sqF ck_101 7 (pc' := 42) (lv' := [some (.inr (.inr (.inl (some (0))))), some (.inl n), some (.inl k), some (.inl w), some (.inr (.inr (.inl (some (t1))))), some (.inl (1))]) (st' := [.inl k, .inr (.inr (.inl (some (t1))))]) (h' := h) rfl ?_
        refine wq_cv (p' := 45) (av_qc (.invokevirtual 136) 28 1 0 1) 2 cd_28 [.inl k] (t1) 1 [some (.inr (.inr (.inl (some (t1))))), some (.inl k)] (ck_101 _ _ rfl) rfl rfl pp_28 rfl rfl rfl (congrArg Prod.fst (co_kt (cs_co x5))) rfl rfl rfl rfl ?_
        refine ct_28 (cs_co x5) (k) (by omega) (fun v40 p41 => ?_)
        show av_wp _ cd_101 45 [some (.inr (.inr (.inl (some (0))))), some (.inl n), some (.inl k), some (.inl w), some (.inr (.inr (.inl (some (t1))))), some (.inl (1))] [.inl v40] h _
        refine wq_k1 (p' := 48) (ck_101 _ _ rfl) rfl ⟨by omega, by omega⟩ (fun c42 => ?_) (fun c43 => ?_)
        · have c42 : v40 = (0) := c42
          refine av_wp_sqF ck_101 1 (pc' := 55) (lv' := [some (.inr (.inr (.inl (some (0))))), some (.inl n), some (.inl k), some (.inl w), some (.inr (.inr (.inl (some (t1))))), some (.inl (1))]) (st' := [.inl (-2)]) (h' := h) rfl ?_
          refine av_wp_ret (v := some (.inl (-2))) (ck_101 _ _ rfl) rfl rfl ?_
          exact hq0 (by omega)
        · have c43 : v40 ≠ (0) := c43
          refine av_wp_sqF ck_101 5 (pc' := 60) (lv' := [some (.inr (.inr (.inl (some (0))))), some (.inl n), some (.inl k), some (.inl w), some (.inr (.inr (.inl (some (t1))))), some (.inl (1))]) (st' := [.inl w, .inl k, .inr (.inr (.inl (some (t1))))]) (h' := h) rfl ?_
          refine wq_cv (p' := 63) (av_qc (.invokevirtual 139) 29 2 0 1) 3 cd_29 [.inl w, .inl k] (t1) 1 [some (.inr (.inr (.inl (some (t1))))), some (.inl k), some (.inl w)] (ck_101 _ _ rfl) rfl rfl pp_29 rfl rfl rfl (congrArg Prod.fst (co_kt (cs_co x5))) rfl rfl rfl rfl ?_
          refine cx_29 (cs_co x5) (k) (by omega) (w) (by omega) ?_
          show av_wp _ cd_101 63 [some (.inr (.inr (.inl (some (0))))), some (.inl n), some (.inl k), some (.inl w), some (.inr (.inr (.inl (some (t1))))), some (.inl (1))] [.inl (cel (hA h c2) s3 k w)] h _
          refine av_wp_ret (v := some (.inl (cel (hA h c2) s3 k w))) (ck_101 _ _ rfl) rfl rfl ?_
          exact hq1 (by omega) (by omega) (by omega) _ _ _ _ x5 x6 x7 (by omega) (by omega) (by omega)
      · have c39 : (6) < w := c39
        refine av_wp_sqF ck_101 1 (pc' := 21) (lv' := [some (.inr (.inr (.inl (some (0))))), some (.inl n), some (.inl k), some (.inl w), some (.inr (.inr (.inl (some (t1))))), none]) (st' := [.inl w]) (h' := h) rfl ?_
        refine wq_cs (p' := 24) (av_qc (.invokestatic 133) 102 1 2 7) 1 cd_102 [.inl w] [.inl w] [some (.inl w)] (ck_101 _ _ rfl) rfl rfl pp_102 (fun _ => rfl) rfl rfl ?_
        refine ct_102 (w) (by omega) (fun v44 p45 => ?_)
        show av_wp _ cd_101 24 [some (.inr (.inr (.inl (some (0))))), some (.inl n), some (.inl k), some (.inl w), some (.inr (.inr (.inl (some (t1))))), none] [.inl v44] h _
        refine wq_k1 (p' := 27) (ck_101 _ _ rfl) rfl ⟨by omega, by omega⟩ (fun c46 => ?_) (fun c47 => ?_)
        · have c46 : v44 = (0) := c46
          refine av_wp_sqF ck_101 6 (pc' := 42) (lv' := [some (.inr (.inr (.inl (some (0))))), some (.inl n), some (.inl k), some (.inl w), some (.inr (.inr (.inl (some (t1))))), some (.inl (0))]) (st' := [.inl k, .inr (.inr (.inl (some (t1))))]) (h' := h) rfl ?_
          refine wq_cv (p' := 45) (av_qc (.invokevirtual 136) 28 1 0 1) 2 cd_28 [.inl k] (t1) 1 [some (.inr (.inr (.inl (some (t1))))), some (.inl k)] (ck_101 _ _ rfl) rfl rfl pp_28 rfl rfl rfl (congrArg Prod.fst (co_kt (cs_co x5))) rfl rfl rfl rfl ?_
          refine ct_28 (cs_co x5) (k) (by omega) (fun v48 p49 => ?_)
          show av_wp _ cd_101 45 [some (.inr (.inr (.inl (some (0))))), some (.inl n), some (.inl k), some (.inl w), some (.inr (.inr (.inl (some (t1))))), some (.inl (0))] [.inl v48] h _
          refine wq_k1 (p' := 48) (ck_101 _ _ rfl) rfl ⟨by omega, by omega⟩ (fun c50 => ?_) (fun c51 => ?_)
          · have c50 : v48 = (0) := c50
            refine av_wp_sqF ck_101 1 (pc' := 55) (lv' := [some (.inr (.inr (.inl (some (0))))), some (.inl n), some (.inl k), some (.inl w), some (.inr (.inr (.inl (some (t1))))), some (.inl (0))]) (st' := [.inl (-2)]) (h' := h) rfl ?_
            refine av_wp_ret (v := some (.inl (-2))) (ck_101 _ _ rfl) rfl rfl ?_
            exact hq0 (by omega)
          · have c51 : v48 ≠ (0) := c51
            refine av_wp_sqF ck_101 3 (pc' := 55) (lv' := [some (.inr (.inr (.inl (some (0))))), some (.inl n), some (.inl k), some (.inl w), some (.inr (.inr (.inl (some (t1))))), some (.inl (0))]) (st' := [.inl (-2)]) (h' := h) rfl ?_
            refine av_wp_ret (v := some (.inl (-2))) (ck_101 _ _ rfl) rfl rfl ?_
            exact hq0 (by omega)
        · have c47 : v44 ≠ (0) := c47
          refine av_wp_sqF ck_101 7 (pc' := 42) (lv' := [some (.inr (.inr (.inl (some (0))))), some (.inl n), some (.inl k), some (.inl w), some (.inr (.inr (.inl (some (t1))))), some (.inl (1))]) (st' := [.inl k, .inr (.inr (.inl (some (t1))))]) (h' := h) rfl ?_
          refine wq_cv (p' := 45) (av_qc (.invokevirtual 136) 28 1 0 1) 2 cd_28 [.inl k] (t1) 1 [some (.inr (.inr (.inl (some (t1))))), some (.inl k)] (ck_101 _ _ rfl) rfl rfl pp_28 rfl rfl rfl (congrArg Prod.fst (co_kt (cs_co x5))) rfl rfl rfl rfl ?_
          refine ct_28 (cs_co x5) (k) (by omega) (fun v52 p53 => ?_)
          show av_wp _ cd_101 45 [some (.inr (.inr (.inl (some (0))))), some (.inl n), some (.inl k), some (.inl w), some (.inr (.inr (.inl (some (t1))))), some (.inl (1))] [.inl v52] h _
          refine wq_k1 (p' := 48) (ck_101 _ _ rfl) rfl ⟨by omega, by omega⟩ (fun c54 => ?_) (fun c55 => ?_)
          · have c54 : v52 = (0) := c54
            refine av_wp_sqF ck_101 1 (pc' := 55) (lv' := [some (.inr (.inr (.inl (some (0))))), some (.inl n), some (.inl k), some (.inl w), some (.inr (.inr (.inl (some (t1))))), some (.inl (1))]) (st' := [.inl (-2)]) (h' := h) rfl ?_
            refine av_wp_ret (v := some (.inl (-2))) (ck_101 _ _ rfl) rfl rfl ?_
            exact hq0 (by omega)
          · have c55 : v52 ≠ (0) := c55
            refine av_wp_sqF ck_101 5 (pc' := 60) (lv' := [some (.inr (.inr (.inl (some (0))))), some (.inl n), some (.inl k), some (.inl w), some (.inr (.inr (.inl (some (t1))))), some (.inl (1))]) (st' := [.inl w, .inl k, .inr (.inr (.inl (some (t1))))]) (h' := h) rfl ?_
            refine wq_cv (p' := 63) (av_qc (.invokevirtual 139) 29 2 0 1) 3 cd_29 [.inl w, .inl k] (t1) 1 [some (.inr (.inr (.inl (some (t1))))), some (.inl k), some (.inl w)] (ck_101 _ _ rfl) rfl rfl pp_29 rfl rfl rfl (congrArg Prod.fst (co_kt (cs_co x5))) rfl rfl rfl rfl ?_
            refine cx_29 (cs_co x5) (k) (by omega) (w) (by omega) ?_
            show av_wp _ cd_101 63 [some (.inr (.inr (.inl (some (0))))), some (.inl n), some (.inl k), some (.inl w), some (.inr (.inr (.inl (some (t1))))), some (.inl (1))] [.inl (cel (hA h c2) s3 k w)] h _
            refine av_wp_ret (v := some (.inl (cel (hA h c2) s3 k w))) (ck_101 _ _ rfl) rfl rfl ?_
            exact hq1 (by omega) (by omega) (by omega) _ _ _ _ x5 x6 x7 (by omega) (by omega) (by omega)

set_option maxRecDepth 100000 in
set_option maxHeartbeats 4000000 in
theorem cx_70 {h : av_H} (I : IC h) (k : Int) (qk : -2147483648 ≤ k ∧ k ≤ 2147483647) {Q : Option av_V → av_H → Prop} (hq : ∀ v : Int, ((v = 1 ∧ 0 ≤ k ∧ k < hF h 3 4) ∨ (v = 0 ∧ (k < 0 ∨ hF h 3 4 ≤ k))) → Q (some (.inl v)) h) : av_wp none cd_70 0 [some (.inr (.inr (.inl (some (3))))), some (.inl k)] [] h Q := by
  have F := Fr1_rf h
  refine av_wp_sqF ck_70 1 (pc' := 1) (lv' := [some (.inr (.inr (.inl (some (3))))), some (.inl k)]) (st' := [.inl k]) (h' := h) rfl ?_
  refine wq_k1 (p' := 4) (ck_70 _ _ rfl) rfl ⟨by omega, by omega⟩ (fun c1 => ?_) (fun c2 => ?_)
  · have c1 : k < (0) := c1
    refine av_wp_sqF ck_70 1 (pc' := 17) (lv' := [some (.inr (.inr (.inl (some (3))))), some (.inl k)]) (st' := [.inl (0)]) (h' := h) rfl ?_
    refine av_wp_ret (v := some (.inl (0))) (ck_70 _ _ rfl) rfl rfl ?_
    exact hq _ (by omega)
  · have c2 : (0) ≤ k := c2
    refine av_wp_sqF ck_70 2 (pc' := 6) (lv' := [some (.inr (.inr (.inl (some (3))))), some (.inl k)]) (st' := [.inr (.inr (.inl (some (3)))), .inl k]) (h' := h) rfl ?_
    obtain ⟨v3, e4⟩ : ∃ v, hF h 3 4 = v := ⟨_, rfl⟩
    have g5 := ic_lc I
    rw [e4] at g5
    refine wq_gi (p' := 9) (ck_70 _ _ rfl) rfl (congrArg Prod.fst (ly_k I.1 3 rfl)) rfl (e4) ?_
    refine wq_k2 (p' := 12) (ck_70 _ _ rfl) rfl ⟨by omega, by omega⟩ ⟨by omega, by omega⟩ (fun c6 => ?_) (fun c7 => ?_)
    · have c6 : v3 ≤ k := c6
      refine av_wp_sqF ck_70 1 (pc' := 17) (lv' := [some (.inr (.inr (.inl (some (3))))), some (.inl k)]) (st' := [.inl (0)]) (h' := h) rfl ?_
      refine av_wp_ret (v := some (.inl (0))) (ck_70 _ _ rfl) rfl rfl ?_
      exact hq _ (by omega)
    · have c7 : k < v3 := c7
      refine av_wp_sqF ck_70 2 (pc' := 17) (lv' := [some (.inr (.inr (.inl (some (3))))), some (.inl k)]) (st' := [.inl (1)]) (h' := h) rfl ?_
      refine av_wp_ret (v := some (.inl (1))) (ck_70 _ _ rfl) rfl rfl ?_
      exact hq _ (by omega)

set_option maxRecDepth 100000 in
set_option maxHeartbeats 4000000 in
theorem cx_105 {h : av_H} (I : IC h) (l : Int) (ql : -2147483648 ≤ l ∧ l ≤ 2147483647) (w : Int) (qw : -2147483648 ≤ w ∧ w ≤ 2147483647) {Q : Option av_V → av_H → Prop} (hq0 : (l < 0 ∨ hF h 3 4 ≤ l ∨ w < 0 ∨ 13 < w) → Q (some (.inl (-2))) h) (hq1 : ∀ v : Int, 0 ≤ l → l < hF h 3 4 → 0 ≤ w → w ≤ 13 → v = hA h (6 + Int.toNat l) (Int.toNat w) → Q (some (.inl v)) h) : av_wp none cd_105 0 [some (.inr (.inr (.inl (some (0))))), some (.inl l), some (.inl w)] [] h Q := by
  have F := Fr1_rf h
  refine av_wp_sqF ck_105 1 (pc' := 1) (lv' := [some (.inr (.inr (.inl (some (0))))), some (.inl l), some (.inl w)]) (st' := [.inr (.inr (.inl (some (0))))]) (h' := h) rfl ?_
  refine wq_gr (p' := 4) (ck_105 _ _ rfl) rfl (congrArg Prod.fst (ly_k I.1 0 rfl)) rfl (ly_g I.1 0 1 3 rfl) ?_
  refine av_wp_sqF ck_105 1 (pc' := 5) (lv' := [some (.inr (.inr (.inl (some (0))))), some (.inl l), some (.inl w)]) (st' := [.inl l, .inr (.inr (.inl (some (3))))]) (h' := h) rfl ?_
  refine wq_cv (p' := 8) (av_qc (.invokevirtual 153) 70 1 0 5) 2 cd_70 [.inl l] (3) 5 [some (.inr (.inr (.inl (some (3))))), some (.inl l)] (ck_105 _ _ rfl) rfl rfl pp_70 rfl rfl rfl (congrArg Prod.fst (ly_k I.1 3 rfl)) rfl rfl rfl rfl ?_
  refine cx_70 I (l) (by omega) (fun v1 p2 => ?_)
  have g3 := ic_lc I
  show av_wp _ cd_105 8 [some (.inr (.inr (.inl (some (0))))), some (.inl l), some (.inl w)] [.inl v1] h _
  refine wq_k1 (p' := 11) (ck_105 _ _ rfl) rfl ⟨by omega, by omega⟩ (fun c4 => ?_) (fun c5 => ?_)
  · have c4 : v1 = (0) := c4
    refine av_wp_sqF ck_105 1 (pc' := 23) (lv' := [some (.inr (.inr (.inl (some (0))))), some (.inl l), some (.inl w)]) (st' := [.inl (-2)]) (h' := h) rfl ?_
    refine av_wp_ret (v := some (.inl (-2))) (ck_105 _ _ rfl) rfl rfl ?_
    exact hq0 (by omega)
  · have c5 : v1 ≠ (0) := c5
    refine av_wp_sqF ck_105 1 (pc' := 12) (lv' := [some (.inr (.inr (.inl (some (0))))), some (.inl l), some (.inl w)]) (st' := [.inl w]) (h' := h) rfl ?_
    refine wq_k1 (p' := 15) (ck_105 _ _ rfl) rfl ⟨by omega, by omega⟩ (fun c6 => ?_) (fun c7 => ?_)
    · have c6 : w < (0) := c6
      refine av_wp_sqF ck_105 1 (pc' := 23) (lv' := [some (.inr (.inr (.inl (some (0))))), some (.inl l), some (.inl w)]) (st' := [.inl (-2)]) (h' := h) rfl ?_
      refine av_wp_ret (v := some (.inl (-2))) (ck_105 _ _ rfl) rfl rfl ?_
      exact hq0 (by omega)
    · have c7 : (0) ≤ w := c7
      refine av_wp_sqF ck_105 2 (pc' := 18) (lv' := [some (.inr (.inr (.inl (some (0))))), some (.inl l), some (.inl w)]) (st' := [.inl (14), .inl w]) (h' := h) rfl ?_
      refine wq_k2 (p' := 21) (ck_105 _ _ rfl) rfl ⟨by omega, by omega⟩ ⟨by omega, by omega⟩ (fun c8 => ?_) (fun c9 => ?_)
      · have c8 : w < (14) := c8
        refine av_wp_sqF ck_105 1 (pc' := 25) (lv' := [some (.inr (.inr (.inl (some (0))))), some (.inl l), some (.inl w)]) (st' := [.inr (.inr (.inl (some (0))))]) (h' := h) rfl ?_
        refine wq_gr (p' := 28) (ck_105 _ _ rfl) rfl (congrArg Prod.fst (ly_k I.1 0 rfl)) rfl (ly_g I.1 0 1 3 rfl) ?_
        refine wq_gr (p' := 31) (ck_105 _ _ rfl) rfl (congrArg Prod.fst (ly_k I.1 3 rfl)) rfl (ly_g I.1 3 1 5 rfl) ?_
        refine av_wp_sqF ck_105 1 (pc' := 32) (lv' := [some (.inr (.inr (.inl (some (0))))), some (.inl l), some (.inl w)]) (st' := [.inl l, .inr (.inr (.inl (some (5))))]) (h' := h) rfl ?_
        have u10 : (Int.toNat (l)) < 8 := by omega
        refine wq_ar (p' := 33) (n := 8) (k := 32) (ck_105 _ _ rfl) rfl (ly_k I.1 5 rfl) (by omega) (by omega) (I.1.2.2.1 _ u10) ?_
        refine av_wp_sqF ck_105 1 (pc' := 34) (lv' := [some (.inr (.inr (.inl (some (0))))), some (.inl l), some (.inl w)]) (st' := [.inl w, .inr (.inr (.inl (some (6 + (Int.toNat (l))))))]) (h' := h) rfl ?_
        obtain ⟨v11, e12⟩ : ∃ v, hA h (6 + (Int.toNat (l))) (Int.toNat (w)) = v := ⟨_, rfl⟩
        have g13 := I.2.1 _ (rwc_l u10) (Int.toNat (w))
        rw [e12] at g13
        refine wq_al (p' := 35) (n := 14) (ck_105 _ _ rfl) rfl (ly_l I.1 u10) (by omega) (e12) ?_
        refine av_wp_ret (v := some (.inl v11)) (ck_105 _ _ rfl) rfl rfl ?_
        exact hq1 _ (by omega) (by omega) (by omega) (by omega) e12.symm
      · have c9 : (14) ≤ w := c9
        refine av_wp_sqF ck_105 1 (pc' := 23) (lv' := [some (.inr (.inr (.inl (some (0))))), some (.inl l), some (.inl w)]) (st' := [.inl (-2)]) (h' := h) rfl ?_
        refine av_wp_ret (v := some (.inl (-2))) (ck_105 _ _ rfl) rfl rfl ?_
        exact hq0 (by omega)

set_option maxRecDepth 100000 in
set_option maxHeartbeats 4000000 in
theorem cx_76 {h : av_H} (I : IC h) {A : Nat → Nat → Int} (SS : SL h A 3 0)  {Q : Option av_V → av_H → Prop} (hq : Q (some (.inl (sumv (A 81) (Int.toNat (hF h 3 3))))) h) : av_wp none cd_76 0 [some (.inr (.inr (.inl (some (3))))), none, none, none] [] h Q := by
  have F := Fr1_rf h
  have cc0 := ic_cc I
  refine av_wp_sqF ck_76 4 (pc' := 4) (lv' := [some (.inr (.inr (.inl (some (3))))), some (.inl (0)), some (.inl (0)), none]) (st' := []) (h' := h) rfl ?_
  have L5 : ∀ (m4 : Nat) (k1 : Int) (k2 : Int) (a3 : Option av_V), av_lg a3 = false → k1 = sumv (A 81) (Int.toNat k2) → k2 ≤ hF h 3 3 → (0 ≤ k2 ∧ k2 ≤ 16) → (16 - k2).toNat = m4 → av_wp none cd_76 4 [some (.inr (.inr (.inl (some (3))))), some (.inl k1), some (.inl k2), a3] [] h Q := by
    intro m4
    induction m4 using Nat.strongRecOn with
    | _ m4 I6 =>
      intro k1 k2 a3 g8 g9 g10 g11 e7
      have la3 := g8
      refine av_wp_sqF ck_76 2 (pc' := 6) (lv' := [some (.inr (.inr (.inl (some (3))))), some (.inl k1), some (.inl k2), a3]) (st' := [.inr (.inr (.inl (some (3)))), .inl k2]) (h' := h) rfl ?_
      obtain ⟨v12, e13⟩ : ∃ v, hF h 3 3 = v := ⟨_, rfl⟩
      have g14 := ic_cc I
      rw [e13] at g14
      refine wq_gi (p' := 9) (ck_76 _ _ rfl) rfl (congrArg Prod.fst (ly_k I.1 3 rfl)) rfl (e13) ?_
      refine wq_k2 (p' := 12) (ck_76 _ _ rfl) rfl ⟨by omega, by omega⟩ ⟨by omega, by omega⟩ (fun c15 => ?_) (fun c16 => ?_)
      · have c15 : v12 ≤ k2 := c15
        refine av_wp_sqF ck_76 1 (pc' := 40) (lv' := [some (.inr (.inr (.inl (some (3))))), some (.inl k1), some (.inl k2), a3]) (st' := [.inl k1]) (h' := h) rfl ?_
        refine av_wp_ret (v := some (.inl k1)) (ck_76 _ _ rfl) rfl rfl ?_
        rw [g9, show k2 = hF h 3 3 by omega]
        exact hq
      · have c16 : k2 < v12 := c16
        refine av_wp_sqF ck_76 2 (pc' := 14) (lv' := [some (.inr (.inr (.inl (some (3))))), some (.inl k1), some (.inl k2), a3]) (st' := [.inl k2, .inr (.inr (.inl (some (3))))]) (h' := h) rfl ?_
        refine wq_cv (p' := 17) (av_qc (.invokevirtual 53) 69 1 0 5) 2 cd_69 [.inl k2] (3) 5 [some (.inr (.inr (.inl (some (3))))), some (.inl k2)] (ck_76 _ _ rfl) rfl rfl pp_69 rfl rfl rfl (congrArg Prod.fst (ly_k I.1 3 rfl)) rfl rfl rfl rfl ?_
        refine cx_69 I SS (k2) (by omega) (fun z24 => ?_) (fun z24 z25 z26 t17 c18 s19 f20 x21 x22 x23 => ?_)
        · show av_wp _ cd_76 17 [some (.inr (.inr (.inl (some (3))))), some (.inl k1), some (.inl k2), a3] [.inr (.inr (.inl none))] h _
          refine av_wp_sqF ck_76 6 (pc' := 31) (lv' := [some (.inr (.inr (.inl (some (3))))), some (.inl k1), some (.inl k2), some (.inr (.inr (.inl none)))]) (st' := [.inl (0), .inl k1]) (h' := h) rfl ?_
          exfalso; omega
        · have g27 := co_s12 (cs_co x21)
          show av_wp _ cd_76 17 [some (.inr (.inr (.inl (some (3))))), some (.inl k1), some (.inl k2), a3] [.inr (.inr (.inl (some (t17))))] h _
          refine av_wp_sqF ck_76 5 (pc' := 28) (lv' := [some (.inr (.inr (.inl (some (3))))), some (.inl k1), some (.inl k2), some (.inr (.inr (.inl (some (t17)))))]) (st' := [.inr (.inr (.inl (some (t17)))), .inl k1]) (h' := h) rfl ?_
          refine wq_gi (p' := 31) (ck_76 _ _ rfl) rfl (congrArg Prod.fst (co_kt (cs_co x21))) rfl (co_s (cs_co x21)) ?_
          have u28 := sumv_s (a := A 81) (k := k2) (by omega) g9 x22
          refine av_wp_sqF ck_76 4 (pc' := 4) (lv' := [some (.inr (.inr (.inl (some (3))))), some (.inl (k1 + (s19 : Int))), some (.inl (k2 + (1))), some (.inr (.inr (.inl (some (t17)))))]) (st' := []) (h' := h) rfl ?_
          exact I6 _ (by omega) ((k1 + (s19 : Int))) ((k2 + (1))) (some (.inr (.inr (.inl (some (t17)))))) rfl u28 (by omega) (by omega) rfl
  exact L5 _ ((0)) ((0)) (none) rfl rfl (by omega) (by omega) rfl

set_option maxRecDepth 100000 in
set_option maxHeartbeats 4000000 in
theorem cx_125 {h : av_H} (I : IC h) {A : Nat → Nat → Int} (SS : SL h A 3 0) (w : Int) (qw : -2147483648 ≤ w ∧ w ≤ 2147483647) {Q : Option av_V → av_H → Prop} (hq : ∀ v : Int, ((w = 0 ∧ v = hF h 3 3) ∨ (w = 1 ∧ v = hF h 3 4) ∨ (w = 2 ∧ v = hF h 3 5) ∨ (w = 3 ∧ v = hF h 1 1) ∨ (w = 4 ∧ v = sumv (A 81) (Int.toNat (hF h 3 3))) ∨ (w = 5 ∧ v = hF h 0 7) ∨ ((w < 0 ∨ 5 < w) ∧ v = -1)) → Q (some (.inl v)) h) : av_wp none cd_125 0 [some (.inr (.inr (.inl (some (0))))), some (.inl w)] [] h Q := by
  have F := Fr1_rf h
  refine av_wp_sqF ck_125 1 (pc' := 1) (lv' := [some (.inr (.inr (.inl (some (0))))), some (.inl w)]) (st' := [.inl w]) (h' := h) rfl ?_
  rcases (show w = 0 ∨ w = 1 ∨ w = 2 ∨ w = 3 ∨ w = 4 ∨ w = 5 ∨ (w < 0 ∨ 5 < w) by omega) with e1 | e1 | e1 | e1 | e1 | e1 | e1
  · refine wq_tc (t := 40) (ck_125 _ _ rfl) e1 rfl ?_
    refine av_wp_sqF ck_125 1 (pc' := 41) (lv' := [some (.inr (.inr (.inl (some (0))))), some (.inl w)]) (st' := [.inr (.inr (.inl (some (0))))]) (h' := h) rfl ?_
    refine wq_gr (p' := 44) (ck_125 _ _ rfl) rfl (congrArg Prod.fst (ly_k I.1 0 rfl)) rfl (ly_g I.1 0 1 3 rfl) ?_
    obtain ⟨v2, e3⟩ : ∃ v, hF h 3 3 = v := ⟨_, rfl⟩
    have g4 := ic_cc I
    rw [e3] at g4
    refine wq_gi (p' := 47) (ck_125 _ _ rfl) rfl (congrArg Prod.fst (ly_k I.1 3 rfl)) rfl (e3) ?_
    refine av_wp_ret (v := some (.inl v2)) (ck_125 _ _ rfl) rfl rfl ?_
    exact hq _ (by omega)
  · refine wq_tc (t := 48) (ck_125 _ _ rfl) e1 rfl ?_
    refine av_wp_sqF ck_125 1 (pc' := 49) (lv' := [some (.inr (.inr (.inl (some (0))))), some (.inl w)]) (st' := [.inr (.inr (.inl (some (0))))]) (h' := h) rfl ?_
    refine wq_gr (p' := 52) (ck_125 _ _ rfl) rfl (congrArg Prod.fst (ly_k I.1 0 rfl)) rfl (ly_g I.1 0 1 3 rfl) ?_
    obtain ⟨v5, e6⟩ : ∃ v, hF h 3 4 = v := ⟨_, rfl⟩
    have g7 := ic_lc I
    rw [e6] at g7
    refine wq_gi (p' := 55) (ck_125 _ _ rfl) rfl (congrArg Prod.fst (ly_k I.1 3 rfl)) rfl (e6) ?_
    refine av_wp_ret (v := some (.inl v5)) (ck_125 _ _ rfl) rfl rfl ?_
    exact hq _ (by omega)
  · refine wq_tc (t := 56) (ck_125 _ _ rfl) e1 rfl ?_
    refine av_wp_sqF ck_125 1 (pc' := 57) (lv' := [some (.inr (.inr (.inl (some (0))))), some (.inl w)]) (st' := [.inr (.inr (.inl (some (0))))]) (h' := h) rfl ?_
    refine wq_gr (p' := 60) (ck_125 _ _ rfl) rfl (congrArg Prod.fst (ly_k I.1 0 rfl)) rfl (ly_g I.1 0 1 3 rfl) ?_
    obtain ⟨v8, e9⟩ : ∃ v, hF h 3 5 = v := ⟨_, rfl⟩
    have g10 := ic_kc I
    rw [e9] at g10
    refine wq_gi (p' := 63) (ck_125 _ _ rfl) rfl (congrArg Prod.fst (ly_k I.1 3 rfl)) rfl (e9) ?_
    refine av_wp_ret (v := some (.inl v8)) (ck_125 _ _ rfl) rfl rfl ?_
    exact hq _ (by omega)
  · refine wq_tc (t := 64) (ck_125 _ _ rfl) e1 rfl ?_
    refine av_wp_sqF ck_125 1 (pc' := 65) (lv' := [some (.inr (.inr (.inl (some (0))))), some (.inl w)]) (st' := [.inr (.inr (.inl (some (0))))]) (h' := h) rfl ?_
    refine wq_gr (p' := 68) (ck_125 _ _ rfl) rfl (congrArg Prod.fst (ly_k I.1 0 rfl)) rfl (ly_g I.1 0 0 1 rfl) ?_
    obtain ⟨v11, e12⟩ : ∃ v, hF h 1 1 = v := ⟨_, rfl⟩
    refine wq_gi (p' := 71) (ck_125 _ _ rfl) rfl (congrArg Prod.fst (ly_k I.1 1 rfl)) rfl (e12) ?_
    refine av_wp_ret (v := some (.inl v11)) (ck_125 _ _ rfl) rfl rfl ?_
    exact hq _ (by omega)
  · refine wq_tc (t := 72) (ck_125 _ _ rfl) e1 rfl ?_
    refine av_wp_sqF ck_125 1 (pc' := 73) (lv' := [some (.inr (.inr (.inl (some (0))))), some (.inl w)]) (st' := [.inr (.inr (.inl (some (0))))]) (h' := h) rfl ?_
    refine wq_gr (p' := 76) (ck_125 _ _ rfl) rfl (congrArg Prod.fst (ly_k I.1 0 rfl)) rfl (ly_g I.1 0 1 3 rfl) ?_
    refine wq_cv (p' := 79) (av_qc (.invokevirtual 269) 76 0 0 5) 4 cd_76 [] (3) 5 [some (.inr (.inr (.inl (some (3))))), none, none, none] (ck_125 _ _ rfl) rfl rfl pp_76 rfl rfl rfl (congrArg Prod.fst (ly_k I.1 3 rfl)) rfl rfl rfl rfl ?_
    refine cx_76 I SS ?_
    show av_wp _ cd_125 79 [some (.inr (.inr (.inl (some (0))))), some (.inl w)] [.inl (sumv (A 81) (Int.toNat (hF h 3 3)))] h _
    refine av_wp_ret (v := some (.inl (sumv (A 81) (Int.toNat (hF h 3 3))))) (ck_125 _ _ rfl) rfl rfl ?_
    exact hq _ (by omega)
  · refine wq_tc (t := 80) (ck_125 _ _ rfl) e1 rfl ?_
    refine av_wp_sqF ck_125 1 (pc' := 81) (lv' := [some (.inr (.inr (.inl (some (0))))), some (.inl w)]) (st' := [.inr (.inr (.inl (some (0))))]) (h' := h) rfl ?_
    obtain ⟨v13, e14⟩ : ∃ v, hF h 0 7 = v := ⟨_, rfl⟩
    refine wq_gi (p' := 84) (ck_125 _ _ rfl) rfl (congrArg Prod.fst (ly_k I.1 0 rfl)) rfl (e14) ?_
    refine av_wp_ret (v := some (.inl v13)) (ck_125 _ _ rfl) rfl rfl ?_
    exact hq _ (by omega)
  · refine wq_td (t := 85) (ck_125 _ _ rfl) ⟨by omega, by omega⟩ e1 rfl ?_
    refine av_wp_sqF ck_125 1 (pc' := 86) (lv' := [some (.inr (.inr (.inl (some (0))))), some (.inl w)]) (st' := [.inl (-1)]) (h' := h) rfl ?_
    refine av_wp_ret (v := some (.inl (-1))) (ck_125 _ _ rfl) rfl rfl ?_
    exact hq _ (by omega)

set_option maxRecDepth 100000 in
set_option maxHeartbeats 4000000 in
theorem cx_158 {h : av_H} (I : IM h)   {Q : Option av_V → av_H → Prop} (hq : Q (some (.inl (hF h 77 18))) h) : av_wp none cd_158 0 [some (.inr (.inr (.inl (some (77)))))] [] h Q := by
  refine av_wp_seq 1 (pc' := 1) (lv' := [some (.inr (.inr (.inl (some (77)))))]) (st' := [.inr (.inr (.inl (some (77))))]) (h' := h) rfl ?_
  obtain ⟨v1, e2⟩ : ∃ v, hF h 77 18 = v := ⟨_, rfl⟩
  refine wq_gi (p' := 4) rfl rfl (congrArg Prod.fst (ly_k I.1.1 77 rfl)) rfl (e2) ?_
  refine av_wp_ret (v := some (.inl v1)) rfl rfl rfl ?_
  rw [← e2]
  exact hq

set_option maxRecDepth 100000 in
set_option maxHeartbeats 4000000 in
theorem cx_149 {h : av_H} (I : IM h)  (x : Int) (qx : -2147483648 ≤ x ∧ x ≤ 2147483647) {Q : Option av_V → av_H → Prop} (hq : ∀ v : Int, ((v = 1 ∧ 0 ≤ x ∧ x < hA h 78 0) ∨ (v = 0 ∧ (x < 0 ∨ hA h 78 0 ≤ x))) → Q (some (.inl v)) h) : av_wp none cd_149 0 [some (.inr (.inr (.inl (some (77))))), some (.inl x)] [] h Q := by
  refine av_wp_sqF ck_149 1 (pc' := 1) (lv' := [some (.inr (.inr (.inl (some (77))))), some (.inl x)]) (st' := [.inl x]) (h' := h) rfl ?_
  refine wq_k1 (p' := 4) (ck_149 _ _ rfl) rfl ⟨by omega, by omega⟩ (fun c1 => ?_) (fun c2 => ?_)
  · have c1 : x < (0) := c1
    refine av_wp_sqF ck_149 1 (pc' := 19) (lv' := [some (.inr (.inr (.inl (some (77))))), some (.inl x)]) (st' := [.inl (0)]) (h' := h) rfl ?_
    refine av_wp_ret (v := some (.inl (0))) (ck_149 _ _ rfl) rfl rfl ?_
    exact hq _ (by omega)
  · have c2 : (0) ≤ x := c2
    refine av_wp_sqF ck_149 2 (pc' := 6) (lv' := [some (.inr (.inr (.inl (some (77))))), some (.inl x)]) (st' := [.inr (.inr (.inl (some (77)))), .inl x]) (h' := h) rfl ?_
    refine wq_gr (p' := 9) (ck_149 _ _ rfl) rfl (congrArg Prod.fst (ly_k I.1.1 77 rfl)) rfl (ly_g I.1.1 77 0 78 rfl) ?_
    refine av_wp_sqF ck_149 1 (pc' := 10) (lv' := [some (.inr (.inr (.inl (some (77))))), some (.inl x)]) (st' := [.inl (0), .inr (.inr (.inl (some (78)))), .inl x]) (h' := h) rfl ?_
    obtain ⟨v3, e4⟩ : ∃ v, hA h 78 (Int.toNat ((0))) = v := ⟨_, rfl⟩
    have g5 : 0 ≤ hA h 78 0 ∧ hA h 78 0 ≤ 16 := I.1.2.1.2.1
    have e4 : hA h 78 0 = v3 := e4
    rw [e4] at g5
    refine wq_al (p' := 11) (n := 5) (ck_149 _ _ rfl) rfl (ly_k I.1.1 78 rfl) (by omega) (e4) ?_
    refine wq_k2 (p' := 14) (ck_149 _ _ rfl) rfl ⟨by omega, by omega⟩ ⟨by omega, by omega⟩ (fun c6 => ?_) (fun c7 => ?_)
    · have c6 : v3 ≤ x := c6
      refine av_wp_sqF ck_149 1 (pc' := 19) (lv' := [some (.inr (.inr (.inl (some (77))))), some (.inl x)]) (st' := [.inl (0)]) (h' := h) rfl ?_
      refine av_wp_ret (v := some (.inl (0))) (ck_149 _ _ rfl) rfl rfl ?_
      exact hq _ (by omega)
    · have c7 : x < v3 := c7
      refine av_wp_sqF ck_149 2 (pc' := 19) (lv' := [some (.inr (.inr (.inl (some (77))))), some (.inl x)]) (st' := [.inl (1)]) (h' := h) rfl ?_
      refine av_wp_ret (v := some (.inl (1))) (ck_149 _ _ rfl) rfl rfl ?_
      exact hq _ (by omega)

set_option maxRecDepth 100000 in
set_option maxHeartbeats 4000000 in
theorem cx_150 {h : av_H} (I : IM h)  (x : Int) (qx : -2147483648 ≤ x ∧ x ≤ 2147483647) {Q : Option av_V → av_H → Prop} (hq : ∀ v : Int, ((v = 1 ∧ 0 ≤ x ∧ x < hA h 79 0) ∨ (v = 0 ∧ (x < 0 ∨ hA h 79 0 ≤ x))) → Q (some (.inl v)) h) : av_wp none cd_150 0 [some (.inr (.inr (.inl (some (77))))), some (.inl x)] [] h Q := by
  refine av_wp_sqF ck_150 1 (pc' := 1) (lv' := [some (.inr (.inr (.inl (some (77))))), some (.inl x)]) (st' := [.inl x]) (h' := h) rfl ?_
  refine wq_k1 (p' := 4) (ck_150 _ _ rfl) rfl ⟨by omega, by omega⟩ (fun c1 => ?_) (fun c2 => ?_)
  · have c1 : x < (0) := c1
    refine av_wp_sqF ck_150 1 (pc' := 19) (lv' := [some (.inr (.inr (.inl (some (77))))), some (.inl x)]) (st' := [.inl (0)]) (h' := h) rfl ?_
    refine av_wp_ret (v := some (.inl (0))) (ck_150 _ _ rfl) rfl rfl ?_
    exact hq _ (by omega)
  · have c2 : (0) ≤ x := c2
    refine av_wp_sqF ck_150 2 (pc' := 6) (lv' := [some (.inr (.inr (.inl (some (77))))), some (.inl x)]) (st' := [.inr (.inr (.inl (some (77)))), .inl x]) (h' := h) rfl ?_
    refine wq_gr (p' := 9) (ck_150 _ _ rfl) rfl (congrArg Prod.fst (ly_k I.1.1 77 rfl)) rfl (ly_g I.1.1 77 1 79 rfl) ?_
    refine av_wp_sqF ck_150 1 (pc' := 10) (lv' := [some (.inr (.inr (.inl (some (77))))), some (.inl x)]) (st' := [.inl (0), .inr (.inr (.inl (some (79)))), .inl x]) (h' := h) rfl ?_
    obtain ⟨v3, e4⟩ : ∃ v, hA h 79 (Int.toNat ((0))) = v := ⟨_, rfl⟩
    have g5 : 0 ≤ hA h 79 0 ∧ hA h 79 0 ≤ 8 := I.1.2.1.2.2.1
    have e4 : hA h 79 0 = v3 := e4
    rw [e4] at g5
    refine wq_al (p' := 11) (n := 5) (ck_150 _ _ rfl) rfl (ly_k I.1.1 79 rfl) (by omega) (e4) ?_
    refine wq_k2 (p' := 14) (ck_150 _ _ rfl) rfl ⟨by omega, by omega⟩ ⟨by omega, by omega⟩ (fun c6 => ?_) (fun c7 => ?_)
    · have c6 : v3 ≤ x := c6
      refine av_wp_sqF ck_150 1 (pc' := 19) (lv' := [some (.inr (.inr (.inl (some (77))))), some (.inl x)]) (st' := [.inl (0)]) (h' := h) rfl ?_
      refine av_wp_ret (v := some (.inl (0))) (ck_150 _ _ rfl) rfl rfl ?_
      exact hq _ (by omega)
    · have c7 : x < v3 := c7
      refine av_wp_sqF ck_150 2 (pc' := 19) (lv' := [some (.inr (.inr (.inl (some (77))))), some (.inl x)]) (st' := [.inl (1)]) (h' := h) rfl ?_
      refine av_wp_ret (v := some (.inl (1))) (ck_150 _ _ rfl) rfl rfl ?_
      exact hq _ (by omega)

set_option maxRecDepth 100000 in
set_option maxHeartbeats 4000000 in
theorem cx_161 {h : av_H} (I : IM h)  (x : Int) (qx : -2147483648 ≤ x ∧ x ≤ 2147483647) (k : Int) (qk : -2147483648 ≤ k ∧ k ≤ 2147483647) (w : Int) (qw : -2147483648 ≤ w ∧ w ≤ 2147483647) {Q : Option av_V → av_H → Prop} (hq0 : (x < 0 ∨ hA h 78 0 ≤ x ∨ k < 0 ∨ hA h 81 (Int.toNat x) ≤ k ∨ w < 0 ∨ (6 < w ∧ w < 10) ∨ 14 < w) → Q (some (.inl (-2))) h) (hq1 : ∀ v : Int, 0 ≤ x → x < hA h 78 0 → 0 ≤ k → k < hA h 81 (Int.toNat x) → ((0 ≤ w ∧ w ≤ 6) ∨ (10 ≤ w ∧ w ≤ 14)) → v = rwA (hA h) (12 * Int.toNat x + Int.toNat k) (Int.toNat w) → Q (some (.inl v)) h) : av_wp none cd_161 0 [some (.inr (.inr (.inl (some (77))))), some (.inl x), some (.inl k), some (.inl w), none] [] h Q := by
  refine av_wp_sqF ck_161 2 (pc' := 2) (lv' := [some (.inr (.inr (.inl (some (77))))), some (.inl x), some (.inl k), some (.inl w), none]) (st' := [.inl x, .inr (.inr (.inl (some (77))))]) (h' := h) rfl ?_
  refine wq_cv (p' := 5) (av_qc (.invokevirtual 299) 149 1 0 8) 2 cd_149 [.inl x] (77) 8 [some (.inr (.inr (.inl (some (77))))), some (.inl x)] (ck_161 _ _ rfl) rfl rfl pp_149 rfl rfl rfl (congrArg Prod.fst (ly_k I.1.1 77 rfl)) rfl rfl rfl rfl ?_
  refine cx_149 I (x) (by omega) (fun v1 p2 => ?_)
  have g3 := I.1.2.1.2.1
  show av_wp _ cd_161 5 [some (.inr (.inr (.inl (some (77))))), some (.inl x), some (.inl k), some (.inl w), none] [.inl v1] h _
  refine wq_k1 (p' := 8) (ck_161 _ _ rfl) rfl ⟨by omega, by omega⟩ (fun c4 => ?_) (fun c5 => ?_)
  · have c4 : v1 = (0) := c4
    refine av_wp_sqF ck_161 1 (pc' := 24) (lv' := [some (.inr (.inr (.inl (some (77))))), some (.inl x), some (.inl k), some (.inl w), none]) (st' := [.inl (-2)]) (h' := h) rfl ?_
    refine av_wp_ret (v := some (.inl (-2))) (ck_161 _ _ rfl) rfl rfl ?_
    exact hq0 (by omega)
  · have c5 : v1 ≠ (0) := c5
    refine av_wp_sqF ck_161 1 (pc' := 9) (lv' := [some (.inr (.inr (.inl (some (77))))), some (.inl x), some (.inl k), some (.inl w), none]) (st' := [.inl k]) (h' := h) rfl ?_
    refine wq_k1 (p' := 12) (ck_161 _ _ rfl) rfl ⟨by omega, by omega⟩ (fun c6 => ?_) (fun c7 => ?_)
    · have c6 : k < (0) := c6
      refine av_wp_sqF ck_161 1 (pc' := 24) (lv' := [some (.inr (.inr (.inl (some (77))))), some (.inl x), some (.inl k), some (.inl w), none]) (st' := [.inl (-2)]) (h' := h) rfl ?_
      refine av_wp_ret (v := some (.inl (-2))) (ck_161 _ _ rfl) rfl rfl ?_
      exact hq0 (by omega)
    · have c7 : (0) ≤ k := c7
      refine av_wp_sqF ck_161 2 (pc' := 14) (lv' := [some (.inr (.inr (.inl (some (77))))), some (.inl x), some (.inl k), some (.inl w), none]) (st' := [.inr (.inr (.inl (some (77)))), .inl k]) (h' := h) rfl ?_
      refine wq_gr (p' := 17) (ck_161 _ _ rfl) rfl (congrArg Prod.fst (ly_k I.1.1 77 rfl)) rfl (ly_g I.1.1 77 3 81 rfl) ?_
      refine av_wp_sqF ck_161 1 (pc' := 18) (lv' := [some (.inr (.inr (.inl (some (77))))), some (.inl x), some (.inl k), some (.inl w), none]) (st' := [.inl x, .inr (.inr (.inl (some (81)))), .inl k]) (h' := h) rfl ?_
      obtain ⟨v8, e9⟩ : ∃ v, hA h 81 (Int.toNat (x)) = v := ⟨_, rfl⟩
      have g10 := im_many I.1 (Int.toNat (x))
      rw [e9] at g10
      refine wq_al (p' := 19) (n := 80) (ck_161 _ _ rfl) rfl (ly_k I.1.1 81 rfl) (by omega) (e9) ?_
      refine wq_k2 (p' := 22) (ck_161 _ _ rfl) rfl ⟨by omega, by omega⟩ ⟨by omega, by omega⟩ (fun c11 => ?_) (fun c12 => ?_)
      · have c11 : k < v8 := c11
        refine av_wp_sqF ck_161 9 (pc' := 38) (lv' := [some (.inr (.inr (.inl (some (77))))), some (.inl x), some (.inl k), some (.inl w), some (.inl (((12) * x) + k))]) (st' := [.inl (14), .inl (10), .inl w]) (h' := h) rfl ?_
        refine wq_cs (p' := 41) (av_qc (.invokestatic 176) 127 3 2 8) 3 cd_127 [.inl w, .inl (10), .inl (14)] [.inl (14), .inl (10), .inl w] [some (.inl w), some (.inl (10)), some (.inl (14))] (ck_161 _ _ rfl) rfl rfl pp_127 (fun _ => rfl) rfl rfl ?_
        refine ct_127 (g := h) (w) (by omega) ((10)) (by omega) ((14)) (by omega) (fun v13 p14 => ?_)
        show av_wp _ cd_161 41 [some (.inr (.inr (.inl (some (77))))), some (.inl x), some (.inl k), some (.inl w), some (.inl (((12) * x) + k))] [.inl v13] h _
        refine wq_k1 (p' := 44) (ck_161 _ _ rfl) rfl ⟨by omega, by omega⟩ (fun c15 => ?_) (fun c16 => ?_)
        · have c15 : v13 = (0) := c15
          refine av_wp_sqF ck_161 1 (pc' := 60) (lv' := [some (.inr (.inr (.inl (some (77))))), some (.inl x), some (.inl k), some (.inl w), some (.inl (((12) * x) + k))]) (st' := [.inl w]) (h' := h) rfl ?_
          rcases (show w = 0 ∨ w = 1 ∨ w = 2 ∨ w = 3 ∨ w = 4 ∨ w = 5 ∨ w = 6 ∨ (w < 0 ∨ 6 < w) by omega) with e17 | e17 | e17 | e17 | e17 | e17 | e17 | e17
          · refine wq_tc (t := 104) (ck_161 _ _ rfl) e17 rfl ?_
            refine av_wp_sqF ck_161 1 (pc' := 105) (lv' := [some (.inr (.inr (.inl (some (77))))), some (.inl x), some (.inl k), some (.inl w), some (.inl (((12) * x) + k))]) (st' := [.inr (.inr (.inl (some (77))))]) (h' := h) rfl ?_
            refine wq_gr (p' := 108) (ck_161 _ _ rfl) rfl (congrArg Prod.fst (ly_k I.1.1 77 rfl)) rfl (ly_g I.1.1 77 4 82 rfl) ?_
            refine av_wp_sqF ck_161 1 (pc' := 110) (lv' := [some (.inr (.inr (.inl (some (77))))), some (.inl x), some (.inl k), some (.inl w), some (.inl (((12) * x) + k))]) (st' := [.inl (((12) * x) + k), .inr (.inr (.inl (some (82))))]) (h' := h) rfl ?_
            obtain ⟨v18, e19⟩ : ∃ v, hA h 82 (Int.toNat ((((12) * x) + k))) = v := ⟨_, rfl⟩
            have g20 : 0 ≤ hA h 82 (Int.toNat ((((12) * x) + k))) ∧ hA h 82 (Int.toNat ((((12) * x) + k))) ≤ 7 := im_m I.1 82 (by decide) (by decide) _
            rw [e19] at g20
            refine wq_al (p' := 111) (n := 960) (ck_161 _ _ rfl) rfl (ly_k I.1.1 82 rfl) (by omega) (e19) ?_
            refine av_wp_ret (v := some (.inl v18)) (ck_161 _ _ rfl) rfl rfl ?_
            exact hq1 _ (by omega) (by omega) (by omega) (by omega) (by omega) (rwx_f (A := hA h) 82 0 ⟨rfl, rfl, rfl⟩ (by omega) (by omega) (by omega) e19)
          · refine wq_tc (t := 112) (ck_161 _ _ rfl) e17 rfl ?_
            refine av_wp_sqF ck_161 1 (pc' := 113) (lv' := [some (.inr (.inr (.inl (some (77))))), some (.inl x), some (.inl k), some (.inl w), some (.inl (((12) * x) + k))]) (st' := [.inr (.inr (.inl (some (77))))]) (h' := h) rfl ?_
            refine wq_gr (p' := 116) (ck_161 _ _ rfl) rfl (congrArg Prod.fst (ly_k I.1.1 77 rfl)) rfl (ly_g I.1.1 77 5 83 rfl) ?_
            refine av_wp_sqF ck_161 1 (pc' := 118) (lv' := [some (.inr (.inr (.inl (some (77))))), some (.inl x), some (.inl k), some (.inl w), some (.inl (((12) * x) + k))]) (st' := [.inl (((12) * x) + k), .inr (.inr (.inl (some (83))))]) (h' := h) rfl ?_
            obtain ⟨v21, e22⟩ : ∃ v, hA h 83 (Int.toNat ((((12) * x) + k))) = v := ⟨_, rfl⟩
            have g23 : 0 ≤ hA h 83 (Int.toNat ((((12) * x) + k))) ∧ hA h 83 (Int.toNat ((((12) * x) + k))) ≤ 2 := im_m I.1 83 (by decide) (by decide) _
            rw [e22] at g23
            refine wq_al (p' := 119) (n := 960) (ck_161 _ _ rfl) rfl (ly_k I.1.1 83 rfl) (by omega) (e22) ?_
            refine av_wp_ret (v := some (.inl v21)) (ck_161 _ _ rfl) rfl rfl ?_
            exact hq1 _ (by omega) (by omega) (by omega) (by omega) (by omega) (rwx_f (A := hA h) 83 1 ⟨rfl, rfl, rfl⟩ (by omega) (by omega) (by omega) e22)
          · refine wq_tc (t := 120) (ck_161 _ _ rfl) e17 rfl ?_
            refine av_wp_sqF ck_161 1 (pc' := 121) (lv' := [some (.inr (.inr (.inl (some (77))))), some (.inl x), some (.inl k), some (.inl w), some (.inl (((12) * x) + k))]) (st' := [.inr (.inr (.inl (some (77))))]) (h' := h) rfl ?_
            refine wq_gr (p' := 124) (ck_161 _ _ rfl) rfl (congrArg Prod.fst (ly_k I.1.1 77 rfl)) rfl (ly_g I.1.1 77 6 84 rfl) ?_
            refine av_wp_sqF ck_161 1 (pc' := 126) (lv' := [some (.inr (.inr (.inl (some (77))))), some (.inl x), some (.inl k), some (.inl w), some (.inl (((12) * x) + k))]) (st' := [.inl (((12) * x) + k), .inr (.inr (.inl (some (84))))]) (h' := h) rfl ?_
            obtain ⟨v24, e25⟩ : ∃ v, hA h 84 (Int.toNat ((((12) * x) + k))) = v := ⟨_, rfl⟩
            have g26 : -1 ≤ hA h 84 (Int.toNat ((((12) * x) + k))) ∧ hA h 84 (Int.toNat ((((12) * x) + k))) ≤ 2 := im_m I.1 84 (by decide) (by decide) _
            rw [e25] at g26
            refine wq_al (p' := 127) (n := 960) (ck_161 _ _ rfl) rfl (ly_k I.1.1 84 rfl) (by omega) (e25) ?_
            refine av_wp_ret (v := some (.inl v24)) (ck_161 _ _ rfl) rfl rfl ?_
            exact hq1 _ (by omega) (by omega) (by omega) (by omega) (by omega) (rwx_f (A := hA h) 84 2 ⟨rfl, rfl, rfl⟩ (by omega) (by omega) (by omega) e25)
          · refine wq_tc (t := 128) (ck_161 _ _ rfl) e17 rfl ?_
            refine av_wp_sqF ck_161 1 (pc' := 129) (lv' := [some (.inr (.inr (.inl (some (77))))), some (.inl x), some (.inl k), some (.inl w), some (.inl (((12) * x) + k))]) (st' := [.inr (.inr (.inl (some (77))))]) (h' := h) rfl ?_
            refine wq_gr (p' := 132) (ck_161 _ _ rfl) rfl (congrArg Prod.fst (ly_k I.1.1 77 rfl)) rfl (ly_g I.1.1 77 7 85 rfl) ?_
            refine av_wp_sqF ck_161 1 (pc' := 134) (lv' := [some (.inr (.inr (.inl (some (77))))), some (.inl x), some (.inl k), some (.inl w), some (.inl (((12) * x) + k))]) (st' := [.inl (((12) * x) + k), .inr (.inr (.inl (some (85))))]) (h' := h) rfl ?_
            obtain ⟨v27, e28⟩ : ∃ v, hA h 85 (Int.toNat ((((12) * x) + k))) = v := ⟨_, rfl⟩
            have g29 : -1 ≤ hA h 85 (Int.toNat ((((12) * x) + k))) ∧ hA h 85 (Int.toNat ((((12) * x) + k))) ≤ 11 := im_m I.1 85 (by decide) (by decide) _
            rw [e28] at g29
            refine wq_al (p' := 135) (n := 960) (ck_161 _ _ rfl) rfl (ly_k I.1.1 85 rfl) (by omega) (e28) ?_
            refine av_wp_ret (v := some (.inl v27)) (ck_161 _ _ rfl) rfl rfl ?_
            exact hq1 _ (by omega) (by omega) (by omega) (by omega) (by omega) (rwx_f (A := hA h) 85 3 ⟨rfl, rfl, rfl⟩ (by omega) (by omega) (by omega) e28)
          · refine wq_tc (t := 136) (ck_161 _ _ rfl) e17 rfl ?_
            refine av_wp_sqF ck_161 1 (pc' := 137) (lv' := [some (.inr (.inr (.inl (some (77))))), some (.inl x), some (.inl k), some (.inl w), some (.inl (((12) * x) + k))]) (st' := [.inr (.inr (.inl (some (77))))]) (h' := h) rfl ?_
            refine wq_gr (p' := 140) (ck_161 _ _ rfl) rfl (congrArg Prod.fst (ly_k I.1.1 77 rfl)) rfl (ly_g I.1.1 77 8 86 rfl) ?_
            refine av_wp_sqF ck_161 1 (pc' := 142) (lv' := [some (.inr (.inr (.inl (some (77))))), some (.inl x), some (.inl k), some (.inl w), some (.inl (((12) * x) + k))]) (st' := [.inl (((12) * x) + k), .inr (.inr (.inl (some (86))))]) (h' := h) rfl ?_
            obtain ⟨v30, e31⟩ : ∃ v, hA h 86 (Int.toNat ((((12) * x) + k))) = v := ⟨_, rfl⟩
            have g32 : 0 ≤ hA h 86 (Int.toNat ((((12) * x) + k))) ∧ hA h 86 (Int.toNat ((((12) * x) + k))) ≤ 3 := im_m I.1 86 (by decide) (by decide) _
            rw [e31] at g32
            refine wq_al (p' := 143) (n := 960) (ck_161 _ _ rfl) rfl (ly_k I.1.1 86 rfl) (by omega) (e31) ?_
            refine av_wp_ret (v := some (.inl v30)) (ck_161 _ _ rfl) rfl rfl ?_
            exact hq1 _ (by omega) (by omega) (by omega) (by omega) (by omega) (rwx_f (A := hA h) 86 4 ⟨rfl, rfl, rfl⟩ (by omega) (by omega) (by omega) e31)
          · refine wq_tc (t := 144) (ck_161 _ _ rfl) e17 rfl ?_
            refine av_wp_sqF ck_161 1 (pc' := 145) (lv' := [some (.inr (.inr (.inl (some (77))))), some (.inl x), some (.inl k), some (.inl w), some (.inl (((12) * x) + k))]) (st' := [.inr (.inr (.inl (some (77))))]) (h' := h) rfl ?_
            refine wq_gr (p' := 148) (ck_161 _ _ rfl) rfl (congrArg Prod.fst (ly_k I.1.1 77 rfl)) rfl (ly_g I.1.1 77 9 87 rfl) ?_
            refine av_wp_sqF ck_161 1 (pc' := 150) (lv' := [some (.inr (.inr (.inl (some (77))))), some (.inl x), some (.inl k), some (.inl w), some (.inl (((12) * x) + k))]) (st' := [.inl (((12) * x) + k), .inr (.inr (.inl (some (87))))]) (h' := h) rfl ?_
            obtain ⟨v33, e34⟩ : ∃ v, hA h 87 (Int.toNat ((((12) * x) + k))) = v := ⟨_, rfl⟩
            have g35 : -1 ≤ hA h 87 (Int.toNat ((((12) * x) + k))) ∧ hA h 87 (Int.toNat ((((12) * x) + k))) ≤ 1999 := im_m I.1 87 (by decide) (by decide) _
            rw [e34] at g35
            refine wq_al (p' := 151) (n := 960) (ck_161 _ _ rfl) rfl (ly_k I.1.1 87 rfl) (by omega) (e34) ?_
            refine av_wp_ret (v := some (.inl v33)) (ck_161 _ _ rfl) rfl rfl ?_
            exact hq1 _ (by omega) (by omega) (by omega) (by omega) (by omega) (rwx_f (A := hA h) 87 5 ⟨rfl, rfl, rfl⟩ (by omega) (by omega) (by omega) e34)
          · refine wq_tc (t := 152) (ck_161 _ _ rfl) e17 rfl ?_
            refine av_wp_sqF ck_161 1 (pc' := 153) (lv' := [some (.inr (.inr (.inl (some (77))))), some (.inl x), some (.inl k), some (.inl w), some (.inl (((12) * x) + k))]) (st' := [.inr (.inr (.inl (some (77))))]) (h' := h) rfl ?_
            refine wq_gr (p' := 156) (ck_161 _ _ rfl) rfl (congrArg Prod.fst (ly_k I.1.1 77 rfl)) rfl (ly_g I.1.1 77 10 88 rfl) ?_
            refine av_wp_sqF ck_161 1 (pc' := 158) (lv' := [some (.inr (.inr (.inl (some (77))))), some (.inl x), some (.inl k), some (.inl w), some (.inl (((12) * x) + k))]) (st' := [.inl (((12) * x) + k), .inr (.inr (.inl (some (88))))]) (h' := h) rfl ?_
            obtain ⟨v36, e37⟩ : ∃ v, hA h 88 (Int.toNat ((((12) * x) + k))) = v := ⟨_, rfl⟩
            have g38 : -1 ≤ hA h 88 (Int.toNat ((((12) * x) + k))) ∧ hA h 88 (Int.toNat ((((12) * x) + k))) ≤ 15 := im_m I.1 88 (by decide) (by decide) _
            rw [e37] at g38
            refine wq_al (p' := 159) (n := 960) (ck_161 _ _ rfl) rfl (ly_k I.1.1 88 rfl) (by omega) (e37) ?_
            refine av_wp_ret (v := some (.inl v36)) (ck_161 _ _ rfl) rfl rfl ?_
            exact hq1 _ (by omega) (by omega) (by omega) (by omega) (by omega) (rwx_f (A := hA h) 88 6 ⟨rfl, rfl, rfl⟩ (by omega) (by omega) (by omega) e37)
          · refine wq_td (t := 160) (ck_161 _ _ rfl) ⟨by omega, by omega⟩ e17 rfl ?_
            refine av_wp_sqF ck_161 1 (pc' := 162) (lv' := [some (.inr (.inr (.inl (some (77))))), some (.inl x), some (.inl k), some (.inl w), some (.inl (((12) * x) + k))]) (st' := [.inl (-2)]) (h' := h) rfl ?_
            refine av_wp_ret (v := some (.inl (-2))) (ck_161 _ _ rfl) rfl rfl ?_
            exact hq0 (by omega)
        · have c16 : v13 ≠ (0) := c16
          refine av_wp_sqF ck_161 1 (pc' := 45) (lv' := [some (.inr (.inr (.inl (some (77))))), some (.inl x), some (.inl k), some (.inl w), some (.inl (((12) * x) + k))]) (st' := [.inr (.inr (.inl (some (77))))]) (h' := h) rfl ?_
          refine wq_gr (p' := 48) (ck_161 _ _ rfl) rfl (congrArg Prod.fst (ly_k I.1.1 77 rfl)) rfl (ly_g I.1.1 77 12 90 rfl) ?_
          refine av_wp_sqF ck_161 7 (pc' := 57) (lv' := [some (.inr (.inr (.inl (some (77))))), some (.inl x), some (.inl k), some (.inl w), some (.inl (((12) * x) + k))]) (st' := [.inl ((((5) * (((12) * x) + k)) + w) - (10)), .inr (.inr (.inl (some (90))))]) (h' := h) rfl ?_
          obtain ⟨v39, e40⟩ : ∃ v, hA h 90 (Int.toNat (((((5) * (((12) * x) + k)) + w) - (10)))) = v := ⟨_, rfl⟩
          have g41 : -1 ≤ hA h 90 (Int.toNat (((((5) * (((12) * x) + k)) + w) - (10)))) ∧ hA h 90 (Int.toNat (((((5) * (((12) * x) + k)) + w) - (10)))) ≤ 999 := im_m I.1 90 (by decide) (by decide) _
          rw [e40] at g41
          refine wq_al (p' := 58) (n := 4800) (ck_161 _ _ rfl) rfl (ly_k I.1.1 90 rfl) (by omega) (e40) ?_
          refine av_wp_ret (v := some (.inl v39)) (ck_161 _ _ rfl) rfl rfl ?_
          exact hq1 _ (by omega) (by omega) (by omega) (by omega) (by omega) (rwx_w (A := hA h) (by omega) (by omega) (by omega) e40)
      · have c12 : v8 ≤ k := c12
        refine av_wp_sqF ck_161 1 (pc' := 24) (lv' := [some (.inr (.inr (.inl (some (77))))), some (.inl x), some (.inl k), some (.inl w), none]) (st' := [.inl (-2)]) (h' := h) rfl ?_
        refine av_wp_ret (v := some (.inl (-2))) (ck_161 _ _ rfl) rfl rfl ?_
        exact hq0 (by omega)

set_option maxRecDepth 100000 in
set_option maxHeartbeats 4000000 in
theorem cx_216 {h : av_H} (I : IM h)   {Q : Option av_V → av_H → Prop} (hq : Q (some (.inl (sumv (hA h 81) (Int.toNat (hA h 78 0))))) h) : av_wp none cd_216 0 [some (.inr (.inr (.inl (some (77))))), none, none] [] h Q := by
  have y78 := I.1.2.1.2.1
  refine av_wp_sqF ck_216 4 (pc' := 4) (lv' := [some (.inr (.inr (.inl (some (77))))), some (.inl (0)), some (.inl (0))]) (st' := []) (h' := h) rfl ?_
  have L4 : ∀ (m3 : Nat) (k1 : Int) (k2 : Int), k1 = sumv (hA h 81) (Int.toNat k2) → k2 ≤ hA h 78 0 → (0 ≤ k2 ∧ k2 ≤ 16) → (16 - k2).toNat = m3 → av_wp none cd_216 4 [some (.inr (.inr (.inl (some (77))))), some (.inl k1), some (.inl k2)] [] h Q := by
    intro m3
    induction m3 using Nat.strongRecOn with
    | _ m3 I5 =>
      intro k1 k2 g7 g8 g9 e6
      refine av_wp_sqF ck_216 2 (pc' := 6) (lv' := [some (.inr (.inr (.inl (some (77))))), some (.inl k1), some (.inl k2)]) (st' := [.inr (.inr (.inl (some (77)))), .inl k2]) (h' := h) rfl ?_
      refine wq_gr (p' := 9) (ck_216 _ _ rfl) rfl (congrArg Prod.fst (ly_k I.1.1 77 rfl)) rfl (ly_g I.1.1 77 0 78 rfl) ?_
      refine av_wp_sqF ck_216 1 (pc' := 10) (lv' := [some (.inr (.inr (.inl (some (77))))), some (.inl k1), some (.inl k2)]) (st' := [.inl (0), .inr (.inr (.inl (some (78)))), .inl k2]) (h' := h) rfl ?_
      obtain ⟨v10, e11⟩ : ∃ v, hA h 78 (Int.toNat ((0))) = v := ⟨_, rfl⟩
      have g12 : 0 ≤ hA h 78 0 ∧ hA h 78 0 ≤ 16 := I.1.2.1.2.1
      have e11 : hA h 78 0 = v10 := e11
      rw [e11] at g12
      refine wq_al (p' := 11) (n := 5) (ck_216 _ _ rfl) rfl (ly_k I.1.1 78 rfl) (by omega) (e11) ?_
      refine wq_k2 (p' := 14) (ck_216 _ _ rfl) rfl ⟨by omega, by omega⟩ ⟨by omega, by omega⟩ (fun c13 => ?_) (fun c14 => ?_)
      · have c13 : v10 ≤ k2 := c13
        refine av_wp_sqF ck_216 1 (pc' := 30) (lv' := [some (.inr (.inr (.inl (some (77))))), some (.inl k1), some (.inl k2)]) (st' := [.inl k1]) (h' := h) rfl ?_
        refine av_wp_ret (v := some (.inl k1)) (ck_216 _ _ rfl) rfl rfl ?_
        rw [g7, show k2 = hA h 78 0 by omega]
        exact hq
      · have c14 : k2 < v10 := c14
        refine av_wp_sqF ck_216 2 (pc' := 16) (lv' := [some (.inr (.inr (.inl (some (77))))), some (.inl k1), some (.inl k2)]) (st' := [.inr (.inr (.inl (some (77)))), .inl k1]) (h' := h) rfl ?_
        refine wq_gr (p' := 19) (ck_216 _ _ rfl) rfl (congrArg Prod.fst (ly_k I.1.1 77 rfl)) rfl (ly_g I.1.1 77 3 81 rfl) ?_
        refine av_wp_sqF ck_216 1 (pc' := 20) (lv' := [some (.inr (.inr (.inl (some (77))))), some (.inl k1), some (.inl k2)]) (st' := [.inl k2, .inr (.inr (.inl (some (81)))), .inl k1]) (h' := h) rfl ?_
        obtain ⟨v15, e16⟩ : ∃ v, hA h 81 (Int.toNat (k2)) = v := ⟨_, rfl⟩
        have g17 := im_many I.1 (Int.toNat (k2))
        rw [e16] at g17
        refine wq_al (p' := 21) (n := 80) (ck_216 _ _ rfl) rfl (ly_k I.1.1 81 rfl) (by omega) (e16) ?_
        have u18 := sumv_s (a := hA h 81) (k := k2) (by omega) g7 e16
        refine av_wp_sqF ck_216 4 (pc' := 4) (lv' := [some (.inr (.inr (.inl (some (77))))), some (.inl (k1 + v15)), some (.inl (k2 + (1)))]) (st' := []) (h' := h) rfl ?_
        exact I5 _ (by omega) ((k1 + v15)) ((k2 + (1))) u18 (by omega) (by omega) rfl
  exact L4 _ ((0)) ((0)) rfl (by omega) (by omega) rfl

set_option maxRecDepth 100000 in
set_option maxHeartbeats 4000000 in
theorem cx_217 {h : av_H} (I : IM h)  (w : Int) (qw : -2147483648 ≤ w ∧ w ≤ 2147483647) {Q : Option av_V → av_H → Prop} (hq : ∀ v : Int, ((w = 0 ∧ v = hA h 78 0) ∨ (w = 1 ∧ v = hA h 79 0) ∨ (w = 2 ∧ v = hA h 80 0) ∨ (w = 3 ∧ v = hF h 77 17) ∨ (w = 4 ∧ v = sumv (hA h 81) (Int.toNat (hA h 78 0))) ∨ (w = 5 ∧ v = hF h 77 62) ∨ ((w < 0 ∨ 5 < w) ∧ v = -1)) → Q (some (.inl v)) h) : av_wp none cd_217 0 [some (.inr (.inr (.inl (some (77))))), some (.inl w)] [] h Q := by
  refine av_wp_sqF ck_217 1 (pc' := 1) (lv' := [some (.inr (.inr (.inl (some (77))))), some (.inl w)]) (st' := [.inl w]) (h' := h) rfl ?_
  rcases (show w = 0 ∨ w = 1 ∨ w = 2 ∨ w = 3 ∨ w = 4 ∨ w = 5 ∨ (w < 0 ∨ 5 < w) by omega) with e1 | e1 | e1 | e1 | e1 | e1 | e1
  · refine wq_tc (t := 40) (ck_217 _ _ rfl) e1 rfl ?_
    refine av_wp_sqF ck_217 1 (pc' := 41) (lv' := [some (.inr (.inr (.inl (some (77))))), some (.inl w)]) (st' := [.inr (.inr (.inl (some (77))))]) (h' := h) rfl ?_
    refine wq_gr (p' := 44) (ck_217 _ _ rfl) rfl (congrArg Prod.fst (ly_k I.1.1 77 rfl)) rfl (ly_g I.1.1 77 0 78 rfl) ?_
    refine av_wp_sqF ck_217 1 (pc' := 45) (lv' := [some (.inr (.inr (.inl (some (77))))), some (.inl w)]) (st' := [.inl (0), .inr (.inr (.inl (some (78))))]) (h' := h) rfl ?_
    obtain ⟨v2, e3⟩ : ∃ v, hA h 78 (Int.toNat ((0))) = v := ⟨_, rfl⟩
    have g4 : 0 ≤ hA h 78 0 ∧ hA h 78 0 ≤ 16 := I.1.2.1.2.1
    have e3 : hA h 78 0 = v2 := e3
    rw [e3] at g4
    refine wq_al (p' := 46) (n := 5) (ck_217 _ _ rfl) rfl (ly_k I.1.1 78 rfl) (by omega) (e3) ?_
    refine av_wp_ret (v := some (.inl v2)) (ck_217 _ _ rfl) rfl rfl ?_
    exact hq _ (by omega)
  · refine wq_tc (t := 47) (ck_217 _ _ rfl) e1 rfl ?_
    refine av_wp_sqF ck_217 1 (pc' := 48) (lv' := [some (.inr (.inr (.inl (some (77))))), some (.inl w)]) (st' := [.inr (.inr (.inl (some (77))))]) (h' := h) rfl ?_
    refine wq_gr (p' := 51) (ck_217 _ _ rfl) rfl (congrArg Prod.fst (ly_k I.1.1 77 rfl)) rfl (ly_g I.1.1 77 1 79 rfl) ?_
    refine av_wp_sqF ck_217 1 (pc' := 52) (lv' := [some (.inr (.inr (.inl (some (77))))), some (.inl w)]) (st' := [.inl (0), .inr (.inr (.inl (some (79))))]) (h' := h) rfl ?_
    obtain ⟨v5, e6⟩ : ∃ v, hA h 79 (Int.toNat ((0))) = v := ⟨_, rfl⟩
    have g7 : 0 ≤ hA h 79 0 ∧ hA h 79 0 ≤ 8 := I.1.2.1.2.2.1
    have e6 : hA h 79 0 = v5 := e6
    rw [e6] at g7
    refine wq_al (p' := 53) (n := 5) (ck_217 _ _ rfl) rfl (ly_k I.1.1 79 rfl) (by omega) (e6) ?_
    refine av_wp_ret (v := some (.inl v5)) (ck_217 _ _ rfl) rfl rfl ?_
    exact hq _ (by omega)
  · refine wq_tc (t := 54) (ck_217 _ _ rfl) e1 rfl ?_
    refine av_wp_sqF ck_217 1 (pc' := 55) (lv' := [some (.inr (.inr (.inl (some (77))))), some (.inl w)]) (st' := [.inr (.inr (.inl (some (77))))]) (h' := h) rfl ?_
    refine wq_gr (p' := 58) (ck_217 _ _ rfl) rfl (congrArg Prod.fst (ly_k I.1.1 77 rfl)) rfl (ly_g I.1.1 77 2 80 rfl) ?_
    refine av_wp_sqF ck_217 1 (pc' := 59) (lv' := [some (.inr (.inr (.inl (some (77))))), some (.inl w)]) (st' := [.inl (0), .inr (.inr (.inl (some (80))))]) (h' := h) rfl ?_
    obtain ⟨v8, e9⟩ : ∃ v, hA h 80 (Int.toNat ((0))) = v := ⟨_, rfl⟩
    have g10 : 0 ≤ hA h 80 0 ∧ hA h 80 0 ≤ 6 := I.1.2.1.2.2.2.1
    have e9 : hA h 80 0 = v8 := e9
    rw [e9] at g10
    refine wq_al (p' := 60) (n := 5) (ck_217 _ _ rfl) rfl (ly_k I.1.1 80 rfl) (by omega) (e9) ?_
    refine av_wp_ret (v := some (.inl v8)) (ck_217 _ _ rfl) rfl rfl ?_
    exact hq _ (by omega)
  · refine wq_tc (t := 61) (ck_217 _ _ rfl) e1 rfl ?_
    refine av_wp_sqF ck_217 1 (pc' := 62) (lv' := [some (.inr (.inr (.inl (some (77))))), some (.inl w)]) (st' := [.inr (.inr (.inl (some (77))))]) (h' := h) rfl ?_
    obtain ⟨v11, e12⟩ : ∃ v, hF h 77 17 = v := ⟨_, rfl⟩
    refine wq_gi (p' := 65) (ck_217 _ _ rfl) rfl (congrArg Prod.fst (ly_k I.1.1 77 rfl)) rfl (e12) ?_
    refine av_wp_ret (v := some (.inl v11)) (ck_217 _ _ rfl) rfl rfl ?_
    exact hq _ (by omega)
  · refine wq_tc (t := 66) (ck_217 _ _ rfl) e1 rfl ?_
    refine av_wp_sqF ck_217 1 (pc' := 67) (lv' := [some (.inr (.inr (.inl (some (77))))), some (.inl w)]) (st' := [.inr (.inr (.inl (some (77))))]) (h' := h) rfl ?_
    refine wq_cv (p' := 70) (av_qc (.invokevirtual 488) 216 0 0 8) 3 cd_216 [] (77) 8 [some (.inr (.inr (.inl (some (77))))), none, none] (ck_217 _ _ rfl) rfl rfl pp_216 rfl rfl rfl (congrArg Prod.fst (ly_k I.1.1 77 rfl)) rfl rfl rfl rfl ?_
    refine cx_216 I ?_
    show av_wp _ cd_217 70 [some (.inr (.inr (.inl (some (77))))), some (.inl w)] [.inl (sumv (hA h 81) (Int.toNat (hA h 78 0)))] h _
    refine av_wp_ret (v := some (.inl (sumv (hA h 81) (Int.toNat (hA h 78 0))))) (ck_217 _ _ rfl) rfl rfl ?_
    exact hq _ (by omega)
  · refine wq_tc (t := 71) (ck_217 _ _ rfl) e1 rfl ?_
    refine av_wp_sqF ck_217 1 (pc' := 72) (lv' := [some (.inr (.inr (.inl (some (77))))), some (.inl w)]) (st' := [.inr (.inr (.inl (some (77))))]) (h' := h) rfl ?_
    obtain ⟨v13, e14⟩ : ∃ v, hF h 77 62 = v := ⟨_, rfl⟩
    refine wq_gi (p' := 75) (ck_217 _ _ rfl) rfl (congrArg Prod.fst (ly_k I.1.1 77 rfl)) rfl (e14) ?_
    refine av_wp_ret (v := some (.inl v13)) (ck_217 _ _ rfl) rfl rfl ?_
    exact hq _ (by omega)
  · refine wq_td (t := 76) (ck_217 _ _ rfl) ⟨by omega, by omega⟩ e1 rfl ?_
    refine av_wp_sqF ck_217 1 (pc' := 77) (lv' := [some (.inr (.inr (.inl (some (77))))), some (.inl w)]) (st' := [.inl (-1)]) (h' := h) rfl ?_
    refine av_wp_ret (v := some (.inl (-1))) (ck_217 _ _ rfl) rfl rfl ?_
    exact hq _ (by omega)
end
section
set_option maxRecDepth 100000 in
set_option maxHeartbeats 4000000 in
theorem cx_159 {g h : av_H} {n a m : Int} (I : IMF n a m h) (F : FM g h) (l : Int) (ql : 0 ≤ l ∧ l ≤ 7) (x : Int) (rb : ∀ j : Int, 0 ≤ j → j < 13 → -2 ≤ hA g 93 (Int.toNat (14 * l + j)) ∧ hA g 93 (Int.toNat (14 * l + j)) ≤ 999) (cb : ∀ c j : Int, 0 ≤ c → c < hA g 80 0 → 0 ≤ j → j < 13 → -2 ≤ hA g 93 (Int.toNat (112 + 14 * c + j)) ∧ hA g 93 (Int.toNat (112 + 14 * c + j)) ≤ 999) {Q : Option av_V → av_H → Prop} (hq : ∀ h', IMF n a m h' → FM g h' → (∀ j, j < 13 → hA h' 95 j = lyf (hA g 93) l x (Int.toNat (hA g 80 0)) j) → ZE [95] [] h h' → Q none h') : av_wp none cd_159 0 [some (.inr (.inr (.inl (some (77))))), some (.inl l), some (.inl x), none, none] [] h Q := by
  have gn := im_n I.1.1
  rw [I.2.1] at gn
  have ga := im_a I.1.1
  rw [I.2.2.1] at ga
  have gm := im_cm I.1.1
  rw [I.2.2.2] at gm
  have z80 := congrFun (F.2.2.2.2.2.2 80 rfl) 0
  have y80 := I.1.1.2.1.2.2.2.1
  have Z := ZE_rf (L := [95]) (K := []) h
  refine av_wp_sqF ck_159 2 (pc' := 2) (lv' := [some (.inr (.inr (.inl (some (77))))), some (.inl l), some (.inl x), some (.inl (0)), none]) (st' := []) (h' := h) rfl ?_
  have L8 : ∀ (m7 : Nat) (k1 : Int) (h2 : av_H), (0 ≤ k1 ∧ k1 ≤ 13) → IMF n a m h2 → FM g h2 → FI 13 av_plain (hA h 95) k1 (hA h2 95) → ZE [95] [] h h2 → (13 - k1).toNat = m7 → av_wp none cd_159 2 [some (.inr (.inr (.inl (some (77))))), some (.inl l), some (.inl x), some (.inl k1), none] [] h2 Q := by
    intro m7
    induction m7 using Nat.strongRecOn with
    | _ m7 I9 =>
      intro k1 h2 g11 I3 F4 X5 Z6 e10
      refine av_wp_sqF ck_159 2 (pc' := 5) (lv' := [some (.inr (.inr (.inl (some (77))))), some (.inl l), some (.inl x), some (.inl k1), none]) (st' := [.inl (13), .inl k1]) (h' := h2) rfl ?_
      refine wq_k2 (p' := 8) (ck_159 _ _ rfl) rfl ⟨by omega, by omega⟩ ⟨by omega, by omega⟩ (fun c12 => ?_) (fun c13 => ?_)
      · have c12 : (13) ≤ k1 := c12
        refine av_wp_sqF ck_159 2 (pc' := 48) (lv' := [some (.inr (.inr (.inl (some (77))))), some (.inl l), some (.inl x), some (.inl (0)), none]) (st' := []) (h' := h2) rfl ?_
        have L21 : ∀ (m20 : Nat) (k14 : Int) (h15 : av_H), (0 ≤ k14 ∧ k14 ≤ 13) → IMF n a m h15 → FM g h15 → FI 13 (lyb (hA g 93) l) av_plain k14 (hA h15 95) → ZE [95] [] h h15 → (13 - k14).toNat = m20 → av_wp none cd_159 48 [some (.inr (.inr (.inl (some (77))))), some (.inl l), some (.inl x), some (.inl k14), none] [] h15 Q := by
          intro m20
          induction m20 using Nat.strongRecOn with
          | _ m20 I22 =>
            intro k14 h15 g24 I16 F17 X18 Z19 e23
            refine av_wp_sqF ck_159 2 (pc' := 51) (lv' := [some (.inr (.inr (.inl (some (77))))), some (.inl l), some (.inl x), some (.inl k14), none]) (st' := [.inl (13), .inl k14]) (h' := h15) rfl ?_
            refine wq_k2 (p' := 54) (ck_159 _ _ rfl) rfl ⟨by omega, by omega⟩ ⟨by omega, by omega⟩ (fun c25 => ?_) (fun c26 => ?_)
            · have c25 : (13) ≤ k14 := c25
              refine av_wp_sqF ck_159 2 (pc' := 95) (lv' := [some (.inr (.inr (.inl (some (77))))), some (.inl l), some (.inl x), some (.inl (0)), none]) (st' := []) (h' := h15) rfl ?_
              have L35 : ∀ (m34 : Nat) (k27 : Int) (a28 : Option av_V) (h29 : av_H), av_lg a28 = false → k27 ≤ hA g 80 0 → (0 ≤ k27 ∧ k27 ≤ 6) → IMF n a m h29 → FM g h29 → (∀ j, j < 13 → hA h29 95 j = lyf (hA g 93) l x (Int.toNat k27) j) → ZE [95] [] h h29 → (6 - k27).toNat = m34 → av_wp none cd_159 95 [some (.inr (.inr (.inl (some (77))))), some (.inl l), some (.inl x), some (.inl k27), a28] [] h29 Q := by
                intro m34
                induction m34 using Nat.strongRecOn with
                | _ m34 I36 =>
                  intro k27 a28 h29 g38 g39 g40 I30 F31 X32 Z33 e37
                  have la28 := g38
                  refine av_wp_sqF ck_159 2 (pc' := 97) (lv' := [some (.inr (.inr (.inl (some (77))))), some (.inl l), some (.inl x), some (.inl k27), a28]) (st' := [.inr (.inr (.inl (some (77)))), .inl k27]) (h' := h29) rfl ?_
                  refine wq_gr (p' := 100) (ck_159 _ _ rfl) rfl (congrArg Prod.fst (ly_k I30.1.1.1 77 rfl)) rfl (ly_g I30.1.1.1 77 2 80 rfl) ?_
                  refine av_wp_sqF ck_159 1 (pc' := 101) (lv' := [some (.inr (.inr (.inl (some (77))))), some (.inl l), some (.inl x), some (.inl k27), a28]) (st' := [.inl (0), .inr (.inr (.inl (some (80)))), .inl k27]) (h' := h29) rfl ?_
                  obtain ⟨v41, e42⟩ : ∃ v, hA h29 80 (Int.toNat ((0))) = v := ⟨_, rfl⟩
                  have g43 : 0 ≤ hA h29 80 0 ∧ hA h29 80 0 ≤ 6 := I30.1.1.2.1.2.2.2.1
                  have e42 : hA h29 80 0 = v41 := e42
                  rw [e42] at g43
                  have z44 := congrFun (F31.2.2.2.2.2.2 80 rfl) 0
                  refine wq_al (p' := 102) (n := 5) (ck_159 _ _ rfl) rfl (ly_k I30.1.1.1 80 rfl) (by omega) (e42) ?_
                  refine wq_k2 (p' := 105) (ck_159 _ _ rfl) rfl ⟨by omega, by omega⟩ ⟨by omega, by omega⟩ (fun c45 => ?_) (fun c46 => ?_)
                  · have c45 : v41 ≤ k27 := c45
                    refine av_wp_ret (v := none) (ck_159 _ _ rfl) rfl rfl ?_
                    have zz : Int.toNat (k27) = Int.toNat (hA g 80 0) := by omega
                    exact hq h29 I30 F31 (by rw [← zz]; exact X32) Z33
                  · have c46 : k27 < v41 := c46
                    refine av_wp_sqF ck_159 2 (pc' := 108) (lv' := [some (.inr (.inr (.inl (some (77))))), some (.inl l), some (.inl x), some (.inl k27), some (.inl (0))]) (st' := []) (h' := h29) rfl ?_
                    have L54 : ∀ (m53 : Nat) (k47 : Int) (h48 : av_H), (0 ≤ k47 ∧ k47 ≤ 13) → IMF n a m h48 → FM g h48 → FI 13 (lyf (hA g 93) l x (Int.toNat k27 + 1)) (lyf (hA g 93) l x (Int.toNat k27)) k47 (hA h48 95) → ZE [95] [] h h48 → (13 - k47).toNat = m53 → av_wp none cd_159 108 [some (.inr (.inr (.inl (some (77))))), some (.inl l), some (.inl x), some (.inl k27), some (.inl k47)] [] h48 Q := by
                      intro m53
                      induction m53 using Nat.strongRecOn with
                      | _ m53 I55 =>
                        intro k47 h48 g57 I49 F50 X51 Z52 e56
                        refine av_wp_sqF ck_159 2 (pc' := 112) (lv' := [some (.inr (.inr (.inl (some (77))))), some (.inl l), some (.inl x), some (.inl k27), some (.inl k47)]) (st' := [.inl (13), .inl k47]) (h' := h48) rfl ?_
                        refine wq_k2 (p' := 115) (ck_159 _ _ rfl) rfl ⟨by omega, by omega⟩ ⟨by omega, by omega⟩ (fun c58 => ?_) (fun c59 => ?_)
                        · have c58 : (13) ≤ k47 := c58
                          refine av_wp_sqF ck_159 2 (pc' := 95) (lv' := [some (.inr (.inr (.inl (some (77))))), some (.inl l), some (.inl x), some (.inl (k27 + (1))), some (.inl k47)]) (st' := []) (h' := h48) rfl ?_
                          exact I36 _ (by omega) ((k27 + (1))) (some (.inl k47)) h48 rfl (by omega) (by omega) I49 F50 (by rw [show Int.toNat (k27 + (1)) = Int.toNat k27 + 1 by omega]; exact FI_e X51 (by omega)) Z52 rfl
                        · have c59 : k47 < (13) := c59
                          refine av_wp_sqF ck_159 6 (pc' := 121) (lv' := [some (.inr (.inr (.inl (some (77))))), some (.inl l), some (.inl x), some (.inl k27), some (.inl k47)]) (st' := [.inl (1), .inl (av_and (av_shr x k27) (1))]) (h' := h48) rfl ?_
                          refine wq_w2 (p' := 124) (ck_159 _ _ rfl) rfl (fun c60 => ?_) (fun c61 => ?_)
                          · refine av_wp_sqF ck_159 2 (pc' := 108) (lv' := [some (.inr (.inr (.inl (some (77))))), some (.inl l), some (.inl x), some (.inl k27), some (.inl (k47 + (1)))]) (st' := []) (h' := h48) rfl ?_
                            exact I55 _ (by omega) ((k47 + (1))) h48 (by omega) I49 F50 (FI_n X51 (by omega) (lyf_n1 (by omega) c60)) Z52 rfl
                          · refine av_wp_sqF ck_159 1 (pc' := 125) (lv' := [some (.inr (.inr (.inl (some (77))))), some (.inl l), some (.inl x), some (.inl k27), some (.inl k47)]) (st' := [.inr (.inr (.inl (some (77))))]) (h' := h48) rfl ?_
                            refine wq_gr (p' := 128) (ck_159 _ _ rfl) rfl (congrArg Prod.fst (ly_k I49.1.1.1 77 rfl)) rfl (ly_g I49.1.1.1 77 15 93 rfl) ?_
                            refine av_wp_sqF ck_159 7 (pc' := 138) (lv' := [some (.inr (.inr (.inl (some (77))))), some (.inl l), some (.inl x), some (.inl k27), some (.inl k47)]) (st' := [.inl (((112) + ((14) * k27)) + k47), .inr (.inr (.inl (some (93))))]) (h' := h48) rfl ?_
                            obtain ⟨v62, e63⟩ : ∃ v, hA h48 93 (Int.toNat ((((112) + ((14) * k27)) + k47))) = v := ⟨_, rfl⟩
                            have g65 := cb k27 k47 (by omega) (by omega) (by omega) (by omega)
                            rw [← F50.2.2.2.2.2.2 93 rfl, e63] at g65
                            have z66 := (congrFun (F50.2.2.2.2.2.2 93 rfl) _).symm.trans e63
                            refine wq_al (p' := 139) (n := 980) (ck_159 _ _ rfl) rfl (ly_k I49.1.1.1 93 rfl) (by omega) (e63) ?_
                            refine av_wp_sqF ck_159 1 (pc' := 141) (lv' := [some (.inr (.inr (.inl (some (77))))), some (.inl l), some (.inl x), some (.inl k27), some (.inl k47)]) (st' := [.inl (-2), .inl v62]) (h' := h48) rfl ?_
                            refine wq_k2 (p' := 144) (ck_159 _ _ rfl) rfl ⟨by omega, by omega⟩ ⟨by omega, by omega⟩ (fun c67 => ?_) (fun c68 => ?_)
                            · have c67 : v62 = (-2) := c67
                              refine av_wp_sqF ck_159 2 (pc' := 108) (lv' := [some (.inr (.inr (.inl (some (77))))), some (.inl l), some (.inl x), some (.inl k27), some (.inl (k47 + (1)))]) (st' := []) (h' := h48) rfl ?_
                              exact I55 _ (by omega) ((k47 + (1))) h48 (by omega) I49 F50 (FI_n X51 (by omega) (lyf_n2 (by omega) (by omega) z66 (by omega))) Z52 rfl
                            · have c68 : v62 ≠ (-2) := c68
                              refine av_wp_sqF ck_159 1 (pc' := 145) (lv' := [some (.inr (.inr (.inl (some (77))))), some (.inl l), some (.inl x), some (.inl k27), some (.inl k47)]) (st' := [.inr (.inr (.inl (some (77))))]) (h' := h48) rfl ?_
                              refine wq_gr (p' := 148) (ck_159 _ _ rfl) rfl (congrArg Prod.fst (ly_k I49.1.1.1 77 rfl)) rfl (ly_g I49.1.1.1 77 26 95 rfl) ?_
                              refine av_wp_sqF ck_159 2 (pc' := 151) (lv' := [some (.inr (.inr (.inl (some (77))))), some (.inl l), some (.inl x), some (.inl k27), some (.inl k47)]) (st' := [.inr (.inr (.inl (some (77)))), .inl k47, .inr (.inr (.inl (some (95))))]) (h' := h48) rfl ?_
                              refine wq_gr (p' := 154) (ck_159 _ _ rfl) rfl (congrArg Prod.fst (ly_k I49.1.1.1 77 rfl)) rfl (ly_g I49.1.1.1 77 15 93 rfl) ?_
                              refine av_wp_sqF ck_159 7 (pc' := 164) (lv' := [some (.inr (.inr (.inl (some (77))))), some (.inl l), some (.inl x), some (.inl k27), some (.inl k47)]) (st' := [.inl (((112) + ((14) * k27)) + k47), .inr (.inr (.inl (some (93)))), .inl k47, .inr (.inr (.inl (some (95))))]) (h' := h48) rfl ?_
                              obtain ⟨v69, e70⟩ : ∃ v, hA h48 93 (Int.toNat ((((112) + ((14) * k27)) + k47))) = v := ⟨_, rfl⟩
                              have g72 := cb k27 k47 (by omega) (by omega) (by omega) (by omega)
                              rw [← F50.2.2.2.2.2.2 93 rfl, e70] at g72
                              have z73 := (congrFun (F50.2.2.2.2.2.2 93 rfl) _).symm.trans e70
                              refine wq_al (p' := 165) (n := 980) (ck_159 _ _ rfl) rfl (ly_k I49.1.1.1 93 rfl) (by omega) (e70) ?_
                              refine xm_as (p' := 166) (l := 13) rfl rfl I49 F50 (ly_k I49.1.1.1 95 rfl) (by omega) (by omega) (fun h74 I75 F76 e77 => ?_)
                              have Z78 := ZE_a Z52 e77 rfl
                              have E79 := hA_eu e77
                              refine av_wp_sqF ck_159 2 (pc' := 108) (lv' := [some (.inr (.inr (.inl (some (77))))), some (.inl l), some (.inl x), some (.inl k27), some (.inl (k47 + (1)))]) (st' := []) (h' := h74) rfl ?_
                              exact I55 _ (by omega) ((k47 + (1))) h74 (by omega) I75 F76 (by rw [E79]; exact FI_s X51 (by omega) (lyf_y (by omega) (by omega) c61 z66 (by omega) z73)) Z78 rfl
                    exact L54 _ ((0)) h29 (by omega) I30 F31 (FI_0 X32) Z33 rfl
              exact L35 _ ((0)) (none) h15 rfl (by omega) (by omega) I16 F17 (FI_e X18 (by omega)) Z19 rfl
            · have c26 : k14 < (13) := c26
              refine av_wp_sqF ck_159 1 (pc' := 55) (lv' := [some (.inr (.inr (.inl (some (77))))), some (.inl l), some (.inl x), some (.inl k14), none]) (st' := [.inr (.inr (.inl (some (77))))]) (h' := h15) rfl ?_
              refine wq_gr (p' := 58) (ck_159 _ _ rfl) rfl (congrArg Prod.fst (ly_k I16.1.1.1 77 rfl)) rfl (ly_g I16.1.1.1 77 15 93 rfl) ?_
              refine av_wp_sqF ck_159 5 (pc' := 64) (lv' := [some (.inr (.inr (.inl (some (77))))), some (.inl l), some (.inl x), some (.inl k14), none]) (st' := [.inl (((14) * l) + k14), .inr (.inr (.inl (some (93))))]) (h' := h15) rfl ?_
              obtain ⟨v80, e81⟩ : ∃ v, hA h15 93 (Int.toNat ((((14) * l) + k14))) = v := ⟨_, rfl⟩
              have g83 := rb k14 (by omega) (by omega)
              rw [← F17.2.2.2.2.2.2 93 rfl, e81] at g83
              have z84 := (congrFun (F17.2.2.2.2.2.2 93 rfl) _).symm.trans e81
              refine wq_al (p' := 65) (n := 980) (ck_159 _ _ rfl) rfl (ly_k I16.1.1.1 93 rfl) (by omega) (e81) ?_
              refine av_wp_sqF ck_159 1 (pc' := 67) (lv' := [some (.inr (.inr (.inl (some (77))))), some (.inl l), some (.inl x), some (.inl k14), none]) (st' := [.inl (-2), .inl v80]) (h' := h15) rfl ?_
              refine wq_k2 (p' := 70) (ck_159 _ _ rfl) rfl ⟨by omega, by omega⟩ ⟨by omega, by omega⟩ (fun c85 => ?_) (fun c86 => ?_)
              · have c85 : v80 = (-2) := c85
                refine av_wp_sqF ck_159 2 (pc' := 48) (lv' := [some (.inr (.inr (.inl (some (77))))), some (.inl l), some (.inl x), some (.inl (k14 + (1))), none]) (st' := []) (h' := h15) rfl ?_
                exact I22 _ (by omega) ((k14 + (1))) h15 (by omega) I16 F17 (FI_n X18 (by omega) (lyb_p (by omega) z84 (by omega))) Z19 rfl
              · have c86 : v80 ≠ (-2) := c86
                refine av_wp_sqF ck_159 1 (pc' := 71) (lv' := [some (.inr (.inr (.inl (some (77))))), some (.inl l), some (.inl x), some (.inl k14), none]) (st' := [.inr (.inr (.inl (some (77))))]) (h' := h15) rfl ?_
                refine wq_gr (p' := 74) (ck_159 _ _ rfl) rfl (congrArg Prod.fst (ly_k I16.1.1.1 77 rfl)) rfl (ly_g I16.1.1.1 77 26 95 rfl) ?_
                refine av_wp_sqF ck_159 2 (pc' := 76) (lv' := [some (.inr (.inr (.inl (some (77))))), some (.inl l), some (.inl x), some (.inl k14), none]) (st' := [.inr (.inr (.inl (some (77)))), .inl k14, .inr (.inr (.inl (some (95))))]) (h' := h15) rfl ?_
                refine wq_gr (p' := 79) (ck_159 _ _ rfl) rfl (congrArg Prod.fst (ly_k I16.1.1.1 77 rfl)) rfl (ly_g I16.1.1.1 77 15 93 rfl) ?_
                refine av_wp_sqF ck_159 5 (pc' := 85) (lv' := [some (.inr (.inr (.inl (some (77))))), some (.inl l), some (.inl x), some (.inl k14), none]) (st' := [.inl (((14) * l) + k14), .inr (.inr (.inl (some (93)))), .inl k14, .inr (.inr (.inl (some (95))))]) (h' := h15) rfl ?_
                obtain ⟨v87, e88⟩ : ∃ v, hA h15 93 (Int.toNat ((((14) * l) + k14))) = v := ⟨_, rfl⟩
                have g90 := rb k14 (by omega) (by omega)
                rw [← F17.2.2.2.2.2.2 93 rfl, e88] at g90
                have z91 := (congrFun (F17.2.2.2.2.2.2 93 rfl) _).symm.trans e88
                refine wq_al (p' := 86) (n := 980) (ck_159 _ _ rfl) rfl (ly_k I16.1.1.1 93 rfl) (by omega) (e88) ?_
                refine xm_as (p' := 87) (l := 13) rfl rfl I16 F17 (ly_k I16.1.1.1 95 rfl) (by omega) (by omega) (fun h92 I93 F94 e95 => ?_)
                have Z96 := ZE_a Z19 e95 rfl
                have E97 := hA_eu e95
                refine av_wp_sqF ck_159 2 (pc' := 48) (lv' := [some (.inr (.inr (.inl (some (77))))), some (.inl l), some (.inl x), some (.inl (k14 + (1))), none]) (st' := []) (h' := h92) rfl ?_
                exact I22 _ (by omega) ((k14 + (1))) h92 (by omega) I93 F94 (by rw [E97]; exact FI_s X18 (by omega) (lyb_n (by omega) z84 (by omega) z91)) Z96 rfl
        exact L21 _ ((0)) h2 (by omega) I3 F4 (FI_0 (FI_e X5 (by omega))) Z6 rfl
      · have c13 : k1 < (13) := c13
        refine av_wp_sqF ck_159 1 (pc' := 9) (lv' := [some (.inr (.inr (.inl (some (77))))), some (.inl l), some (.inl x), some (.inl k1), none]) (st' := [.inr (.inr (.inl (some (77))))]) (h' := h2) rfl ?_
        refine wq_gr (p' := 12) (ck_159 _ _ rfl) rfl (congrArg Prod.fst (ly_k I3.1.1.1 77 rfl)) rfl (ly_g I3.1.1.1 77 26 95 rfl) ?_
        refine av_wp_sqF ck_159 3 (pc' := 16) (lv' := [some (.inr (.inr (.inl (some (77))))), some (.inl l), some (.inl x), some (.inl k1), none]) (st' := [.inl (6), .inl k1, .inl k1, .inr (.inr (.inl (some (95))))]) (h' := h2) rfl ?_
        refine wq_k2 (p' := 19) (ck_159 _ _ rfl) rfl ⟨by omega, by omega⟩ ⟨by omega, by omega⟩ (fun c98 => ?_) (fun c99 => ?_)
        · have c98 : (6) ≤ k1 := c98
          refine av_wp_sqF ck_159 3 (pc' := 28) (lv' := [some (.inr (.inr (.inl (some (77))))), some (.inl l), some (.inl x), some (.inl k1), none]) (st' := [.inl (8), .inl (7), .inl k1, .inl k1, .inr (.inr (.inl (some (95))))]) (h' := h2) rfl ?_
          refine wq_cs (p' := 31) (av_qc (.invokestatic 176) 127 3 2 8) 3 cd_127 [.inl k1, .inl (7), .inl (8)] [.inl (8), .inl (7), .inl k1, .inl k1, .inr (.inr (.inl (some (95))))] [some (.inl k1), some (.inl (7)), some (.inl (8))] (ck_159 _ _ rfl) rfl rfl pp_127 (fun _ => rfl) rfl rfl ?_
          refine ct_127 (g := h) (k1) (by omega) ((7)) (by omega) ((8)) (by omega) (fun v100 p101 => ?_)
          show av_wp _ cd_159 31 [some (.inr (.inr (.inl (some (77))))), some (.inl l), some (.inl x), some (.inl k1), none] [.inl v100, .inl k1, .inr (.inr (.inl (some (95))))] h2 _
          refine wq_k1 (p' := 34) (ck_159 _ _ rfl) rfl ⟨by omega, by omega⟩ (fun c102 => ?_) (fun c103 => ?_)
          · have c102 : v100 = (0) := c102
            refine av_wp_sqF ck_159 1 (pc' := 39) (lv' := [some (.inr (.inr (.inl (some (77))))), some (.inl l), some (.inl x), some (.inl k1), none]) (st' := [.inl (0), .inl k1, .inr (.inr (.inl (some (95))))]) (h' := h2) rfl ?_
            refine xm_as (p' := 40) (l := 13) rfl rfl I3 F4 (ly_k I3.1.1.1 95 rfl) (by omega) (by omega) (fun h104 I105 F106 e107 => ?_)
            have Z108 := ZE_a Z6 e107 rfl
            have E109 := hA_eu e107
            refine av_wp_sqF ck_159 2 (pc' := 2) (lv' := [some (.inr (.inr (.inl (some (77))))), some (.inl l), some (.inl x), some (.inl (k1 + (1))), none]) (st' := []) (h' := h104) rfl ?_
            exact I9 _ (by omega) ((k1 + (1))) h104 (by omega) I105 F106 (by rw [E109]; exact FI_s X5 (by omega) (by rw [plv (by omega)]; (repeat' split) <;> omega)) Z108 rfl
          · have c103 : v100 ≠ (0) := c103
            refine av_wp_sqF ck_159 2 (pc' := 39) (lv' := [some (.inr (.inr (.inl (some (77))))), some (.inl l), some (.inl x), some (.inl k1), none]) (st' := [.inl (-1), .inl k1, .inr (.inr (.inl (some (95))))]) (h' := h2) rfl ?_
            refine xm_as (p' := 40) (l := 13) rfl rfl I3 F4 (ly_k I3.1.1.1 95 rfl) (by omega) (by omega) (fun h110 I111 F112 e113 => ?_)
            have Z114 := ZE_a Z6 e113 rfl
            have E115 := hA_eu e113
            refine av_wp_sqF ck_159 2 (pc' := 2) (lv' := [some (.inr (.inr (.inl (some (77))))), some (.inl l), some (.inl x), some (.inl (k1 + (1))), none]) (st' := []) (h' := h110) rfl ?_
            exact I9 _ (by omega) ((k1 + (1))) h110 (by omega) I111 F112 (by rw [E115]; exact FI_s X5 (by omega) (by rw [plv (by omega)]; (repeat' split) <;> omega)) Z114 rfl
        · have c99 : k1 < (6) := c99
          refine av_wp_sqF ck_159 2 (pc' := 39) (lv' := [some (.inr (.inr (.inl (some (77))))), some (.inl l), some (.inl x), some (.inl k1), none]) (st' := [.inl (1), .inl k1, .inr (.inr (.inl (some (95))))]) (h' := h2) rfl ?_
          refine xm_as (p' := 40) (l := 13) rfl rfl I3 F4 (ly_k I3.1.1.1 95 rfl) (by omega) (by omega) (fun h116 I117 F118 e119 => ?_)
          have Z120 := ZE_a Z6 e119 rfl
          have E121 := hA_eu e119
          refine av_wp_sqF ck_159 2 (pc' := 2) (lv' := [some (.inr (.inr (.inl (some (77))))), some (.inl l), some (.inl x), some (.inl (k1 + (1))), none]) (st' := []) (h' := h116) rfl ?_
          exact I9 _ (by omega) ((k1 + (1))) h116 (by omega) I117 F118 (by rw [E121]; exact FI_s X5 (by omega) (by rw [plv (by omega)]; (repeat' split) <;> omega)) Z120 rfl
  exact L8 _ ((0)) h (by omega) I F (FI_0 (fun j _ => rfl)) Z rfl

set_option maxRecDepth 100000 in
set_option maxHeartbeats 4000000 in
theorem cx_160 {g h : av_H} {n a m : Int} (I : IMF n a m h) (F : FM g h) (l : Int) (ql : -2147483648 ≤ l ∧ l ≤ 2147483647) (w : Int) (qw : -2147483648 ≤ w ∧ w ≤ 2147483647) (rb : ∀ l j : Int, 0 ≤ l → l < hA h 79 0 → 0 ≤ j → j < 13 → -2 ≤ hA h 93 (Int.toNat (14 * l + j)) ∧ hA h 93 (Int.toNat (14 * l + j)) ≤ 999) (cb : ∀ c j : Int, 0 ≤ c → c < hA h 80 0 → 0 ≤ j → j < 13 → -2 ≤ hA h 93 (Int.toNat (112 + 14 * c + j)) ∧ hA h 93 (Int.toNat (112 + 14 * c + j)) ≤ 999) {Q : Option av_V → av_H → Prop} (hq0 : (l < 0 ∨ hA h 79 0 ≤ l ∨ w < 0 ∨ 13 < w) → Q (some (.inl (-2))) h) (hq1 : ∀ v : Int, 0 ≤ l → l < hA h 79 0 → w = 13 → v = hA h 93 (Int.toNat (14 * l + 13)) → Q (some (.inl v)) h) (hq2 : ∀ (v : Int) h', 0 ≤ l → l < hA h 79 0 → 0 ≤ w → w < 13 → v = lyb (hA h 93) l (Int.toNat w) → IMF n a m h' → FM g h' → Q (some (.inl v)) h') : av_wp none cd_160 0 [some (.inr (.inr (.inl (some (77))))), some (.inl l), some (.inl w)] [] h Q := by
  have gn := im_n I.1.1
  rw [I.2.1] at gn
  have ga := im_a I.1.1
  rw [I.2.2.1] at ga
  have gm := im_cm I.1.1
  rw [I.2.2.2] at gm
  have y80 := I.1.1.2.1.2.2.2.1
  refine av_wp_sqF ck_160 2 (pc' := 2) (lv' := [some (.inr (.inr (.inl (some (77))))), some (.inl l), some (.inl w)]) (st' := [.inl l, .inr (.inr (.inl (some (77))))]) (h' := h) rfl ?_
  refine wq_cv (p' := 5) (av_qc (.invokevirtual 345) 150 1 0 8) 2 cd_150 [.inl l] (77) 8 [some (.inr (.inr (.inl (some (77))))), some (.inl l)] (ck_160 _ _ rfl) rfl rfl pp_150 rfl rfl rfl (congrArg Prod.fst (ly_k I.1.1.1 77 rfl)) rfl rfl rfl rfl ?_
  refine cx_150 I.1 (l) (by omega) (fun v1 p2 => ?_)
  have g3 := I.1.1.2.1.2.2.1
  show av_wp _ cd_160 5 [some (.inr (.inr (.inl (some (77))))), some (.inl l), some (.inl w)] [.inl v1] h _
  refine wq_k1 (p' := 8) (ck_160 _ _ rfl) rfl ⟨by omega, by omega⟩ (fun c4 => ?_) (fun c5 => ?_)
  · have c4 : v1 = (0) := c4
    refine av_wp_sqF ck_160 1 (pc' := 20) (lv' := [some (.inr (.inr (.inl (some (77))))), some (.inl l), some (.inl w)]) (st' := [.inl (-2)]) (h' := h) rfl ?_
    refine av_wp_ret (v := some (.inl (-2))) (ck_160 _ _ rfl) rfl rfl ?_
    exact hq0 (by omega)
  · have c5 : v1 ≠ (0) := c5
    refine av_wp_sqF ck_160 3 (pc' := 12) (lv' := [some (.inr (.inr (.inl (some (77))))), some (.inl l), some (.inl w)]) (st' := [.inl (13), .inl (0), .inl w]) (h' := h) rfl ?_
    refine wq_cs (p' := 15) (av_qc (.invokestatic 176) 127 3 2 8) 3 cd_127 [.inl w, .inl (0), .inl (13)] [.inl (13), .inl (0), .inl w] [some (.inl w), some (.inl (0)), some (.inl (13))] (ck_160 _ _ rfl) rfl rfl pp_127 (fun _ => rfl) rfl rfl ?_
    refine ct_127 (g := h) (w) (by omega) ((0)) (by omega) ((13)) (by omega) (fun v6 p7 => ?_)
    show av_wp _ cd_160 15 [some (.inr (.inr (.inl (some (77))))), some (.inl l), some (.inl w)] [.inl v6] h _
    refine wq_k1 (p' := 18) (ck_160 _ _ rfl) rfl ⟨by omega, by omega⟩ (fun c8 => ?_) (fun c9 => ?_)
    · have c8 : v6 ≠ (0) := c8
      refine av_wp_sqF ck_160 2 (pc' := 24) (lv' := [some (.inr (.inr (.inl (some (77))))), some (.inl l), some (.inl w)]) (st' := [.inl (13), .inl w]) (h' := h) rfl ?_
      refine wq_k2 (p' := 27) (ck_160 _ _ rfl) rfl ⟨by omega, by omega⟩ ⟨by omega, by omega⟩ (fun c10 => ?_) (fun c11 => ?_)
      · have c10 : w ≠ (13) := c10
        refine av_wp_sqF ck_160 3 (pc' := 43) (lv' := [some (.inr (.inr (.inl (some (77))))), some (.inl l), some (.inl w)]) (st' := [.inl (0), .inl l, .inr (.inr (.inl (some (77))))]) (h' := h) rfl ?_
        refine wq_cv (p' := 46) (av_qc (.invokevirtual 348) 159 2 0 8) 5 cd_159 [.inl (0), .inl l] (77) 8 [some (.inr (.inr (.inl (some (77))))), some (.inl l), some (.inl (0)), none, none] (ck_160 _ _ rfl) rfl rfl pp_159 rfl rfl rfl (congrArg Prod.fst (ly_k I.1.1.1 77 rfl)) rfl rfl rfl rfl ?_
        refine cx_159 I (FM_rf h) (l) (by omega) ((0)) (fun j z1 z2 => rb _ j (by omega) (by omega) z1 z2) (fun c j z1 z2 z3 z4 => cb c j z1 z2 z3 z4) (fun h12 I13 F14 X15 Z16 => ?_)
        have F17 := FM_tr F F14
        show av_wp _ cd_160 46 [some (.inr (.inr (.inl (some (77))))), some (.inl l), some (.inl w)] [] h12 _
        refine av_wp_sqF ck_160 1 (pc' := 47) (lv' := [some (.inr (.inr (.inl (some (77))))), some (.inl l), some (.inl w)]) (st' := [.inr (.inr (.inl (some (77))))]) (h' := h12) rfl ?_
        refine wq_gr (p' := 50) (ck_160 _ _ rfl) rfl (congrArg Prod.fst (ly_k I13.1.1.1 77 rfl)) rfl (ly_g I13.1.1.1 77 26 95 rfl) ?_
        refine av_wp_sqF ck_160 1 (pc' := 51) (lv' := [some (.inr (.inr (.inl (some (77))))), some (.inl l), some (.inl w)]) (st' := [.inl w, .inr (.inr (.inl (some (95))))]) (h' := h12) rfl ?_
        obtain ⟨v18, e19⟩ : ∃ v, hA h12 95 (Int.toNat (w)) = v := ⟨_, rfl⟩
        refine wq_al (p' := 52) (n := 13) (ck_160 _ _ rfl) rfl (ly_k I13.1.1.1 95 rfl) (by omega) (e19) ?_
        refine av_wp_ret (v := some (.inl v18)) (ck_160 _ _ rfl) rfl rfl ?_
        exact hq2 _ h12 (by omega) (by omega) (by omega) (by omega) (by rw [← e19, X15 _ (by omega)]; exact lyf_z _ _ (by omega)) I13 F17
      · have c11 : w = (13) := c11
        refine av_wp_sqF ck_160 1 (pc' := 28) (lv' := [some (.inr (.inr (.inl (some (77))))), some (.inl l), some (.inl w)]) (st' := [.inr (.inr (.inl (some (77))))]) (h' := h) rfl ?_
        refine wq_gr (p' := 31) (ck_160 _ _ rfl) rfl (congrArg Prod.fst (ly_k I.1.1.1 77 rfl)) rfl (ly_g I.1.1.1 77 15 93 rfl) ?_
        refine av_wp_sqF ck_160 5 (pc' := 38) (lv' := [some (.inr (.inr (.inl (some (77))))), some (.inl l), some (.inl w)]) (st' := [.inl (((14) * l) + (13)), .inr (.inr (.inl (some (93))))]) (h' := h) rfl ?_
        obtain ⟨v21, e22⟩ : ∃ v, hA h 93 (Int.toNat ((((14) * l) + (13)))) = v := ⟨_, rfl⟩
        refine wq_al (p' := 39) (n := 980) (ck_160 _ _ rfl) rfl (ly_k I.1.1.1 93 rfl) (by omega) (e22) ?_
        refine av_wp_ret (v := some (.inl v21)) (ck_160 _ _ rfl) rfl rfl ?_
        exact hq1 _ (by omega) (by omega) (by omega) e22.symm
    · have c9 : v6 = (0) := c9
      refine av_wp_sqF ck_160 1 (pc' := 20) (lv' := [some (.inr (.inr (.inl (some (77))))), some (.inl l), some (.inl w)]) (st' := [.inl (-2)]) (h' := h) rfl ?_
      refine av_wp_ret (v := some (.inl (-2))) (ck_160 _ _ rfl) rfl rfl ?_
      exact hq0 (by omega)
end
