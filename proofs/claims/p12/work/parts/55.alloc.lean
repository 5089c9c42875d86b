/-! WHAT IS MADE NEW: rows, cases -/
section
variable {sc : av_Sr} {cd : List (Nat × av_E)} {Q : Option av_V → av_H → Prop} {pc p' : Nat} {lv : av_L} {r : List av_V} {h : av_H}
theorem wq_cl {ins : Instr} {o n : Nat} (hx : cd.lookup pc = some (av_qa ins 1004)) (hp : pc + 3 = p') (hkd : av_kd (av_qa ins 1004) = 0) (hs : ∀ lv st, av_stp sc (av_qa ins 1004) pc lv st h = av_lib 1004 pc lv st h) (hr : Nat.ble (r.map av_cat).sum 8 = true) (hk : hK h o = (20, n)) (hw : av_wp sc cd p' lv (.inr (.inr (.inl (some h.1))) :: r) (av_newN 20 n (hA h o) h) Q) : av_wp sc cd pc lv (.inr (.inr (.inl (some o))) :: r) h Q := by
  intro hg
  subst hp
  refine av_wp_st1 hx (pc' := pc + 3) (lv' := lv) (st' := .inr (.inr (.inl (some h.1))) :: r) (h' := av_newN 20 n (hA h o) h) hkd ?_ hw hg
  rw [hs]
  have k1 : (h.2.2.1 o).1 = 20 := by rw [show h.2.2.1 o = (20, n) from hk]
  have k2 : (h.2.2.1 o).2 = n := by rw [show h.2.2.1 o = (20, n) from hk]
  simp only [av_lib]
  rw [k2, if_pos ⟨Nat.le_of_ble_eq_true hr, av_ltN hg k1 rfl, k1⟩]
theorem wq_ck {idx o n : Nat} (hx : cd.lookup pc = some (av_q (.checkcast idx))) (hp : pc + 3 = p') (hk : hK h o = (20, n)) (hw : av_wp sc cd p' lv (.inr (.inr (.inl (some o))) :: r) h Q) : av_wp sc cd pc lv (.inr (.inr (.inl (some o))) :: r) h Q := by
  intro hg
  subst hp
  refine av_wp_st1 hx (pc' := pc + 3) (lv' := lv) (st' := .inr (.inr (.inl (some o))) :: r) (h' := h) rfl ?_ hw hg
  have k1 : (h.2.2.1 o).1 = 20 := by rw [show h.2.2.1 o = (20, n) from hk]
  show (if o < h.1 ∧ (h.2.2.1 o).1 = 20 then some (pc + 3, lv, .inr (.inr (.inl (some o))) :: r, h) else none) = _
  rw [if_pos ⟨av_ltN hg k1 rfl, k1⟩]
theorem wq_na {m : Nat} {x : Int} (hx : cd.lookup pc = some (av_q (.newarray .int))) (hp : pc + 2 = p') (ex : x = (m : Int)) (hm : m ≤ 100000) (hw : av_wp sc cd p' lv (.inr (.inr (.inl (some h.1))) :: r) (av_newN 20 m (fun _ => 0) h) Q) : av_wp sc cd pc lv (.inl x :: r) h Q := by
  subst hp
  subst ex
  refine av_wp_st1 hx (pc' := pc + 2) (lv' := lv) (st' := .inr (.inr (.inl (some h.1))) :: r) (h' := av_newN 20 m (fun _ => 0) h) rfl ?_ hw
  show av_newa .int pc lv (.inl (m : Int) :: r) h = _
  simp only [av_newa]
  rw [av_rgw (x := (m : Int)) ⟨by omega, by omega⟩, if_pos ⟨by decide, by omega, by omega⟩]
  rfl
end
theorem newN_k {k n : Nat} {f : Nat → Int} {h : av_H} : hK (av_newN k n f h) h.1 = (k, n) := if_pos rfl
theorem newN_ko {k n q : Nat} {f : Nat → Int} {h : av_H} (e : q ≠ h.1) : hK (av_newN k n f h) q = hK h q := if_neg e
theorem newN_a {k n : Nat} {f : Nat → Int} {h : av_H} : hA (av_newN k n f h) h.1 = f := if_pos rfl
theorem newN_ao {k n q : Nat} {f : Nat → Int} {h : av_H} (e : q ≠ h.1) : hA (av_newN k n f h) q = hA h q := if_neg e
set_option maxRecDepth 100000 in
set_option maxHeartbeats 4000000 in
theorem ct_222 {h : av_H} {a n m : Nat} (ha : a ≠ h.1) (hk : hK h a = (20, n)) (hm : m ≤ n) (hn : n ≤ 100000) (x : Int) (ex : x = (m : Int)) {Q : Option av_V → av_H → Prop} (hq : ∀ f : Nat → Int, (∀ j, j < m → f j = hA h a j) → (∀ j, m ≤ j → f j = 0 ∨ (m = n ∧ f j = hA h a j)) → Q (some (.inr (.inr (.inl (some h.1))))) (av_newN 20 m f h)) : av_wp none cd_222 0 [some (.inr (.inr (.inl (some a)))), some (.inl x), none] [] h Q := by
  subst ex
  refine av_wp_seq 2 (pc' := 2) (lv' := [some (.inr (.inr (.inl (some a)))), some (.inl (m : Int)), none]) (st' := [.inr (.inr (.inl (some a))), .inl (m : Int)]) (h' := h) rfl ?_
  refine wq_ln (p' := 3) rfl rfl hk (by simp) ?_
  refine wq_k2 (p' := 6) rfl rfl ⟨by omega, by omega⟩ ⟨by omega, by omega⟩ (fun c1 => ?_) (fun c2 => ?_)
  · have c1 : (m : Int) ≠ (n : Int) := c1
    refine av_wp_seq 1 (pc' := 15) (lv' := [some (.inr (.inr (.inl (some a)))), some (.inl (m : Int)), none]) (st' := [.inl (m : Int)]) (h' := h) rfl ?_
    refine wq_na (p' := 17) (m := m) rfl rfl rfl (by omega) ?_
    have ka : hK (av_newN 20 m (fun _ => 0) h) a = (20, n) := (newN_ko ha).trans hk
    have aa : hA (av_newN 20 m (fun _ => 0) h) a = hA h a := newN_ao ha
    have kc : hK (av_newN 20 m (fun _ => 0) h) h.1 = (20, m) := newN_k
    refine av_wp_seq 6 (pc' := 23) (lv' := [some (.inr (.inr (.inl (some a)))), some (.inl (m : Int)), some (.inr (.inr (.inl (some h.1))))]) (st' := [.inr (.inr (.inl (some a))), .inl (0), .inr (.inr (.inl (some h.1))), .inl (0), .inr (.inr (.inl (some a)))]) (h' := av_newN 20 m (fun _ => 0) h) rfl ?_
    refine wq_ln (p' := 24) rfl rfl ka (by simp) ?_
    refine av_wp_seq 1 (pc' := 25) (lv' := [some (.inr (.inr (.inl (some a)))), some (.inl (m : Int)), some (.inr (.inr (.inl (some h.1))))]) (st' := [.inl (m : Int), .inl (n : Int), .inl (0), .inr (.inr (.inl (some h.1))), .inl (0), .inr (.inr (.inl (some a)))]) (h' := av_newN 20 m (fun _ => 0) h) rfl ?_
    refine wq_mne (p' := 28) rfl rfl rfl (fun _ _ => rfl) rfl ⟨by omega, by omega⟩ ⟨by omega, by omega⟩ ?_
    rw [if_pos (show (m : Int) < (n : Int) by omega)]
    refine wq_ac (p' := 31) rfl rfl rfl (fun _ _ => rfl) rfl kc ka (by omega) (by omega) (by omega) (by omega) ?_
    rw [aa]
    refine av_wp_seq 1 (pc' := 32) (lv' := [some (.inr (.inr (.inl (some a)))), some (.inl (m : Int)), some (.inr (.inr (.inl (some h.1))))]) (st' := [.inr (.inr (.inl (some h.1)))]) (h' := hcp (av_newN 20 m (fun _ => 0) h) h.1 (0 : Int).toNat (0 : Int).toNat (m : Int).toNat (hA h a)) rfl ?_
    refine av_wp_ret (v := some (.inr (.inr (.inl (some h.1))))) rfl rfl rfl ?_
    have e : hcp (av_newN 20 m (fun _ => 0) h) h.1 (0 : Int).toNat (0 : Int).toNat (m : Int).toNat (hA h a) = av_newN 20 m (fun j => if j < m then hA h a j else 0) h := by
      unfold hcp av_newN
      have e1 : av_cpy (av_u1 h.2.2.2.1 h.1 (fun _ => 0)) h.1 (0 : Int).toNat (0 : Int).toNat (m : Int).toNat (hA h a) = av_u1 h.2.2.2.1 h.1 (fun j => if j < m then hA h a j else 0) := by
        funext q j
        unfold av_cpy av_u1
        by_cases e2 : q = h.1
        · rw [if_pos e2, if_pos e2]
          by_cases e3 : j < m
          · rw [if_pos ⟨e2, by omega, by omega⟩, if_pos e3]
            show hA h a (0 + (j - 0)) = _
            rw [show 0 + (j - 0) = j by omega]
          · rw [if_neg (fun z => by have := z.2.2; omega), if_neg e3]
        · rw [if_neg (fun z => e2 z.1), if_neg e2, if_neg e2]
      exact congrArg (fun A => ((h.1 + 1, h.2.1 + m, av_u1 h.2.2.1 h.1 (20, m), A, h.2.2.2.2) : av_H)) e1
    rw [e]
    exact hq _ (fun j hj => if_pos hj) (fun j hj => Or.inl (if_neg (by omega)))
  · have c2 : (m : Int) = (n : Int) := c2
    have c2 : m = n := by omega
    subst c2
    refine av_wp_seq 1 (pc' := 7) (lv' := [some (.inr (.inr (.inl (some a)))), some (.inl (m : Int)), none]) (st' := [.inr (.inr (.inl (some a)))]) (h' := h) rfl ?_
    refine wq_cl (p' := 10) rfl rfl rfl (fun _ _ => rfl) rfl hk ?_
    refine wq_ck (p' := 13) rfl rfl newN_k ?_
    refine av_wp_ret (v := some (.inr (.inr (.inl (some h.1))))) rfl rfl rfl ?_
    exact hq _ (fun j _ => rfl) (fun j _ => Or.inr ⟨rfl, rfl⟩)
/-! a case in the making: over the heap g that has its object t already -/
def NC (g : av_H) (t s : Nat) (f : Nat → Int) (x1 x3 : Int) (h : av_H) : Prop := h.1 = g.1 + 1 ∧ h.2.1 = g.2.1 + 21 * s ∧ hK h = av_u1 (hK g) g.1 (20, 21 * s) ∧ hA h = av_u1 (hA g) g.1 f ∧ hR h = hR g ∧ hG h = av_u2 (hG g) t 0 (some g.1) ∧ (∀ q k, q ≠ t → hF h q k = hF g q k) ∧ hF h t 1 = x1 ∧ hF h t 3 = x3 ∧ hK g t = (1, 0) ∧ t ≠ g.1
section
variable {g h : av_H} {t s : Nat} {f : Nat → Int} {x1 x3 : Int}
theorem nc_kt (N : NC g t s f x1 x3 h) : hK h t = (1, 0) := by
  rw [N.2.2.1]
  exact (if_neg N.2.2.2.2.2.2.2.2.2.2).trans N.2.2.2.2.2.2.2.2.2.1
theorem nc_kc (N : NC g t s f x1 x3 h) : hK h g.1 = (20, 21 * s) := by
  rw [N.2.2.1]
  exact if_pos rfl
theorem nc_g (N : NC g t s f x1 x3 h) : hG h t 0 = some g.1 := by
  rw [N.2.2.2.2.2.1]
  exact av_u2_self
theorem nc_a (N : NC g t s f x1 x3 h) : hA h g.1 = f := by
  rw [N.2.2.2.1]
  exact if_pos rfl
theorem nc_wA {j : Nat} {v : Int} (N : NC g t s f x1 x3 h) : NC g t s (av_u1 f j v) x1 x3 (hwA h g.1 j v) := by
  obtain ⟨n1, n2, n3, n4, n5, n6, n7⟩ := N
  refine ⟨n1, n2, n3, ?_, n5, n6, n7⟩
  funext q k
  show av_u2 h.2.2.2.1 g.1 j v q k = av_u1 (hA g) g.1 (av_u1 f j v) q k
  have e : h.2.2.2.1 = av_u1 (hA g) g.1 f := n4
  rw [e]
  unfold av_u2 av_u1
  by_cases e1 : q = g.1
  · by_cases e2 : k = j
    · rw [if_pos ⟨e1, e2⟩, if_pos e1, if_pos e2]
    · rw [if_neg (fun z => e2 z.2), if_pos e1, if_pos e1, if_neg e2]
  · rw [if_neg (fun z => e1 z.1), if_neg e1, if_neg e1]
theorem nc_wF {k : Nat} {v : Int} (N : NC g t s f x1 x3 h) : NC g t s f (if k = 1 then v else x1) (if k = 3 then v else x3) (hwF h t k v) := by
  obtain ⟨n1, n2, n3, n4, n5, n6, n7, n8, n9, n10⟩ := N
  refine ⟨n1, n2, n3, n4, n5, n6, fun q j hq => ?_, ?_, ?_, n10⟩
  · show av_u2 h.2.2.2.2.1 t k v q j = _
    rw [av_u2_ne hq]
    exact n7 q j hq
  · by_cases e : k = 1
    · subst e; rw [if_pos rfl]; exact hF_self
    · rw [if_neg e]; exact (hF_oth (Ne.symm e)).trans n8
  · by_cases e : k = 3
    · subst e; rw [if_pos rfl]; exact hF_self
    · rw [if_neg e]; exact (hF_oth (Ne.symm e)).trans n9
end
/-- by how many a saying may be, a case's combos -/
def mx1 (x : Int) : Int := if x < 1 then 1 else x
def tnv (f : Nat → Int) (k : Nat) : Int := 1 * mx1 (f (21 * k + 15)) * mx1 (f (21 * k + 16)) * mx1 (f (21 * k + 17)) * mx1 (f (21 * k + 18))
def cbf (f : Nat → Int) : Nat → Int
  | 0 => 1
  | k + 1 => mn2 (cbf f k * tnv f k) 1025
def cbv (f : Nat → Int) (s : Nat) : Int := if 1024 < cbf f s then -1 else cbf f s
/-- the cells with the first k sayings' turns set -/
def ctn (f : Nat → Int) (k : Nat) : Nat → Int := fun j => if j % 21 = 20 ∧ j < 21 * k then tnv f (j / 21) else f j
theorem mx1_b {x : Int} (h : x ≤ 16) : 1 ≤ mx1 x ∧ mx1 x ≤ 16 := by
  unfold mx1
  split <;> omega
theorem mul_b {x y a c : Int} (hx : 1 ≤ x ∧ x ≤ a) (hy : 1 ≤ y ∧ y ≤ c) : 1 ≤ x * y ∧ x * y ≤ a * c := by
  have h1 : 1 * 1 ≤ x * y := Int.mul_le_mul hx.1 hy.1 (by omega) (by omega)
  have h2 : x * y ≤ a * c := Int.mul_le_mul hx.2 hy.2 (by omega) (by omega)
  omega
theorem tnv_b {f : Nat → Int} {k : Nat} (h : ∀ o, 15 ≤ o → o < 19 → f (21 * k + o) ≤ 16) : 1 ≤ tnv f k ∧ tnv f k ≤ 65536 := by
  unfold tnv
  have h0 := mx1_b (h 15 (by omega) (by omega))
  have h1 := mx1_b (h 16 (by omega) (by omega))
  have h2 := mx1_b (h 17 (by omega) (by omega))
  have h3 := mx1_b (h 18 (by omega) (by omega))
  have a1 := mul_b (x := 1) (a := 1) (by omega) h0
  have a2 := mul_b a1 h1
  have a3 := mul_b a2 h2
  have a4 := mul_b a3 h3
  omega
theorem cbf_b {f : Nat → Int} : ∀ k : Nat, (∀ q, q < k → ∀ o, 15 ≤ o → o < 19 → f (21 * q + o) ≤ 16) → 1 ≤ cbf f k ∧ cbf f k ≤ 1025 := by
  intro k
  induction k with
  | zero => intro _; show (1 : Int) ≤ 1 ∧ (1 : Int) ≤ 1025; omega
  | succ k ih =>
    intro h
    have i1 := ih (fun q hq => h q (by omega))
    have i2 := mul_b i1 (tnv_b (h k (by omega)))
    show 1 ≤ mn2 (cbf f k * tnv f k) 1025 ∧ mn2 (cbf f k * tnv f k) 1025 ≤ 1025
    unfold mn2
    split <;> omega
theorem cbv_b {f : Nat → Int} {s : Nat} (h : ∀ q, q < s → ∀ o, 15 ≤ o → o < 19 → f (21 * q + o) ≤ 16) : -1 ≤ cbv f s ∧ cbv f s ≤ 1024 := by
  have := cbf_b s h
  unfold cbv
  split <;> omega
theorem ctn_s {f : Nat → Int} {k : Nat} : av_u1 (ctn f k) (21 * k + 20) (tnv f k) = ctn f (k + 1) := by
  funext j
  unfold av_u1 ctn
  by_cases e : j = 21 * k + 20
  · rw [if_pos e, if_pos (by omega), show j / 21 = k by omega]
  · rw [if_neg e]
    by_cases c : j % 21 = 20 ∧ j < 21 * k
    · rw [if_pos c, if_pos (by omega)]
    · rw [if_neg c, if_neg (by omega)]
theorem ctn_o {f : Nat → Int} {k j : Nat} (h : j % 21 ≠ 20) : ctn f k j = f j := if_neg (fun z => h z.1)
theorem ctn_0 {f : Nat → Int} : ctn f 0 = f := by
  funext j
  exact if_neg (by omega)
