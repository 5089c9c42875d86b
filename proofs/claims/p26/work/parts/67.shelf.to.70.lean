section
/-! A NEW SHELF -/
section
variable {sc : av_Sr} {cd : List (Nat × av_E)} {Q : Option av_V → av_H → Prop} {pc p' : Nat} {lv : av_L} {r : List av_V} {h : av_H}
theorem wq_nr {ins : Instr} {k m : Nat} {x : Int} (hx : cd.lookup pc = some (av_qa ins k)) (hp : pc + 3 = p') (hkd : av_kd (av_qa ins k) = 0) (hs : ∀ st, av_stp sc (av_qa ins k) pc lv st h = av_anew k pc lv st h) (hk : k = 30 ∨ k = 31) (ex : x = (m : Int)) (hm : m ≤ 1000) (hw : av_wp sc cd p' lv (.inr (.inr (.inl (some h.1))) :: r) (av_newR k m h) Q) : av_wp sc cd pc lv (.inl x :: r) h Q := by
  subst hp
  subst ex
  refine av_wp_st1 hx (pc' := pc + 3) (lv' := lv) (st' := .inr (.inr (.inl (some h.1))) :: r) (h' := av_newR k m h) hkd ?_ hw
  rw [hs]
  simp only [av_anew]
  rw [av_rgw (x := (m : Int)) ⟨by omega, by omega⟩, if_pos ⟨hk, by omega, by omega⟩]
  rfl
theorem wq_nm {ins : Instr} {n k : Nat} {x y : Int} (hx : cd.lookup pc = some (av_q ins)) (hp : pc + 4 = p') (hkd : av_kd (av_q ins) = 0) (hs : ∀ st, av_stp sc (av_q ins) pc lv st h = av_mnew pc lv st h) (ex : x = (n : Int)) (ey : y = (k : Int)) (hn : n ≤ 1000) (hk : k ≤ 1000) (hw : av_wp sc cd p' lv (.inr (.inr (.inl (some h.1))) :: r) (av_newM n k h) Q) : av_wp sc cd pc lv (.inl y :: .inl x :: r) h Q := by
  subst hp
  subst ex
  subst ey
  refine av_wp_st1 hx (pc' := pc + 4) (lv' := lv) (st' := .inr (.inr (.inl (some h.1))) :: r) (h' := av_newM n k h) hkd ?_ hw
  rw [hs]
  simp only [av_mnew]
  rw [av_rgw (x := (n : Int)) ⟨by omega, by omega⟩, av_rgw (x := (k : Int)) ⟨by omega, by omega⟩, if_pos ⟨⟨by omega, by omega⟩, by omega, by omega⟩]
  rfl
end
/-- the heap with a new shelf -/
def nsh (g : av_H) : av_H := hwF (hwF (hwF (hwG (av_newM 6 14 (hwG (av_newM 8 14 (hwG (av_newR 30 16 (av_newO 5 6 g)) g.1 0 (some (g.1 + 1)))) g.1 1 (some (g.1 + 2)))) g.1 2 (some (g.1 + 11))) g.1 3 (0)) g.1 4 (0)) g.1 5 (0)
theorem nsh_K {g : av_H} (q : Nat) : hK (nsh g) q = if q = g.1 + 11 then (32, 6) else if g.1 + 11 < q ∧ q < g.1 + 18 then (20, 14) else if q = g.1 + 2 then (32, 8) else if g.1 + 2 < q ∧ q < g.1 + 11 then (20, 14) else if q = g.1 + 1 then (30, 16) else if q = g.1 then (5, 0) else hK g q := by
  show (if q = g.1 + 11 then (32, 6) else if g.1 + 11 < q ∧ q < g.1 + 11 + 1 + 6 then (20, 14) else (if q = g.1 + 2 then (32, 8) else if g.1 + 2 < q ∧ q < g.1 + 2 + 1 + 8 then (20, 14) else av_u1 (av_u1 g.2.2.1 g.1 (5, 0)) (g.1 + 1) (30, 16) q)) = _
  rw [show g.1 + 11 + 1 + 6 = g.1 + 18 by omega, show g.1 + 2 + 1 + 8 = g.1 + 11 by omega]
  rfl
theorem nsh_R {g : av_H} (q : Nat) : hR (nsh g) q = if q = g.1 + 11 then (fun i => if i < 6 then some (g.1 + 11 + 1 + i) else none) else if q = g.1 + 2 then (fun i => if i < 8 then some (g.1 + 2 + 1 + i) else none) else if q = g.1 + 1 then (fun _ => none) else hR g q := rfl
theorem nsh_A {g : av_H} (q : Nat) : hA (nsh g) q = fun j => if g.1 + 11 < q ∧ q < g.1 + 18 then 0 else if g.1 + 2 < q ∧ q < g.1 + 11 then 0 else hA g q j := by
  funext j
  show (if g.1 + 11 < q ∧ q < g.1 + 11 + 1 + 6 then 0 else if g.1 + 2 < q ∧ q < g.1 + 2 + 1 + 8 then 0 else hA g q j) = _
  rw [show g.1 + 11 + 1 + 6 = g.1 + 18 by omega, show g.1 + 2 + 1 + 8 = g.1 + 11 by omega]
theorem nsh_F {g : av_H} {q : Nat} (k : Nat) (e : q ≠ g.1) : hF (nsh g) q k = hF g q k := by
  show av_u2 (av_u2 (av_u2 (av_u1 g.2.2.2.2.1 g.1 (fun _ => 0)) g.1 3 0) g.1 4 0) g.1 5 0 q k = _
  rw [av_u2_ne e, av_u2_ne e, av_u2_ne e]
  show av_u1 g.2.2.2.2.1 g.1 (fun _ => 0) q k = _
  rw [show av_u1 g.2.2.2.2.1 g.1 (fun _ => 0) q = g.2.2.2.2.1 q from if_neg e]
theorem nsh_G {g : av_H} {q : Nat} (e : q ≠ g.1) : hG (nsh g) q = hG g q := by
  show av_u2 (av_u2 (av_u2 (av_u1 g.2.2.2.2.2.1 g.1 (fun _ => none)) g.1 0 (some (g.1 + 1))) g.1 1 (some (g.1 + 2))) g.1 2 (some (g.1 + 11)) q = _
  rw [av_u2_ne e, av_u2_ne e, av_u2_ne e]
  exact if_neg e
theorem nsh_Go {g : av_H} : hG (nsh g) g.1 0 = some (g.1 + 1) ∧ hG (nsh g) g.1 1 = some (g.1 + 2) ∧ hG (nsh g) g.1 2 = some (g.1 + 11) := by
  refine ⟨?_, ?_, av_u2_self⟩
  · show av_u2 (av_u2 (av_u2 (av_u1 g.2.2.2.2.2.1 g.1 (fun _ => none)) g.1 0 (some (g.1 + 1))) g.1 1 (some (g.1 + 2))) g.1 2 (some (g.1 + 11)) g.1 0 = _
    rw [av_u2_oth (by decide), av_u2_oth (by decide), av_u2_self]
  · show av_u2 (av_u2 (av_u2 (av_u1 g.2.2.2.2.2.1 g.1 (fun _ => none)) g.1 0 (some (g.1 + 1))) g.1 1 (some (g.1 + 2))) g.1 2 (some (g.1 + 11)) g.1 1 = _
    rw [av_u2_oth (by decide), av_u2_self]
theorem nsh_al {g : av_H} : AL g (nsh g) 18 232 := by
  refine ⟨rfl, rfl, fun q hq => ⟨?_, ?_, ?_, nsh_G (by omega), ?_⟩⟩
  · rw [nsh_K, if_neg (by omega), if_neg (by omega), if_neg (by omega), if_neg (by omega), if_neg (by omega), if_neg (by omega)]
  · rw [nsh_A]
    funext j
    rw [if_neg (by omega), if_neg (by omega)]
  · funext k
    exact nsh_F k (by omega)
  · rw [nsh_R, if_neg (by omega), if_neg (by omega), if_neg (by omega)]
theorem nsh_shp {g : av_H} : SHP (nsh g) g.1 := by
  refine ⟨?_, nsh_Go.1, nsh_Go.2.1, nsh_Go.2.2, ?_, ?_, ?_, fun i hi => ⟨?_, ?_⟩, fun i hi => ⟨?_, ?_⟩⟩
  · rw [nsh_K, if_neg (by omega), if_neg (by omega), if_neg (by omega), if_neg (by omega), if_neg (by omega), if_pos rfl]
  · rw [nsh_K, if_neg (by omega), if_neg (by omega), if_neg (by omega), if_neg (by omega), if_pos rfl]
  · rw [nsh_K, if_neg (by omega), if_neg (by omega), if_pos rfl]
  · rw [nsh_K, if_pos rfl]
  · rw [nsh_R, if_neg (by omega), if_pos rfl, if_pos hi, show g.1 + 2 + 1 + i = g.1 + 3 + i by omega]
  · rw [nsh_K, if_neg (by omega), if_neg (by omega), if_neg (by omega), if_pos (by omega)]
  · rw [nsh_R, if_pos rfl, if_pos hi, show g.1 + 11 + 1 + i = g.1 + 12 + i by omega]
  · rw [nsh_K, if_neg (by omega), if_pos (by omega)]
set_option maxRecDepth 100000 in
set_option maxHeartbeats 4000000 in
theorem ct_68 {g : av_H} {Q : Option av_V → av_H → Prop} (hq : Q none (nsh g)) : av_wp none cd_68 0 [some (.inr (.inr (.inl (some g.1))))] [] (av_newO 5 6 g) Q := by
  have k5 : ∀ h : av_H, hK h g.1 = (5, 0) → (hK h g.1).1 = 5 := fun h e => congrArg Prod.fst e
  have k1 : hK (av_newO 5 6 g) g.1 = (5, 0) := if_pos rfl
  refine av_wp_sqF ck_68 4 (pc' := 7) (lv' := [some (.inr (.inr (.inl (some g.1))))]) (st' := [.inl (16), .inr (.inr (.inl (some g.1)))]) (h' := av_newO 5 6 g) rfl ?_
  refine wq_nr (p' := 10) (k := 30) (m := 16) (ck_68 _ _ rfl) rfl rfl (fun _ => rfl) (Or.inl rfl) rfl (by omega) ?_
  have k2 : hK (av_newR 30 16 (av_newO 5 6 g)) g.1 = (5, 0) := (if_neg (show ¬ g.1 = g.1 + 1 by omega)).trans k1
  refine wq_pr (p' := 13) (ck_68 _ _ rfl) rfl (k5 _ k2) rfl ?_
  refine av_wp_sqF ck_68 3 (pc' := 18) (lv' := [some (.inr (.inr (.inl (some g.1))))]) (st' := [.inl (14), .inl (8), .inr (.inr (.inl (some g.1)))]) (h' := hwG (av_newR 30 16 (av_newO 5 6 g)) g.1 0 (some (g.1 + 1))) rfl ?_
  refine wq_nm (p' := 22) (n := 8) (k := 14) (ck_68 _ _ rfl) rfl rfl (fun _ => rfl) rfl rfl (by omega) (by omega) ?_
  have k3 : hK (av_newM 8 14 (hwG (av_newR 30 16 (av_newO 5 6 g)) g.1 0 (some (g.1 + 1)))) g.1 = (5, 0) := (if_neg (show ¬ g.1 = g.1 + 1 + 1 by omega)).trans ((if_neg (show ¬ (g.1 + 1 + 1 < g.1 ∧ g.1 < g.1 + 1 + 1 + 1 + 8) by omega)).trans k2)
  refine wq_pr (p' := 25) (ck_68 _ _ rfl) rfl (k5 _ k3) rfl ?_
  refine av_wp_sqF ck_68 3 (pc' := 30) (lv' := [some (.inr (.inr (.inl (some g.1))))]) (st' := [.inl (14), .inl (6), .inr (.inr (.inl (some g.1)))]) (h' := hwG (av_newM 8 14 (hwG (av_newR 30 16 (av_newO 5 6 g)) g.1 0 (some (g.1 + 1)))) g.1 1 (some (g.1 + 2))) rfl ?_
  refine wq_nm (p' := 34) (n := 6) (k := 14) (ck_68 _ _ rfl) rfl rfl (fun _ => rfl) rfl rfl (by omega) (by omega) ?_
  have k4 : hK (av_newM 6 14 (hwG (av_newM 8 14 (hwG (av_newR 30 16 (av_newO 5 6 g)) g.1 0 (some (g.1 + 1)))) g.1 1 (some (g.1 + 2)))) g.1 = (5, 0) := (if_neg (show ¬ g.1 = g.1 + 1 + 1 + 1 + 8 by omega)).trans ((if_neg (show ¬ (g.1 + 1 + 1 + 1 + 8 < g.1 ∧ g.1 < g.1 + 1 + 1 + 1 + 8 + 1 + 6) by omega)).trans k3)
  refine wq_pr (p' := 37) (ck_68 _ _ rfl) rfl (k5 _ k4) rfl ?_
  refine av_wp_sqF ck_68 2 (pc' := 39) (lv' := [some (.inr (.inr (.inl (some g.1))))]) (st' := [.inl (0), .inr (.inr (.inl (some g.1)))]) (h' := hwG (av_newM 6 14 (hwG (av_newM 8 14 (hwG (av_newR 30 16 (av_newO 5 6 g)) g.1 0 (some (g.1 + 1)))) g.1 1 (some (g.1 + 2)))) g.1 2 (some (g.1 + 11))) rfl ?_
  refine wq_pi (p' := 42) (ck_68 _ _ rfl) rfl (k5 _ k4) rfl ?_
  refine av_wp_sqF ck_68 2 (pc' := 44) (lv' := [some (.inr (.inr (.inl (some g.1))))]) (st' := [.inl (0), .inr (.inr (.inl (some g.1)))]) (h' := hwF (hwG (av_newM 6 14 (hwG (av_newM 8 14 (hwG (av_newR 30 16 (av_newO 5 6 g)) g.1 0 (some (g.1 + 1)))) g.1 1 (some (g.1 + 2)))) g.1 2 (some (g.1 + 11))) g.1 3 (0)) rfl ?_
  refine wq_pi (p' := 47) (ck_68 _ _ rfl) rfl (k5 _ k4) rfl ?_
  refine av_wp_sqF ck_68 2 (pc' := 49) (lv' := [some (.inr (.inr (.inl (some g.1))))]) (st' := [.inl (0), .inr (.inr (.inl (some g.1)))]) (h' := hwF (hwF (hwG (av_newM 6 14 (hwG (av_newM 8 14 (hwG (av_newR 30 16 (av_newO 5 6 g)) g.1 0 (some (g.1 + 1)))) g.1 1 (some (g.1 + 2)))) g.1 2 (some (g.1 + 11))) g.1 3 (0)) g.1 4 (0)) rfl ?_
  refine wq_pi (p' := 52) (ck_68 _ _ rfl) rfl (k5 _ k4) rfl ?_
  exact av_wp_ret (v := none) rfl rfl rfl hq
end
section
/-! A SHELF BECOMES LIKE ANOTHER -/
def stA (h : av_H) (A : Nat → Nat → Int) : av_H := (h.1, h.2.1, h.2.2.1, A, h.2.2.2.2)
def stR (h : av_H) (f : Nat → Nat → Option Nat) : av_H := (h.1, h.2.1, h.2.2.1, h.2.2.2.1, h.2.2.2.2.1, h.2.2.2.2.2.1, f, h.2.2.2.2.2.2.2)
/-- n rows from o + b on, laid over by those of p -/
def bla (A : Nat → Nat → Int) (o p b n : Nat) : Nat → Nat → Int := fun q => if o + b ≤ q ∧ q < o + b + n then plr (A q) (A (q - o + p)) else A q
def blr (f : Nat → Nat → Option Nat) (o p n : Nat) : Nat → Nat → Option Nat := fun q => if q = o + 1 then (fun i => if i < n then f (p + 1) i else f (o + 1) i) else f q
theorem bla_0 {A : Nat → Nat → Int} {o p b : Nat} : bla A o p b 0 = A := by
  funext q
  exact if_neg (by omega)
theorem bla_s {A : Nat → Nat → Int} {o p b n : Nat} (hd : p + b + n < o + b ∨ o + b + n ≤ p + b + n) (hd2 : p + b + n < o + b ∨ o + b + n ≤ p + b + n) : av_u1 (bla A o p b n) (o + b + n) (plr (bla A o p b n (o + b + n)) (bla A o p b n (p + b + n))) = bla A o p b (n + 1) := by
  funext q
  unfold av_u1
  by_cases e : q = o + b + n
  · rw [if_pos e, e]
    have e1 : bla A o p b n (o + b + n) = A (o + b + n) := if_neg (by omega)
    have e2 : bla A o p b n (p + b + n) = A (p + b + n) := if_neg (by omega)
    have e3 : bla A o p b (n + 1) (o + b + n) = plr (A (o + b + n)) (A (o + b + n - o + p)) := if_pos (by omega)
    rw [e1, e2, e3, show o + b + n - o + p = p + b + n by omega]
  · rw [if_neg e]
    unfold bla
    by_cases c : o + b ≤ q ∧ q < o + b + n
    · rw [if_pos c, if_pos (by omega)]
    · rw [if_neg c, if_neg (by omega)]
theorem blr_0 {f : Nat → Nat → Option Nat} {o p : Nat} : blr f o p 0 = f := by
  funext q
  unfold blr
  by_cases e : q = o + 1
  · rw [if_pos e, e]
    funext i
    exact if_neg (by omega)
  · rw [if_neg e]
theorem blr_s {f : Nat → Nat → Option Nat} {o p n : Nat} : av_u2 (blr f o p n) (o + 1) n (f (p + 1) n) = blr f o p (n + 1) := by
  funext q i
  unfold av_u2
  by_cases e : q = o + 1 ∧ i = n
  · rw [if_pos e, e.1, e.2]
    show _ = (if o + 1 = o + 1 then (fun i => if i < n + 1 then f (p + 1) i else f (o + 1) i) else f (o + 1)) n
    rw [if_pos rfl, if_pos (by omega)]
  · rw [if_neg e]
    unfold blr
    by_cases c : q = o + 1
    · rw [if_pos c, if_pos c]
      by_cases c2 : i < n
      · rw [if_pos c2, if_pos (by omega)]
      · rw [if_neg c2, if_neg (fun z => e ⟨c, by omega⟩)]
    · rw [if_neg c, if_neg c]
/-- the counts -/
def blf (h : av_H) (o p : Nat) : av_H := hwF (hwF (hwF h o 3 (hF h p 3)) o 4 (hF h p 4)) o 5 (hF h p 5)
def blk (h : av_H) (o p : Nat) : av_H := stA (stR (blf h o p) (blr (hR h) o p 16)) (bla (bla (hA h) o p 3 8) o p 12 6)

set_option maxRecDepth 100000 in
set_option maxHeartbeats 4000000 in
theorem ct_77 {h : av_H} {o p : Nat} (So : SHP h o) (Sp : SHP h p) (dj : o + 18 ≤ p ∨ p + 18 ≤ o) (cw : ∀ i, i < 16 → ∀ q, hR h (p + 1) i = some q → (hK h q).1 = 1) {Q : Option av_V → av_H → Prop} (hq : Q none (blk h o p)) : av_wp none cd_77 0 [some (.inr (.inr (.inl (some o)))), some (.inr (.inr (.inl (some p)))), none] [] h Q := by
  have hne : p ≠ o := by omega
  refine av_wp_sqF ck_77 2 (pc' := 2) (lv' := [some (.inr (.inr (.inl (some o)))), some (.inr (.inr (.inl (some p)))), none]) (st' := [.inr (.inr (.inl (some p))), .inr (.inr (.inl (some o)))]) (h' := h) rfl ?_
  refine wq_gi (p' := 5) (v := hF h p 3) (ck_77 _ _ rfl) rfl (congrArg Prod.fst (show hK h p = (5, 0) from Sp.1)) rfl (rfl) ?_
  refine wq_pi (p' := 8) (ck_77 _ _ rfl) rfl (congrArg Prod.fst (show hK h o = (5, 0) from So.1)) rfl ?_
  refine av_wp_sqF ck_77 2 (pc' := 10) (lv' := [some (.inr (.inr (.inl (some o)))), some (.inr (.inr (.inl (some p)))), none]) (st' := [.inr (.inr (.inl (some p))), .inr (.inr (.inl (some o)))]) (h' := (hwF h o 3 (hF h p 3))) rfl ?_
  refine wq_gi (p' := 13) (v := hF h p 4) (ck_77 _ _ rfl) rfl (congrArg Prod.fst (show hK (hwF h o 3 (hF h p 3)) p = (5, 0) from Sp.1)) rfl (congrFun (av_u2_ne hne) 4) ?_
  refine wq_pi (p' := 16) (ck_77 _ _ rfl) rfl (congrArg Prod.fst (show hK (hwF h o 3 (hF h p 3)) o = (5, 0) from So.1)) rfl ?_
  refine av_wp_sqF ck_77 2 (pc' := 18) (lv' := [some (.inr (.inr (.inl (some o)))), some (.inr (.inr (.inl (some p)))), none]) (st' := [.inr (.inr (.inl (some p))), .inr (.inr (.inl (some o)))]) (h' := (hwF (hwF h o 3 (hF h p 3)) o 4 (hF h p 4))) rfl ?_
  refine wq_gi (p' := 21) (v := hF h p 5) (ck_77 _ _ rfl) rfl (congrArg Prod.fst (show hK (hwF (hwF h o 3 (hF h p 3)) o 4 (hF h p 4)) p = (5, 0) from Sp.1)) rfl ((congrFun (av_u2_ne hne) 5).trans (congrFun (av_u2_ne hne) 5)) ?_
  refine wq_pi (p' := 24) (ck_77 _ _ rfl) rfl (congrArg Prod.fst (show hK (hwF (hwF h o 3 (hF h p 3)) o 4 (hF h p 4)) o = (5, 0) from So.1)) rfl ?_
  show av_wp none cd_77 24 [some (.inr (.inr (.inl (some o)))), some (.inr (.inr (.inl (some p)))), none] [] (blf h o p) Q
  have L3 : ∀ (n k : Nat), n + k = 6 → av_wp none cd_77 85 [some (.inr (.inr (.inl (some o)))), some (.inr (.inr (.inl (some p)))), some (.inl (k : Int))] [] (stA (stR (blf h o p) (blr (hR h) o p 16)) (bla (bla (hA h) o p 3 8) o p 12 k)) Q := by
    intro n
    induction n with
    | zero =>
      intro k e
      have e : k = 6 := by omega
      subst e
      refine av_wp_sqF ck_77 3 (pc' := 116) (lv' := [some (.inr (.inr (.inl (some o)))), some (.inr (.inr (.inl (some p)))), some (.inl ((6 : Nat) : Int))]) (st' := []) (h' := (stA (stR (blf h o p) (blr (hR h) o p 16)) (bla (bla (hA h) o p 3 8) o p 12 6))) rfl ?_
      exact av_wp_ret (v := none) rfl rfl rfl hq
    | succ n ih =>
      intro k e
      refine av_wp_sqF ck_77 2 (pc' := 88) (lv' := [some (.inr (.inr (.inl (some o)))), some (.inr (.inr (.inl (some p)))), some (.inl (k : Int))]) (st' := [.inl (6), .inl (k : Int)]) (h' := (stA (stR (blf h o p) (blr (hR h) o p 16)) (bla (bla (hA h) o p 3 8) o p 12 k))) rfl ?_
      refine wq_k2 (p' := 91) (ck_77 _ _ rfl) rfl ⟨by omega, by omega⟩ ⟨by omega, by omega⟩ (fun c => absurd (show (6 : Int) ≤ (k : Int) from c) (by omega)) (fun _ => ?_)
      refine av_wp_sqF ck_77 1 (pc' := 92) (lv' := [some (.inr (.inr (.inl (some o)))), some (.inr (.inr (.inl (some p)))), some (.inl (k : Int))]) (st' := [.inr (.inr (.inl (some p)))]) (h' := (stA (stR (blf h o p) (blr (hR h) o p 16)) (bla (bla (hA h) o p 3 8) o p 12 k))) rfl ?_
      refine wq_gr (p' := 95) (v := some (p + 11)) rfl rfl (congrArg Prod.fst (show hK (stA (stR (blf h o p) (blr (hR h) o p 16)) (bla (bla (hA h) o p 3 8) o p 12 k)) p = (5, 0) from Sp.1)) rfl (show hG h p 2 = some (p + 11) from Sp.2.2.2.1) ?_
      refine av_wp_sqF ck_77 1 (pc' := 96) (lv' := [some (.inr (.inr (.inl (some o)))), some (.inr (.inr (.inl (some p)))), some (.inl (k : Int))]) (st' := [.inl (k : Int), .inr (.inr (.inl (some (p + 11))))]) (h' := (stA (stR (blf h o p) (blr (hR h) o p 16)) (bla (bla (hA h) o p 3 8) o p 12 k))) rfl ?_
      refine wq_ar (p' := 97) (n := 6) (k := 32) (v := some (p + 12 + k)) rfl rfl (show hK (stA (stR (blf h o p) (blr (hR h) o p 16)) (bla (bla (hA h) o p 3 8) o p 12 k)) (p + 11) = (32, 6) from Sp.2.2.2.2.2.2.1) (Or.inr (Or.inr rfl)) (by omega) ((show hR (stA (stR (blf h o p) (blr (hR h) o p 16)) (bla (bla (hA h) o p 3 8) o p 12 k)) (p + 11) (Int.toNat (k : Int)) = hR h (p + 11) k from congrFun (if_neg (by omega)) k).trans (Sp.2.2.2.2.2.2.2.2 k (by omega)).1) ?_
      refine av_wp_sqF ck_77 2 (pc' := 99) (lv' := [some (.inr (.inr (.inl (some o)))), some (.inr (.inr (.inl (some p)))), some (.inl (k : Int))]) (st' := [.inr (.inr (.inl (some o))), .inl (0), .inr (.inr (.inl (some (p + 12 + k))))]) (h' := (stA (stR (blf h o p) (blr (hR h) o p 16)) (bla (bla (hA h) o p 3 8) o p 12 k))) rfl ?_
      refine wq_gr (p' := 102) (v := some (o + 11)) rfl rfl (congrArg Prod.fst (show hK (stA (stR (blf h o p) (blr (hR h) o p 16)) (bla (bla (hA h) o p 3 8) o p 12 k)) o = (5, 0) from So.1)) rfl (show hG h o 2 = some (o + 11) from So.2.2.2.1) ?_
      refine av_wp_sqF ck_77 1 (pc' := 103) (lv' := [some (.inr (.inr (.inl (some o)))), some (.inr (.inr (.inl (some p)))), some (.inl (k : Int))]) (st' := [.inl (k : Int), .inr (.inr (.inl (some (o + 11)))), .inl (0), .inr (.inr (.inl (some (p + 12 + k))))]) (h' := (stA (stR (blf h o p) (blr (hR h) o p 16)) (bla (bla (hA h) o p 3 8) o p 12 k))) rfl ?_
      refine wq_ar (p' := 104) (n := 6) (k := 32) (v := some (o + 12 + k)) rfl rfl (show hK (stA (stR (blf h o p) (blr (hR h) o p 16)) (bla (bla (hA h) o p 3 8) o p 12 k)) (o + 11) = (32, 6) from So.2.2.2.2.2.2.1) (Or.inr (Or.inr rfl)) (by omega) ((show hR (stA (stR (blf h o p) (blr (hR h) o p 16)) (bla (bla (hA h) o p 3 8) o p 12 k)) (o + 11) (Int.toNat (k : Int)) = hR h (o + 11) k from congrFun (if_neg (by omega)) k).trans (So.2.2.2.2.2.2.2.2 k (by omega)).1) ?_
      refine av_wp_sqF ck_77 2 (pc' := 107) (lv' := [some (.inr (.inr (.inl (some o)))), some (.inr (.inr (.inl (some p)))), some (.inl (k : Int))]) (st' := [.inl (14), .inl (0), .inr (.inr (.inl (some (o + 12 + k)))), .inl (0), .inr (.inr (.inl (some (p + 12 + k))))]) (h' := (stA (stR (blf h o p) (blr (hR h) o p 16)) (bla (bla (hA h) o p 3 8) o p 12 k))) rfl ?_
      refine wq_ac (p' := 110) (nd := 14) (nq := 14) (ck_77 _ _ rfl) rfl rfl (fun _ _ => rfl) rfl (show hK (stA (stR (blf h o p) (blr (hR h) o p 16)) (bla (bla (hA h) o p 3 8) o p 12 k)) (o + 12 + k) = (20, 14) from (So.2.2.2.2.2.2.2.2 k (by omega)).2) (show hK (stA (stR (blf h o p) (blr (hR h) o p 16)) (bla (bla (hA h) o p 3 8) o p 12 k)) (p + 12 + k) = (20, 14) from (Sp.2.2.2.2.2.2.2.2 k (by omega)).2) (by omega) (by omega) (by omega) (by omega) ?_
      rw [show (0 : Int).toNat = 0 from rfl, show (14 : Int).toNat = 14 from rfl, hcp_rw]
      have eh : hrw (stA (stR (blf h o p) (blr (hR h) o p 16)) (bla (bla (hA h) o p 3 8) o p 12 k)) (o + 12 + k) (plr (hA (stA (stR (blf h o p) (blr (hR h) o p 16)) (bla (bla (hA h) o p 3 8) o p 12 k)) (o + 12 + k)) (hA (stA (stR (blf h o p) (blr (hR h) o p 16)) (bla (bla (hA h) o p 3 8) o p 12 k)) (p + 12 + k))) = (stA (stR (blf h o p) (blr (hR h) o p 16)) (bla (bla (hA h) o p 3 8) o p 12 (k + 1))) := congrArg (stA (stR (blf h o p) (blr (hR h) o p 16))) (bla_s (A := bla (hA h) o p 3 8) (by omega) (by omega))
      rw [eh]
      refine av_wp_sqF ck_77 2 (pc' := 85) (lv' := [some (.inr (.inr (.inl (some o)))), some (.inr (.inr (.inl (some p)))), some (.inl ((k : Int) + 1))]) (st' := []) (h' := (stA (stR (blf h o p) (blr (hR h) o p 16)) (bla (bla (hA h) o p 3 8) o p 12 (k + 1)))) rfl ?_
      exact ih (k + 1) (by omega)
  have L2 : ∀ (n k : Nat), n + k = 8 → av_wp none cd_77 52 [some (.inr (.inr (.inl (some o)))), some (.inr (.inr (.inl (some p)))), some (.inl (k : Int))] [] (stA (stR (blf h o p) (blr (hR h) o p 16)) (bla (hA h) o p 3 k)) Q := by
    intro n
    induction n with
    | zero =>
      intro k e
      have e : k = 8 := by omega
      subst e
      refine av_wp_sqF ck_77 5 (pc' := 85) (lv' := [some (.inr (.inr (.inl (some o)))), some (.inr (.inr (.inl (some p)))), some (.inl (0))]) (st' := []) (h' := (stA (stR (blf h o p) (blr (hR h) o p 16)) (bla (hA h) o p 3 8))) rfl ?_
      have := L3 6 0 rfl
      rw [bla_0] at this
      exact this
    | succ n ih =>
      intro k e
      refine av_wp_sqF ck_77 2 (pc' := 55) (lv' := [some (.inr (.inr (.inl (some o)))), some (.inr (.inr (.inl (some p)))), some (.inl (k : Int))]) (st' := [.inl (8), .inl (k : Int)]) (h' := (stA (stR (blf h o p) (blr (hR h) o p 16)) (bla (hA h) o p 3 k))) rfl ?_
      refine wq_k2 (p' := 58) (ck_77 _ _ rfl) rfl ⟨by omega, by omega⟩ ⟨by omega, by omega⟩ (fun c => absurd (show (8 : Int) ≤ (k : Int) from c) (by omega)) (fun _ => ?_)
      refine av_wp_sqF ck_77 1 (pc' := 59) (lv' := [some (.inr (.inr (.inl (some o)))), some (.inr (.inr (.inl (some p)))), some (.inl (k : Int))]) (st' := [.inr (.inr (.inl (some p)))]) (h' := (stA (stR (blf h o p) (blr (hR h) o p 16)) (bla (hA h) o p 3 k))) rfl ?_
      refine wq_gr (p' := 62) (v := some (p + 2)) rfl rfl (congrArg Prod.fst (show hK (stA (stR (blf h o p) (blr (hR h) o p 16)) (bla (hA h) o p 3 k)) p = (5, 0) from Sp.1)) rfl (show hG h p 1 = some (p + 2) from Sp.2.2.1) ?_
      refine av_wp_sqF ck_77 1 (pc' := 63) (lv' := [some (.inr (.inr (.inl (some o)))), some (.inr (.inr (.inl (some p)))), some (.inl (k : Int))]) (st' := [.inl (k : Int), .inr (.inr (.inl (some (p + 2))))]) (h' := (stA (stR (blf h o p) (blr (hR h) o p 16)) (bla (hA h) o p 3 k))) rfl ?_
      refine wq_ar (p' := 64) (n := 8) (k := 32) (v := some (p + 3 + k)) rfl rfl (show hK (stA (stR (blf h o p) (blr (hR h) o p 16)) (bla (hA h) o p 3 k)) (p + 2) = (32, 8) from Sp.2.2.2.2.2.1) (Or.inr (Or.inr rfl)) (by omega) ((show hR (stA (stR (blf h o p) (blr (hR h) o p 16)) (bla (hA h) o p 3 k)) (p + 2) (Int.toNat (k : Int)) = hR h (p + 2) k from congrFun (if_neg (by omega)) k).trans (Sp.2.2.2.2.2.2.2.1 k (by omega)).1) ?_
      refine av_wp_sqF ck_77 2 (pc' := 66) (lv' := [some (.inr (.inr (.inl (some o)))), some (.inr (.inr (.inl (some p)))), some (.inl (k : Int))]) (st' := [.inr (.inr (.inl (some o))), .inl (0), .inr (.inr (.inl (some (p + 3 + k))))]) (h' := (stA (stR (blf h o p) (blr (hR h) o p 16)) (bla (hA h) o p 3 k))) rfl ?_
      refine wq_gr (p' := 69) (v := some (o + 2)) rfl rfl (congrArg Prod.fst (show hK (stA (stR (blf h o p) (blr (hR h) o p 16)) (bla (hA h) o p 3 k)) o = (5, 0) from So.1)) rfl (show hG h o 1 = some (o + 2) from So.2.2.1) ?_
      refine av_wp_sqF ck_77 1 (pc' := 70) (lv' := [some (.inr (.inr (.inl (some o)))), some (.inr (.inr (.inl (some p)))), some (.inl (k : Int))]) (st' := [.inl (k : Int), .inr (.inr (.inl (some (o + 2)))), .inl (0), .inr (.inr (.inl (some (p + 3 + k))))]) (h' := (stA (stR (blf h o p) (blr (hR h) o p 16)) (bla (hA h) o p 3 k))) rfl ?_
      refine wq_ar (p' := 71) (n := 8) (k := 32) (v := some (o + 3 + k)) rfl rfl (show hK (stA (stR (blf h o p) (blr (hR h) o p 16)) (bla (hA h) o p 3 k)) (o + 2) = (32, 8) from So.2.2.2.2.2.1) (Or.inr (Or.inr rfl)) (by omega) ((show hR (stA (stR (blf h o p) (blr (hR h) o p 16)) (bla (hA h) o p 3 k)) (o + 2) (Int.toNat (k : Int)) = hR h (o + 2) k from congrFun (if_neg (by omega)) k).trans (So.2.2.2.2.2.2.2.1 k (by omega)).1) ?_
      refine av_wp_sqF ck_77 2 (pc' := 74) (lv' := [some (.inr (.inr (.inl (some o)))), some (.inr (.inr (.inl (some p)))), some (.inl (k : Int))]) (st' := [.inl (14), .inl (0), .inr (.inr (.inl (some (o + 3 + k)))), .inl (0), .inr (.inr (.inl (some (p + 3 + k))))]) (h' := (stA (stR (blf h o p) (blr (hR h) o p 16)) (bla (hA h) o p 3 k))) rfl ?_
      refine wq_ac (p' := 77) (nd := 14) (nq := 14) (ck_77 _ _ rfl) rfl rfl (fun _ _ => rfl) rfl (show hK (stA (stR (blf h o p) (blr (hR h) o p 16)) (bla (hA h) o p 3 k)) (o + 3 + k) = (20, 14) from (So.2.2.2.2.2.2.2.1 k (by omega)).2) (show hK (stA (stR (blf h o p) (blr (hR h) o p 16)) (bla (hA h) o p 3 k)) (p + 3 + k) = (20, 14) from (Sp.2.2.2.2.2.2.2.1 k (by omega)).2) (by omega) (by omega) (by omega) (by omega) ?_
      rw [show (0 : Int).toNat = 0 from rfl, show (14 : Int).toNat = 14 from rfl, hcp_rw]
      have eh : hrw (stA (stR (blf h o p) (blr (hR h) o p 16)) (bla (hA h) o p 3 k)) (o + 3 + k) (plr (hA (stA (stR (blf h o p) (blr (hR h) o p 16)) (bla (hA h) o p 3 k)) (o + 3 + k)) (hA (stA (stR (blf h o p) (blr (hR h) o p 16)) (bla (hA h) o p 3 k)) (p + 3 + k))) = (stA (stR (blf h o p) (blr (hR h) o p 16)) (bla (hA h) o p 3 (k + 1))) := congrArg (stA (stR (blf h o p) (blr (hR h) o p 16))) (bla_s (A := hA h) (by omega) (by omega))
      rw [eh]
      refine av_wp_sqF ck_77 2 (pc' := 52) (lv' := [some (.inr (.inr (.inl (some o)))), some (.inr (.inr (.inl (some p)))), some (.inl ((k : Int) + 1))]) (st' := []) (h' := (stA (stR (blf h o p) (blr (hR h) o p 16)) (bla (hA h) o p 3 (k + 1)))) rfl ?_
      exact ih (k + 1) (by omega)
  have L1 : ∀ (n k : Nat), n + k = 16 → av_wp none cd_77 26 [some (.inr (.inr (.inl (some o)))), some (.inr (.inr (.inl (some p)))), some (.inl (k : Int))] [] (stR (blf h o p) (blr (hR h) o p k)) Q := by
    intro n
    induction n with
    | zero =>
      intro k e
      have e : k = 16 := by omega
      subst e
      refine av_wp_sqF ck_77 5 (pc' := 52) (lv' := [some (.inr (.inr (.inl (some o)))), some (.inr (.inr (.inl (some p)))), some (.inl (0))]) (st' := []) (h' := (stR (blf h o p) (blr (hR h) o p 16))) rfl ?_
      have := L2 8 0 rfl
      rw [bla_0] at this
      exact this
    | succ n ih =>
      intro k e
      refine av_wp_sqF ck_77 2 (pc' := 29) (lv' := [some (.inr (.inr (.inl (some o)))), some (.inr (.inr (.inl (some p)))), some (.inl (k : Int))]) (st' := [.inl (16), .inl (k : Int)]) (h' := (stR (blf h o p) (blr (hR h) o p k))) rfl ?_
      refine wq_k2 (p' := 32) (ck_77 _ _ rfl) rfl ⟨by omega, by omega⟩ ⟨by omega, by omega⟩ (fun c => absurd (show (16 : Int) ≤ (k : Int) from c) (by omega)) (fun _ => ?_)
      refine av_wp_sqF ck_77 1 (pc' := 33) (lv' := [some (.inr (.inr (.inl (some o)))), some (.inr (.inr (.inl (some p)))), some (.inl (k : Int))]) (st' := [.inr (.inr (.inl (some o)))]) (h' := (stR (blf h o p) (blr (hR h) o p k))) rfl ?_
      refine wq_gr (p' := 36) (v := some (o + 1)) rfl rfl (congrArg Prod.fst (show hK (stR (blf h o p) (blr (hR h) o p k)) o = (5, 0) from So.1)) rfl (show hG h o 0 = some (o + 1) from So.2.1) ?_
      refine av_wp_sqF ck_77 2 (pc' := 38) (lv' := [some (.inr (.inr (.inl (some o)))), some (.inr (.inr (.inl (some p)))), some (.inl (k : Int))]) (st' := [.inr (.inr (.inl (some p))), .inl (k : Int), .inr (.inr (.inl (some (o + 1))))]) (h' := (stR (blf h o p) (blr (hR h) o p k))) rfl ?_
      refine wq_gr (p' := 41) (v := some (p + 1)) rfl rfl (congrArg Prod.fst (show hK (stR (blf h o p) (blr (hR h) o p k)) p = (5, 0) from Sp.1)) rfl (show hG h p 0 = some (p + 1) from Sp.2.1) ?_
      refine av_wp_sqF ck_77 1 (pc' := 42) (lv' := [some (.inr (.inr (.inl (some o)))), some (.inr (.inr (.inl (some p)))), some (.inl (k : Int))]) (st' := [.inl (k : Int), .inr (.inr (.inl (some (p + 1)))), .inl (k : Int), .inr (.inr (.inl (some (o + 1))))]) (h' := (stR (blf h o p) (blr (hR h) o p k))) rfl ?_
      refine wq_ar (p' := 43) (n := 16) (k := 30) (v := hR h (p + 1) k) rfl rfl (show hK (stR (blf h o p) (blr (hR h) o p k)) (p + 1) = (30, 16) from Sp.2.2.2.2.1) (Or.inl rfl) (by omega) (congrFun (if_neg (show ¬ p + 1 = o + 1 by omega)) k) ?_
      refine wq_rs (p' := 44) (n := 16) (k := 30) (ck_77 _ _ rfl) rfl (show hK (stR (blf h o p) (blr (hR h) o p k)) (o + 1) = (30, 16) from So.2.2.2.2.1) (Or.inl rfl) (by omega) (fun q hq => cw k (by omega) q hq) ?_
      have eh : hwR (stR (blf h o p) (blr (hR h) o p k)) (o + 1) (Int.toNat (k : Int)) (hR h (p + 1) k) = (stR (blf h o p) (blr (hR h) o p (k + 1))) := congrArg (stR (blf h o p)) (blr_s (f := hR h))
      rw [eh]
      refine av_wp_sqF ck_77 2 (pc' := 26) (lv' := [some (.inr (.inr (.inl (some o)))), some (.inr (.inr (.inl (some p)))), some (.inl ((k : Int) + 1))]) (st' := []) (h' := (stR (blf h o p) (blr (hR h) o p (k + 1)))) rfl ?_
      exact ih (k + 1) (by omega)
  refine av_wp_sqF ck_77 2 (pc' := 26) (lv' := [some (.inr (.inr (.inl (some o)))), some (.inr (.inr (.inl (some p)))), some (.inl (0))]) (st' := []) (h' := (blf h o p)) rfl ?_
  have := L1 16 0 rfl
  rw [blr_0] at this
  exact this
end
section
/-! IMAGES -/
theorem ly_shp {h : av_H} (L : LY h) : SHP h 3 := ⟨ly_k L 3 rfl, ly_g L 3 0 4 rfl, ly_g L 3 1 5 rfl, ly_g L 3 2 14 rfl, ly_k L 4 rfl, ly_k L 5 rfl, ly_k L 14 rfl, fun i hi => ⟨L.2.2.1 i hi, ly_l L hi⟩, fun i hi => ⟨L.2.2.2 i hi, ly_q L hi⟩⟩
theorem blk_F {h : av_H} {o p q : Nat} (k : Nat) (e : q ≠ o) : hF (blk h o p) q k = hF h q k := by
  show av_u2 (av_u2 (av_u2 h.2.2.2.2.1 o 3 _) o 4 _) o 5 _ q k = _
  rw [av_u2_ne e, av_u2_ne e, av_u2_ne e]
theorem blk_Fo {h : av_H} {o p : Nat} : hF (blk h o p) o 3 = hF h p 3 ∧ hF (blk h o p) o 4 = hF h p 4 ∧ hF (blk h o p) o 5 = hF h p 5 := by
  refine ⟨?_, ?_, hF_self⟩
  · exact (hF_oth (by decide)).trans ((hF_oth (by decide)).trans hF_self)
  · exact (hF_oth (by decide)).trans hF_self
theorem blk_R {h : av_H} {o p q : Nat} : hR (blk h o p) q = if q = o + 1 then (fun i => if i < 16 then hR h (p + 1) i else hR h (o + 1) i) else hR h q := rfl
theorem blk_A {h : av_H} {o p q : Nat} (e : q < o + 3 ∨ q = o + 11 ∨ o + 18 ≤ q) : hA (blk h o p) q = hA h q := by
  show bla (bla (hA h) o p 3 8) o p 12 6 q = _
  have e1 : bla (bla (hA h) o p 3 8) o p 12 6 q = bla (hA h) o p 3 8 q := if_neg (by omega)
  have e2 : bla (hA h) o p 3 8 q = hA h q := if_neg (by omega)
  rw [e1, e2]
theorem blk_A3 {h : av_H} {o p i : Nat} (hi : i < 8) (dj : o + 18 ≤ p ∨ p + 18 ≤ o) : hA (blk h o p) (o + 3 + i) = plr (hA h (o + 3 + i)) (hA h (p + 3 + i)) := by
  show bla (bla (hA h) o p 3 8) o p 12 6 (o + 3 + i) = _
  have e1 : bla (bla (hA h) o p 3 8) o p 12 6 (o + 3 + i) = bla (hA h) o p 3 8 (o + 3 + i) := if_neg (by omega)
  have e2 : bla (hA h) o p 3 8 (o + 3 + i) = plr (hA h (o + 3 + i)) (hA h (o + 3 + i - o + p)) := if_pos (by omega)
  rw [e1, e2, show o + 3 + i - o + p = p + 3 + i by omega]
theorem blk_A12 {h : av_H} {o p i : Nat} (hi : i < 6) (dj : o + 18 ≤ p ∨ p + 18 ≤ o) : hA (blk h o p) (o + 12 + i) = plr (hA h (o + 12 + i)) (hA h (p + 12 + i)) := by
  show bla (bla (hA h) o p 3 8) o p 12 6 (o + 12 + i) = _
  have e1 : bla (bla (hA h) o p 3 8) o p 12 6 (o + 12 + i) = plr (bla (hA h) o p 3 8 (o + 12 + i)) (bla (hA h) o p 3 8 (o + 12 + i - o + p)) := if_pos (by omega)
  have e2 : bla (hA h) o p 3 8 (o + 12 + i) = hA h (o + 12 + i) := if_neg (by omega)
  have e3 : bla (hA h) o p 3 8 (o + 12 + i - o + p) = hA h (o + 12 + i - o + p) := if_neg (by omega)
  rw [e1, e2, e3, show o + 12 + i - o + p = p + 12 + i by omega]

set_option maxRecDepth 100000 in
set_option maxHeartbeats 4000000 in
theorem ct_123 {h : av_H} (L : LY h) {m : Int} (hm : hF h 0 7 = m) (qm : 0 ≤ m ∧ m ≤ 4) (cw : ∀ i, i < 16 → ∀ q, hR h 4 i = some q → (hK h q).1 = 1) {Q : Option av_V → av_H → Prop} (hqA : m = 4 → Q (some (.inl (-1))) h) (hq : m < 4 → Q (some (.inl m)) (hwF (hwR (blk (nsh h) h.1 3) 21 (Int.toNat m) (some h.1)) 0 7 (m + 1))) : av_wp none cd_123 0 [some (.inr (.inr (.inl (some (0))))), none] [] h Q := by
  refine gd_of (fun hg => ?_)
  have l122 : 121 < h.1 := ly_lt hg L (by omega)
  refine av_wp_sqF ck_123 1 (pc' := 1) (lv' := [some (.inr (.inr (.inl (some (0))))), none]) (st' := [.inr (.inr (.inl (some (0))))]) (h' := h) rfl ?_
  refine wq_gi (p' := 4) (ck_123 _ _ rfl) rfl (congrArg Prod.fst (ly_k L 0 rfl)) rfl (hm) ?_
  refine av_wp_sqF ck_123 1 (pc' := 5) (lv' := [some (.inr (.inr (.inl (some (0))))), none]) (st' := [.inl (4), .inl m]) (h' := h) rfl ?_
  refine wq_k2 (p' := 8) (ck_123 _ _ rfl) rfl ⟨by omega, by omega⟩ ⟨by omega, by omega⟩ (fun c1 => ?_) (fun c2 => ?_)
  · have c1 : m < (4) := c1
    refine av_wp_sqF ck_123 2 (pc' := 14) (lv' := [some (.inr (.inr (.inl (some (0))))), none]) (st' := [.inr (.inr (.inl (some h.1))), .inr (.inr (.inl (some h.1)))]) (h' := (av_newO 5 6 h)) rfl ?_
    refine wq_cv (p' := 17) (av_qc (.invokespecial 18) 68 0 1 5) 1 cd_68 [] (h.1) 5 [some (.inr (.inr (.inl (some h.1))))] (ck_123 _ _ rfl) rfl rfl pp_68 rfl rfl rfl (congrArg Prod.fst (show hK (av_newO 5 6 h) h.1 = (5, 0) from if_pos rfl)) rfl rfl rfl rfl ?_
    refine ct_68 ?_
    show av_wp _ cd_123 17 [some (.inr (.inr (.inl (some (0))))), none] [.inr (.inr (.inl (some h.1)))] (nsh h) _
    refine av_wp_sqF ck_123 3 (pc' := 20) (lv' := [some (.inr (.inr (.inl (some 0)))), some (.inr (.inr (.inl (some h.1))))]) (st' := [.inr (.inr (.inl (some 0))), .inr (.inr (.inl (some h.1)))]) (h' := nsh h) rfl ?_
    have al := nsh_al (g := h)
    have L2 : LY (nsh h) := LY_fb hg L (AL_fb al)
    refine wq_gr (p' := 23) (v := some 3) (ck_123 _ _ rfl) rfl (congrArg Prod.fst (ly_k L2 0 rfl)) rfl (ly_g L2 0 1 3 rfl) ?_
    refine wq_cv (p' := 26) (av_qc (.invokevirtual 266) 77 1 0 5) 3 cd_77 [.inr (.inr (.inl (some 3)))] (h.1) 5 [some (.inr (.inr (.inl (some h.1)))), some (.inr (.inr (.inl (some 3)))), none] (ck_123 _ _ rfl) rfl rfl pp_77 rfl rfl rfl (congrArg Prod.fst nsh_shp.1) rfl rfl rfl rfl ?_
    refine ct_77 nsh_shp (ly_shp L2) (by omega) (fun i hi q hq => ?_) ?_
    · have hq : hR h 4 i = some q := by rw [← (al.2.2 4 (by omega)).2.2.2.2]; exact hq
      have kq := cw i hi q hq
      rw [(al.2.2 q (hg q (by rw [show (h.2.2.1 q).1 = 1 from kq]; decide))).1]
      exact kq
    show av_wp _ cd_123 26 [some (.inr (.inr (.inl (some 0)))), some (.inr (.inr (.inl (some h.1))))] [] (blk (nsh h) h.1 3) _
    have L3 : LY (blk (nsh h) h.1 3) := ⟨L2.1, L2.2.1, fun i hi => by rw [blk_R, if_neg (by omega)]; exact L2.2.2.1 i hi, fun i hi => by rw [blk_R, if_neg (by omega)]; exact L2.2.2.2 i hi⟩
    have hm3 : hF (blk (nsh h) h.1 3) 0 7 = m := (blk_F 7 (by omega)).trans ((congrFun (al.2.2 0 (by omega)).2.2.1 7).trans hm)
    refine av_wp_sqF ck_123 1 (pc' := 27) (lv' := [some (.inr (.inr (.inl (some (0))))), some (.inr (.inr (.inl (some (h.1)))))]) (st' := [.inr (.inr (.inl (some (0))))]) (h' := (blk (nsh h) h.1 3)) rfl ?_
    refine wq_gr (p' := 30) (ck_123 _ _ rfl) rfl (congrArg Prod.fst (ly_k L3 0 rfl)) rfl (ly_g L3 0 2 21 rfl) ?_
    refine av_wp_sqF ck_123 1 (pc' := 31) (lv' := [some (.inr (.inr (.inl (some (0))))), some (.inr (.inr (.inl (some (h.1)))))]) (st' := [.inr (.inr (.inl (some (0)))), .inr (.inr (.inl (some (21))))]) (h' := (blk (nsh h) h.1 3)) rfl ?_
    refine wq_gi (p' := 34) (ck_123 _ _ rfl) rfl (congrArg Prod.fst (ly_k L3 0 rfl)) rfl (hm3) ?_
    refine av_wp_sqF ck_123 1 (pc' := 35) (lv' := [some (.inr (.inr (.inl (some (0))))), some (.inr (.inr (.inl (some (h.1)))))]) (st' := [.inr (.inr (.inl (some (h.1)))), .inl m, .inr (.inr (.inl (some (21))))]) (h' := (blk (nsh h) h.1 3)) rfl ?_
    refine wq_rs (p' := 36) (n := 4) (k := 31) (ck_123 _ _ rfl) rfl (ly_k L3 21 rfl) (Or.inr rfl) (by omega) (fun q hq => by cases hq; exact congrArg Prod.fst (show hK (nsh h) h.1 = (5, 0) from nsh_shp.1)) ?_
    refine av_wp_sqF ck_123 2 (pc' := 38) (lv' := [some (.inr (.inr (.inl (some (0))))), some (.inr (.inr (.inl (some (h.1)))))]) (st' := [.inr (.inr (.inl (some (0)))), .inr (.inr (.inl (some (0))))]) (h' := (hwR (blk (nsh h) h.1 3) 21 (Int.toNat (m)) (some h.1))) rfl ?_
    refine wq_gi (p' := 41) (ck_123 _ _ rfl) rfl (congrArg Prod.fst (ly_k L3 0 rfl)) rfl (hm3) ?_
    refine av_wp_sqF ck_123 2 (pc' := 43) (lv' := [some (.inr (.inr (.inl (some (0))))), some (.inr (.inr (.inl (some (h.1)))))]) (st' := [.inl (m + (1)), .inr (.inr (.inl (some (0))))]) (h' := (hwR (blk (nsh h) h.1 3) 21 (Int.toNat (m)) (some h.1))) rfl ?_
    refine wq_pi (p' := 46) (ck_123 _ _ rfl) rfl (congrArg Prod.fst (ly_k L3 0 rfl)) rfl ?_
    refine av_wp_sqF ck_123 1 (pc' := 47) (lv' := [some (.inr (.inr (.inl (some (0))))), some (.inr (.inr (.inl (some (h.1)))))]) (st' := [.inr (.inr (.inl (some (0))))]) (h' := (hwF (hwR (blk (nsh h) h.1 3) 21 (Int.toNat (m)) (some h.1)) 0 7 (m + (1)))) rfl ?_
    refine wq_gi (p' := 50) (ck_123 _ _ rfl) rfl (congrArg Prod.fst (ly_k L3 0 rfl)) rfl (rfl) ?_
    refine av_wp_sqF ck_123 2 (pc' := 52) (lv' := [some (.inr (.inr (.inl (some (0))))), some (.inr (.inr (.inl (some (h.1)))))]) (st' := [.inl ((m + (1)) - (1))]) (h' := (hwF (hwR (blk (nsh h) h.1 3) 21 (Int.toNat (m)) (some h.1)) 0 7 (m + (1)))) rfl ?_
    refine av_wp_ret (v := some (.inl ((m + (1)) - (1)))) (ck_123 _ _ rfl) rfl rfl ?_
    rw [show m + 1 - 1 = m by omega]
    exact hq (by omega)
  · have c2 : (4) ≤ m := c2
    refine av_wp_sqF ck_123 1 (pc' := 9) (lv' := [some (.inr (.inr (.inl (some (0))))), none]) (st' := [.inl (-1)]) (h' := h) rfl ?_
    refine av_wp_ret (v := some (.inl (-1))) (ck_123 _ _ rfl) rfl rfl ?_
    exact hqA (by omega)

set_option maxRecDepth 100000 in
set_option maxHeartbeats 4000000 in
theorem ct_124 {h : av_H} (L : LY h) {m : Int} (hm : hF h 0 7 = m) (qm : 0 ≤ m ∧ m ≤ 4) (k : Int) (qk : -2147483648 ≤ k ∧ k ≤ 2147483647) (im : ∀ i : Nat, i < 4 → (i : Int) < m → ∃ p, hR h 21 i = some p ∧ 122 ≤ p ∧ SHP h p) (cw : ∀ p k : Nat, k < 4 → (k : Int) < m → hR h 21 k = some p → ∀ i, i < 16 → ∀ q, hR h (p + 1) i = some q → (hK h q).1 = 1) {Q : Option av_V → av_H → Prop} (hqA : (k < 0 ∨ m ≤ k) → Q (some (.inl 0)) h) (hq : 0 ≤ k → k < m → ∀ p, hR h 21 k.toNat = some p → 122 ≤ p → SHP h p → Q (some (.inl 1)) (hfil (blk h 3 p) 27 0 144 (0))) : av_wp none cd_124 0 [some (.inr (.inr (.inl (some (0))))), some (.inl k)] [] h Q := by
  refine av_wp_sqF ck_124 1 (pc' := 1) (lv' := [some (.inr (.inr (.inl (some (0))))), some (.inl k)]) (st' := [.inl k]) (h' := h) rfl ?_
  refine wq_k1 (p' := 4) (ck_124 _ _ rfl) rfl ⟨by omega, by omega⟩ (fun c1 => ?_) (fun c2 => ?_)
  · have c1 : k < (0) := c1
    refine av_wp_sqF ck_124 1 (pc' := 22) (lv' := [some (.inr (.inr (.inl (some (0))))), some (.inl k)]) (st' := [.inl (0)]) (h' := h) rfl ?_
    refine av_wp_ret (v := some (.inl (0))) (ck_124 _ _ rfl) rfl rfl ?_
    exact hqA (by omega)
  · have c2 : (0) ≤ k := c2
    refine av_wp_sqF ck_124 2 (pc' := 6) (lv' := [some (.inr (.inr (.inl (some (0))))), some (.inl k)]) (st' := [.inr (.inr (.inl (some (0)))), .inl k]) (h' := h) rfl ?_
    refine wq_gi (p' := 9) (ck_124 _ _ rfl) rfl (congrArg Prod.fst (ly_k L 0 rfl)) rfl (hm) ?_
    refine wq_k2 (p' := 12) (ck_124 _ _ rfl) rfl ⟨by omega, by omega⟩ ⟨by omega, by omega⟩ (fun c3 => ?_) (fun c4 => ?_)
    · have c3 : m ≤ k := c3
      refine av_wp_sqF ck_124 1 (pc' := 22) (lv' := [some (.inr (.inr (.inl (some (0))))), some (.inl k)]) (st' := [.inl (0)]) (h' := h) rfl ?_
      refine av_wp_ret (v := some (.inl (0))) (ck_124 _ _ rfl) rfl rfl ?_
      exact hqA (by omega)
    · have c4 : k < m := c4
      refine av_wp_sqF ck_124 1 (pc' := 13) (lv' := [some (.inr (.inr (.inl (some (0))))), some (.inl k)]) (st' := [.inr (.inr (.inl (some (0))))]) (h' := h) rfl ?_
      refine wq_gr (p' := 16) (ck_124 _ _ rfl) rfl (congrArg Prod.fst (ly_k L 0 rfl)) rfl (ly_g L 0 2 21 rfl) ?_
      refine av_wp_sqF ck_124 1 (pc' := 17) (lv' := [some (.inr (.inr (.inl (some (0))))), some (.inl k)]) (st' := [.inl k, .inr (.inr (.inl (some (21))))]) (h' := h) rfl ?_
      obtain ⟨p, hp, hp2, hp3⟩ := im k.toNat (by omega) (by omega)
      refine wq_ar (p' := 18) (n := 4) (k := 31) (v := some p) (ck_124 _ _ rfl) rfl (ly_k L 21 rfl) (Or.inr (Or.inl rfl)) (by omega) hp ?_
      refine av_wp_sqF ck_124 2 (pc' := 24) (lv' := [some (.inr (.inr (.inl (some (0))))), some (.inl k)]) (st' := [.inr (.inr (.inl (some (0))))]) (h' := h) rfl ?_
      refine wq_gr (p' := 27) (ck_124 _ _ rfl) rfl (congrArg Prod.fst (ly_k L 0 rfl)) rfl (ly_g L 0 1 3 rfl) ?_
      refine av_wp_sqF ck_124 1 (pc' := 28) (lv' := [some (.inr (.inr (.inl (some (0))))), some (.inl k)]) (st' := [.inr (.inr (.inl (some (0)))), .inr (.inr (.inl (some (3))))]) (h' := h) rfl ?_
      refine wq_gr (p' := 31) (ck_124 _ _ rfl) rfl (congrArg Prod.fst (ly_k L 0 rfl)) rfl (ly_g L 0 2 21 rfl) ?_
      refine av_wp_sqF ck_124 1 (pc' := 32) (lv' := [some (.inr (.inr (.inl (some (0))))), some (.inl k)]) (st' := [.inl k, .inr (.inr (.inl (some (21)))), .inr (.inr (.inl (some (3))))]) (h' := h) rfl ?_
      refine wq_ar (p' := 33) (n := 4) (k := 31) (v := some p) (ck_124 _ _ rfl) rfl (ly_k L 21 rfl) (Or.inr (Or.inl rfl)) (by omega) hp ?_
      refine wq_cv (p' := 36) (av_qc (.invokevirtual 266) 77 1 0 5) 3 cd_77 [.inr (.inr (.inl (some (p))))] (3) 5 [some (.inr (.inr (.inl (some (3))))), some (.inr (.inr (.inl (some (p))))), none] (ck_124 _ _ rfl) rfl rfl pp_77 rfl rfl rfl (congrArg Prod.fst (ly_k L 3 rfl)) rfl rfl rfl rfl ?_
      refine ct_77 (ly_shp L) hp3 (by omega) (cw p k.toNat (by omega) (by omega) hp) ?_
      have L3 : LY (blk h 3 p) := ⟨L.1, L.2.1, fun i hi => by rw [blk_R, if_neg (by omega)]; exact L.2.2.1 i hi, fun i hi => by rw [blk_R, if_neg (by omega)]; exact L.2.2.2 i hi⟩
      show av_wp _ cd_124 36 [some (.inr (.inr (.inl (some (0))))), some (.inl k)] [] (blk h 3 p) _
      refine av_wp_sqF ck_124 1 (pc' := 37) (lv' := [some (.inr (.inr (.inl (some (0))))), some (.inl k)]) (st' := [.inr (.inr (.inl (some (0))))]) (h' := (blk h 3 p)) rfl ?_
      refine wq_gr (p' := 40) (ck_124 _ _ rfl) rfl (congrArg Prod.fst (ly_k L3 0 rfl)) rfl (ly_g L3 0 5 26 rfl) ?_
      refine wq_cv (p' := 43) (av_qc (.invokevirtual 104) 46 0 0 3) 1 cd_46 [] (26) 3 [some (.inr (.inr (.inl (some (26)))))] (ck_124 _ _ rfl) rfl rfl pp_46 rfl rfl rfl (congrArg Prod.fst (ly_k L3 26 rfl)) rfl rfl rfl rfl ?_
      refine ct_46x (h := (blk h 3 p)) L3 ?_
      show av_wp _ cd_124 43 [some (.inr (.inr (.inl (some (0))))), some (.inl k)] [] (hfil (blk h 3 p) 27 0 144 (0)) _
      refine av_wp_sqF ck_124 1 (pc' := 44) (lv' := [some (.inr (.inr (.inl (some (0))))), some (.inl k)]) (st' := [.inl (1)]) (h' := (hfil (blk h 3 p) 27 0 144 (0))) rfl ?_
      refine av_wp_ret (v := some (.inl (1))) (ck_124 _ _ rfl) rfl rfl ?_
      exact hq (by omega) (by omega) p hp hp2 hp3
end
section
/-! THE REFERENCE'S COPIES -/
def czt : List Nat := [1, 1, 1, 16, 192, 192, 192, 192, 192, 192, 192, 192, 960, 576, 576, 196]
def cz (q : Nat) : Nat := czt.getD (q - 78) 0
/-- so many places of each row of the slot b are those of the slot a -/
def cpL (A : Nat → Nat → Int) (a b : Nat) (l : List Nat) : Nat → Nat → Int := fun q j => if 78 ≤ q ∧ cz q * b ≤ j ∧ j < cz q * b + l.getD (q - 78) 0 then A q (j - cz q * b + cz q * a) else A q j
theorem getD_set {l : List Nat} {i j x : Nat} (h : i < l.length) : (l.set i x).getD j 0 = if i = j then x else l.getD j 0 := by
  rw [List.getD_eq_getElem?_getD, List.getD_eq_getElem?_getD, List.getElem?_set]
  by_cases e : i = j
  · subst e
    rw [if_pos rfl, if_pos h, if_pos rfl]
    rfl
  · rw [if_neg e, if_neg e]
theorem cp_w {A : Nat → Nat → Int} {a b : Nat} {l l' : List Nat} {q k i : Nat} {v : Int} (h1 : 78 ≤ q) (h2 : q - 78 < l.length) (hk : l.getD (q - 78) 0 = k) (hi : i = cz q * b + k) (hv : v = A q (cz q * a + k)) (hl : l.set (q - 78) (k + 1) = l') : av_u2 (cpL A a b l) q i v = cpL A a b l' := by
  subst hi
  subst hl
  funext q' j
  unfold av_u2
  by_cases e : q' = q
  · subst e
    by_cases e2 : j = cz q' * b + k
    · rw [if_pos ⟨rfl, e2⟩]
      have c : 78 ≤ q' ∧ cz q' * b ≤ j ∧ j < cz q' * b + (l.set (q' - 78) (k + 1)).getD (q' - 78) 0 := by
        rw [getD_set h2, if_pos rfl]
        omega
      rw [show cpL A a b (l.set (q' - 78) (k + 1)) q' j = A q' (j - cz q' * b + cz q' * a) from if_pos c, hv, e2]
      congr 1
      omega
    · rw [if_neg (fun z => e2 z.2)]
      unfold cpL
      rw [getD_set h2, if_pos rfl, hk]
      by_cases c : 78 ≤ q' ∧ cz q' * b ≤ j ∧ j < cz q' * b + k
      · rw [if_pos c, if_pos (by omega)]
      · rw [if_neg c, if_neg (by omega)]
  · rw [if_neg (fun z => e z.1)]
    unfold cpL
    rw [getD_set h2]
    by_cases c : 78 ≤ q'
    · rw [if_neg (show ¬ q - 78 = q' - 78 by omega)]
    · rw [if_neg (fun z => c z.1), if_neg (fun z => c z.1)]
theorem cp_r {A : Nat → Nat → Int} {a b : Nat} {l : List Nat} {q j : Nat} (h : ¬ (cz q * b ≤ j ∧ j < cz q * b + l.getD (q - 78) 0)) : cpL A a b l q j = A q j := if_neg (fun z => h z.2)
theorem cp_0 {A : Nat → Nat → Int} {a b : Nat} : cpL A a b [0, 0, 0, 0, 0, 0, 0, 0, 0, 0, 0, 0, 0, 0, 0, 0] = A := by
  funext q j
  have hh : ∀ n : Nat, [0, 0, 0, 0, 0, 0, 0, 0, 0, 0, 0, 0, 0, 0, 0, 0].getD n 0 = 0 := by
    intro n
    rw [List.getD_eq_getElem?_getD]
    by_cases c : n < 16
    · have : ∀ m, m < 16 → ([0, 0, 0, 0, 0, 0, 0, 0, 0, 0, 0, 0, 0, 0, 0, 0][m]?).getD 0 = 0 := by decide
      exact this n c
    · rw [List.getElem?_eq_none (by show 16 ≤ n; omega)]
      rfl
  unfold cpL
  rw [hh, if_neg (by omega)]

set_option maxRecDepth 100000 in
set_option maxHeartbeats 4000000 in
theorem ct_213 {h : av_H} (L : LY h) (a b : Nat) (ha : a ≤ 4) (hb : b ≤ 4) (hab : a ≠ b) (x y : Int) (ex : x = (a : Int)) (ey : y = (b : Int)) {Q : Option av_V → av_H → Prop} (hq : Q none (stA h (cpL (hA h) a b czt))) : av_wp none cd_213 0 [some (.inr (.inr (.inl (some (77))))), some (.inl x), some (.inl y), none] [] h Q := by
  subst ex
  subst ey
  have e0 : (stA h (cpL (hA h) a b [0, 0, 0, 0, 0, 0, 0, 0, 0, 0, 0, 0, 0, 0, 0, 0])) = h := by rw [cp_0]; rfl
  suffices hs : av_wp none cd_213 0 [some (.inr (.inr (.inl (some (77))))), some (.inl (a : Int)), some (.inl (b : Int)), none] [] (stA h (cpL (hA h) a b [0, 0, 0, 0, 0, 0, 0, 0, 0, 0, 0, 0, 0, 0, 0, 0])) Q by rw [e0] at hs; exact hs
  refine av_wp_sqF ck_213 1 (pc' := 1) (lv' := [some (.inr (.inr (.inl (some (77))))), some (.inl (a : Int)), some (.inl (b : Int)), none]) (st' := [.inr (.inr (.inl (some (77))))]) (h' := (stA h (cpL (hA h) a b [0, 0, 0, 0, 0, 0, 0, 0, 0, 0, 0, 0, 0, 0, 0, 0]))) rfl ?_
  refine wq_gr (p' := 4) (ck_213 _ _ rfl) rfl (congrArg Prod.fst (ly_k L 77 rfl)) rfl (ly_g L 77 0 78 rfl) ?_
  refine av_wp_sqF ck_213 2 (pc' := 6) (lv' := [some (.inr (.inr (.inl (some (77))))), some (.inl (a : Int)), some (.inl (b : Int)), none]) (st' := [.inr (.inr (.inl (some (77)))), .inl (b : Int), .inr (.inr (.inl (some (78))))]) (h' := (stA h (cpL (hA h) a b [0, 0, 0, 0, 0, 0, 0, 0, 0, 0, 0, 0, 0, 0, 0, 0]))) rfl ?_
  refine wq_gr (p' := 9) (ck_213 _ _ rfl) rfl (congrArg Prod.fst (ly_k L 77 rfl)) rfl (ly_g L 77 0 78 rfl) ?_
  refine av_wp_sqF ck_213 1 (pc' := 10) (lv' := [some (.inr (.inr (.inl (some (77))))), some (.inl (a : Int)), some (.inl (b : Int)), none]) (st' := [.inl (a : Int), .inr (.inr (.inl (some (78)))), .inl (b : Int), .inr (.inr (.inl (some (78))))]) (h' := (stA h (cpL (hA h) a b [0, 0, 0, 0, 0, 0, 0, 0, 0, 0, 0, 0, 0, 0, 0, 0]))) rfl ?_
  refine wq_al (p' := 11) (n := 5) (ck_213 _ _ rfl) rfl (ly_k L 78 rfl) (by omega) ((congrArg (cpL (hA h) a b [0, 0, 0, 0, 0, 0, 0, 0, 0, 0, 0, 0, 0, 0, 0, 0] 78) (show Int.toNat ((a : Int)) = 1 * a + 0 by omega)).trans (cp_r (show ¬ (1 * b ≤ 1 * a + 0 ∧ 1 * a + 0 < 1 * b + 0) by omega))) ?_
  refine wq_as (p' := 12) (n := 5) (ck_213 _ _ rfl) rfl (ly_k L 78 rfl) (by omega) ?_
  have z1 : hwA (stA h (cpL (hA h) a b [0, 0, 0, 0, 0, 0, 0, 0, 0, 0, 0, 0, 0, 0, 0, 0])) 78 (Int.toNat ((b : Int))) (hA h 78 (1 * a + 0)) = (stA h (cpL (hA h) a b [1, 0, 0, 0, 0, 0, 0, 0, 0, 0, 0, 0, 0, 0, 0, 0])) := congrArg (stA h) (cp_w (k := 0) (by decide) (Nat.le_of_ble_eq_true rfl) rfl (show Int.toNat ((b : Int)) = 1 * b + 0 by omega) rfl rfl)
  rw [z1]
  refine av_wp_sqF ck_213 1 (pc' := 13) (lv' := [some (.inr (.inr (.inl (some (77))))), some (.inl (a : Int)), some (.inl (b : Int)), none]) (st' := [.inr (.inr (.inl (some (77))))]) (h' := (stA h (cpL (hA h) a b [1, 0, 0, 0, 0, 0, 0, 0, 0, 0, 0, 0, 0, 0, 0, 0]))) rfl ?_
  refine wq_gr (p' := 16) (ck_213 _ _ rfl) rfl (congrArg Prod.fst (ly_k L 77 rfl)) rfl (ly_g L 77 1 79 rfl) ?_
  refine av_wp_sqF ck_213 2 (pc' := 18) (lv' := [some (.inr (.inr (.inl (some (77))))), some (.inl (a : Int)), some (.inl (b : Int)), none]) (st' := [.inr (.inr (.inl (some (77)))), .inl (b : Int), .inr (.inr (.inl (some (79))))]) (h' := (stA h (cpL (hA h) a b [1, 0, 0, 0, 0, 0, 0, 0, 0, 0, 0, 0, 0, 0, 0, 0]))) rfl ?_
  refine wq_gr (p' := 21) (ck_213 _ _ rfl) rfl (congrArg Prod.fst (ly_k L 77 rfl)) rfl (ly_g L 77 1 79 rfl) ?_
  refine av_wp_sqF ck_213 1 (pc' := 22) (lv' := [some (.inr (.inr (.inl (some (77))))), some (.inl (a : Int)), some (.inl (b : Int)), none]) (st' := [.inl (a : Int), .inr (.inr (.inl (some (79)))), .inl (b : Int), .inr (.inr (.inl (some (79))))]) (h' := (stA h (cpL (hA h) a b [1, 0, 0, 0, 0, 0, 0, 0, 0, 0, 0, 0, 0, 0, 0, 0]))) rfl ?_
  refine wq_al (p' := 23) (n := 5) (ck_213 _ _ rfl) rfl (ly_k L 79 rfl) (by omega) ((congrArg (cpL (hA h) a b [1, 0, 0, 0, 0, 0, 0, 0, 0, 0, 0, 0, 0, 0, 0, 0] 79) (show Int.toNat ((a : Int)) = 1 * a + 0 by omega)).trans (cp_r (show ¬ (1 * b ≤ 1 * a + 0 ∧ 1 * a + 0 < 1 * b + 0) by omega))) ?_
  refine wq_as (p' := 24) (n := 5) (ck_213 _ _ rfl) rfl (ly_k L 79 rfl) (by omega) ?_
  have z2 : hwA (stA h (cpL (hA h) a b [1, 0, 0, 0, 0, 0, 0, 0, 0, 0, 0, 0, 0, 0, 0, 0])) 79 (Int.toNat ((b : Int))) (hA h 79 (1 * a + 0)) = (stA h (cpL (hA h) a b [1, 1, 0, 0, 0, 0, 0, 0, 0, 0, 0, 0, 0, 0, 0, 0])) := congrArg (stA h) (cp_w (k := 0) (by decide) (Nat.le_of_ble_eq_true rfl) rfl (show Int.toNat ((b : Int)) = 1 * b + 0 by omega) rfl rfl)
  rw [z2]
  refine av_wp_sqF ck_213 1 (pc' := 25) (lv' := [some (.inr (.inr (.inl (some (77))))), some (.inl (a : Int)), some (.inl (b : Int)), none]) (st' := [.inr (.inr (.inl (some (77))))]) (h' := (stA h (cpL (hA h) a b [1, 1, 0, 0, 0, 0, 0, 0, 0, 0, 0, 0, 0, 0, 0, 0]))) rfl ?_
  refine wq_gr (p' := 28) (ck_213 _ _ rfl) rfl (congrArg Prod.fst (ly_k L 77 rfl)) rfl (ly_g L 77 2 80 rfl) ?_
  refine av_wp_sqF ck_213 2 (pc' := 30) (lv' := [some (.inr (.inr (.inl (some (77))))), some (.inl (a : Int)), some (.inl (b : Int)), none]) (st' := [.inr (.inr (.inl (some (77)))), .inl (b : Int), .inr (.inr (.inl (some (80))))]) (h' := (stA h (cpL (hA h) a b [1, 1, 0, 0, 0, 0, 0, 0, 0, 0, 0, 0, 0, 0, 0, 0]))) rfl ?_
  refine wq_gr (p' := 33) (ck_213 _ _ rfl) rfl (congrArg Prod.fst (ly_k L 77 rfl)) rfl (ly_g L 77 2 80 rfl) ?_
  refine av_wp_sqF ck_213 1 (pc' := 34) (lv' := [some (.inr (.inr (.inl (some (77))))), some (.inl (a : Int)), some (.inl (b : Int)), none]) (st' := [.inl (a : Int), .inr (.inr (.inl (some (80)))), .inl (b : Int), .inr (.inr (.inl (some (80))))]) (h' := (stA h (cpL (hA h) a b [1, 1, 0, 0, 0, 0, 0, 0, 0, 0, 0, 0, 0, 0, 0, 0]))) rfl ?_
  refine wq_al (p' := 35) (n := 5) (ck_213 _ _ rfl) rfl (ly_k L 80 rfl) (by omega) ((congrArg (cpL (hA h) a b [1, 1, 0, 0, 0, 0, 0, 0, 0, 0, 0, 0, 0, 0, 0, 0] 80) (show Int.toNat ((a : Int)) = 1 * a + 0 by omega)).trans (cp_r (show ¬ (1 * b ≤ 1 * a + 0 ∧ 1 * a + 0 < 1 * b + 0) by omega))) ?_
  refine wq_as (p' := 36) (n := 5) (ck_213 _ _ rfl) rfl (ly_k L 80 rfl) (by omega) ?_
  have z3 : hwA (stA h (cpL (hA h) a b [1, 1, 0, 0, 0, 0, 0, 0, 0, 0, 0, 0, 0, 0, 0, 0])) 80 (Int.toNat ((b : Int))) (hA h 80 (1 * a + 0)) = (stA h (cpL (hA h) a b [1, 1, 1, 0, 0, 0, 0, 0, 0, 0, 0, 0, 0, 0, 0, 0])) := congrArg (stA h) (cp_w (k := 0) (by decide) (Nat.le_of_ble_eq_true rfl) rfl (show Int.toNat ((b : Int)) = 1 * b + 0 by omega) rfl rfl)
  rw [z3]
  refine av_wp_sqF ck_213 2 (pc' := 38) (lv' := [some (.inr (.inr (.inl (some (77))))), some (.inl (a : Int)), some (.inl (b : Int)), some (.inl (0))]) (st' := []) (h' := (stA h (cpL (hA h) a b [1, 1, 1, 0, 0, 0, 0, 0, 0, 0, 0, 0, 0, 0, 0, 0]))) rfl ?_
  have L38 : ∀ (n k : Nat), n + k = 16 → av_wp none cd_213 38 [some (.inr (.inr (.inl (some (77))))), some (.inl (a : Int)), some (.inl (b : Int)), some (.inl (k : Int))] [] (stA h (cpL (hA h) a b [1, 1, 1, k, 0, 0, 0, 0, 0, 0, 0, 0, 0, 0, 0, 0])) Q := by
    intro n
    induction n with
    | zero =>
      intro k e1
      have e1 : k = 16 := by omega
      subst e1
      show av_wp none cd_213 38 [some (.inr (.inr (.inl (some (77))))), some (.inl (a : Int)), some (.inl (b : Int)), some (.inl (16))] [] (stA h (cpL (hA h) a b [1, 1, 1, 16, 0, 0, 0, 0, 0, 0, 0, 0, 0, 0, 0, 0])) Q
      refine av_wp_sqF ck_213 5 (pc' := 74) (lv' := [some (.inr (.inr (.inl (some (77))))), some (.inl (a : Int)), some (.inl (b : Int)), some (.inl (0))]) (st' := []) (h' := (stA h (cpL (hA h) a b [1, 1, 1, 16, 0, 0, 0, 0, 0, 0, 0, 0, 0, 0, 0, 0]))) rfl ?_
      have L74 : ∀ (n k : Nat), n + k = 192 → av_wp none cd_213 74 [some (.inr (.inr (.inl (some (77))))), some (.inl (a : Int)), some (.inl (b : Int)), some (.inl (k : Int))] [] (stA h (cpL (hA h) a b [1, 1, 1, 16, k, k, k, k, k, k, k, k, 0, 0, 0, 0])) Q := by
        intro n
        induction n with
        | zero =>
          intro k e1
          have e1 : k = 192 := by omega
          subst e1
          show av_wp none cd_213 74 [some (.inr (.inr (.inl (some (77))))), some (.inl (a : Int)), some (.inl (b : Int)), some (.inl (192))] [] (stA h (cpL (hA h) a b [1, 1, 1, 16, 192, 192, 192, 192, 192, 192, 192, 192, 0, 0, 0, 0])) Q
          refine av_wp_sqF ck_213 5 (pc' := 281) (lv' := [some (.inr (.inr (.inl (some (77))))), some (.inl (a : Int)), some (.inl (b : Int)), some (.inl (0))]) (st' := []) (h' := (stA h (cpL (hA h) a b [1, 1, 1, 16, 192, 192, 192, 192, 192, 192, 192, 192, 0, 0, 0, 0]))) rfl ?_
          have L281 : ∀ (n k : Nat), n + k = 960 → av_wp none cd_213 281 [some (.inr (.inr (.inl (some (77))))), some (.inl (a : Int)), some (.inl (b : Int)), some (.inl (k : Int))] [] (stA h (cpL (hA h) a b [1, 1, 1, 16, 192, 192, 192, 192, 192, 192, 192, 192, k, 0, 0, 0])) Q := by
            intro n
            induction n with
            | zero =>
              intro k e1
              have e1 : k = 960 := by omega
              subst e1
              show av_wp none cd_213 281 [some (.inr (.inr (.inl (some (77))))), some (.inl (a : Int)), some (.inl (b : Int)), some (.inl (960))] [] (stA h (cpL (hA h) a b [1, 1, 1, 16, 192, 192, 192, 192, 192, 192, 192, 192, 960, 0, 0, 0])) Q
              refine av_wp_sqF ck_213 5 (pc' := 320) (lv' := [some (.inr (.inr (.inl (some (77))))), some (.inl (a : Int)), some (.inl (b : Int)), some (.inl (0))]) (st' := []) (h' := (stA h (cpL (hA h) a b [1, 1, 1, 16, 192, 192, 192, 192, 192, 192, 192, 192, 960, 0, 0, 0]))) rfl ?_
              have L320 : ∀ (n k : Nat), n + k = 576 → av_wp none cd_213 320 [some (.inr (.inr (.inl (some (77))))), some (.inl (a : Int)), some (.inl (b : Int)), some (.inl (k : Int))] [] (stA h (cpL (hA h) a b [1, 1, 1, 16, 192, 192, 192, 192, 192, 192, 192, 192, 960, k, k, 0])) Q := by
                intro n
                induction n with
                | zero =>
                  intro k e1
                  have e1 : k = 576 := by omega
                  subst e1
                  show av_wp none cd_213 320 [some (.inr (.inr (.inl (some (77))))), some (.inl (a : Int)), some (.inl (b : Int)), some (.inl (576))] [] (stA h (cpL (hA h) a b [1, 1, 1, 16, 192, 192, 192, 192, 192, 192, 192, 192, 960, 576, 576, 0])) Q
                  refine av_wp_sqF ck_213 5 (pc' := 383) (lv' := [some (.inr (.inr (.inl (some (77))))), some (.inl (a : Int)), some (.inl (b : Int)), some (.inl (0))]) (st' := []) (h' := (stA h (cpL (hA h) a b [1, 1, 1, 16, 192, 192, 192, 192, 192, 192, 192, 192, 960, 576, 576, 0]))) rfl ?_
                  have L383 : ∀ (n k : Nat), n + k = 196 → av_wp none cd_213 383 [some (.inr (.inr (.inl (some (77))))), some (.inl (a : Int)), some (.inl (b : Int)), some (.inl (k : Int))] [] (stA h (cpL (hA h) a b [1, 1, 1, 16, 192, 192, 192, 192, 192, 192, 192, 192, 960, 576, 576, k])) Q := by
                    intro n
                    induction n with
                    | zero =>
                      intro k e1
                      have e1 : k = 196 := by omega
                      subst e1
                      show av_wp none cd_213 383 [some (.inr (.inr (.inl (some (77))))), some (.inl (a : Int)), some (.inl (b : Int)), some (.inl (196))] [] (stA h (cpL (hA h) a b [1, 1, 1, 16, 192, 192, 192, 192, 192, 192, 192, 192, 960, 576, 576, 196])) Q
                      refine av_wp_sqF ck_213 3 (pc' := 420) (lv' := [some (.inr (.inr (.inl (some (77))))), some (.inl (a : Int)), some (.inl (b : Int)), some (.inl (196))]) (st' := []) (h' := (stA h (cpL (hA h) a b [1, 1, 1, 16, 192, 192, 192, 192, 192, 192, 192, 192, 960, 576, 576, 196]))) rfl ?_
                      refine av_wp_ret (v := none) (ck_213 _ _ rfl) rfl rfl ?_
                      exact hq
                    | succ n ih =>
                      intro k e1
                      refine av_wp_sqF ck_213 2 (pc' := 387) (lv' := [some (.inr (.inr (.inl (some (77))))), some (.inl (a : Int)), some (.inl (b : Int)), some (.inl (k : Int))]) (st' := [.inl (196), .inl (k : Int)]) (h' := (stA h (cpL (hA h) a b [1, 1, 1, 16, 192, 192, 192, 192, 192, 192, 192, 192, 960, 576, 576, k]))) rfl ?_
                      refine wq_k2 (p' := 390) (ck_213 _ _ rfl) rfl ⟨by omega, by omega⟩ ⟨by omega, by omega⟩ (fun c4 => ?_) (fun c5 => ?_)
                      · have c4 : (196) ≤ (k : Int) := c4
                        exfalso; omega
                      · have c5 : (k : Int) < (196) := c5
                        refine av_wp_sqF ck_213 1 (pc' := 391) (lv' := [some (.inr (.inr (.inl (some (77))))), some (.inl (a : Int)), some (.inl (b : Int)), some (.inl (k : Int))]) (st' := [.inr (.inr (.inl (some (77))))]) (h' := (stA h (cpL (hA h) a b [1, 1, 1, 16, 192, 192, 192, 192, 192, 192, 192, 192, 960, 576, 576, k]))) rfl ?_
                        refine wq_gr (p' := 394) (ck_213 _ _ rfl) rfl (congrArg Prod.fst (ly_k L 77 rfl)) rfl (ly_g L 77 15 93 rfl) ?_
                        refine av_wp_sqF ck_213 6 (pc' := 402) (lv' := [some (.inr (.inr (.inl (some (77))))), some (.inl (a : Int)), some (.inl (b : Int)), some (.inl (k : Int))]) (st' := [.inr (.inr (.inl (some (77)))), .inl (((196) * (b : Int)) + (k : Int)), .inr (.inr (.inl (some (93))))]) (h' := (stA h (cpL (hA h) a b [1, 1, 1, 16, 192, 192, 192, 192, 192, 192, 192, 192, 960, 576, 576, k]))) rfl ?_
                        refine wq_gr (p' := 405) (ck_213 _ _ rfl) rfl (congrArg Prod.fst (ly_k L 77 rfl)) rfl (ly_g L 77 15 93 rfl) ?_
                        refine av_wp_sqF ck_213 5 (pc' := 412) (lv' := [some (.inr (.inr (.inl (some (77))))), some (.inl (a : Int)), some (.inl (b : Int)), some (.inl (k : Int))]) (st' := [.inl (((196) * (a : Int)) + (k : Int)), .inr (.inr (.inl (some (93)))), .inl (((196) * (b : Int)) + (k : Int)), .inr (.inr (.inl (some (93))))]) (h' := (stA h (cpL (hA h) a b [1, 1, 1, 16, 192, 192, 192, 192, 192, 192, 192, 192, 960, 576, 576, k]))) rfl ?_
                        refine wq_al (p' := 413) (n := 980) (ck_213 _ _ rfl) rfl (ly_k L 93 rfl) (by omega) ((congrArg (cpL (hA h) a b [1, 1, 1, 16, 192, 192, 192, 192, 192, 192, 192, 192, 960, 576, 576, k] 93) (show Int.toNat ((((196) * (a : Int)) + (k : Int))) = 196 * a + k by omega)).trans (cp_r (show ¬ (196 * b ≤ 196 * a + k ∧ 196 * a + k < 196 * b + k) by omega))) ?_
                        refine wq_as (p' := 414) (n := 980) (ck_213 _ _ rfl) rfl (ly_k L 93 rfl) (by omega) ?_
                        have z6 : hwA (stA h (cpL (hA h) a b [1, 1, 1, 16, 192, 192, 192, 192, 192, 192, 192, 192, 960, 576, 576, k])) 93 (Int.toNat ((((196) * (b : Int)) + (k : Int)))) (hA h 93 (196 * a + k)) = (stA h (cpL (hA h) a b [1, 1, 1, 16, 192, 192, 192, 192, 192, 192, 192, 192, 960, 576, 576, (k + 1)])) := congrArg (stA h) (cp_w (k := k) (by decide) (Nat.le_of_ble_eq_true rfl) rfl (show Int.toNat ((((196) * (b : Int)) + (k : Int))) = 196 * b + k by omega) rfl rfl)
                        rw [z6]
                        refine av_wp_sqF ck_213 2 (pc' := 383) (lv' := [some (.inr (.inr (.inl (some (77))))), some (.inl (a : Int)), some (.inl (b : Int)), some (.inl ((k : Int) + (1)))]) (st' := []) (h' := (stA h (cpL (hA h) a b [1, 1, 1, 16, 192, 192, 192, 192, 192, 192, 192, 192, 960, 576, 576, (k + 1)]))) rfl ?_
                        exact ih (k + 1) (by omega)
                  exact L383 196 0 rfl
                | succ n ih =>
                  intro k e1
                  refine av_wp_sqF ck_213 2 (pc' := 324) (lv' := [some (.inr (.inr (.inl (some (77))))), some (.inl (a : Int)), some (.inl (b : Int)), some (.inl (k : Int))]) (st' := [.inl (576), .inl (k : Int)]) (h' := (stA h (cpL (hA h) a b [1, 1, 1, 16, 192, 192, 192, 192, 192, 192, 192, 192, 960, k, k, 0]))) rfl ?_
                  refine wq_k2 (p' := 327) (ck_213 _ _ rfl) rfl ⟨by omega, by omega⟩ ⟨by omega, by omega⟩ (fun c7 => ?_) (fun c8 => ?_)
                  · have c7 : (576) ≤ (k : Int) := c7
                    exfalso; omega
                  · have c8 : (k : Int) < (576) := c8
                    refine av_wp_sqF ck_213 1 (pc' := 328) (lv' := [some (.inr (.inr (.inl (some (77))))), some (.inl (a : Int)), some (.inl (b : Int)), some (.inl (k : Int))]) (st' := [.inr (.inr (.inl (some (77))))]) (h' := (stA h (cpL (hA h) a b [1, 1, 1, 16, 192, 192, 192, 192, 192, 192, 192, 192, 960, k, k, 0]))) rfl ?_
                    refine wq_gr (p' := 331) (ck_213 _ _ rfl) rfl (congrArg Prod.fst (ly_k L 77 rfl)) rfl (ly_g L 77 13 91 rfl) ?_
                    refine av_wp_sqF ck_213 6 (pc' := 339) (lv' := [some (.inr (.inr (.inl (some (77))))), some (.inl (a : Int)), some (.inl (b : Int)), some (.inl (k : Int))]) (st' := [.inr (.inr (.inl (some (77)))), .inl (((576) * (b : Int)) + (k : Int)), .inr (.inr (.inl (some (91))))]) (h' := (stA h (cpL (hA h) a b [1, 1, 1, 16, 192, 192, 192, 192, 192, 192, 192, 192, 960, k, k, 0]))) rfl ?_
                    refine wq_gr (p' := 342) (ck_213 _ _ rfl) rfl (congrArg Prod.fst (ly_k L 77 rfl)) rfl (ly_g L 77 13 91 rfl) ?_
                    refine av_wp_sqF ck_213 5 (pc' := 349) (lv' := [some (.inr (.inr (.inl (some (77))))), some (.inl (a : Int)), some (.inl (b : Int)), some (.inl (k : Int))]) (st' := [.inl (((576) * (a : Int)) + (k : Int)), .inr (.inr (.inl (some (91)))), .inl (((576) * (b : Int)) + (k : Int)), .inr (.inr (.inl (some (91))))]) (h' := (stA h (cpL (hA h) a b [1, 1, 1, 16, 192, 192, 192, 192, 192, 192, 192, 192, 960, k, k, 0]))) rfl ?_
                    refine wq_al (p' := 350) (n := 2880) (ck_213 _ _ rfl) rfl (ly_k L 91 rfl) (by omega) ((congrArg (cpL (hA h) a b [1, 1, 1, 16, 192, 192, 192, 192, 192, 192, 192, 192, 960, k, k, 0] 91) (show Int.toNat ((((576) * (a : Int)) + (k : Int))) = 576 * a + k by omega)).trans (cp_r (show ¬ (576 * b ≤ 576 * a + k ∧ 576 * a + k < 576 * b + k) by omega))) ?_
                    refine wq_as (p' := 351) (n := 2880) (ck_213 _ _ rfl) rfl (ly_k L 91 rfl) (by omega) ?_
                    have z9 : hwA (stA h (cpL (hA h) a b [1, 1, 1, 16, 192, 192, 192, 192, 192, 192, 192, 192, 960, k, k, 0])) 91 (Int.toNat ((((576) * (b : Int)) + (k : Int)))) (hA h 91 (576 * a + k)) = (stA h (cpL (hA h) a b [1, 1, 1, 16, 192, 192, 192, 192, 192, 192, 192, 192, 960, (k + 1), k, 0])) := congrArg (stA h) (cp_w (k := k) (by decide) (Nat.le_of_ble_eq_true rfl) rfl (show Int.toNat ((((576) * (b : Int)) + (k : Int))) = 576 * b + k by omega) rfl rfl)
                    rw [z9]
                    refine av_wp_sqF ck_213 1 (pc' := 352) (lv' := [some (.inr (.inr (.inl (some (77))))), some (.inl (a : Int)), some (.inl (b : Int)), some (.inl (k : Int))]) (st' := [.inr (.inr (.inl (some (77))))]) (h' := (stA h (cpL (hA h) a b [1, 1, 1, 16, 192, 192, 192, 192, 192, 192, 192, 192, 960, (k + 1), k, 0]))) rfl ?_
                    refine wq_gr (p' := 355) (ck_213 _ _ rfl) rfl (congrArg Prod.fst (ly_k L 77 rfl)) rfl (ly_g L 77 14 92 rfl) ?_
                    refine av_wp_sqF ck_213 6 (pc' := 363) (lv' := [some (.inr (.inr (.inl (some (77))))), some (.inl (a : Int)), some (.inl (b : Int)), some (.inl (k : Int))]) (st' := [.inr (.inr (.inl (some (77)))), .inl (((576) * (b : Int)) + (k : Int)), .inr (.inr (.inl (some (92))))]) (h' := (stA h (cpL (hA h) a b [1, 1, 1, 16, 192, 192, 192, 192, 192, 192, 192, 192, 960, (k + 1), k, 0]))) rfl ?_
                    refine wq_gr (p' := 366) (ck_213 _ _ rfl) rfl (congrArg Prod.fst (ly_k L 77 rfl)) rfl (ly_g L 77 14 92 rfl) ?_
                    refine av_wp_sqF ck_213 5 (pc' := 373) (lv' := [some (.inr (.inr (.inl (some (77))))), some (.inl (a : Int)), some (.inl (b : Int)), some (.inl (k : Int))]) (st' := [.inl (((576) * (a : Int)) + (k : Int)), .inr (.inr (.inl (some (92)))), .inl (((576) * (b : Int)) + (k : Int)), .inr (.inr (.inl (some (92))))]) (h' := (stA h (cpL (hA h) a b [1, 1, 1, 16, 192, 192, 192, 192, 192, 192, 192, 192, 960, (k + 1), k, 0]))) rfl ?_
                    refine wq_al (p' := 374) (n := 2880) (ck_213 _ _ rfl) rfl (ly_k L 92 rfl) (by omega) ((congrArg (cpL (hA h) a b [1, 1, 1, 16, 192, 192, 192, 192, 192, 192, 192, 192, 960, (k + 1), k, 0] 92) (show Int.toNat ((((576) * (a : Int)) + (k : Int))) = 576 * a + k by omega)).trans (cp_r (show ¬ (576 * b ≤ 576 * a + k ∧ 576 * a + k < 576 * b + k) by omega))) ?_
                    refine wq_as (p' := 375) (n := 2880) (ck_213 _ _ rfl) rfl (ly_k L 92 rfl) (by omega) ?_
                    have z10 : hwA (stA h (cpL (hA h) a b [1, 1, 1, 16, 192, 192, 192, 192, 192, 192, 192, 192, 960, (k + 1), k, 0])) 92 (Int.toNat ((((576) * (b : Int)) + (k : Int)))) (hA h 92 (576 * a + k)) = (stA h (cpL (hA h) a b [1, 1, 1, 16, 192, 192, 192, 192, 192, 192, 192, 192, 960, (k + 1), (k + 1), 0])) := congrArg (stA h) (cp_w (k := k) (by decide) (Nat.le_of_ble_eq_true rfl) rfl (show Int.toNat ((((576) * (b : Int)) + (k : Int))) = 576 * b + k by omega) rfl rfl)
                    rw [z10]
                    refine av_wp_sqF ck_213 2 (pc' := 320) (lv' := [some (.inr (.inr (.inl (some (77))))), some (.inl (a : Int)), some (.inl (b : Int)), some (.inl ((k : Int) + (1)))]) (st' := []) (h' := (stA h (cpL (hA h) a b [1, 1, 1, 16, 192, 192, 192, 192, 192, 192, 192, 192, 960, (k + 1), (k + 1), 0]))) rfl ?_
                    exact ih (k + 1) (by omega)
              exact L320 576 0 rfl
            | succ n ih =>
              intro k e1
              refine av_wp_sqF ck_213 2 (pc' := 285) (lv' := [some (.inr (.inr (.inl (some (77))))), some (.inl (a : Int)), some (.inl (b : Int)), some (.inl (k : Int))]) (st' := [.inl (960), .inl (k : Int)]) (h' := (stA h (cpL (hA h) a b [1, 1, 1, 16, 192, 192, 192, 192, 192, 192, 192, 192, k, 0, 0, 0]))) rfl ?_
              refine wq_k2 (p' := 288) (ck_213 _ _ rfl) rfl ⟨by omega, by omega⟩ ⟨by omega, by omega⟩ (fun c11 => ?_) (fun c12 => ?_)
              · have c11 : (960) ≤ (k : Int) := c11
                exfalso; omega
              · have c12 : (k : Int) < (960) := c12
                refine av_wp_sqF ck_213 1 (pc' := 289) (lv' := [some (.inr (.inr (.inl (some (77))))), some (.inl (a : Int)), some (.inl (b : Int)), some (.inl (k : Int))]) (st' := [.inr (.inr (.inl (some (77))))]) (h' := (stA h (cpL (hA h) a b [1, 1, 1, 16, 192, 192, 192, 192, 192, 192, 192, 192, k, 0, 0, 0]))) rfl ?_
                refine wq_gr (p' := 292) (ck_213 _ _ rfl) rfl (congrArg Prod.fst (ly_k L 77 rfl)) rfl (ly_g L 77 12 90 rfl) ?_
                refine av_wp_sqF ck_213 6 (pc' := 300) (lv' := [some (.inr (.inr (.inl (some (77))))), some (.inl (a : Int)), some (.inl (b : Int)), some (.inl (k : Int))]) (st' := [.inr (.inr (.inl (some (77)))), .inl (((960) * (b : Int)) + (k : Int)), .inr (.inr (.inl (some (90))))]) (h' := (stA h (cpL (hA h) a b [1, 1, 1, 16, 192, 192, 192, 192, 192, 192, 192, 192, k, 0, 0, 0]))) rfl ?_
                refine wq_gr (p' := 303) (ck_213 _ _ rfl) rfl (congrArg Prod.fst (ly_k L 77 rfl)) rfl (ly_g L 77 12 90 rfl) ?_
                refine av_wp_sqF ck_213 5 (pc' := 310) (lv' := [some (.inr (.inr (.inl (some (77))))), some (.inl (a : Int)), some (.inl (b : Int)), some (.inl (k : Int))]) (st' := [.inl (((960) * (a : Int)) + (k : Int)), .inr (.inr (.inl (some (90)))), .inl (((960) * (b : Int)) + (k : Int)), .inr (.inr (.inl (some (90))))]) (h' := (stA h (cpL (hA h) a b [1, 1, 1, 16, 192, 192, 192, 192, 192, 192, 192, 192, k, 0, 0, 0]))) rfl ?_
                refine wq_al (p' := 311) (n := 4800) (ck_213 _ _ rfl) rfl (ly_k L 90 rfl) (by omega) ((congrArg (cpL (hA h) a b [1, 1, 1, 16, 192, 192, 192, 192, 192, 192, 192, 192, k, 0, 0, 0] 90) (show Int.toNat ((((960) * (a : Int)) + (k : Int))) = 960 * a + k by omega)).trans (cp_r (show ¬ (960 * b ≤ 960 * a + k ∧ 960 * a + k < 960 * b + k) by omega))) ?_
                refine wq_as (p' := 312) (n := 4800) (ck_213 _ _ rfl) rfl (ly_k L 90 rfl) (by omega) ?_
                have z13 : hwA (stA h (cpL (hA h) a b [1, 1, 1, 16, 192, 192, 192, 192, 192, 192, 192, 192, k, 0, 0, 0])) 90 (Int.toNat ((((960) * (b : Int)) + (k : Int)))) (hA h 90 (960 * a + k)) = (stA h (cpL (hA h) a b [1, 1, 1, 16, 192, 192, 192, 192, 192, 192, 192, 192, (k + 1), 0, 0, 0])) := congrArg (stA h) (cp_w (k := k) (by decide) (Nat.le_of_ble_eq_true rfl) rfl (show Int.toNat ((((960) * (b : Int)) + (k : Int))) = 960 * b + k by omega) rfl rfl)
                rw [z13]
                refine av_wp_sqF ck_213 2 (pc' := 281) (lv' := [some (.inr (.inr (.inl (some (77))))), some (.inl (a : Int)), some (.inl (b : Int)), some (.inl ((k : Int) + (1)))]) (st' := []) (h' := (stA h (cpL (hA h) a b [1, 1, 1, 16, 192, 192, 192, 192, 192, 192, 192, 192, (k + 1), 0, 0, 0]))) rfl ?_
                exact ih (k + 1) (by omega)
          exact L281 960 0 rfl
        | succ n ih =>
          intro k e1
          refine av_wp_sqF ck_213 2 (pc' := 78) (lv' := [some (.inr (.inr (.inl (some (77))))), some (.inl (a : Int)), some (.inl (b : Int)), some (.inl (k : Int))]) (st' := [.inl (192), .inl (k : Int)]) (h' := (stA h (cpL (hA h) a b [1, 1, 1, 16, k, k, k, k, k, k, k, k, 0, 0, 0, 0]))) rfl ?_
          refine wq_k2 (p' := 81) (ck_213 _ _ rfl) rfl ⟨by omega, by omega⟩ ⟨by omega, by omega⟩ (fun c14 => ?_) (fun c15 => ?_)
          · have c14 : (192) ≤ (k : Int) := c14
            exfalso; omega
          · have c15 : (k : Int) < (192) := c15
            refine av_wp_sqF ck_213 1 (pc' := 82) (lv' := [some (.inr (.inr (.inl (some (77))))), some (.inl (a : Int)), some (.inl (b : Int)), some (.inl (k : Int))]) (st' := [.inr (.inr (.inl (some (77))))]) (h' := (stA h (cpL (hA h) a b [1, 1, 1, 16, k, k, k, k, k, k, k, k, 0, 0, 0, 0]))) rfl ?_
            refine wq_gr (p' := 85) (ck_213 _ _ rfl) rfl (congrArg Prod.fst (ly_k L 77 rfl)) rfl (ly_g L 77 4 82 rfl) ?_
            refine av_wp_sqF ck_213 6 (pc' := 93) (lv' := [some (.inr (.inr (.inl (some (77))))), some (.inl (a : Int)), some (.inl (b : Int)), some (.inl (k : Int))]) (st' := [.inr (.inr (.inl (some (77)))), .inl (((192) * (b : Int)) + (k : Int)), .inr (.inr (.inl (some (82))))]) (h' := (stA h (cpL (hA h) a b [1, 1, 1, 16, k, k, k, k, k, k, k, k, 0, 0, 0, 0]))) rfl ?_
            refine wq_gr (p' := 96) (ck_213 _ _ rfl) rfl (congrArg Prod.fst (ly_k L 77 rfl)) rfl (ly_g L 77 4 82 rfl) ?_
            refine av_wp_sqF ck_213 5 (pc' := 103) (lv' := [some (.inr (.inr (.inl (some (77))))), some (.inl (a : Int)), some (.inl (b : Int)), some (.inl (k : Int))]) (st' := [.inl (((192) * (a : Int)) + (k : Int)), .inr (.inr (.inl (some (82)))), .inl (((192) * (b : Int)) + (k : Int)), .inr (.inr (.inl (some (82))))]) (h' := (stA h (cpL (hA h) a b [1, 1, 1, 16, k, k, k, k, k, k, k, k, 0, 0, 0, 0]))) rfl ?_
            refine wq_al (p' := 104) (n := 960) (ck_213 _ _ rfl) rfl (ly_k L 82 rfl) (by omega) ((congrArg (cpL (hA h) a b [1, 1, 1, 16, k, k, k, k, k, k, k, k, 0, 0, 0, 0] 82) (show Int.toNat ((((192) * (a : Int)) + (k : Int))) = 192 * a + k by omega)).trans (cp_r (show ¬ (192 * b ≤ 192 * a + k ∧ 192 * a + k < 192 * b + k) by omega))) ?_
            refine wq_as (p' := 105) (n := 960) (ck_213 _ _ rfl) rfl (ly_k L 82 rfl) (by omega) ?_
            have z16 : hwA (stA h (cpL (hA h) a b [1, 1, 1, 16, k, k, k, k, k, k, k, k, 0, 0, 0, 0])) 82 (Int.toNat ((((192) * (b : Int)) + (k : Int)))) (hA h 82 (192 * a + k)) = (stA h (cpL (hA h) a b [1, 1, 1, 16, (k + 1), k, k, k, k, k, k, k, 0, 0, 0, 0])) := congrArg (stA h) (cp_w (k := k) (by decide) (Nat.le_of_ble_eq_true rfl) rfl (show Int.toNat ((((192) * (b : Int)) + (k : Int))) = 192 * b + k by omega) rfl rfl)
            rw [z16]
            refine av_wp_sqF ck_213 1 (pc' := 106) (lv' := [some (.inr (.inr (.inl (some (77))))), some (.inl (a : Int)), some (.inl (b : Int)), some (.inl (k : Int))]) (st' := [.inr (.inr (.inl (some (77))))]) (h' := (stA h (cpL (hA h) a b [1, 1, 1, 16, (k + 1), k, k, k, k, k, k, k, 0, 0, 0, 0]))) rfl ?_
            refine wq_gr (p' := 109) (ck_213 _ _ rfl) rfl (congrArg Prod.fst (ly_k L 77 rfl)) rfl (ly_g L 77 5 83 rfl) ?_
            refine av_wp_sqF ck_213 6 (pc' := 117) (lv' := [some (.inr (.inr (.inl (some (77))))), some (.inl (a : Int)), some (.inl (b : Int)), some (.inl (k : Int))]) (st' := [.inr (.inr (.inl (some (77)))), .inl (((192) * (b : Int)) + (k : Int)), .inr (.inr (.inl (some (83))))]) (h' := (stA h (cpL (hA h) a b [1, 1, 1, 16, (k + 1), k, k, k, k, k, k, k, 0, 0, 0, 0]))) rfl ?_
            refine wq_gr (p' := 120) (ck_213 _ _ rfl) rfl (congrArg Prod.fst (ly_k L 77 rfl)) rfl (ly_g L 77 5 83 rfl) ?_
            refine av_wp_sqF ck_213 5 (pc' := 127) (lv' := [some (.inr (.inr (.inl (some (77))))), some (.inl (a : Int)), some (.inl (b : Int)), some (.inl (k : Int))]) (st' := [.inl (((192) * (a : Int)) + (k : Int)), .inr (.inr (.inl (some (83)))), .inl (((192) * (b : Int)) + (k : Int)), .inr (.inr (.inl (some (83))))]) (h' := (stA h (cpL (hA h) a b [1, 1, 1, 16, (k + 1), k, k, k, k, k, k, k, 0, 0, 0, 0]))) rfl ?_
            refine wq_al (p' := 128) (n := 960) (ck_213 _ _ rfl) rfl (ly_k L 83 rfl) (by omega) ((congrArg (cpL (hA h) a b [1, 1, 1, 16, (k + 1), k, k, k, k, k, k, k, 0, 0, 0, 0] 83) (show Int.toNat ((((192) * (a : Int)) + (k : Int))) = 192 * a + k by omega)).trans (cp_r (show ¬ (192 * b ≤ 192 * a + k ∧ 192 * a + k < 192 * b + k) by omega))) ?_
            refine wq_as (p' := 129) (n := 960) (ck_213 _ _ rfl) rfl (ly_k L 83 rfl) (by omega) ?_
            have z17 : hwA (stA h (cpL (hA h) a b [1, 1, 1, 16, (k + 1), k, k, k, k, k, k, k, 0, 0, 0, 0])) 83 (Int.toNat ((((192) * (b : Int)) + (k : Int)))) (hA h 83 (192 * a + k)) = (stA h (cpL (hA h) a b [1, 1, 1, 16, (k + 1), (k + 1), k, k, k, k, k, k, 0, 0, 0, 0])) := congrArg (stA h) (cp_w (k := k) (by decide) (Nat.le_of_ble_eq_true rfl) rfl (show Int.toNat ((((192) * (b : Int)) + (k : Int))) = 192 * b + k by omega) rfl rfl)
            rw [z17]
            refine av_wp_sqF ck_213 1 (pc' := 130) (lv' := [some (.inr (.inr (.inl (some (77))))), some (.inl (a : Int)), some (.inl (b : Int)), some (.inl (k : Int))]) (st' := [.inr (.inr (.inl (some (77))))]) (h' := (stA h (cpL (hA h) a b [1, 1, 1, 16, (k + 1), (k + 1), k, k, k, k, k, k, 0, 0, 0, 0]))) rfl ?_
            refine wq_gr (p' := 133) (ck_213 _ _ rfl) rfl (congrArg Prod.fst (ly_k L 77 rfl)) rfl (ly_g L 77 6 84 rfl) ?_
            refine av_wp_sqF ck_213 6 (pc' := 141) (lv' := [some (.inr (.inr (.inl (some (77))))), some (.inl (a : Int)), some (.inl (b : Int)), some (.inl (k : Int))]) (st' := [.inr (.inr (.inl (some (77)))), .inl (((192) * (b : Int)) + (k : Int)), .inr (.inr (.inl (some (84))))]) (h' := (stA h (cpL (hA h) a b [1, 1, 1, 16, (k + 1), (k + 1), k, k, k, k, k, k, 0, 0, 0, 0]))) rfl ?_
            refine wq_gr (p' := 144) (ck_213 _ _ rfl) rfl (congrArg Prod.fst (ly_k L 77 rfl)) rfl (ly_g L 77 6 84 rfl) ?_
            refine av_wp_sqF ck_213 5 (pc' := 151) (lv' := [some (.inr (.inr (.inl (some (77))))), some (.inl (a : Int)), some (.inl (b : Int)), some (.inl (k : Int))]) (st' := [.inl (((192) * (a : Int)) + (k : Int)), .inr (.inr (.inl (some (84)))), .inl (((192) * (b : Int)) + (k : Int)), .inr (.inr (.inl (some (84))))]) (h' := (stA h (cpL (hA h) a b [1, 1, 1, 16, (k + 1), (k + 1), k, k, k, k, k, k, 0, 0, 0, 0]))) rfl ?_
            refine wq_al (p' := 152) (n := 960) (ck_213 _ _ rfl) rfl (ly_k L 84 rfl) (by omega) ((congrArg (cpL (hA h) a b [1, 1, 1, 16, (k + 1), (k + 1), k, k, k, k, k, k, 0, 0, 0, 0] 84) (show Int.toNat ((((192) * (a : Int)) + (k : Int))) = 192 * a + k by omega)).trans (cp_r (show ¬ (192 * b ≤ 192 * a + k ∧ 192 * a + k < 192 * b + k) by omega))) ?_
            refine wq_as (p' := 153) (n := 960) (ck_213 _ _ rfl) rfl (ly_k L 84 rfl) (by omega) ?_
            have z18 : hwA (stA h (cpL (hA h) a b [1, 1, 1, 16, (k + 1), (k + 1), k, k, k, k, k, k, 0, 0, 0, 0])) 84 (Int.toNat ((((192) * (b : Int)) + (k : Int)))) (hA h 84 (192 * a + k)) = (stA h (cpL (hA h) a b [1, 1, 1, 16, (k + 1), (k + 1), (k + 1), k, k, k, k, k, 0, 0, 0, 0])) := congrArg (stA h) (cp_w (k := k) (by decide) (Nat.le_of_ble_eq_true rfl) rfl (show Int.toNat ((((192) * (b : Int)) + (k : Int))) = 192 * b + k by omega) rfl rfl)
            rw [z18]
            refine av_wp_sqF ck_213 1 (pc' := 154) (lv' := [some (.inr (.inr (.inl (some (77))))), some (.inl (a : Int)), some (.inl (b : Int)), some (.inl (k : Int))]) (st' := [.inr (.inr (.inl (some (77))))]) (h' := (stA h (cpL (hA h) a b [1, 1, 1, 16, (k + 1), (k + 1), (k + 1), k, k, k, k, k, 0, 0, 0, 0]))) rfl ?_
            refine wq_gr (p' := 157) (ck_213 _ _ rfl) rfl (congrArg Prod.fst (ly_k L 77 rfl)) rfl (ly_g L 77 7 85 rfl) ?_
            refine av_wp_sqF ck_213 6 (pc' := 165) (lv' := [some (.inr (.inr (.inl (some (77))))), some (.inl (a : Int)), some (.inl (b : Int)), some (.inl (k : Int))]) (st' := [.inr (.inr (.inl (some (77)))), .inl (((192) * (b : Int)) + (k : Int)), .inr (.inr (.inl (some (85))))]) (h' := (stA h (cpL (hA h) a b [1, 1, 1, 16, (k + 1), (k + 1), (k + 1), k, k, k, k, k, 0, 0, 0, 0]))) rfl ?_
            refine wq_gr (p' := 168) (ck_213 _ _ rfl) rfl (congrArg Prod.fst (ly_k L 77 rfl)) rfl (ly_g L 77 7 85 rfl) ?_
            refine av_wp_sqF ck_213 5 (pc' := 175) (lv' := [some (.inr (.inr (.inl (some (77))))), some (.inl (a : Int)), some (.inl (b : Int)), some (.inl (k : Int))]) (st' := [.inl (((192) * (a : Int)) + (k : Int)), .inr (.inr (.inl (some (85)))), .inl (((192) * (b : Int)) + (k : Int)), .inr (.inr (.inl (some (85))))]) (h' := (stA h (cpL (hA h) a b [1, 1, 1, 16, (k + 1), (k + 1), (k + 1), k, k, k, k, k, 0, 0, 0, 0]))) rfl ?_
            refine wq_al (p' := 176) (n := 960) (ck_213 _ _ rfl) rfl (ly_k L 85 rfl) (by omega) ((congrArg (cpL (hA h) a b [1, 1, 1, 16, (k + 1), (k + 1), (k + 1), k, k, k, k, k, 0, 0, 0, 0] 85) (show Int.toNat ((((192) * (a : Int)) + (k : Int))) = 192 * a + k by omega)).trans (cp_r (show ¬ (192 * b ≤ 192 * a + k ∧ 192 * a + k < 192 * b + k) by omega))) ?_
            refine wq_as (p' := 177) (n := 960) (ck_213 _ _ rfl) rfl (ly_k L 85 rfl) (by omega) ?_
            have z19 : hwA (stA h (cpL (hA h) a b [1, 1, 1, 16, (k + 1), (k + 1), (k + 1), k, k, k, k, k, 0, 0, 0, 0])) 85 (Int.toNat ((((192) * (b : Int)) + (k : Int)))) (hA h 85 (192 * a + k)) = (stA h (cpL (hA h) a b [1, 1, 1, 16, (k + 1), (k + 1), (k + 1), (k + 1), k, k, k, k, 0, 0, 0, 0])) := congrArg (stA h) (cp_w (k := k) (by decide) (Nat.le_of_ble_eq_true rfl) rfl (show Int.toNat ((((192) * (b : Int)) + (k : Int))) = 192 * b + k by omega) rfl rfl)
            rw [z19]
            refine av_wp_sqF ck_213 1 (pc' := 178) (lv' := [some (.inr (.inr (.inl (some (77))))), some (.inl (a : Int)), some (.inl (b : Int)), some (.inl (k : Int))]) (st' := [.inr (.inr (.inl (some (77))))]) (h' := (stA h (cpL (hA h) a b [1, 1, 1, 16, (k + 1), (k + 1), (k + 1), (k + 1), k, k, k, k, 0, 0, 0, 0]))) rfl ?_
            refine wq_gr (p' := 181) (ck_213 _ _ rfl) rfl (congrArg Prod.fst (ly_k L 77 rfl)) rfl (ly_g L 77 8 86 rfl) ?_
            refine av_wp_sqF ck_213 6 (pc' := 189) (lv' := [some (.inr (.inr (.inl (some (77))))), some (.inl (a : Int)), some (.inl (b : Int)), some (.inl (k : Int))]) (st' := [.inr (.inr (.inl (some (77)))), .inl (((192) * (b : Int)) + (k : Int)), .inr (.inr (.inl (some (86))))]) (h' := (stA h (cpL (hA h) a b [1, 1, 1, 16, (k + 1), (k + 1), (k + 1), (k + 1), k, k, k, k, 0, 0, 0, 0]))) rfl ?_
            refine wq_gr (p' := 192) (ck_213 _ _ rfl) rfl (congrArg Prod.fst (ly_k L 77 rfl)) rfl (ly_g L 77 8 86 rfl) ?_
            refine av_wp_sqF ck_213 5 (pc' := 199) (lv' := [some (.inr (.inr (.inl (some (77))))), some (.inl (a : Int)), some (.inl (b : Int)), some (.inl (k : Int))]) (st' := [.inl (((192) * (a : Int)) + (k : Int)), .inr (.inr (.inl (some (86)))), .inl (((192) * (b : Int)) + (k : Int)), .inr (.inr (.inl (some (86))))]) (h' := (stA h (cpL (hA h) a b [1, 1, 1, 16, (k + 1), (k + 1), (k + 1), (k + 1), k, k, k, k, 0, 0, 0, 0]))) rfl ?_
            refine wq_al (p' := 200) (n := 960) (ck_213 _ _ rfl) rfl (ly_k L 86 rfl) (by omega) ((congrArg (cpL (hA h) a b [1, 1, 1, 16, (k + 1), (k + 1), (k + 1), (k + 1), k, k, k, k, 0, 0, 0, 0] 86) (show Int.toNat ((((192) * (a : Int)) + (k : Int))) = 192 * a + k by omega)).trans (cp_r (show ¬ (192 * b ≤ 192 * a + k ∧ 192 * a + k < 192 * b + k) by omega))) ?_
            refine wq_as (p' := 201) (n := 960) (ck_213 _ _ rfl) rfl (ly_k L 86 rfl) (by omega) ?_
            have z20 : hwA (stA h (cpL (hA h) a b [1, 1, 1, 16, (k + 1), (k + 1), (k + 1), (k + 1), k, k, k, k, 0, 0, 0, 0])) 86 (Int.toNat ((((192) * (b : Int)) + (k : Int)))) (hA h 86 (192 * a + k)) = (stA h (cpL (hA h) a b [1, 1, 1, 16, (k + 1), (k + 1), (k + 1), (k + 1), (k + 1), k, k, k, 0, 0, 0, 0])) := congrArg (stA h) (cp_w (k := k) (by decide) (Nat.le_of_ble_eq_true rfl) rfl (show Int.toNat ((((192) * (b : Int)) + (k : Int))) = 192 * b + k by omega) rfl rfl)
            rw [z20]
            refine av_wp_sqF ck_213 1 (pc' := 202) (lv' := [some (.inr (.inr (.inl (some (77))))), some (.inl (a : Int)), some (.inl (b : Int)), some (.inl (k : Int))]) (st' := [.inr (.inr (.inl (some (77))))]) (h' := (stA h (cpL (hA h) a b [1, 1, 1, 16, (k + 1), (k + 1), (k + 1), (k + 1), (k + 1), k, k, k, 0, 0, 0, 0]))) rfl ?_
            refine wq_gr (p' := 205) (ck_213 _ _ rfl) rfl (congrArg Prod.fst (ly_k L 77 rfl)) rfl (ly_g L 77 9 87 rfl) ?_
            refine av_wp_sqF ck_213 6 (pc' := 213) (lv' := [some (.inr (.inr (.inl (some (77))))), some (.inl (a : Int)), some (.inl (b : Int)), some (.inl (k : Int))]) (st' := [.inr (.inr (.inl (some (77)))), .inl (((192) * (b : Int)) + (k : Int)), .inr (.inr (.inl (some (87))))]) (h' := (stA h (cpL (hA h) a b [1, 1, 1, 16, (k + 1), (k + 1), (k + 1), (k + 1), (k + 1), k, k, k, 0, 0, 0, 0]))) rfl ?_
            refine wq_gr (p' := 216) (ck_213 _ _ rfl) rfl (congrArg Prod.fst (ly_k L 77 rfl)) rfl (ly_g L 77 9 87 rfl) ?_
            refine av_wp_sqF ck_213 5 (pc' := 223) (lv' := [some (.inr (.inr (.inl (some (77))))), some (.inl (a : Int)), some (.inl (b : Int)), some (.inl (k : Int))]) (st' := [.inl (((192) * (a : Int)) + (k : Int)), .inr (.inr (.inl (some (87)))), .inl (((192) * (b : Int)) + (k : Int)), .inr (.inr (.inl (some (87))))]) (h' := (stA h (cpL (hA h) a b [1, 1, 1, 16, (k + 1), (k + 1), (k + 1), (k + 1), (k + 1), k, k, k, 0, 0, 0, 0]))) rfl ?_
            refine wq_al (p' := 224) (n := 960) (ck_213 _ _ rfl) rfl (ly_k L 87 rfl) (by omega) ((congrArg (cpL (hA h) a b [1, 1, 1, 16, (k + 1), (k + 1), (k + 1), (k + 1), (k + 1), k, k, k, 0, 0, 0, 0] 87) (show Int.toNat ((((192) * (a : Int)) + (k : Int))) = 192 * a + k by omega)).trans (cp_r (show ¬ (192 * b ≤ 192 * a + k ∧ 192 * a + k < 192 * b + k) by omega))) ?_
            refine wq_as (p' := 225) (n := 960) (ck_213 _ _ rfl) rfl (ly_k L 87 rfl) (by omega) ?_
            have z21 : hwA (stA h (cpL (hA h) a b [1, 1, 1, 16, (k + 1), (k + 1), (k + 1), (k + 1), (k + 1), k, k, k, 0, 0, 0, 0])) 87 (Int.toNat ((((192) * (b : Int)) + (k : Int)))) (hA h 87 (192 * a + k)) = (stA h (cpL (hA h) a b [1, 1, 1, 16, (k + 1), (k + 1), (k + 1), (k + 1), (k + 1), (k + 1), k, k, 0, 0, 0, 0])) := congrArg (stA h) (cp_w (k := k) (by decide) (Nat.le_of_ble_eq_true rfl) rfl (show Int.toNat ((((192) * (b : Int)) + (k : Int))) = 192 * b + k by omega) rfl rfl)
            rw [z21]
            refine av_wp_sqF ck_213 1 (pc' := 226) (lv' := [some (.inr (.inr (.inl (some (77))))), some (.inl (a : Int)), some (.inl (b : Int)), some (.inl (k : Int))]) (st' := [.inr (.inr (.inl (some (77))))]) (h' := (stA h (cpL (hA h) a b [1, 1, 1, 16, (k + 1), (k + 1), (k + 1), (k + 1), (k + 1), (k + 1), k, k, 0, 0, 0, 0]))) rfl ?_
            refine wq_gr (p' := 229) (ck_213 _ _ rfl) rfl (congrArg Prod.fst (ly_k L 77 rfl)) rfl (ly_g L 77 10 88 rfl) ?_
            refine av_wp_sqF ck_213 6 (pc' := 237) (lv' := [some (.inr (.inr (.inl (some (77))))), some (.inl (a : Int)), some (.inl (b : Int)), some (.inl (k : Int))]) (st' := [.inr (.inr (.inl (some (77)))), .inl (((192) * (b : Int)) + (k : Int)), .inr (.inr (.inl (some (88))))]) (h' := (stA h (cpL (hA h) a b [1, 1, 1, 16, (k + 1), (k + 1), (k + 1), (k + 1), (k + 1), (k + 1), k, k, 0, 0, 0, 0]))) rfl ?_
            refine wq_gr (p' := 240) (ck_213 _ _ rfl) rfl (congrArg Prod.fst (ly_k L 77 rfl)) rfl (ly_g L 77 10 88 rfl) ?_
            refine av_wp_sqF ck_213 5 (pc' := 247) (lv' := [some (.inr (.inr (.inl (some (77))))), some (.inl (a : Int)), some (.inl (b : Int)), some (.inl (k : Int))]) (st' := [.inl (((192) * (a : Int)) + (k : Int)), .inr (.inr (.inl (some (88)))), .inl (((192) * (b : Int)) + (k : Int)), .inr (.inr (.inl (some (88))))]) (h' := (stA h (cpL (hA h) a b [1, 1, 1, 16, (k + 1), (k + 1), (k + 1), (k + 1), (k + 1), (k + 1), k, k, 0, 0, 0, 0]))) rfl ?_
            refine wq_al (p' := 248) (n := 960) (ck_213 _ _ rfl) rfl (ly_k L 88 rfl) (by omega) ((congrArg (cpL (hA h) a b [1, 1, 1, 16, (k + 1), (k + 1), (k + 1), (k + 1), (k + 1), (k + 1), k, k, 0, 0, 0, 0] 88) (show Int.toNat ((((192) * (a : Int)) + (k : Int))) = 192 * a + k by omega)).trans (cp_r (show ¬ (192 * b ≤ 192 * a + k ∧ 192 * a + k < 192 * b + k) by omega))) ?_
            refine wq_as (p' := 249) (n := 960) (ck_213 _ _ rfl) rfl (ly_k L 88 rfl) (by omega) ?_
            have z22 : hwA (stA h (cpL (hA h) a b [1, 1, 1, 16, (k + 1), (k + 1), (k + 1), (k + 1), (k + 1), (k + 1), k, k, 0, 0, 0, 0])) 88 (Int.toNat ((((192) * (b : Int)) + (k : Int)))) (hA h 88 (192 * a + k)) = (stA h (cpL (hA h) a b [1, 1, 1, 16, (k + 1), (k + 1), (k + 1), (k + 1), (k + 1), (k + 1), (k + 1), k, 0, 0, 0, 0])) := congrArg (stA h) (cp_w (k := k) (by decide) (Nat.le_of_ble_eq_true rfl) rfl (show Int.toNat ((((192) * (b : Int)) + (k : Int))) = 192 * b + k by omega) rfl rfl)
            rw [z22]
            refine av_wp_sqF ck_213 1 (pc' := 250) (lv' := [some (.inr (.inr (.inl (some (77))))), some (.inl (a : Int)), some (.inl (b : Int)), some (.inl (k : Int))]) (st' := [.inr (.inr (.inl (some (77))))]) (h' := (stA h (cpL (hA h) a b [1, 1, 1, 16, (k + 1), (k + 1), (k + 1), (k + 1), (k + 1), (k + 1), (k + 1), k, 0, 0, 0, 0]))) rfl ?_
            refine wq_gr (p' := 253) (ck_213 _ _ rfl) rfl (congrArg Prod.fst (ly_k L 77 rfl)) rfl (ly_g L 77 11 89 rfl) ?_
            refine av_wp_sqF ck_213 6 (pc' := 261) (lv' := [some (.inr (.inr (.inl (some (77))))), some (.inl (a : Int)), some (.inl (b : Int)), some (.inl (k : Int))]) (st' := [.inr (.inr (.inl (some (77)))), .inl (((192) * (b : Int)) + (k : Int)), .inr (.inr (.inl (some (89))))]) (h' := (stA h (cpL (hA h) a b [1, 1, 1, 16, (k + 1), (k + 1), (k + 1), (k + 1), (k + 1), (k + 1), (k + 1), k, 0, 0, 0, 0]))) rfl ?_
            refine wq_gr (p' := 264) (ck_213 _ _ rfl) rfl (congrArg Prod.fst (ly_k L 77 rfl)) rfl (ly_g L 77 11 89 rfl) ?_
            refine av_wp_sqF ck_213 5 (pc' := 271) (lv' := [some (.inr (.inr (.inl (some (77))))), some (.inl (a : Int)), some (.inl (b : Int)), some (.inl (k : Int))]) (st' := [.inl (((192) * (a : Int)) + (k : Int)), .inr (.inr (.inl (some (89)))), .inl (((192) * (b : Int)) + (k : Int)), .inr (.inr (.inl (some (89))))]) (h' := (stA h (cpL (hA h) a b [1, 1, 1, 16, (k + 1), (k + 1), (k + 1), (k + 1), (k + 1), (k + 1), (k + 1), k, 0, 0, 0, 0]))) rfl ?_
            refine wq_al (p' := 272) (n := 960) (ck_213 _ _ rfl) rfl (ly_k L 89 rfl) (by omega) ((congrArg (cpL (hA h) a b [1, 1, 1, 16, (k + 1), (k + 1), (k + 1), (k + 1), (k + 1), (k + 1), (k + 1), k, 0, 0, 0, 0] 89) (show Int.toNat ((((192) * (a : Int)) + (k : Int))) = 192 * a + k by omega)).trans (cp_r (show ¬ (192 * b ≤ 192 * a + k ∧ 192 * a + k < 192 * b + k) by omega))) ?_
            refine wq_as (p' := 273) (n := 960) (ck_213 _ _ rfl) rfl (ly_k L 89 rfl) (by omega) ?_
            have z23 : hwA (stA h (cpL (hA h) a b [1, 1, 1, 16, (k + 1), (k + 1), (k + 1), (k + 1), (k + 1), (k + 1), (k + 1), k, 0, 0, 0, 0])) 89 (Int.toNat ((((192) * (b : Int)) + (k : Int)))) (hA h 89 (192 * a + k)) = (stA h (cpL (hA h) a b [1, 1, 1, 16, (k + 1), (k + 1), (k + 1), (k + 1), (k + 1), (k + 1), (k + 1), (k + 1), 0, 0, 0, 0])) := congrArg (stA h) (cp_w (k := k) (by decide) (Nat.le_of_ble_eq_true rfl) rfl (show Int.toNat ((((192) * (b : Int)) + (k : Int))) = 192 * b + k by omega) rfl rfl)
            rw [z23]
            refine av_wp_sqF ck_213 2 (pc' := 74) (lv' := [some (.inr (.inr (.inl (some (77))))), some (.inl (a : Int)), some (.inl (b : Int)), some (.inl ((k : Int) + (1)))]) (st' := []) (h' := (stA h (cpL (hA h) a b [1, 1, 1, 16, (k + 1), (k + 1), (k + 1), (k + 1), (k + 1), (k + 1), (k + 1), (k + 1), 0, 0, 0, 0]))) rfl ?_
            exact ih (k + 1) (by omega)
      exact L74 192 0 rfl
    | succ n ih =>
      intro k e1
      refine av_wp_sqF ck_213 2 (pc' := 41) (lv' := [some (.inr (.inr (.inl (some (77))))), some (.inl (a : Int)), some (.inl (b : Int)), some (.inl (k : Int))]) (st' := [.inl (16), .inl (k : Int)]) (h' := (stA h (cpL (hA h) a b [1, 1, 1, k, 0, 0, 0, 0, 0, 0, 0, 0, 0, 0, 0, 0]))) rfl ?_
      refine wq_k2 (p' := 44) (ck_213 _ _ rfl) rfl ⟨by omega, by omega⟩ ⟨by omega, by omega⟩ (fun c24 => ?_) (fun c25 => ?_)
      · have c24 : (16) ≤ (k : Int) := c24
        exfalso; omega
      · have c25 : (k : Int) < (16) := c25
        refine av_wp_sqF ck_213 1 (pc' := 45) (lv' := [some (.inr (.inr (.inl (some (77))))), some (.inl (a : Int)), some (.inl (b : Int)), some (.inl (k : Int))]) (st' := [.inr (.inr (.inl (some (77))))]) (h' := (stA h (cpL (hA h) a b [1, 1, 1, k, 0, 0, 0, 0, 0, 0, 0, 0, 0, 0, 0, 0]))) rfl ?_
        refine wq_gr (p' := 48) (ck_213 _ _ rfl) rfl (congrArg Prod.fst (ly_k L 77 rfl)) rfl (ly_g L 77 3 81 rfl) ?_
        refine av_wp_sqF ck_213 6 (pc' := 55) (lv' := [some (.inr (.inr (.inl (some (77))))), some (.inl (a : Int)), some (.inl (b : Int)), some (.inl (k : Int))]) (st' := [.inr (.inr (.inl (some (77)))), .inl (((16) * (b : Int)) + (k : Int)), .inr (.inr (.inl (some (81))))]) (h' := (stA h (cpL (hA h) a b [1, 1, 1, k, 0, 0, 0, 0, 0, 0, 0, 0, 0, 0, 0, 0]))) rfl ?_
        refine wq_gr (p' := 58) (ck_213 _ _ rfl) rfl (congrArg Prod.fst (ly_k L 77 rfl)) rfl (ly_g L 77 3 81 rfl) ?_
        refine av_wp_sqF ck_213 5 (pc' := 64) (lv' := [some (.inr (.inr (.inl (some (77))))), some (.inl (a : Int)), some (.inl (b : Int)), some (.inl (k : Int))]) (st' := [.inl (((16) * (a : Int)) + (k : Int)), .inr (.inr (.inl (some (81)))), .inl (((16) * (b : Int)) + (k : Int)), .inr (.inr (.inl (some (81))))]) (h' := (stA h (cpL (hA h) a b [1, 1, 1, k, 0, 0, 0, 0, 0, 0, 0, 0, 0, 0, 0, 0]))) rfl ?_
        refine wq_al (p' := 65) (n := 80) (ck_213 _ _ rfl) rfl (ly_k L 81 rfl) (by omega) ((congrArg (cpL (hA h) a b [1, 1, 1, k, 0, 0, 0, 0, 0, 0, 0, 0, 0, 0, 0, 0] 81) (show Int.toNat ((((16) * (a : Int)) + (k : Int))) = 16 * a + k by omega)).trans (cp_r (show ¬ (16 * b ≤ 16 * a + k ∧ 16 * a + k < 16 * b + k) by omega))) ?_
        refine wq_as (p' := 66) (n := 80) (ck_213 _ _ rfl) rfl (ly_k L 81 rfl) (by omega) ?_
        have z26 : hwA (stA h (cpL (hA h) a b [1, 1, 1, k, 0, 0, 0, 0, 0, 0, 0, 0, 0, 0, 0, 0])) 81 (Int.toNat ((((16) * (b : Int)) + (k : Int)))) (hA h 81 (16 * a + k)) = (stA h (cpL (hA h) a b [1, 1, 1, (k + 1), 0, 0, 0, 0, 0, 0, 0, 0, 0, 0, 0, 0])) := congrArg (stA h) (cp_w (k := k) (by decide) (Nat.le_of_ble_eq_true rfl) rfl (show Int.toNat ((((16) * (b : Int)) + (k : Int))) = 16 * b + k by omega) rfl rfl)
        rw [z26]
        refine av_wp_sqF ck_213 2 (pc' := 38) (lv' := [some (.inr (.inr (.inl (some (77))))), some (.inl (a : Int)), some (.inl (b : Int)), some (.inl ((k : Int) + (1)))]) (st' := []) (h' := (stA h (cpL (hA h) a b [1, 1, 1, (k + 1), 0, 0, 0, 0, 0, 0, 0, 0, 0, 0, 0, 0]))) rfl ?_
        exact ih (k + 1) (by omega)
  exact L38 16 0 rfl
end
