/-! A SHELF BECOMES LIKE ANOTHER -/
def stA (h : av_H) (A : Nat → Nat → Int) : av_H := (h.1, h.2.1, h.2.2.1, A, h.2.2.2.2)
def stR (h : av_H) (f : Nat → Nat → Option Nat) : av_H := (h.1, h.2.1, h.2.2.1, h.2.2.2.1, h.2.2.2.2.1, h.2.2.2.2.2.1, f, h.2.2.2.2.2.2.2)
/-- n rows from o + b on, laid over by those of p -/
def bla (A : Nat → Nat → Int) (o p b n : Nat) : Nat → Nat → Int := fun q => if o + b ≤ q ∧ q < o + b + n then plr (A q) (A (q - o + p)) else A q
def blr (f : Nat → Nat → Option Nat) (o p n : Nat) : Nat → Nat → Option Nat := fun q => if q = o + 1 then (fun i => if i < n then f (p + 1) i else f (o + 1) i) else f q
theorem bla_0 {A : Nat → Nat → Int} {o p b : Nat} : bla A o p b 0 = A := by
  funext q
  exact if_neg (by omega)
theorem bla_s {A : Nat → Nat → Int} {o p b n : Nat} (hd : p + b + n < o + b ∨ o + b + n ≤ p + b + n) (hd2 : p + b + n < o + b ∨ o + b + n ≤ p + b + n) : av_u1 (bla A o p b n) (o + b + n) (plr (bla A o p b n (o + b + n)) (bla A o p b n (p + b + n))) = bla A o p b (n + 1) := by
  funext q
  unfold av_u1
  by_cases e : q = o + b + n
  · rw [if_pos e, e]
    have e1 : bla A o p b n (o + b + n) = A (o + b + n) := if_neg (by omega)
    have e2 : bla A o p b n (p + b + n) = A (p + b + n) := if_neg (by omega)
    have e3 : bla A o p b (n + 1) (o + b + n) = plr (A (o + b + n)) (A (o + b + n - o + p)) := if_pos (by omega)
    rw [e1, e2, e3, show o + b + n - o + p = p + b + n by omega]
  · rw [if_neg e]
    unfold bla
    by_cases c : o + b ≤ q ∧ q < o + b + n
    · rw [if_pos c, if_pos (by omega)]
    · rw [if_neg c, if_neg (by omega)]
theorem blr_0 {f : Nat → Nat → Option Nat} {o p : Nat} : blr f o p 0 = f := by
  funext q
  unfold blr
  by_cases e : q = o + 1
  · rw [if_pos e, e]
    funext i
    exact if_neg (by omega)
  · rw [if_neg e]
theorem blr_s {f : Nat → Nat → Option Nat} {o p n : Nat} : av_u2 (blr f o p n) (o + 1) n (f (p + 1) n) = blr f o p (n + 1) := by
  funext q i
  unfold av_u2
  by_cases e : q = o + 1 ∧ i = n
  · rw [if_pos e, e.1, e.2]
    show _ = (if o + 1 = o + 1 then (fun i => if i < n + 1 then f (p + 1) i else f (o + 1) i) else f (o + 1)) n
    rw [if_pos rfl, if_pos (by omega)]
  · rw [if_neg e]
    unfold blr
    by_cases c : q = o + 1
    · rw [if_pos c, if_pos c]
      by_cases c2 : i < n
      · rw [if_pos c2, if_pos (by omega)]
      · rw [if_neg c2, if_neg (fun z => e ⟨c, by omega⟩)]
    · rw [if_neg c, if_neg c]
/-- the counts -/
def blf (h : av_H) (o p : Nat) : av_H := hwF (hwF (hwF h o 3 (hF h p 3)) o 4 (hF h p 4)) o 5 (hF h p 5)
def blk (h : av_H) (o p : Nat) : av_H := stA (stR (blf h o p) (blr (hR h) o p 16)) (bla (bla (hA h) o p 3 8) o p 12 6)

set_option maxRecDepth 100000 in
set_option maxHeartbeats 4000000 in
theorem ct_77 {h : av_H} {o p : Nat} (So : SHP h o) (Sp : SHP h p) (dj : o + 18 ≤ p ∨ p + 18 ≤ o) (cw : ∀ i, i < 16 → ∀ q, hR h (p + 1) i = some q → (hK h q).1 = 1) {Q : Option av_V → av_H → Prop} (hq : Q none (blk h o p)) : av_wp none cd_77 0 [some (.inr (.inr (.inl (some o)))), some (.inr (.inr (.inl (some p)))), none] [] h Q := by
  have hne : p ≠ o := by omega
  refine av_wp_seq 2 (pc' := 2) (lv' := [some (.inr (.inr (.inl (some o)))), some (.inr (.inr (.inl (some p)))), none]) (st' := [.inr (.inr (.inl (some p))), .inr (.inr (.inl (some o)))]) (h' := h) rfl ?_
  refine wq_gi (p' := 5) (v := hF h p 3) rfl rfl (congrArg Prod.fst (show hK h p = (5, 0) from Sp.1)) rfl (rfl) ?_
  refine wq_pi (p' := 8) rfl rfl (congrArg Prod.fst (show hK h o = (5, 0) from So.1)) rfl ?_
  refine av_wp_seq 2 (pc' := 10) (lv' := [some (.inr (.inr (.inl (some o)))), some (.inr (.inr (.inl (some p)))), none]) (st' := [.inr (.inr (.inl (some p))), .inr (.inr (.inl (some o)))]) (h' := (hwF h o 3 (hF h p 3))) rfl ?_
  refine wq_gi (p' := 13) (v := hF h p 4) rfl rfl (congrArg Prod.fst (show hK (hwF h o 3 (hF h p 3)) p = (5, 0) from Sp.1)) rfl (congrFun (av_u2_ne hne) 4) ?_
  refine wq_pi (p' := 16) rfl rfl (congrArg Prod.fst (show hK (hwF h o 3 (hF h p 3)) o = (5, 0) from So.1)) rfl ?_
  refine av_wp_seq 2 (pc' := 18) (lv' := [some (.inr (.inr (.inl (some o)))), some (.inr (.inr (.inl (some p)))), none]) (st' := [.inr (.inr (.inl (some p))), .inr (.inr (.inl (some o)))]) (h' := (hwF (hwF h o 3 (hF h p 3)) o 4 (hF h p 4))) rfl ?_
  refine wq_gi (p' := 21) (v := hF h p 5) rfl rfl (congrArg Prod.fst (show hK (hwF (hwF h o 3 (hF h p 3)) o 4 (hF h p 4)) p = (5, 0) from Sp.1)) rfl ((congrFun (av_u2_ne hne) 5).trans (congrFun (av_u2_ne hne) 5)) ?_
  refine wq_pi (p' := 24) rfl rfl (congrArg Prod.fst (show hK (hwF (hwF h o 3 (hF h p 3)) o 4 (hF h p 4)) o = (5, 0) from So.1)) rfl ?_
  show av_wp none cd_77 24 [some (.inr (.inr (.inl (some o)))), some (.inr (.inr (.inl (some p)))), none] [] (blf h o p) Q
  have L3 : ∀ (n k : Nat), n + k = 6 → av_wp none cd_77 85 [some (.inr (.inr (.inl (some o)))), some (.inr (.inr (.inl (some p)))), some (.inl (k : Int))] [] (stA (stR (blf h o p) (blr (hR h) o p 16)) (bla (bla (hA h) o p 3 8) o p 12 k)) Q := by
    intro n
    induction n with
    | zero =>
      intro k e
      have e : k = 6 := by omega
      subst e
      refine av_wp_seq 3 (pc' := 116) (lv' := [some (.inr (.inr (.inl (some o)))), some (.inr (.inr (.inl (some p)))), some (.inl ((6 : Nat) : Int))]) (st' := []) (h' := (stA (stR (blf h o p) (blr (hR h) o p 16)) (bla (bla (hA h) o p 3 8) o p 12 6))) rfl ?_
      exact av_wp_ret (v := none) rfl rfl rfl hq
    | succ n ih =>
      intro k e
      refine av_wp_seq 2 (pc' := 88) (lv' := [some (.inr (.inr (.inl (some o)))), some (.inr (.inr (.inl (some p)))), some (.inl (k : Int))]) (st' := [.inl (6), .inl (k : Int)]) (h' := (stA (stR (blf h o p) (blr (hR h) o p 16)) (bla (bla (hA h) o p 3 8) o p 12 k))) rfl ?_
      refine wq_k2 (p' := 91) rfl rfl ⟨by omega, by omega⟩ ⟨by omega, by omega⟩ (fun c => absurd (show (6 : Int) ≤ (k : Int) from c) (by omega)) (fun _ => ?_)
      refine av_wp_seq 1 (pc' := 92) (lv' := [some (.inr (.inr (.inl (some o)))), some (.inr (.inr (.inl (some p)))), some (.inl (k : Int))]) (st' := [.inr (.inr (.inl (some p)))]) (h' := (stA (stR (blf h o p) (blr (hR h) o p 16)) (bla (bla (hA h) o p 3 8) o p 12 k))) rfl ?_
      refine wq_gr (p' := 95) (v := some (p + 11)) rfl rfl (congrArg Prod.fst (show hK (stA (stR (blf h o p) (blr (hR h) o p 16)) (bla (bla (hA h) o p 3 8) o p 12 k)) p = (5, 0) from Sp.1)) rfl (show hG h p 2 = some (p + 11) from Sp.2.2.2.1) ?_
      refine av_wp_seq 1 (pc' := 96) (lv' := [some (.inr (.inr (.inl (some o)))), some (.inr (.inr (.inl (some p)))), some (.inl (k : Int))]) (st' := [.inl (k : Int), .inr (.inr (.inl (some (p + 11))))]) (h' := (stA (stR (blf h o p) (blr (hR h) o p 16)) (bla (bla (hA h) o p 3 8) o p 12 k))) rfl ?_
      refine wq_ar (p' := 97) (n := 6) (k := 32) (v := some (p + 12 + k)) rfl rfl (show hK (stA (stR (blf h o p) (blr (hR h) o p 16)) (bla (bla (hA h) o p 3 8) o p 12 k)) (p + 11) = (32, 6) from Sp.2.2.2.2.2.2.1) (Or.inr (Or.inr rfl)) (by omega) ((show hR (stA (stR (blf h o p) (blr (hR h) o p 16)) (bla (bla (hA h) o p 3 8) o p 12 k)) (p + 11) (Int.toNat (k : Int)) = hR h (p + 11) k from congrFun (if_neg (by omega)) k).trans (Sp.2.2.2.2.2.2.2.2 k (by omega)).1) ?_
      refine av_wp_seq 2 (pc' := 99) (lv' := [some (.inr (.inr (.inl (some o)))), some (.inr (.inr (.inl (some p)))), some (.inl (k : Int))]) (st' := [.inr (.inr (.inl (some o))), .inl (0), .inr (.inr (.inl (some (p + 12 + k))))]) (h' := (stA (stR (blf h o p) (blr (hR h) o p 16)) (bla (bla (hA h) o p 3 8) o p 12 k))) rfl ?_
      refine wq_gr (p' := 102) (v := some (o + 11)) rfl rfl (congrArg Prod.fst (show hK (stA (stR (blf h o p) (blr (hR h) o p 16)) (bla (bla (hA h) o p 3 8) o p 12 k)) o = (5, 0) from So.1)) rfl (show hG h o 2 = some (o + 11) from So.2.2.2.1) ?_
      refine av_wp_seq 1 (pc' := 103) (lv' := [some (.inr (.inr (.inl (some o)))), some (.inr (.inr (.inl (some p)))), some (.inl (k : Int))]) (st' := [.inl (k : Int), .inr (.inr (.inl (some (o + 11)))), .inl (0), .inr (.inr (.inl (some (p + 12 + k))))]) (h' := (stA (stR (blf h o p) (blr (hR h) o p 16)) (bla (bla (hA h) o p 3 8) o p 12 k))) rfl ?_
      refine wq_ar (p' := 104) (n := 6) (k := 32) (v := some (o + 12 + k)) rfl rfl (show hK (stA (stR (blf h o p) (blr (hR h) o p 16)) (bla (bla (hA h) o p 3 8) o p 12 k)) (o + 11) = (32, 6) from So.2.2.2.2.2.2.1) (Or.inr (Or.inr rfl)) (by omega) ((show hR (stA (stR (blf h o p) (blr (hR h) o p 16)) (bla (bla (hA h) o p 3 8) o p 12 k)) (o + 11) (Int.toNat (k : Int)) = hR h (o + 11) k from congrFun (if_neg (by omega)) k).trans (So.2.2.2.2.2.2.2.2 k (by omega)).1) ?_
      refine av_wp_seq 2 (pc' := 107) (lv' := [some (.inr (.inr (.inl (some o)))), some (.inr (.inr (.inl (some p)))), some (.inl (k : Int))]) (st' := [.inl (14), .inl (0), .inr (.inr (.inl (some (o + 12 + k)))), .inl (0), .inr (.inr (.inl (some (p + 12 + k))))]) (h' := (stA (stR (blf h o p) (blr (hR h) o p 16)) (bla (bla (hA h) o p 3 8) o p 12 k))) rfl ?_
      refine wq_ac (p' := 110) (nd := 14) (nq := 14) rfl rfl rfl (fun _ _ => rfl) rfl (show hK (stA (stR (blf h o p) (blr (hR h) o p 16)) (bla (bla (hA h) o p 3 8) o p 12 k)) (o + 12 + k) = (20, 14) from (So.2.2.2.2.2.2.2.2 k (by omega)).2) (show hK (stA (stR (blf h o p) (blr (hR h) o p 16)) (bla (bla (hA h) o p 3 8) o p 12 k)) (p + 12 + k) = (20, 14) from (Sp.2.2.2.2.2.2.2.2 k (by omega)).2) (by omega) (by omega) (by omega) (by omega) ?_
      rw [show (0 : Int).toNat = 0 from rfl, show (14 : Int).toNat = 14 from rfl, hcp_rw]
      have eh : hrw (stA (stR (blf h o p) (blr (hR h) o p 16)) (bla (bla (hA h) o p 3 8) o p 12 k)) (o + 12 + k) (plr (hA (stA (stR (blf h o p) (blr (hR h) o p 16)) (bla (bla (hA h) o p 3 8) o p 12 k)) (o + 12 + k)) (hA (stA (stR (blf h o p) (blr (hR h) o p 16)) (bla (bla (hA h) o p 3 8) o p 12 k)) (p + 12 + k))) = (stA (stR (blf h o p) (blr (hR h) o p 16)) (bla (bla (hA h) o p 3 8) o p 12 (k + 1))) := congrArg (stA (stR (blf h o p) (blr (hR h) o p 16))) (bla_s (A := bla (hA h) o p 3 8) (by omega) (by omega))
      rw [eh]
      refine av_wp_seq 2 (pc' := 85) (lv' := [some (.inr (.inr (.inl (some o)))), some (.inr (.inr (.inl (some p)))), some (.inl ((k : Int) + 1))]) (st' := []) (h' := (stA (stR (blf h o p) (blr (hR h) o p 16)) (bla (bla (hA h) o p 3 8) o p 12 (k + 1)))) rfl ?_
      exact ih (k + 1) (by omega)
  have L2 : ∀ (n k : Nat), n + k = 8 → av_wp none cd_77 52 [some (.inr (.inr (.inl (some o)))), some (.inr (.inr (.inl (some p)))), some (.inl (k : Int))] [] (stA (stR (blf h o p) (blr (hR h) o p 16)) (bla (hA h) o p 3 k)) Q := by
    intro n
    induction n with
    | zero =>
      intro k e
      have e : k = 8 := by omega
      subst e
      refine av_wp_seq 5 (pc' := 85) (lv' := [some (.inr (.inr (.inl (some o)))), some (.inr (.inr (.inl (some p)))), some (.inl (0))]) (st' := []) (h' := (stA (stR (blf h o p) (blr (hR h) o p 16)) (bla (hA h) o p 3 8))) rfl ?_
      have := L3 6 0 rfl
      rw [bla_0] at this
      exact this
    | succ n ih =>
      intro k e
      refine av_wp_seq 2 (pc' := 55) (lv' := [some (.inr (.inr (.inl (some o)))), some (.inr (.inr (.inl (some p)))), some (.inl (k : Int))]) (st' := [.inl (8), .inl (k : Int)]) (h' := (stA (stR (blf h o p) (blr (hR h) o p 16)) (bla (hA h) o p 3 k))) rfl ?_
      refine wq_k2 (p' := 58) rfl rfl ⟨by omega, by omega⟩ ⟨by omega, by omega⟩ (fun c => absurd (show (8 : Int) ≤ (k : Int) from c) (by omega)) (fun _ => ?_)
      refine av_wp_seq 1 (pc' := 59) (lv' := [some (.inr (.inr (.inl (some o)))), some (.inr (.inr (.inl (some p)))), some (.inl (k : Int))]) (st' := [.inr (.inr (.inl (some p)))]) (h' := (stA (stR (blf h o p) (blr (hR h) o p 16)) (bla (hA h) o p 3 k))) rfl ?_
      refine wq_gr (p' := 62) (v := some (p + 2)) rfl rfl (congrArg Prod.fst (show hK (stA (stR (blf h o p) (blr (hR h) o p 16)) (bla (hA h) o p 3 k)) p = (5, 0) from Sp.1)) rfl (show hG h p 1 = some (p + 2) from Sp.2.2.1) ?_
      refine av_wp_seq 1 (pc' := 63) (lv' := [some (.inr (.inr (.inl (some o)))), some (.inr (.inr (.inl (some p)))), some (.inl (k : Int))]) (st' := [.inl (k : Int), .inr (.inr (.inl (some (p + 2))))]) (h' := (stA (stR (blf h o p) (blr (hR h) o p 16)) (bla (hA h) o p 3 k))) rfl ?_
      refine wq_ar (p' := 64) (n := 8) (k := 32) (v := some (p + 3 + k)) rfl rfl (show hK (stA (stR (blf h o p) (blr (hR h) o p 16)) (bla (hA h) o p 3 k)) (p + 2) = (32, 8) from Sp.2.2.2.2.2.1) (Or.inr (Or.inr rfl)) (by omega) ((show hR (stA (stR (blf h o p) (blr (hR h) o p 16)) (bla (hA h) o p 3 k)) (p + 2) (Int.toNat (k : Int)) = hR h (p + 2) k from congrFun (if_neg (by omega)) k).trans (Sp.2.2.2.2.2.2.2.1 k (by omega)).1) ?_
      refine av_wp_seq 2 (pc' := 66) (lv' := [some (.inr (.inr (.inl (some o)))), some (.inr (.inr (.inl (some p)))), some (.inl (k : Int))]) (st' := [.inr (.inr (.inl (some o))), .inl (0), .inr (.inr (.inl (some (p + 3 + k))))]) (h' := (stA (stR (blf h o p) (blr (hR h) o p 16)) (bla (hA h) o p 3 k))) rfl ?_
      refine wq_gr (p' := 69) (v := some (o + 2)) rfl rfl (congrArg Prod.fst (show hK (stA (stR (blf h o p) (blr (hR h) o p 16)) (bla (hA h) o p 3 k)) o = (5, 0) from So.1)) rfl (show hG h o 1 = some (o + 2) from So.2.2.1) ?_
      refine av_wp_seq 1 (pc' := 70) (lv' := [some (.inr (.inr (.inl (some o)))), some (.inr (.inr (.inl (some p)))), some (.inl (k : Int))]) (st' := [.inl (k : Int), .inr (.inr (.inl (some (o + 2)))), .inl (0), .inr (.inr (.inl (some (p + 3 + k))))]) (h' := (stA (stR (blf h o p) (blr (hR h) o p 16)) (bla (hA h) o p 3 k))) rfl ?_
      refine wq_ar (p' := 71) (n := 8) (k := 32) (v := some (o + 3 + k)) rfl rfl (show hK (stA (stR (blf h o p) (blr (hR h) o p 16)) (bla (hA h) o p 3 k)) (o + 2) = (32, 8) from So.2.2.2.2.2.1) (Or.inr (Or.inr rfl)) (by omega) ((show hR (stA (stR (blf h o p) (blr (hR h) o p 16)) (bla (hA h) o p 3 k)) (o + 2) (Int.toNat (k : Int)) = hR h (o + 2) k from congrFun (if_neg (by omega)) k).trans (So.2.2.2.2.2.2.2.1 k (by omega)).1) ?_
      refine av_wp_seq 2 (pc' := 74) (lv' := [some (.inr (.inr (.inl (some o)))), some (.inr (.inr (.inl (some p)))), some (.inl (k : Int))]) (st' := [.inl (14), .inl (0), .inr (.inr (.inl (some (o + 3 + k)))), .inl (0), .inr (.inr (.inl (some (p + 3 + k))))]) (h' := (stA (stR (blf h o p) (blr (hR h) o p 16)) (bla (hA h) o p 3 k))) rfl ?_
      refine wq_ac (p' := 77) (nd := 14) (nq := 14) rfl rfl rfl (fun _ _ => rfl) rfl (show hK (stA (stR (blf h o p) (blr (hR h) o p 16)) (bla (hA h) o p 3 k)) (o + 3 + k) = (20, 14) from (So.2.2.2.2.2.2.2.1 k (by omega)).2) (show hK (stA (stR (blf h o p) (blr (hR h) o p 16)) (bla (hA h) o p 3 k)) (p + 3 + k) = (20, 14) from (Sp.2.2.2.2.2.2.2.1 k (by omega)).2) (by omega) (by omega) (by omega) (by omega) ?_
      rw [show (0 : Int).toNat = 0 from rfl, show (14 : Int).toNat = 14 from rfl, hcp_rw]
      have eh : hrw (stA (stR (blf h o p) (blr (hR h) o p 16)) (bla (hA h) o p 3 k)) (o + 3 + k) (plr (hA (stA (stR (blf h o p) (blr (hR h) o p 16)) (bla (hA h) o p 3 k)) (o + 3 + k)) (hA (stA (stR (blf h o p) (blr (hR h) o p 16)) (bla (hA h) o p 3 k)) (p + 3 + k))) = (stA (stR (blf h o p) (blr (hR h) o p 16)) (bla (hA h) o p 3 (k + 1))) := congrArg (stA (stR (blf h o p) (blr (hR h) o p 16))) (bla_s (A := hA h) (by omega) (by omega))
      rw [eh]
      refine av_wp_seq 2 (pc' := 52) (lv' := [some (.inr (.inr (.inl (some o)))), some (.inr (.inr (.inl (some p)))), some (.inl ((k : Int) + 1))]) (st' := []) (h' := (stA (stR (blf h o p) (blr (hR h) o p 16)) (bla (hA h) o p 3 (k + 1)))) rfl ?_
      exact ih (k + 1) (by omega)
  have L1 : ∀ (n k : Nat), n + k = 16 → av_wp none cd_77 26 [some (.inr (.inr (.inl (some o)))), some (.inr (.inr (.inl (some p)))), some (.inl (k : Int))] [] (stR (blf h o p) (blr (hR h) o p k)) Q := by
    intro n
    induction n with
    | zero =>
      intro k e
      have e : k = 16 := by omega
      subst e
      refine av_wp_seq 5 (pc' := 52) (lv' := [some (.inr (.inr (.inl (some o)))), some (.inr (.inr (.inl (some p)))), some (.inl (0))]) (st' := []) (h' := (stR (blf h o p) (blr (hR h) o p 16))) rfl ?_
      have := L2 8 0 rfl
      rw [bla_0] at this
      exact this
    | succ n ih =>
      intro k e
      refine av_wp_seq 2 (pc' := 29) (lv' := [some (.inr (.inr (.inl (some o)))), some (.inr (.inr (.inl (some p)))), some (.inl (k : Int))]) (st' := [.inl (16), .inl (k : Int)]) (h' := (stR (blf h o p) (blr (hR h) o p k))) rfl ?_
      refine wq_k2 (p' := 32) rfl rfl ⟨by omega, by omega⟩ ⟨by omega, by omega⟩ (fun c => absurd (show (16 : Int) ≤ (k : Int) from c) (by omega)) (fun _ => ?_)
      refine av_wp_seq 1 (pc' := 33) (lv' := [some (.inr (.inr (.inl (some o)))), some (.inr (.inr (.inl (some p)))), some (.inl (k : Int))]) (st' := [.inr (.inr (.inl (some o)))]) (h' := (stR (blf h o p) (blr (hR h) o p k))) rfl ?_
      refine wq_gr (p' := 36) (v := some (o + 1)) rfl rfl (congrArg Prod.fst (show hK (stR (blf h o p) (blr (hR h) o p k)) o = (5, 0) from So.1)) rfl (show hG h o 0 = some (o + 1) from So.2.1) ?_
      refine av_wp_seq 2 (pc' := 38) (lv' := [some (.inr (.inr (.inl (some o)))), some (.inr (.inr (.inl (some p)))), some (.inl (k : Int))]) (st' := [.inr (.inr (.inl (some p))), .inl (k : Int), .inr (.inr (.inl (some (o + 1))))]) (h' := (stR (blf h o p) (blr (hR h) o p k))) rfl ?_
      refine wq_gr (p' := 41) (v := some (p + 1)) rfl rfl (congrArg Prod.fst (show hK (stR (blf h o p) (blr (hR h) o p k)) p = (5, 0) from Sp.1)) rfl (show hG h p 0 = some (p + 1) from Sp.2.1) ?_
      refine av_wp_seq 1 (pc' := 42) (lv' := [some (.inr (.inr (.inl (some o)))), some (.inr (.inr (.inl (some p)))), some (.inl (k : Int))]) (st' := [.inl (k : Int), .inr (.inr (.inl (some (p + 1)))), .inl (k : Int), .inr (.inr (.inl (some (o + 1))))]) (h' := (stR (blf h o p) (blr (hR h) o p k))) rfl ?_
      refine wq_ar (p' := 43) (n := 16) (k := 30) (v := hR h (p + 1) k) rfl rfl (show hK (stR (blf h o p) (blr (hR h) o p k)) (p + 1) = (30, 16) from Sp.2.2.2.2.1) (Or.inl rfl) (by omega) (congrFun (if_neg (show ¬ p + 1 = o + 1 by omega)) k) ?_
      refine wq_rs (p' := 44) (n := 16) (k := 30) rfl rfl (show hK (stR (blf h o p) (blr (hR h) o p k)) (o + 1) = (30, 16) from So.2.2.2.2.1) (Or.inl rfl) (by omega) (fun q hq => cw k (by omega) q hq) ?_
      have eh : hwR (stR (blf h o p) (blr (hR h) o p k)) (o + 1) (Int.toNat (k : Int)) (hR h (p + 1) k) = (stR (blf h o p) (blr (hR h) o p (k + 1))) := congrArg (stR (blf h o p)) (blr_s (f := hR h))
      rw [eh]
      refine av_wp_seq 2 (pc' := 26) (lv' := [some (.inr (.inr (.inl (some o)))), some (.inr (.inr (.inl (some p)))), some (.inl ((k : Int) + 1))]) (st' := []) (h' := (stR (blf h o p) (blr (hR h) o p (k + 1)))) rfl ?_
      exact ih (k + 1) (by omega)
  refine av_wp_seq 2 (pc' := 26) (lv' := [some (.inr (.inr (.inl (some o)))), some (.inr (.inr (.inl (some p)))), some (.inl (0))]) (st' := []) (h' := (blf h o p)) rfl ?_
  have := L1 16 0 rfl
  rw [blr_0] at this
  exact this
