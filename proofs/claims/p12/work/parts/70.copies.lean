/-! THE REFERENCE'S COPIES -/
def czt : List Nat := [1, 1, 1, 16, 192, 192, 192, 192, 192, 192, 192, 192, 960, 576, 576, 196]
def cz (q : Nat) : Nat := czt.getD (q - 78) 0
/-- so many places of each row of the slot b are those of the slot a -/
def cpL (A : Nat → Nat → Int) (a b : Nat) (l : List Nat) : Nat → Nat → Int := fun q j => if 78 ≤ q ∧ cz q * b ≤ j ∧ j < cz q * b + l.getD (q - 78) 0 then A q (j - cz q * b + cz q * a) else A q j
theorem getD_set {l : List Nat} {i j x : Nat} (h : i < l.length) : (l.set i x).getD j 0 = if i = j then x else l.getD j 0 := by
  rw [List.getD_eq_getElem?_getD, List.getD_eq_getElem?_getD, List.getElem?_set]
  by_cases e : i = j
  · subst e
    rw [if_pos rfl, if_pos h, if_pos rfl]
    rfl
  · rw [if_neg e, if_neg e]
theorem cp_w {A : Nat → Nat → Int} {a b : Nat} {l l' : List Nat} {q k i : Nat} {v : Int} (h1 : 78 ≤ q) (h2 : q - 78 < l.length) (hk : l.getD (q - 78) 0 = k) (hi : i = cz q * b + k) (hv : v = A q (cz q * a + k)) (hl : l.set (q - 78) (k + 1) = l') : av_u2 (cpL A a b l) q i v = cpL A a b l' := by
  subst hi
  subst hl
  funext q' j
  unfold av_u2
  by_cases e : q' = q
  · subst e
    by_cases e2 : j = cz q' * b + k
    · rw [if_pos ⟨rfl, e2⟩]
      have c : 78 ≤ q' ∧ cz q' * b ≤ j ∧ j < cz q' * b + (l.set (q' - 78) (k + 1)).getD (q' - 78) 0 := by
        rw [getD_set h2, if_pos rfl]
        omega
      rw [show cpL A a b (l.set (q' - 78) (k + 1)) q' j = A q' (j - cz q' * b + cz q' * a) from if_pos c, hv, e2]
      congr 1
      omega
    · rw [if_neg (fun z => e2 z.2)]
      unfold cpL
      rw [getD_set h2, if_pos rfl, hk]
      by_cases c : 78 ≤ q' ∧ cz q' * b ≤ j ∧ j < cz q' * b + k
      · rw [if_pos c, if_pos (by omega)]
      · rw [if_neg c, if_neg (by omega)]
  · rw [if_neg (fun z => e z.1)]
    unfold cpL
    rw [getD_set h2]
    by_cases c : 78 ≤ q'
    · rw [if_neg (show ¬ q - 78 = q' - 78 by omega)]
    · rw [if_neg (fun z => c z.1), if_neg (fun z => c z.1)]
theorem cp_r {A : Nat → Nat → Int} {a b : Nat} {l : List Nat} {q j : Nat} (h : ¬ (cz q * b ≤ j ∧ j < cz q * b + l.getD (q - 78) 0)) : cpL A a b l q j = A q j := if_neg (fun z => h z.2)
theorem cp_0 {A : Nat → Nat → Int} {a b : Nat} : cpL A a b [0, 0, 0, 0, 0, 0, 0, 0, 0, 0, 0, 0, 0, 0, 0, 0] = A := by
  funext q j
  have hh : ∀ n : Nat, [0, 0, 0, 0, 0, 0, 0, 0, 0, 0, 0, 0, 0, 0, 0, 0].getD n 0 = 0 := by
    intro n
    rw [List.getD_eq_getElem?_getD]
    by_cases c : n < 16
    · have : ∀ m, m < 16 → ([0, 0, 0, 0, 0, 0, 0, 0, 0, 0, 0, 0, 0, 0, 0, 0][m]?).getD 0 = 0 := by decide
      exact this n c
    · rw [List.getElem?_eq_none (by show 16 ≤ n; omega)]
      rfl
  unfold cpL
  rw [hh, if_neg (by omega)]

set_option maxRecDepth 100000 in
set_option maxHeartbeats 4000000 in
theorem ct_213 {h : av_H} (L : LY h) (a b : Nat) (ha : a ≤ 4) (hb : b ≤ 4) (hab : a ≠ b) (x y : Int) (ex : x = (a : Int)) (ey : y = (b : Int)) {Q : Option av_V → av_H → Prop} (hq : Q none (stA h (cpL (hA h) a b czt))) : av_wp none cd_213 0 [some (.inr (.inr (.inl (some (77))))), some (.inl x), some (.inl y), none] [] h Q := by
  subst ex
  subst ey
  have e0 : (stA h (cpL (hA h) a b [0, 0, 0, 0, 0, 0, 0, 0, 0, 0, 0, 0, 0, 0, 0, 0])) = h := by rw [cp_0]; rfl
  suffices hs : av_wp none cd_213 0 [some (.inr (.inr (.inl (some (77))))), some (.inl (a : Int)), some (.inl (b : Int)), none] [] (stA h (cpL (hA h) a b [0, 0, 0, 0, 0, 0, 0, 0, 0, 0, 0, 0, 0, 0, 0, 0])) Q by rw [e0] at hs; exact hs
  refine av_wp_seq 1 (pc' := 1) (lv' := [some (.inr (.inr (.inl (some (77))))), some (.inl (a : Int)), some (.inl (b : Int)), none]) (st' := [.inr (.inr (.inl (some (77))))]) (h' := (stA h (cpL (hA h) a b [0, 0, 0, 0, 0, 0, 0, 0, 0, 0, 0, 0, 0, 0, 0, 0]))) rfl ?_
  refine wq_gr (p' := 4) rfl rfl (congrArg Prod.fst (ly_k L 77 rfl)) rfl (ly_g L 77 0 78 rfl) ?_
  refine av_wp_seq 2 (pc' := 6) (lv' := [some (.inr (.inr (.inl (some (77))))), some (.inl (a : Int)), some (.inl (b : Int)), none]) (st' := [.inr (.inr (.inl (some (77)))), .inl (b : Int), .inr (.inr (.inl (some (78))))]) (h' := (stA h (cpL (hA h) a b [0, 0, 0, 0, 0, 0, 0, 0, 0, 0, 0, 0, 0, 0, 0, 0]))) rfl ?_
  refine wq_gr (p' := 9) rfl rfl (congrArg Prod.fst (ly_k L 77 rfl)) rfl (ly_g L 77 0 78 rfl) ?_
  refine av_wp_seq 1 (pc' := 10) (lv' := [some (.inr (.inr (.inl (some (77))))), some (.inl (a : Int)), some (.inl (b : Int)), none]) (st' := [.inl (a : Int), .inr (.inr (.inl (some (78)))), .inl (b : Int), .inr (.inr (.inl (some (78))))]) (h' := (stA h (cpL (hA h) a b [0, 0, 0, 0, 0, 0, 0, 0, 0, 0, 0, 0, 0, 0, 0, 0]))) rfl ?_
  refine wq_al (p' := 11) (n := 5) rfl rfl (ly_k L 78 rfl) (by omega) ((congrArg (cpL (hA h) a b [0, 0, 0, 0, 0, 0, 0, 0, 0, 0, 0, 0, 0, 0, 0, 0] 78) (show Int.toNat ((a : Int)) = 1 * a + 0 by omega)).trans (cp_r (show ¬ (1 * b ≤ 1 * a + 0 ∧ 1 * a + 0 < 1 * b + 0) by omega))) ?_
  refine wq_as (p' := 12) (n := 5) rfl rfl (ly_k L 78 rfl) (by omega) ?_
  have z1 : hwA (stA h (cpL (hA h) a b [0, 0, 0, 0, 0, 0, 0, 0, 0, 0, 0, 0, 0, 0, 0, 0])) 78 (Int.toNat ((b : Int))) (hA h 78 (1 * a + 0)) = (stA h (cpL (hA h) a b [1, 0, 0, 0, 0, 0, 0, 0, 0, 0, 0, 0, 0, 0, 0, 0])) := congrArg (stA h) (cp_w (k := 0) (by decide) (Nat.le_of_ble_eq_true rfl) rfl (show Int.toNat ((b : Int)) = 1 * b + 0 by omega) rfl rfl)
  rw [z1]
  refine av_wp_seq 1 (pc' := 13) (lv' := [some (.inr (.inr (.inl (some (77))))), some (.inl (a : Int)), some (.inl (b : Int)), none]) (st' := [.inr (.inr (.inl (some (77))))]) (h' := (stA h (cpL (hA h) a b [1, 0, 0, 0, 0, 0, 0, 0, 0, 0, 0, 0, 0, 0, 0, 0]))) rfl ?_
  refine wq_gr (p' := 16) rfl rfl (congrArg Prod.fst (ly_k L 77 rfl)) rfl (ly_g L 77 1 79 rfl) ?_
  refine av_wp_seq 2 (pc' := 18) (lv' := [some (.inr (.inr (.inl (some (77))))), some (.inl (a : Int)), some (.inl (b : Int)), none]) (st' := [.inr (.inr (.inl (some (77)))), .inl (b : Int), .inr (.inr (.inl (some (79))))]) (h' := (stA h (cpL (hA h) a b [1, 0, 0, 0, 0, 0, 0, 0, 0, 0, 0, 0, 0, 0, 0, 0]))) rfl ?_
  refine wq_gr (p' := 21) rfl rfl (congrArg Prod.fst (ly_k L 77 rfl)) rfl (ly_g L 77 1 79 rfl) ?_
  refine av_wp_seq 1 (pc' := 22) (lv' := [some (.inr (.inr (.inl (some (77))))), some (.inl (a : Int)), some (.inl (b : Int)), none]) (st' := [.inl (a : Int), .inr (.inr (.inl (some (79)))), .inl (b : Int), .inr (.inr (.inl (some (79))))]) (h' := (stA h (cpL (hA h) a b [1, 0, 0, 0, 0, 0, 0, 0, 0, 0, 0, 0, 0, 0, 0, 0]))) rfl ?_
  refine wq_al (p' := 23) (n := 5) rfl rfl (ly_k L 79 rfl) (by omega) ((congrArg (cpL (hA h) a b [1, 0, 0, 0, 0, 0, 0, 0, 0, 0, 0, 0, 0, 0, 0, 0] 79) (show Int.toNat ((a : Int)) = 1 * a + 0 by omega)).trans (cp_r (show ¬ (1 * b ≤ 1 * a + 0 ∧ 1 * a + 0 < 1 * b + 0) by omega))) ?_
  refine wq_as (p' := 24) (n := 5) rfl rfl (ly_k L 79 rfl) (by omega) ?_
  have z2 : hwA (stA h (cpL (hA h) a b [1, 0, 0, 0, 0, 0, 0, 0, 0, 0, 0, 0, 0, 0, 0, 0])) 79 (Int.toNat ((b : Int))) (hA h 79 (1 * a + 0)) = (stA h (cpL (hA h) a b [1, 1, 0, 0, 0, 0, 0, 0, 0, 0, 0, 0, 0, 0, 0, 0])) := congrArg (stA h) (cp_w (k := 0) (by decide) (Nat.le_of_ble_eq_true rfl) rfl (show Int.toNat ((b : Int)) = 1 * b + 0 by omega) rfl rfl)
  rw [z2]
  refine av_wp_seq 1 (pc' := 25) (lv' := [some (.inr (.inr (.inl (some (77))))), some (.inl (a : Int)), some (.inl (b : Int)), none]) (st' := [.inr (.inr (.inl (some (77))))]) (h' := (stA h (cpL (hA h) a b [1, 1, 0, 0, 0, 0, 0, 0, 0, 0, 0, 0, 0, 0, 0, 0]))) rfl ?_
  refine wq_gr (p' := 28) rfl rfl (congrArg Prod.fst (ly_k L 77 rfl)) rfl (ly_g L 77 2 80 rfl) ?_
  refine av_wp_seq 2 (pc' := 30) (lv' := [some (.inr (.inr (.inl (some (77))))), some (.inl (a : Int)), some (.inl (b : Int)), none]) (st' := [.inr (.inr (.inl (some (77)))), .inl (b : Int), .inr (.inr (.inl (some (80))))]) (h' := (stA h (cpL (hA h) a b [1, 1, 0, 0, 0, 0, 0, 0, 0, 0, 0, 0, 0, 0, 0, 0]))) rfl ?_
  refine wq_gr (p' := 33) rfl rfl (congrArg Prod.fst (ly_k L 77 rfl)) rfl (ly_g L 77 2 80 rfl) ?_
  refine av_wp_seq 1 (pc' := 34) (lv' := [some (.inr (.inr (.inl (some (77))))), some (.inl (a : Int)), some (.inl (b : Int)), none]) (st' := [.inl (a : Int), .inr (.inr (.inl (some (80)))), .inl (b : Int), .inr (.inr (.inl (some (80))))]) (h' := (stA h (cpL (hA h) a b [1, 1, 0, 0, 0, 0, 0, 0, 0, 0, 0, 0, 0, 0, 0, 0]))) rfl ?_
  refine wq_al (p' := 35) (n := 5) rfl rfl (ly_k L 80 rfl) (by omega) ((congrArg (cpL (hA h) a b [1, 1, 0, 0, 0, 0, 0, 0, 0, 0, 0, 0, 0, 0, 0, 0] 80) (show Int.toNat ((a : Int)) = 1 * a + 0 by omega)).trans (cp_r (show ¬ (1 * b ≤ 1 * a + 0 ∧ 1 * a + 0 < 1 * b + 0) by omega))) ?_
  refine wq_as (p' := 36) (n := 5) rfl rfl (ly_k L 80 rfl) (by omega) ?_
  have z3 : hwA (stA h (cpL (hA h) a b [1, 1, 0, 0, 0, 0, 0, 0, 0, 0, 0, 0, 0, 0, 0, 0])) 80 (Int.toNat ((b : Int))) (hA h 80 (1 * a + 0)) = (stA h (cpL (hA h) a b [1, 1, 1, 0, 0, 0, 0, 0, 0, 0, 0, 0, 0, 0, 0, 0])) := congrArg (stA h) (cp_w (k := 0) (by decide) (Nat.le_of_ble_eq_true rfl) rfl (show Int.toNat ((b : Int)) = 1 * b + 0 by omega) rfl rfl)
  rw [z3]
  refine av_wp_seq 2 (pc' := 38) (lv' := [some (.inr (.inr (.inl (some (77))))), some (.inl (a : Int)), some (.inl (b : Int)), some (.inl (0))]) (st' := []) (h' := (stA h (cpL (hA h) a b [1, 1, 1, 0, 0, 0, 0, 0, 0, 0, 0, 0, 0, 0, 0, 0]))) rfl ?_
  have L38 : ∀ (n k : Nat), n + k = 16 → av_wp none cd_213 38 [some (.inr (.inr (.inl (some (77))))), some (.inl (a : Int)), some (.inl (b : Int)), some (.inl (k : Int))] [] (stA h (cpL (hA h) a b [1, 1, 1, k, 0, 0, 0, 0, 0, 0, 0, 0, 0, 0, 0, 0])) Q := by
    intro n
    induction n with
    | zero =>
      intro k e1
      have e1 : k = 16 := by omega
      subst e1
      show av_wp none cd_213 38 [some (.inr (.inr (.inl (some (77))))), some (.inl (a : Int)), some (.inl (b : Int)), some (.inl (16))] [] (stA h (cpL (hA h) a b [1, 1, 1, 16, 0, 0, 0, 0, 0, 0, 0, 0, 0, 0, 0, 0])) Q
      refine av_wp_seq 5 (pc' := 74) (lv' := [some (.inr (.inr (.inl (some (77))))), some (.inl (a : Int)), some (.inl (b : Int)), some (.inl (0))]) (st' := []) (h' := (stA h (cpL (hA h) a b [1, 1, 1, 16, 0, 0, 0, 0, 0, 0, 0, 0, 0, 0, 0, 0]))) rfl ?_
      have L74 : ∀ (n k : Nat), n + k = 192 → av_wp none cd_213 74 [some (.inr (.inr (.inl (some (77))))), some (.inl (a : Int)), some (.inl (b : Int)), some (.inl (k : Int))] [] (stA h (cpL (hA h) a b [1, 1, 1, 16, k, k, k, k, k, k, k, k, 0, 0, 0, 0])) Q := by
        intro n
        induction n with
        | zero =>
          intro k e1
          have e1 : k = 192 := by omega
          subst e1
          show av_wp none cd_213 74 [some (.inr (.inr (.inl (some (77))))), some (.inl (a : Int)), some (.inl (b : Int)), some (.inl (192))] [] (stA h (cpL (hA h) a b [1, 1, 1, 16, 192, 192, 192, 192, 192, 192, 192, 192, 0, 0, 0, 0])) Q
          refine av_wp_seq 5 (pc' := 281) (lv' := [some (.inr (.inr (.inl (some (77))))), some (.inl (a : Int)), some (.inl (b : Int)), some (.inl (0))]) (st' := []) (h' := (stA h (cpL (hA h) a b [1, 1, 1, 16, 192, 192, 192, 192, 192, 192, 192, 192, 0, 0, 0, 0]))) rfl ?_
          have L281 : ∀ (n k : Nat), n + k = 960 → av_wp none cd_213 281 [some (.inr (.inr (.inl (some (77))))), some (.inl (a : Int)), some (.inl (b : Int)), some (.inl (k : Int))] [] (stA h (cpL (hA h) a b [1, 1, 1, 16, 192, 192, 192, 192, 192, 192, 192, 192, k, 0, 0, 0])) Q := by
            intro n
            induction n with
            | zero =>
              intro k e1
              have e1 : k = 960 := by omega
              subst e1
              show av_wp none cd_213 281 [some (.inr (.inr (.inl (some (77))))), some (.inl (a : Int)), some (.inl (b : Int)), some (.inl (960))] [] (stA h (cpL (hA h) a b [1, 1, 1, 16, 192, 192, 192, 192, 192, 192, 192, 192, 960, 0, 0, 0])) Q
              refine av_wp_seq 5 (pc' := 320) (lv' := [some (.inr (.inr (.inl (some (77))))), some (.inl (a : Int)), some (.inl (b : Int)), some (.inl (0))]) (st' := []) (h' := (stA h (cpL (hA h) a b [1, 1, 1, 16, 192, 192, 192, 192, 192, 192, 192, 192, 960, 0, 0, 0]))) rfl ?_
              have L320 : ∀ (n k : Nat), n + k = 576 → av_wp none cd_213 320 [some (.inr (.inr (.inl (some (77))))), some (.inl (a : Int)), some (.inl (b : Int)), some (.inl (k : Int))] [] (stA h (cpL (hA h) a b [1, 1, 1, 16, 192, 192, 192, 192, 192, 192, 192, 192, 960, k, k, 0])) Q := by
                intro n
                induction n with
                | zero =>
                  intro k e1
                  have e1 : k = 576 := by omega
                  subst e1
                  show av_wp none cd_213 320 [some (.inr (.inr (.inl (some (77))))), some (.inl (a : Int)), some (.inl (b : Int)), some (.inl (576))] [] (stA h (cpL (hA h) a b [1, 1, 1, 16, 192, 192, 192, 192, 192, 192, 192, 192, 960, 576, 576, 0])) Q
                  refine av_wp_seq 5 (pc' := 383) (lv' := [some (.inr (.inr (.inl (some (77))))), some (.inl (a : Int)), some (.inl (b : Int)), some (.inl (0))]) (st' := []) (h' := (stA h (cpL (hA h) a b [1, 1, 1, 16, 192, 192, 192, 192, 192, 192, 192, 192, 960, 576, 576, 0]))) rfl ?_
                  have L383 : ∀ (n k : Nat), n + k = 196 → av_wp none cd_213 383 [some (.inr (.inr (.inl (some (77))))), some (.inl (a : Int)), some (.inl (b : Int)), some (.inl (k : Int))] [] (stA h (cpL (hA h) a b [1, 1, 1, 16, 192, 192, 192, 192, 192, 192, 192, 192, 960, 576, 576, k])) Q := by
                    intro n
                    induction n with
                    | zero =>
                      intro k e1
                      have e1 : k = 196 := by omega
                      subst e1
                      show av_wp none cd_213 383 [some (.inr (.inr (.inl (some (77))))), some (.inl (a : Int)), some (.inl (b : Int)), some (.inl (196))] [] (stA h (cpL (hA h) a b [1, 1, 1, 16, 192, 192, 192, 192, 192, 192, 192, 192, 960, 576, 576, 196])) Q
                      refine av_wp_seq 3 (pc' := 420) (lv' := [some (.inr (.inr (.inl (some (77))))), some (.inl (a : Int)), some (.inl (b : Int)), some (.inl (196))]) (st' := []) (h' := (stA h (cpL (hA h) a b [1, 1, 1, 16, 192, 192, 192, 192, 192, 192, 192, 192, 960, 576, 576, 196]))) rfl ?_
                      refine av_wp_ret (v := none) rfl rfl rfl ?_
                      exact hq
                    | succ n ih =>
                      intro k e1
                      refine av_wp_seq 2 (pc' := 387) (lv' := [some (.inr (.inr (.inl (some (77))))), some (.inl (a : Int)), some (.inl (b : Int)), some (.inl (k : Int))]) (st' := [.inl (196), .inl (k : Int)]) (h' := (stA h (cpL (hA h) a b [1, 1, 1, 16, 192, 192, 192, 192, 192, 192, 192, 192, 960, 576, 576, k]))) rfl ?_
                      refine wq_k2 (p' := 390) rfl rfl ⟨by omega, by omega⟩ ⟨by omega, by omega⟩ (fun c4 => ?_) (fun c5 => ?_)
                      · have c4 : (196) ≤ (k : Int) := c4
                        exfalso; omega
                      · have c5 : (k : Int) < (196) := c5
                        refine av_wp_seq 1 (pc' := 391) (lv' := [some (.inr (.inr (.inl (some (77))))), some (.inl (a : Int)), some (.inl (b : Int)), some (.inl (k : Int))]) (st' := [.inr (.inr (.inl (some (77))))]) (h' := (stA h (cpL (hA h) a b [1, 1, 1, 16, 192, 192, 192, 192, 192, 192, 192, 192, 960, 576, 576, k]))) rfl ?_
                        refine wq_gr (p' := 394) rfl rfl (congrArg Prod.fst (ly_k L 77 rfl)) rfl (ly_g L 77 15 93 rfl) ?_
                        refine av_wp_seq 6 (pc' := 402) (lv' := [some (.inr (.inr (.inl (some (77))))), some (.inl (a : Int)), some (.inl (b : Int)), some (.inl (k : Int))]) (st' := [.inr (.inr (.inl (some (77)))), .inl (((196) * (b : Int)) + (k : Int)), .inr (.inr (.inl (some (93))))]) (h' := (stA h (cpL (hA h) a b [1, 1, 1, 16, 192, 192, 192, 192, 192, 192, 192, 192, 960, 576, 576, k]))) rfl ?_
                        refine wq_gr (p' := 405) rfl rfl (congrArg Prod.fst (ly_k L 77 rfl)) rfl (ly_g L 77 15 93 rfl) ?_
                        refine av_wp_seq 5 (pc' := 412) (lv' := [some (.inr (.inr (.inl (some (77))))), some (.inl (a : Int)), some (.inl (b : Int)), some (.inl (k : Int))]) (st' := [.inl (((196) * (a : Int)) + (k : Int)), .inr (.inr (.inl (some (93)))), .inl (((196) * (b : Int)) + (k : Int)), .inr (.inr (.inl (some (93))))]) (h' := (stA h (cpL (hA h) a b [1, 1, 1, 16, 192, 192, 192, 192, 192, 192, 192, 192, 960, 576, 576, k]))) rfl ?_
                        refine wq_al (p' := 413) (n := 980) rfl rfl (ly_k L 93 rfl) (by omega) ((congrArg (cpL (hA h) a b [1, 1, 1, 16, 192, 192, 192, 192, 192, 192, 192, 192, 960, 576, 576, k] 93) (show Int.toNat ((((196) * (a : Int)) + (k : Int))) = 196 * a + k by omega)).trans (cp_r (show ¬ (196 * b ≤ 196 * a + k ∧ 196 * a + k < 196 * b + k) by omega))) ?_
                        refine wq_as (p' := 414) (n := 980) rfl rfl (ly_k L 93 rfl) (by omega) ?_
                        have z6 : hwA (stA h (cpL (hA h) a b [1, 1, 1, 16, 192, 192, 192, 192, 192, 192, 192, 192, 960, 576, 576, k])) 93 (Int.toNat ((((196) * (b : Int)) + (k : Int)))) (hA h 93 (196 * a + k)) = (stA h (cpL (hA h) a b [1, 1, 1, 16, 192, 192, 192, 192, 192, 192, 192, 192, 960, 576, 576, (k + 1)])) := congrArg (stA h) (cp_w (k := k) (by decide) (Nat.le_of_ble_eq_true rfl) rfl (show Int.toNat ((((196) * (b : Int)) + (k : Int))) = 196 * b + k by omega) rfl rfl)
                        rw [z6]
                        refine av_wp_seq 2 (pc' := 383) (lv' := [some (.inr (.inr (.inl (some (77))))), some (.inl (a : Int)), some (.inl (b : Int)), some (.inl ((k : Int) + (1)))]) (st' := []) (h' := (stA h (cpL (hA h) a b [1, 1, 1, 16, 192, 192, 192, 192, 192, 192, 192, 192, 960, 576, 576, (k + 1)]))) rfl ?_
                        exact ih (k + 1) (by omega)
                  exact L383 196 0 rfl
                | succ n ih =>
                  intro k e1
                  refine av_wp_seq 2 (pc' := 324) (lv' := [some (.inr (.inr (.inl (some (77))))), some (.inl (a : Int)), some (.inl (b : Int)), some (.inl (k : Int))]) (st' := [.inl (576), .inl (k : Int)]) (h' := (stA h (cpL (hA h) a b [1, 1, 1, 16, 192, 192, 192, 192, 192, 192, 192, 192, 960, k, k, 0]))) rfl ?_
                  refine wq_k2 (p' := 327) rfl rfl ⟨by omega, by omega⟩ ⟨by omega, by omega⟩ (fun c7 => ?_) (fun c8 => ?_)
                  · have c7 : (576) ≤ (k : Int) := c7
                    exfalso; omega
                  · have c8 : (k : Int) < (576) := c8
                    refine av_wp_seq 1 (pc' := 328) (lv' := [some (.inr (.inr (.inl (some (77))))), some (.inl (a : Int)), some (.inl (b : Int)), some (.inl (k : Int))]) (st' := [.inr (.inr (.inl (some (77))))]) (h' := (stA h (cpL (hA h) a b [1, 1, 1, 16, 192, 192, 192, 192, 192, 192, 192, 192, 960, k, k, 0]))) rfl ?_
                    refine wq_gr (p' := 331) rfl rfl (congrArg Prod.fst (ly_k L 77 rfl)) rfl (ly_g L 77 13 91 rfl) ?_
                    refine av_wp_seq 6 (pc' := 339) (lv' := [some (.inr (.inr (.inl (some (77))))), some (.inl (a : Int)), some (.inl (b : Int)), some (.inl (k : Int))]) (st' := [.inr (.inr (.inl (some (77)))), .inl (((576) * (b : Int)) + (k : Int)), .inr (.inr (.inl (some (91))))]) (h' := (stA h (cpL (hA h) a b [1, 1, 1, 16, 192, 192, 192, 192, 192, 192, 192, 192, 960, k, k, 0]))) rfl ?_
                    refine wq_gr (p' := 342) rfl rfl (congrArg Prod.fst (ly_k L 77 rfl)) rfl (ly_g L 77 13 91 rfl) ?_
                    refine av_wp_seq 5 (pc' := 349) (lv' := [some (.inr (.inr (.inl (some (77))))), some (.inl (a : Int)), some (.inl (b : Int)), some (.inl (k : Int))]) (st' := [.inl (((576) * (a : Int)) + (k : Int)), .inr (.inr (.inl (some (91)))), .inl (((576) * (b : Int)) + (k : Int)), .inr (.inr (.inl (some (91))))]) (h' := (stA h (cpL (hA h) a b [1, 1, 1, 16, 192, 192, 192, 192, 192, 192, 192, 192, 960, k, k, 0]))) rfl ?_
                    refine wq_al (p' := 350) (n := 2880) rfl rfl (ly_k L 91 rfl) (by omega) ((congrArg (cpL (hA h) a b [1, 1, 1, 16, 192, 192, 192, 192, 192, 192, 192, 192, 960, k, k, 0] 91) (show Int.toNat ((((576) * (a : Int)) + (k : Int))) = 576 * a + k by omega)).trans (cp_r (show ¬ (576 * b ≤ 576 * a + k ∧ 576 * a + k < 576 * b + k) by omega))) ?_
                    refine wq_as (p' := 351) (n := 2880) rfl rfl (ly_k L 91 rfl) (by omega) ?_
                    have z9 : hwA (stA h (cpL (hA h) a b [1, 1, 1, 16, 192, 192, 192, 192, 192, 192, 192, 192, 960, k, k, 0])) 91 (Int.toNat ((((576) * (b : Int)) + (k : Int)))) (hA h 91 (576 * a + k)) = (stA h (cpL (hA h) a b [1, 1, 1, 16, 192, 192, 192, 192, 192, 192, 192, 192, 960, (k + 1), k, 0])) := congrArg (stA h) (cp_w (k := k) (by decide) (Nat.le_of_ble_eq_true rfl) rfl (show Int.toNat ((((576) * (b : Int)) + (k : Int))) = 576 * b + k by omega) rfl rfl)
                    rw [z9]
                    refine av_wp_seq 1 (pc' := 352) (lv' := [some (.inr (.inr (.inl (some (77))))), some (.inl (a : Int)), some (.inl (b : Int)), some (.inl (k : Int))]) (st' := [.inr (.inr (.inl (some (77))))]) (h' := (stA h (cpL (hA h) a b [1, 1, 1, 16, 192, 192, 192, 192, 192, 192, 192, 192, 960, (k + 1), k, 0]))) rfl ?_
                    refine wq_gr (p' := 355) rfl rfl (congrArg Prod.fst (ly_k L 77 rfl)) rfl (ly_g L 77 14 92 rfl) ?_
                    refine av_wp_seq 6 (pc' := 363) (lv' := [some (.inr (.inr (.inl (some (77))))), some (.inl (a : Int)), some (.inl (b : Int)), some (.inl (k : Int))]) (st' := [.inr (.inr (.inl (some (77)))), .inl (((576) * (b : Int)) + (k : Int)), .inr (.inr (.inl (some (92))))]) (h' := (stA h (cpL (hA h) a b [1, 1, 1, 16, 192, 192, 192, 192, 192, 192, 192, 192, 960, (k + 1), k, 0]))) rfl ?_
                    refine wq_gr (p' := 366) rfl rfl (congrArg Prod.fst (ly_k L 77 rfl)) rfl (ly_g L 77 14 92 rfl) ?_
                    refine av_wp_seq 5 (pc' := 373) (lv' := [some (.inr (.inr (.inl (some (77))))), some (.inl (a : Int)), some (.inl (b : Int)), some (.inl (k : Int))]) (st' := [.inl (((576) * (a : Int)) + (k : Int)), .inr (.inr (.inl (some (92)))), .inl (((576) * (b : Int)) + (k : Int)), .inr (.inr (.inl (some (92))))]) (h' := (stA h (cpL (hA h) a b [1, 1, 1, 16, 192, 192, 192, 192, 192, 192, 192, 192, 960, (k + 1), k, 0]))) rfl ?_
                    refine wq_al (p' := 374) (n := 2880) rfl rfl (ly_k L 92 rfl) (by omega) ((congrArg (cpL (hA h) a b [1, 1, 1, 16, 192, 192, 192, 192, 192, 192, 192, 192, 960, (k + 1), k, 0] 92) (show Int.toNat ((((576) * (a : Int)) + (k : Int))) = 576 * a + k by omega)).trans (cp_r (show ¬ (576 * b ≤ 576 * a + k ∧ 576 * a + k < 576 * b + k) by omega))) ?_
                    refine wq_as (p' := 375) (n := 2880) rfl rfl (ly_k L 92 rfl) (by omega) ?_
                    have z10 : hwA (stA h (cpL (hA h) a b [1, 1, 1, 16, 192, 192, 192, 192, 192, 192, 192, 192, 960, (k + 1), k, 0])) 92 (Int.toNat ((((576) * (b : Int)) + (k : Int)))) (hA h 92 (576 * a + k)) = (stA h (cpL (hA h) a b [1, 1, 1, 16, 192, 192, 192, 192, 192, 192, 192, 192, 960, (k + 1), (k + 1), 0])) := congrArg (stA h) (cp_w (k := k) (by decide) (Nat.le_of_ble_eq_true rfl) rfl (show Int.toNat ((((576) * (b : Int)) + (k : Int))) = 576 * b + k by omega) rfl rfl)
                    rw [z10]
                    refine av_wp_seq 2 (pc' := 320) (lv' := [some (.inr (.inr (.inl (some (77))))), some (.inl (a : Int)), some (.inl (b : Int)), some (.inl ((k : Int) + (1)))]) (st' := []) (h' := (stA h (cpL (hA h) a b [1, 1, 1, 16, 192, 192, 192, 192, 192, 192, 192, 192, 960, (k + 1), (k + 1), 0]))) rfl ?_
                    exact ih (k + 1) (by omega)
              exact L320 576 0 rfl
            | succ n ih =>
              intro k e1
              refine av_wp_seq 2 (pc' := 285) (lv' := [some (.inr (.inr (.inl (some (77))))), some (.inl (a : Int)), some (.inl (b : Int)), some (.inl (k : Int))]) (st' := [.inl (960), .inl (k : Int)]) (h' := (stA h (cpL (hA h) a b [1, 1, 1, 16, 192, 192, 192, 192, 192, 192, 192, 192, k, 0, 0, 0]))) rfl ?_
              refine wq_k2 (p' := 288) rfl rfl ⟨by omega, by omega⟩ ⟨by omega, by omega⟩ (fun c11 => ?_) (fun c12 => ?_)
              · have c11 : (960) ≤ (k : Int) := c11
                exfalso; omega
              · have c12 : (k : Int) < (960) := c12
                refine av_wp_seq 1 (pc' := 289) (lv' := [some (.inr (.inr (.inl (some (77))))), some (.inl (a : Int)), some (.inl (b : Int)), some (.inl (k : Int))]) (st' := [.inr (.inr (.inl (some (77))))]) (h' := (stA h (cpL (hA h) a b [1, 1, 1, 16, 192, 192, 192, 192, 192, 192, 192, 192, k, 0, 0, 0]))) rfl ?_
                refine wq_gr (p' := 292) rfl rfl (congrArg Prod.fst (ly_k L 77 rfl)) rfl (ly_g L 77 12 90 rfl) ?_
                refine av_wp_seq 6 (pc' := 300) (lv' := [some (.inr (.inr (.inl (some (77))))), some (.inl (a : Int)), some (.inl (b : Int)), some (.inl (k : Int))]) (st' := [.inr (.inr (.inl (some (77)))), .inl (((960) * (b : Int)) + (k : Int)), .inr (.inr (.inl (some (90))))]) (h' := (stA h (cpL (hA h) a b [1, 1, 1, 16, 192, 192, 192, 192, 192, 192, 192, 192, k, 0, 0, 0]))) rfl ?_
                refine wq_gr (p' := 303) rfl rfl (congrArg Prod.fst (ly_k L 77 rfl)) rfl (ly_g L 77 12 90 rfl) ?_
                refine av_wp_seq 5 (pc' := 310) (lv' := [some (.inr (.inr (.inl (some (77))))), some (.inl (a : Int)), some (.inl (b : Int)), some (.inl (k : Int))]) (st' := [.inl (((960) * (a : Int)) + (k : Int)), .inr (.inr (.inl (some (90)))), .inl (((960) * (b : Int)) + (k : Int)), .inr (.inr (.inl (some (90))))]) (h' := (stA h (cpL (hA h) a b [1, 1, 1, 16, 192, 192, 192, 192, 192, 192, 192, 192, k, 0, 0, 0]))) rfl ?_
                refine wq_al (p' := 311) (n := 4800) rfl rfl (ly_k L 90 rfl) (by omega) ((congrArg (cpL (hA h) a b [1, 1, 1, 16, 192, 192, 192, 192, 192, 192, 192, 192, k, 0, 0, 0] 90) (show Int.toNat ((((960) * (a : Int)) + (k : Int))) = 960 * a + k by omega)).trans (cp_r (show ¬ (960 * b ≤ 960 * a + k ∧ 960 * a + k < 960 * b + k) by omega))) ?_
                refine wq_as (p' := 312) (n := 4800) rfl rfl (ly_k L 90 rfl) (by omega) ?_
                have z13 : hwA (stA h (cpL (hA h) a b [1, 1, 1, 16, 192, 192, 192, 192, 192, 192, 192, 192, k, 0, 0, 0])) 90 (Int.toNat ((((960) * (b : Int)) + (k : Int)))) (hA h 90 (960 * a + k)) = (stA h (cpL (hA h) a b [1, 1, 1, 16, 192, 192, 192, 192, 192, 192, 192, 192, (k + 1), 0, 0, 0])) := congrArg (stA h) (cp_w (k := k) (by decide) (Nat.le_of_ble_eq_true rfl) rfl (show Int.toNat ((((960) * (b : Int)) + (k : Int))) = 960 * b + k by omega) rfl rfl)
                rw [z13]
                refine av_wp_seq 2 (pc' := 281) (lv' := [some (.inr (.inr (.inl (some (77))))), some (.inl (a : Int)), some (.inl (b : Int)), some (.inl ((k : Int) + (1)))]) (st' := []) (h' := (stA h (cpL (hA h) a b [1, 1, 1, 16, 192, 192, 192, 192, 192, 192, 192, 192, (k + 1), 0, 0, 0]))) rfl ?_
                exact ih (k + 1) (by omega)
          exact L281 960 0 rfl
        | succ n ih =>
          intro k e1
          refine av_wp_seq 2 (pc' := 78) (lv' := [some (.inr (.inr (.inl (some (77))))), some (.inl (a : Int)), some (.inl (b : Int)), some (.inl (k : Int))]) (st' := [.inl (192), .inl (k : Int)]) (h' := (stA h (cpL (hA h) a b [1, 1, 1, 16, k, k, k, k, k, k, k, k, 0, 0, 0, 0]))) rfl ?_
          refine wq_k2 (p' := 81) rfl rfl ⟨by omega, by omega⟩ ⟨by omega, by omega⟩ (fun c14 => ?_) (fun c15 => ?_)
          · have c14 : (192) ≤ (k : Int) := c14
            exfalso; omega
          · have c15 : (k : Int) < (192) := c15
            refine av_wp_seq 1 (pc' := 82) (lv' := [some (.inr (.inr (.inl (some (77))))), some (.inl (a : Int)), some (.inl (b : Int)), some (.inl (k : Int))]) (st' := [.inr (.inr (.inl (some (77))))]) (h' := (stA h (cpL (hA h) a b [1, 1, 1, 16, k, k, k, k, k, k, k, k, 0, 0, 0, 0]))) rfl ?_
            refine wq_gr (p' := 85) rfl rfl (congrArg Prod.fst (ly_k L 77 rfl)) rfl (ly_g L 77 4 82 rfl) ?_
            refine av_wp_seq 6 (pc' := 93) (lv' := [some (.inr (.inr (.inl (some (77))))), some (.inl (a : Int)), some (.inl (b : Int)), some (.inl (k : Int))]) (st' := [.inr (.inr (.inl (some (77)))), .inl (((192) * (b : Int)) + (k : Int)), .inr (.inr (.inl (some (82))))]) (h' := (stA h (cpL (hA h) a b [1, 1, 1, 16, k, k, k, k, k, k, k, k, 0, 0, 0, 0]))) rfl ?_
            refine wq_gr (p' := 96) rfl rfl (congrArg Prod.fst (ly_k L 77 rfl)) rfl (ly_g L 77 4 82 rfl) ?_
            refine av_wp_seq 5 (pc' := 103) (lv' := [some (.inr (.inr (.inl (some (77))))), some (.inl (a : Int)), some (.inl (b : Int)), some (.inl (k : Int))]) (st' := [.inl (((192) * (a : Int)) + (k : Int)), .inr (.inr (.inl (some (82)))), .inl (((192) * (b : Int)) + (k : Int)), .inr (.inr (.inl (some (82))))]) (h' := (stA h (cpL (hA h) a b [1, 1, 1, 16, k, k, k, k, k, k, k, k, 0, 0, 0, 0]))) rfl ?_
            refine wq_al (p' := 104) (n := 960) rfl rfl (ly_k L 82 rfl) (by omega) ((congrArg (cpL (hA h) a b [1, 1, 1, 16, k, k, k, k, k, k, k, k, 0, 0, 0, 0] 82) (show Int.toNat ((((192) * (a : Int)) + (k : Int))) = 192 * a + k by omega)).trans (cp_r (show ¬ (192 * b ≤ 192 * a + k ∧ 192 * a + k < 192 * b + k) by omega))) ?_
            refine wq_as (p' := 105) (n := 960) rfl rfl (ly_k L 82 rfl) (by omega) ?_
            have z16 : hwA (stA h (cpL (hA h) a b [1, 1, 1, 16, k, k, k, k, k, k, k, k, 0, 0, 0, 0])) 82 (Int.toNat ((((192) * (b : Int)) + (k : Int)))) (hA h 82 (192 * a + k)) = (stA h (cpL (hA h) a b [1, 1, 1, 16, (k + 1), k, k, k, k, k, k, k, 0, 0, 0, 0])) := congrArg (stA h) (cp_w (k := k) (by decide) (Nat.le_of_ble_eq_true rfl) rfl (show Int.toNat ((((192) * (b : Int)) + (k : Int))) = 192 * b + k by omega) rfl rfl)
            rw [z16]
            refine av_wp_seq 1 (pc' := 106) (lv' := [some (.inr (.inr (.inl (some (77))))), some (.inl (a : Int)), some (.inl (b : Int)), some (.inl (k : Int))]) (st' := [.inr (.inr (.inl (some (77))))]) (h' := (stA h (cpL (hA h) a b [1, 1, 1, 16, (k + 1), k, k, k, k, k, k, k, 0, 0, 0, 0]))) rfl ?_
            refine wq_gr (p' := 109) rfl rfl (congrArg Prod.fst (ly_k L 77 rfl)) rfl (ly_g L 77 5 83 rfl) ?_
            refine av_wp_seq 6 (pc' := 117) (lv' := [some (.inr (.inr (.inl (some (77))))), some (.inl (a : Int)), some (.inl (b : Int)), some (.inl (k : Int))]) (st' := [.inr (.inr (.inl (some (77)))), .inl (((192) * (b : Int)) + (k : Int)), .inr (.inr (.inl (some (83))))]) (h' := (stA h (cpL (hA h) a b [1, 1, 1, 16, (k + 1), k, k, k, k, k, k, k, 0, 0, 0, 0]))) rfl ?_
            refine wq_gr (p' := 120) rfl rfl (congrArg Prod.fst (ly_k L 77 rfl)) rfl (ly_g L 77 5 83 rfl) ?_
            refine av_wp_seq 5 (pc' := 127) (lv' := [some (.inr (.inr (.inl (some (77))))), some (.inl (a : Int)), some (.inl (b : Int)), some (.inl (k : Int))]) (st' := [.inl (((192) * (a : Int)) + (k : Int)), .inr (.inr (.inl (some (83)))), .inl (((192) * (b : Int)) + (k : Int)), .inr (.inr (.inl (some (83))))]) (h' := (stA h (cpL (hA h) a b [1, 1, 1, 16, (k + 1), k, k, k, k, k, k, k, 0, 0, 0, 0]))) rfl ?_
            refine wq_al (p' := 128) (n := 960) rfl rfl (ly_k L 83 rfl) (by omega) ((congrArg (cpL (hA h) a b [1, 1, 1, 16, (k + 1), k, k, k, k, k, k, k, 0, 0, 0, 0] 83) (show Int.toNat ((((192) * (a : Int)) + (k : Int))) = 192 * a + k by omega)).trans (cp_r (show ¬ (192 * b ≤ 192 * a + k ∧ 192 * a + k < 192 * b + k) by omega))) ?_
            refine wq_as (p' := 129) (n := 960) rfl rfl (ly_k L 83 rfl) (by omega) ?_
            have z17 : hwA (stA h (cpL (hA h) a b [1, 1, 1, 16, (k + 1), k, k, k, k, k, k, k, 0, 0, 0, 0])) 83 (Int.toNat ((((192) * (b : Int)) + (k : Int)))) (hA h 83 (192 * a + k)) = (stA h (cpL (hA h) a b [1, 1, 1, 16, (k + 1), (k + 1), k, k, k, k, k, k, 0, 0, 0, 0])) := congrArg (stA h) (cp_w (k := k) (by decide) (Nat.le_of_ble_eq_true rfl) rfl (show Int.toNat ((((192) * (b : Int)) + (k : Int))) = 192 * b + k by omega) rfl rfl)
            rw [z17]
            refine av_wp_seq 1 (pc' := 130) (lv' := [some (.inr (.inr (.inl (some (77))))), some (.inl (a : Int)), some (.inl (b : Int)), some (.inl (k : Int))]) (st' := [.inr (.inr (.inl (some (77))))]) (h' := (stA h (cpL (hA h) a b [1, 1, 1, 16, (k + 1), (k + 1), k, k, k, k, k, k, 0, 0, 0, 0]))) rfl ?_
            refine wq_gr (p' := 133) rfl rfl (congrArg Prod.fst (ly_k L 77 rfl)) rfl (ly_g L 77 6 84 rfl) ?_
            refine av_wp_seq 6 (pc' := 141) (lv' := [some (.inr (.inr (.inl (some (77))))), some (.inl (a : Int)), some (.inl (b : Int)), some (.inl (k : Int))]) (st' := [.inr (.inr (.inl (some (77)))), .inl (((192) * (b : Int)) + (k : Int)), .inr (.inr (.inl (some (84))))]) (h' := (stA h (cpL (hA h) a b [1, 1, 1, 16, (k + 1), (k + 1), k, k, k, k, k, k, 0, 0, 0, 0]))) rfl ?_
            refine wq_gr (p' := 144) rfl rfl (congrArg Prod.fst (ly_k L 77 rfl)) rfl (ly_g L 77 6 84 rfl) ?_
            refine av_wp_seq 5 (pc' := 151) (lv' := [some (.inr (.inr (.inl (some (77))))), some (.inl (a : Int)), some (.inl (b : Int)), some (.inl (k : Int))]) (st' := [.inl (((192) * (a : Int)) + (k : Int)), .inr (.inr (.inl (some (84)))), .inl (((192) * (b : Int)) + (k : Int)), .inr (.inr (.inl (some (84))))]) (h' := (stA h (cpL (hA h) a b [1, 1, 1, 16, (k + 1), (k + 1), k, k, k, k, k, k, 0, 0, 0, 0]))) rfl ?_
            refine wq_al (p' := 152) (n := 960) rfl rfl (ly_k L 84 rfl) (by omega) ((congrArg (cpL (hA h) a b [1, 1, 1, 16, (k + 1), (k + 1), k, k, k, k, k, k, 0, 0, 0, 0] 84) (show Int.toNat ((((192) * (a : Int)) + (k : Int))) = 192 * a + k by omega)).trans (cp_r (show ¬ (192 * b ≤ 192 * a + k ∧ 192 * a + k < 192 * b + k) by omega))) ?_
            refine wq_as (p' := 153) (n := 960) rfl rfl (ly_k L 84 rfl) (by omega) ?_
            have z18 : hwA (stA h (cpL (hA h) a b [1, 1, 1, 16, (k + 1), (k + 1), k, k, k, k, k, k, 0, 0, 0, 0])) 84 (Int.toNat ((((192) * (b : Int)) + (k : Int)))) (hA h 84 (192 * a + k)) = (stA h (cpL (hA h) a b [1, 1, 1, 16, (k + 1), (k + 1), (k + 1), k, k, k, k, k, 0, 0, 0, 0])) := congrArg (stA h) (cp_w (k := k) (by decide) (Nat.le_of_ble_eq_true rfl) rfl (show Int.toNat ((((192) * (b : Int)) + (k : Int))) = 192 * b + k by omega) rfl rfl)
            rw [z18]
            refine av_wp_seq 1 (pc' := 154) (lv' := [some (.inr (.inr (.inl (some (77))))), some (.inl (a : Int)), some (.inl (b : Int)), some (.inl (k : Int))]) (st' := [.inr (.inr (.inl (some (77))))]) (h' := (stA h (cpL (hA h) a b [1, 1, 1, 16, (k + 1), (k + 1), (k + 1), k, k, k, k, k, 0, 0, 0, 0]))) rfl ?_
            refine wq_gr (p' := 157) rfl rfl (congrArg Prod.fst (ly_k L 77 rfl)) rfl (ly_g L 77 7 85 rfl) ?_
            refine av_wp_seq 6 (pc' := 165) (lv' := [some (.inr (.inr (.inl (some (77))))), some (.inl (a : Int)), some (.inl (b : Int)), some (.inl (k : Int))]) (st' := [.inr (.inr (.inl (some (77)))), .inl (((192) * (b : Int)) + (k : Int)), .inr (.inr (.inl (some (85))))]) (h' := (stA h (cpL (hA h) a b [1, 1, 1, 16, (k + 1), (k + 1), (k + 1), k, k, k, k, k, 0, 0, 0, 0]))) rfl ?_
            refine wq_gr (p' := 168) rfl rfl (congrArg Prod.fst (ly_k L 77 rfl)) rfl (ly_g L 77 7 85 rfl) ?_
            refine av_wp_seq 5 (pc' := 175) (lv' := [some (.inr (.inr (.inl (some (77))))), some (.inl (a : Int)), some (.inl (b : Int)), some (.inl (k : Int))]) (st' := [.inl (((192) * (a : Int)) + (k : Int)), .inr (.inr (.inl (some (85)))), .inl (((192) * (b : Int)) + (k : Int)), .inr (.inr (.inl (some (85))))]) (h' := (stA h (cpL (hA h) a b [1, 1, 1, 16, (k + 1), (k + 1), (k + 1), k, k, k, k, k, 0, 0, 0, 0]))) rfl ?_
            refine wq_al (p' := 176) (n := 960) rfl rfl (ly_k L 85 rfl) (by omega) ((congrArg (cpL (hA h) a b [1, 1, 1, 16, (k + 1), (k + 1), (k + 1), k, k, k, k, k, 0, 0, 0, 0] 85) (show Int.toNat ((((192) * (a : Int)) + (k : Int))) = 192 * a + k by omega)).trans (cp_r (show ¬ (192 * b ≤ 192 * a + k ∧ 192 * a + k < 192 * b + k) by omega))) ?_
            refine wq_as (p' := 177) (n := 960) rfl rfl (ly_k L 85 rfl) (by omega) ?_
            have z19 : hwA (stA h (cpL (hA h) a b [1, 1, 1, 16, (k + 1), (k + 1), (k + 1), k, k, k, k, k, 0, 0, 0, 0])) 85 (Int.toNat ((((192) * (b : Int)) + (k : Int)))) (hA h 85 (192 * a + k)) = (stA h (cpL (hA h) a b [1, 1, 1, 16, (k + 1), (k + 1), (k + 1), (k + 1), k, k, k, k, 0, 0, 0, 0])) := congrArg (stA h) (cp_w (k := k) (by decide) (Nat.le_of_ble_eq_true rfl) rfl (show Int.toNat ((((192) * (b : Int)) + (k : Int))) = 192 * b + k by omega) rfl rfl)
            rw [z19]
            refine av_wp_seq 1 (pc' := 178) (lv' := [some (.inr (.inr (.inl (some (77))))), some (.inl (a : Int)), some (.inl (b : Int)), some (.inl (k : Int))]) (st' := [.inr (.inr (.inl (some (77))))]) (h' := (stA h (cpL (hA h) a b [1, 1, 1, 16, (k + 1), (k + 1), (k + 1), (k + 1), k, k, k, k, 0, 0, 0, 0]))) rfl ?_
            refine wq_gr (p' := 181) rfl rfl (congrArg Prod.fst (ly_k L 77 rfl)) rfl (ly_g L 77 8 86 rfl) ?_
            refine av_wp_seq 6 (pc' := 189) (lv' := [some (.inr (.inr (.inl (some (77))))), some (.inl (a : Int)), some (.inl (b : Int)), some (.inl (k : Int))]) (st' := [.inr (.inr (.inl (some (77)))), .inl (((192) * (b : Int)) + (k : Int)), .inr (.inr (.inl (some (86))))]) (h' := (stA h (cpL (hA h) a b [1, 1, 1, 16, (k + 1), (k + 1), (k + 1), (k + 1), k, k, k, k, 0, 0, 0, 0]))) rfl ?_
            refine wq_gr (p' := 192) rfl rfl (congrArg Prod.fst (ly_k L 77 rfl)) rfl (ly_g L 77 8 86 rfl) ?_
            refine av_wp_seq 5 (pc' := 199) (lv' := [some (.inr (.inr (.inl (some (77))))), some (.inl (a : Int)), some (.inl (b : Int)), some (.inl (k : Int))]) (st' := [.inl (((192) * (a : Int)) + (k : Int)), .inr (.inr (.inl (some (86)))), .inl (((192) * (b : Int)) + (k : Int)), .inr (.inr (.inl (some (86))))]) (h' := (stA h (cpL (hA h) a b [1, 1, 1, 16, (k + 1), (k + 1), (k + 1), (k + 1), k, k, k, k, 0, 0, 0, 0]))) rfl ?_
            refine wq_al (p' := 200) (n := 960) rfl rfl (ly_k L 86 rfl) (by omega) ((congrArg (cpL (hA h) a b [1, 1, 1, 16, (k + 1), (k + 1), (k + 1), (k + 1), k, k, k, k, 0, 0, 0, 0] 86) (show Int.toNat ((((192) * (a : Int)) + (k : Int))) = 192 * a + k by omega)).trans (cp_r (show ¬ (192 * b ≤ 192 * a + k ∧ 192 * a + k < 192 * b + k) by omega))) ?_
            refine wq_as (p' := 201) (n := 960) rfl rfl (ly_k L 86 rfl) (by omega) ?_
            have z20 : hwA (stA h (cpL (hA h) a b [1, 1, 1, 16, (k + 1), (k + 1), (k + 1), (k + 1), k, k, k, k, 0, 0, 0, 0])) 86 (Int.toNat ((((192) * (b : Int)) + (k : Int)))) (hA h 86 (192 * a + k)) = (stA h (cpL (hA h) a b [1, 1, 1, 16, (k + 1), (k + 1), (k + 1), (k + 1), (k + 1), k, k, k, 0, 0, 0, 0])) := congrArg (stA h) (cp_w (k := k) (by decide) (Nat.le_of_ble_eq_true rfl) rfl (show Int.toNat ((((192) * (b : Int)) + (k : Int))) = 192 * b + k by omega) rfl rfl)
            rw [z20]
            refine av_wp_seq 1 (pc' := 202) (lv' := [some (.inr (.inr (.inl (some (77))))), some (.inl (a : Int)), some (.inl (b : Int)), some (.inl (k : Int))]) (st' := [.inr (.inr (.inl (some (77))))]) (h' := (stA h (cpL (hA h) a b [1, 1, 1, 16, (k + 1), (k + 1), (k + 1), (k + 1), (k + 1), k, k, k, 0, 0, 0, 0]))) rfl ?_
            refine wq_gr (p' := 205) rfl rfl (congrArg Prod.fst (ly_k L 77 rfl)) rfl (ly_g L 77 9 87 rfl) ?_
            refine av_wp_seq 6 (pc' := 213) (lv' := [some (.inr (.inr (.inl (some (77))))), some (.inl (a : Int)), some (.inl (b : Int)), some (.inl (k : Int))]) (st' := [.inr (.inr (.inl (some (77)))), .inl (((192) * (b : Int)) + (k : Int)), .inr (.inr (.inl (some (87))))]) (h' := (stA h (cpL (hA h) a b [1, 1, 1, 16, (k + 1), (k + 1), (k + 1), (k + 1), (k + 1), k, k, k, 0, 0, 0, 0]))) rfl ?_
            refine wq_gr (p' := 216) rfl rfl (congrArg Prod.fst (ly_k L 77 rfl)) rfl (ly_g L 77 9 87 rfl) ?_
            refine av_wp_seq 5 (pc' := 223) (lv' := [some (.inr (.inr (.inl (some (77))))), some (.inl (a : Int)), some (.inl (b : Int)), some (.inl (k : Int))]) (st' := [.inl (((192) * (a : Int)) + (k : Int)), .inr (.inr (.inl (some (87)))), .inl (((192) * (b : Int)) + (k : Int)), .inr (.inr (.inl (some (87))))]) (h' := (stA h (cpL (hA h) a b [1, 1, 1, 16, (k + 1), (k + 1), (k + 1), (k + 1), (k + 1), k, k, k, 0, 0, 0, 0]))) rfl ?_
            refine wq_al (p' := 224) (n := 960) rfl rfl (ly_k L 87 rfl) (by omega) ((congrArg (cpL (hA h) a b [1, 1, 1, 16, (k + 1), (k + 1), (k + 1), (k + 1), (k + 1), k, k, k, 0, 0, 0, 0] 87) (show Int.toNat ((((192) * (a : Int)) + (k : Int))) = 192 * a + k by omega)).trans (cp_r (show ¬ (192 * b ≤ 192 * a + k ∧ 192 * a + k < 192 * b + k) by omega))) ?_
            refine wq_as (p' := 225) (n := 960) rfl rfl (ly_k L 87 rfl) (by omega) ?_
            have z21 : hwA (stA h (cpL (hA h) a b [1, 1, 1, 16, (k + 1), (k + 1), (k + 1), (k + 1), (k + 1), k, k, k, 0, 0, 0, 0])) 87 (Int.toNat ((((192) * (b : Int)) + (k : Int)))) (hA h 87 (192 * a + k)) = (stA h (cpL (hA h) a b [1, 1, 1, 16, (k + 1), (k + 1), (k + 1), (k + 1), (k + 1), (k + 1), k, k, 0, 0, 0, 0])) := congrArg (stA h) (cp_w (k := k) (by decide) (Nat.le_of_ble_eq_true rfl) rfl (show Int.toNat ((((192) * (b : Int)) + (k : Int))) = 192 * b + k by omega) rfl rfl)
            rw [z21]
            refine av_wp_seq 1 (pc' := 226) (lv' := [some (.inr (.inr (.inl (some (77))))), some (.inl (a : Int)), some (.inl (b : Int)), some (.inl (k : Int))]) (st' := [.inr (.inr (.inl (some (77))))]) (h' := (stA h (cpL (hA h) a b [1, 1, 1, 16, (k + 1), (k + 1), (k + 1), (k + 1), (k + 1), (k + 1), k, k, 0, 0, 0, 0]))) rfl ?_
            refine wq_gr (p' := 229) rfl rfl (congrArg Prod.fst (ly_k L 77 rfl)) rfl (ly_g L 77 10 88 rfl) ?_
            refine av_wp_seq 6 (pc' := 237) (lv' := [some (.inr (.inr (.inl (some (77))))), some (.inl (a : Int)), some (.inl (b : Int)), some (.inl (k : Int))]) (st' := [.inr (.inr (.inl (some (77)))), .inl (((192) * (b : Int)) + (k : Int)), .inr (.inr (.inl (some (88))))]) (h' := (stA h (cpL (hA h) a b [1, 1, 1, 16, (k + 1), (k + 1), (k + 1), (k + 1), (k + 1), (k + 1), k, k, 0, 0, 0, 0]))) rfl ?_
            refine wq_gr (p' := 240) rfl rfl (congrArg Prod.fst (ly_k L 77 rfl)) rfl (ly_g L 77 10 88 rfl) ?_
            refine av_wp_seq 5 (pc' := 247) (lv' := [some (.inr (.inr (.inl (some (77))))), some (.inl (a : Int)), some (.inl (b : Int)), some (.inl (k : Int))]) (st' := [.inl (((192) * (a : Int)) + (k : Int)), .inr (.inr (.inl (some (88)))), .inl (((192) * (b : Int)) + (k : Int)), .inr (.inr (.inl (some (88))))]) (h' := (stA h (cpL (hA h) a b [1, 1, 1, 16, (k + 1), (k + 1), (k + 1), (k + 1), (k + 1), (k + 1), k, k, 0, 0, 0, 0]))) rfl ?_
            refine wq_al (p' := 248) (n := 960) rfl rfl (ly_k L 88 rfl) (by omega) ((congrArg (cpL (hA h) a b [1, 1, 1, 16, (k + 1), (k + 1), (k + 1), (k + 1), (k + 1), (k + 1), k, k, 0, 0, 0, 0] 88) (show Int.toNat ((((192) * (a : Int)) + (k : Int))) = 192 * a + k by omega)).trans (cp_r (show ¬ (192 * b ≤ 192 * a + k ∧ 192 * a + k < 192 * b + k) by omega))) ?_
            refine wq_as (p' := 249) (n := 960) rfl rfl (ly_k L 88 rfl) (by omega) ?_
            have z22 : hwA (stA h (cpL (hA h) a b [1, 1, 1, 16, (k + 1), (k + 1), (k + 1), (k + 1), (k + 1), (k + 1), k, k, 0, 0, 0, 0])) 88 (Int.toNat ((((192) * (b : Int)) + (k : Int)))) (hA h 88 (192 * a + k)) = (stA h (cpL (hA h) a b [1, 1, 1, 16, (k + 1), (k + 1), (k + 1), (k + 1), (k + 1), (k + 1), (k + 1), k, 0, 0, 0, 0])) := congrArg (stA h) (cp_w (k := k) (by decide) (Nat.le_of_ble_eq_true rfl) rfl (show Int.toNat ((((192) * (b : Int)) + (k : Int))) = 192 * b + k by omega) rfl rfl)
            rw [z22]
            refine av_wp_seq 1 (pc' := 250) (lv' := [some (.inr (.inr (.inl (some (77))))), some (.inl (a : Int)), some (.inl (b : Int)), some (.inl (k : Int))]) (st' := [.inr (.inr (.inl (some (77))))]) (h' := (stA h (cpL (hA h) a b [1, 1, 1, 16, (k + 1), (k + 1), (k + 1), (k + 1), (k + 1), (k + 1), (k + 1), k, 0, 0, 0, 0]))) rfl ?_
            refine wq_gr (p' := 253) rfl rfl (congrArg Prod.fst (ly_k L 77 rfl)) rfl (ly_g L 77 11 89 rfl) ?_
            refine av_wp_seq 6 (pc' := 261) (lv' := [some (.inr (.inr (.inl (some (77))))), some (.inl (a : Int)), some (.inl (b : Int)), some (.inl (k : Int))]) (st' := [.inr (.inr (.inl (some (77)))), .inl (((192) * (b : Int)) + (k : Int)), .inr (.inr (.inl (some (89))))]) (h' := (stA h (cpL (hA h) a b [1, 1, 1, 16, (k + 1), (k + 1), (k + 1), (k + 1), (k + 1), (k + 1), (k + 1), k, 0, 0, 0, 0]))) rfl ?_
            refine wq_gr (p' := 264) rfl rfl (congrArg Prod.fst (ly_k L 77 rfl)) rfl (ly_g L 77 11 89 rfl) ?_
            refine av_wp_seq 5 (pc' := 271) (lv' := [some (.inr (.inr (.inl (some (77))))), some (.inl (a : Int)), some (.inl (b : Int)), some (.inl (k : Int))]) (st' := [.inl (((192) * (a : Int)) + (k : Int)), .inr (.inr (.inl (some (89)))), .inl (((192) * (b : Int)) + (k : Int)), .inr (.inr (.inl (some (89))))]) (h' := (stA h (cpL (hA h) a b [1, 1, 1, 16, (k + 1), (k + 1), (k + 1), (k + 1), (k + 1), (k + 1), (k + 1), k, 0, 0, 0, 0]))) rfl ?_
            refine wq_al (p' := 272) (n := 960) rfl rfl (ly_k L 89 rfl) (by omega) ((congrArg (cpL (hA h) a b [1, 1, 1, 16, (k + 1), (k + 1), (k + 1), (k + 1), (k + 1), (k + 1), (k + 1), k, 0, 0, 0, 0] 89) (show Int.toNat ((((192) * (a : Int)) + (k : Int))) = 192 * a + k by omega)).trans (cp_r (show ¬ (192 * b ≤ 192 * a + k ∧ 192 * a + k < 192 * b + k) by omega))) ?_
            refine wq_as (p' := 273) (n := 960) rfl rfl (ly_k L 89 rfl) (by omega) ?_
            have z23 : hwA (stA h (cpL (hA h) a b [1, 1, 1, 16, (k + 1), (k + 1), (k + 1), (k + 1), (k + 1), (k + 1), (k + 1), k, 0, 0, 0, 0])) 89 (Int.toNat ((((192) * (b : Int)) + (k : Int)))) (hA h 89 (192 * a + k)) = (stA h (cpL (hA h) a b [1, 1, 1, 16, (k + 1), (k + 1), (k + 1), (k + 1), (k + 1), (k + 1), (k + 1), (k + 1), 0, 0, 0, 0])) := congrArg (stA h) (cp_w (k := k) (by decide) (Nat.le_of_ble_eq_true rfl) rfl (show Int.toNat ((((192) * (b : Int)) + (k : Int))) = 192 * b + k by omega) rfl rfl)
            rw [z23]
            refine av_wp_seq 2 (pc' := 74) (lv' := [some (.inr (.inr (.inl (some (77))))), some (.inl (a : Int)), some (.inl (b : Int)), some (.inl ((k : Int) + (1)))]) (st' := []) (h' := (stA h (cpL (hA h) a b [1, 1, 1, 16, (k + 1), (k + 1), (k + 1), (k + 1), (k + 1), (k + 1), (k + 1), (k + 1), 0, 0, 0, 0]))) rfl ?_
            exact ih (k + 1) (by omega)
      exact L74 192 0 rfl
    | succ n ih =>
      intro k e1
      refine av_wp_seq 2 (pc' := 41) (lv' := [some (.inr (.inr (.inl (some (77))))), some (.inl (a : Int)), some (.inl (b : Int)), some (.inl (k : Int))]) (st' := [.inl (16), .inl (k : Int)]) (h' := (stA h (cpL (hA h) a b [1, 1, 1, k, 0, 0, 0, 0, 0, 0, 0, 0, 0, 0, 0, 0]))) rfl ?_
      refine wq_k2 (p' := 44) rfl rfl ⟨by omega, by omega⟩ ⟨by omega, by omega⟩ (fun c24 => ?_) (fun c25 => ?_)
      · have c24 : (16) ≤ (k : Int) := c24
        exfalso; omega
      · have c25 : (k : Int) < (16) := c25
        refine av_wp_seq 1 (pc' := 45) (lv' := [some (.inr (.inr (.inl (some (77))))), some (.inl (a : Int)), some (.inl (b : Int)), some (.inl (k : Int))]) (st' := [.inr (.inr (.inl (some (77))))]) (h' := (stA h (cpL (hA h) a b [1, 1, 1, k, 0, 0, 0, 0, 0, 0, 0, 0, 0, 0, 0, 0]))) rfl ?_
        refine wq_gr (p' := 48) rfl rfl (congrArg Prod.fst (ly_k L 77 rfl)) rfl (ly_g L 77 3 81 rfl) ?_
        refine av_wp_seq 6 (pc' := 55) (lv' := [some (.inr (.inr (.inl (some (77))))), some (.inl (a : Int)), some (.inl (b : Int)), some (.inl (k : Int))]) (st' := [.inr (.inr (.inl (some (77)))), .inl (((16) * (b : Int)) + (k : Int)), .inr (.inr (.inl (some (81))))]) (h' := (stA h (cpL (hA h) a b [1, 1, 1, k, 0, 0, 0, 0, 0, 0, 0, 0, 0, 0, 0, 0]))) rfl ?_
        refine wq_gr (p' := 58) rfl rfl (congrArg Prod.fst (ly_k L 77 rfl)) rfl (ly_g L 77 3 81 rfl) ?_
        refine av_wp_seq 5 (pc' := 64) (lv' := [some (.inr (.inr (.inl (some (77))))), some (.inl (a : Int)), some (.inl (b : Int)), some (.inl (k : Int))]) (st' := [.inl (((16) * (a : Int)) + (k : Int)), .inr (.inr (.inl (some (81)))), .inl (((16) * (b : Int)) + (k : Int)), .inr (.inr (.inl (some (81))))]) (h' := (stA h (cpL (hA h) a b [1, 1, 1, k, 0, 0, 0, 0, 0, 0, 0, 0, 0, 0, 0, 0]))) rfl ?_
        refine wq_al (p' := 65) (n := 80) rfl rfl (ly_k L 81 rfl) (by omega) ((congrArg (cpL (hA h) a b [1, 1, 1, k, 0, 0, 0, 0, 0, 0, 0, 0, 0, 0, 0, 0] 81) (show Int.toNat ((((16) * (a : Int)) + (k : Int))) = 16 * a + k by omega)).trans (cp_r (show ¬ (16 * b ≤ 16 * a + k ∧ 16 * a + k < 16 * b + k) by omega))) ?_
        refine wq_as (p' := 66) (n := 80) rfl rfl (ly_k L 81 rfl) (by omega) ?_
        have z26 : hwA (stA h (cpL (hA h) a b [1, 1, 1, k, 0, 0, 0, 0, 0, 0, 0, 0, 0, 0, 0, 0])) 81 (Int.toNat ((((16) * (b : Int)) + (k : Int)))) (hA h 81 (16 * a + k)) = (stA h (cpL (hA h) a b [1, 1, 1, (k + 1), 0, 0, 0, 0, 0, 0, 0, 0, 0, 0, 0, 0])) := congrArg (stA h) (cp_w (k := k) (by decide) (Nat.le_of_ble_eq_true rfl) rfl (show Int.toNat ((((16) * (b : Int)) + (k : Int))) = 16 * b + k by omega) rfl rfl)
        rw [z26]
        refine av_wp_seq 2 (pc' := 38) (lv' := [some (.inr (.inr (.inl (some (77))))), some (.inl (a : Int)), some (.inl (b : Int)), some (.inl ((k : Int) + (1)))]) (st' := []) (h' := (stA h (cpL (hA h) a b [1, 1, 1, (k + 1), 0, 0, 0, 0, 0, 0, 0, 0, 0, 0, 0, 0]))) rfl ?_
        exact ih (k + 1) (by omega)
  exact L38 16 0 rfl
