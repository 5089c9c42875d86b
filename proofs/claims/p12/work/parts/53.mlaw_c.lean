set_option maxRecDepth 100000 in
set_option maxHeartbeats 4000000 in
theorem ct_155 {g h : av_H} {b : Nat → Int} {lim : Nat} {t : TT} {x17 : Int} {A0 : Nat → Nat → Int} {at0 : Nat} {R : Nat → Int} (M : ML b lim t x17 A0 at0 R h) (F : FD g h) (hi : at0 ≤ 960) (d : Nat → Int) (x : Int) (ex : x = (at0 : Int))  {Q : Option av_V → av_H → Prop} (hq : ∀ (v : Int) h' R', ML b lim (rlf b lim 21 0 t (ufil d 0 14 (-2))).2.1 x17 A0 at0 R' h' → FD g h' → RL (rlf b lim 21 0 t (ufil d 0 14 (-2))).2.1 R' (rlf b lim 21 0 t (ufil d 0 14 (-2))).2.2 → ((rlf b lim 21 0 t (ufil d 0 14 (-2))).2.1.2.2.2 = -1 → R' 13 = ((rlf b lim 21 0 t (ufil d 0 14 (-2))).1 : Int)) → ((v = 1 ∧ (rlf b lim 21 0 t (ufil d 0 14 (-2))).2.1.2.2.2 = -1) ∨ (v = 0 ∧ (rlf b lim 21 0 t (ufil d 0 14 (-2))).2.1.2.2.2 ≠ -1)) → Q (some (.inl v)) h') : av_wp none cd_155 0 [some (.inr (.inr (.inl (some (77))))), some (.inl x), none] [] h Q := by
  subst ex
  refine av_wp_seq 6 (pc' := 9) (lv' := [some (.inr (.inr (.inl (some (77))))), some (.inl (at0 : Int)), some (.inl (0))]) (st' := [.inr (.inr (.inl (some (77))))]) (h' := h) rfl ?_
  refine wq_gr (p' := 12) rfl rfl (congrArg Prod.fst (ly_k (ml_L M) 77 rfl)) rfl (ly_g (ml_L M) 77 15 93 rfl) ?_
  refine av_wp_seq 4 (pc' := 17) (lv' := [some (.inr (.inr (.inl (some (77))))), some (.inl (at0 : Int)), some (.inl (0))]) (st' := [.inl (-2), .inl ((at0 : Int) + (0)), .inr (.inr (.inl (some (93))))]) (h' := h) rfl ?_
  refine ml_as (p' := 18) rfl rfl M F (by omega) 0 (by decide) (by omega) (fun h1 M2 F3 => ?_)
  refine av_wp_seq 6 (pc' := 9) (lv' := [some (.inr (.inr (.inl (some (77))))), some (.inl (at0 : Int)), some (.inl (1))]) (st' := [.inr (.inr (.inl (some (77))))]) (h' := h1) rfl ?_
  refine wq_gr (p' := 12) rfl rfl (congrArg Prod.fst (ly_k (ml_L M2) 77 rfl)) rfl (ly_g (ml_L M2) 77 15 93 rfl) ?_
  refine av_wp_seq 4 (pc' := 17) (lv' := [some (.inr (.inr (.inl (some (77))))), some (.inl (at0 : Int)), some (.inl (1))]) (st' := [.inl (-2), .inl ((at0 : Int) + (1)), .inr (.inr (.inl (some (93))))]) (h' := h1) rfl ?_
  refine ml_as (p' := 18) rfl rfl M2 F3 (by omega) 1 (by decide) (by omega) (fun h4 M5 F6 => ?_)
  refine av_wp_seq 6 (pc' := 9) (lv' := [some (.inr (.inr (.inl (some (77))))), some (.inl (at0 : Int)), some (.inl (2))]) (st' := [.inr (.inr (.inl (some (77))))]) (h' := h4) rfl ?_
  refine wq_gr (p' := 12) rfl rfl (congrArg Prod.fst (ly_k (ml_L M5) 77 rfl)) rfl (ly_g (ml_L M5) 77 15 93 rfl) ?_
  refine av_wp_seq 4 (pc' := 17) (lv' := [some (.inr (.inr (.inl (some (77))))), some (.inl (at0 : Int)), some (.inl (2))]) (st' := [.inl (-2), .inl ((at0 : Int) + (2)), .inr (.inr (.inl (some (93))))]) (h' := h4) rfl ?_
  refine ml_as (p' := 18) rfl rfl M5 F6 (by omega) 2 (by decide) (by omega) (fun h7 M8 F9 => ?_)
  refine av_wp_seq 6 (pc' := 9) (lv' := [some (.inr (.inr (.inl (some (77))))), some (.inl (at0 : Int)), some (.inl (3))]) (st' := [.inr (.inr (.inl (some (77))))]) (h' := h7) rfl ?_
  refine wq_gr (p' := 12) rfl rfl (congrArg Prod.fst (ly_k (ml_L M8) 77 rfl)) rfl (ly_g (ml_L M8) 77 15 93 rfl) ?_
  refine av_wp_seq 4 (pc' := 17) (lv' := [some (.inr (.inr (.inl (some (77))))), some (.inl (at0 : Int)), some (.inl (3))]) (st' := [.inl (-2), .inl ((at0 : Int) + (3)), .inr (.inr (.inl (some (93))))]) (h' := h7) rfl ?_
  refine ml_as (p' := 18) rfl rfl M8 F9 (by omega) 3 (by decide) (by omega) (fun h10 M11 F12 => ?_)
  refine av_wp_seq 6 (pc' := 9) (lv' := [some (.inr (.inr (.inl (some (77))))), some (.inl (at0 : Int)), some (.inl (4))]) (st' := [.inr (.inr (.inl (some (77))))]) (h' := h10) rfl ?_
  refine wq_gr (p' := 12) rfl rfl (congrArg Prod.fst (ly_k (ml_L M11) 77 rfl)) rfl (ly_g (ml_L M11) 77 15 93 rfl) ?_
  refine av_wp_seq 4 (pc' := 17) (lv' := [some (.inr (.inr (.inl (some (77))))), some (.inl (at0 : Int)), some (.inl (4))]) (st' := [.inl (-2), .inl ((at0 : Int) + (4)), .inr (.inr (.inl (some (93))))]) (h' := h10) rfl ?_
  refine ml_as (p' := 18) rfl rfl M11 F12 (by omega) 4 (by decide) (by omega) (fun h13 M14 F15 => ?_)
  refine av_wp_seq 6 (pc' := 9) (lv' := [some (.inr (.inr (.inl (some (77))))), some (.inl (at0 : Int)), some (.inl (5))]) (st' := [.inr (.inr (.inl (some (77))))]) (h' := h13) rfl ?_
  refine wq_gr (p' := 12) rfl rfl (congrArg Prod.fst (ly_k (ml_L M14) 77 rfl)) rfl (ly_g (ml_L M14) 77 15 93 rfl) ?_
  refine av_wp_seq 4 (pc' := 17) (lv' := [some (.inr (.inr (.inl (some (77))))), some (.inl (at0 : Int)), some (.inl (5))]) (st' := [.inl (-2), .inl ((at0 : Int) + (5)), .inr (.inr (.inl (some (93))))]) (h' := h13) rfl ?_
  refine ml_as (p' := 18) rfl rfl M14 F15 (by omega) 5 (by decide) (by omega) (fun h16 M17 F18 => ?_)
  refine av_wp_seq 6 (pc' := 9) (lv' := [some (.inr (.inr (.inl (some (77))))), some (.inl (at0 : Int)), some (.inl (6))]) (st' := [.inr (.inr (.inl (some (77))))]) (h' := h16) rfl ?_
  refine wq_gr (p' := 12) rfl rfl (congrArg Prod.fst (ly_k (ml_L M17) 77 rfl)) rfl (ly_g (ml_L M17) 77 15 93 rfl) ?_
  refine av_wp_seq 4 (pc' := 17) (lv' := [some (.inr (.inr (.inl (some (77))))), some (.inl (at0 : Int)), some (.inl (6))]) (st' := [.inl (-2), .inl ((at0 : Int) + (6)), .inr (.inr (.inl (some (93))))]) (h' := h16) rfl ?_
  refine ml_as (p' := 18) rfl rfl M17 F18 (by omega) 6 (by decide) (by omega) (fun h19 M20 F21 => ?_)
  refine av_wp_seq 6 (pc' := 9) (lv' := [some (.inr (.inr (.inl (some (77))))), some (.inl (at0 : Int)), some (.inl (7))]) (st' := [.inr (.inr (.inl (some (77))))]) (h' := h19) rfl ?_
  refine wq_gr (p' := 12) rfl rfl (congrArg Prod.fst (ly_k (ml_L M20) 77 rfl)) rfl (ly_g (ml_L M20) 77 15 93 rfl) ?_
  refine av_wp_seq 4 (pc' := 17) (lv' := [some (.inr (.inr (.inl (some (77))))), some (.inl (at0 : Int)), some (.inl (7))]) (st' := [.inl (-2), .inl ((at0 : Int) + (7)), .inr (.inr (.inl (some (93))))]) (h' := h19) rfl ?_
  refine ml_as (p' := 18) rfl rfl M20 F21 (by omega) 7 (by decide) (by omega) (fun h22 M23 F24 => ?_)
  refine av_wp_seq 6 (pc' := 9) (lv' := [some (.inr (.inr (.inl (some (77))))), some (.inl (at0 : Int)), some (.inl (8))]) (st' := [.inr (.inr (.inl (some (77))))]) (h' := h22) rfl ?_
  refine wq_gr (p' := 12) rfl rfl (congrArg Prod.fst (ly_k (ml_L M23) 77 rfl)) rfl (ly_g (ml_L M23) 77 15 93 rfl) ?_
  refine av_wp_seq 4 (pc' := 17) (lv' := [some (.inr (.inr (.inl (some (77))))), some (.inl (at0 : Int)), some (.inl (8))]) (st' := [.inl (-2), .inl ((at0 : Int) + (8)), .inr (.inr (.inl (some (93))))]) (h' := h22) rfl ?_
  refine ml_as (p' := 18) rfl rfl M23 F24 (by omega) 8 (by decide) (by omega) (fun h25 M26 F27 => ?_)
  refine av_wp_seq 6 (pc' := 9) (lv' := [some (.inr (.inr (.inl (some (77))))), some (.inl (at0 : Int)), some (.inl (9))]) (st' := [.inr (.inr (.inl (some (77))))]) (h' := h25) rfl ?_
  refine wq_gr (p' := 12) rfl rfl (congrArg Prod.fst (ly_k (ml_L M26) 77 rfl)) rfl (ly_g (ml_L M26) 77 15 93 rfl) ?_
  refine av_wp_seq 4 (pc' := 17) (lv' := [some (.inr (.inr (.inl (some (77))))), some (.inl (at0 : Int)), some (.inl (9))]) (st' := [.inl (-2), .inl ((at0 : Int) + (9)), .inr (.inr (.inl (some (93))))]) (h' := h25) rfl ?_
  refine ml_as (p' := 18) rfl rfl M26 F27 (by omega) 9 (by decide) (by omega) (fun h28 M29 F30 => ?_)
  refine av_wp_seq 6 (pc' := 9) (lv' := [some (.inr (.inr (.inl (some (77))))), some (.inl (at0 : Int)), some (.inl (10))]) (st' := [.inr (.inr (.inl (some (77))))]) (h' := h28) rfl ?_
  refine wq_gr (p' := 12) rfl rfl (congrArg Prod.fst (ly_k (ml_L M29) 77 rfl)) rfl (ly_g (ml_L M29) 77 15 93 rfl) ?_
  refine av_wp_seq 4 (pc' := 17) (lv' := [some (.inr (.inr (.inl (some (77))))), some (.inl (at0 : Int)), some (.inl (10))]) (st' := [.inl (-2), .inl ((at0 : Int) + (10)), .inr (.inr (.inl (some (93))))]) (h' := h28) rfl ?_
  refine ml_as (p' := 18) rfl rfl M29 F30 (by omega) 10 (by decide) (by omega) (fun h31 M32 F33 => ?_)
  refine av_wp_seq 6 (pc' := 9) (lv' := [some (.inr (.inr (.inl (some (77))))), some (.inl (at0 : Int)), some (.inl (11))]) (st' := [.inr (.inr (.inl (some (77))))]) (h' := h31) rfl ?_
  refine wq_gr (p' := 12) rfl rfl (congrArg Prod.fst (ly_k (ml_L M32) 77 rfl)) rfl (ly_g (ml_L M32) 77 15 93 rfl) ?_
  refine av_wp_seq 4 (pc' := 17) (lv' := [some (.inr (.inr (.inl (some (77))))), some (.inl (at0 : Int)), some (.inl (11))]) (st' := [.inl (-2), .inl ((at0 : Int) + (11)), .inr (.inr (.inl (some (93))))]) (h' := h31) rfl ?_
  refine ml_as (p' := 18) rfl rfl M32 F33 (by omega) 11 (by decide) (by omega) (fun h34 M35 F36 => ?_)
  refine av_wp_seq 6 (pc' := 9) (lv' := [some (.inr (.inr (.inl (some (77))))), some (.inl (at0 : Int)), some (.inl (12))]) (st' := [.inr (.inr (.inl (some (77))))]) (h' := h34) rfl ?_
  refine wq_gr (p' := 12) rfl rfl (congrArg Prod.fst (ly_k (ml_L M35) 77 rfl)) rfl (ly_g (ml_L M35) 77 15 93 rfl) ?_
  refine av_wp_seq 4 (pc' := 17) (lv' := [some (.inr (.inr (.inl (some (77))))), some (.inl (at0 : Int)), some (.inl (12))]) (st' := [.inl (-2), .inl ((at0 : Int) + (12)), .inr (.inr (.inl (some (93))))]) (h' := h34) rfl ?_
  refine ml_as (p' := 18) rfl rfl M35 F36 (by omega) 12 (by decide) (by omega) (fun h37 M38 F39 => ?_)
  refine av_wp_seq 7 (pc' := 26) (lv' := [some (.inr (.inr (.inl (some (77))))), some (.inl (at0 : Int)), some (.inl (0))]) (st' := []) (h' := h37) rfl ?_
  have X41 : RL t (av_u1 (av_u1 (av_u1 (av_u1 (av_u1 (av_u1 (av_u1 (av_u1 (av_u1 (av_u1 (av_u1 (av_u1 (av_u1 R 0 (-2)) 1 (-2)) 2 (-2)) 3 (-2)) 4 (-2)) 5 (-2)) 6 (-2)) 7 (-2)) 8 (-2)) 9 (-2)) 10 (-2)) 11 (-2)) 12 (-2)) (ufil d 0 14 (-2)) := fun _ o ho => by
    have e1 : (ufil d 0 14 (-2)) o = -2 := if_pos (by omega)
    rw [e1]
    rcases (show o = 0 ∨ o = 1 ∨ o = 2 ∨ o = 3 ∨ o = 4 ∨ o = 5 ∨ o = 6 ∨ o = 7 ∨ o = 8 ∨ o = 9 ∨ o = 10 ∨ o = 11 ∨ o = 12 by omega) with e2 | e2 | e2 | e2 | e2 | e2 | e2 | e2 | e2 | e2 | e2 | e2 | e2 <;> subst e2 <;> rfl
  have L40 : ∀ (n k : Nat) (t1 : TT) (d1 R1 : Nat → Int) (h1 : av_H), n + k = 21 → k ≤ 20 → ML b lim t1 x17 A0 at0 R1 h1 → FD g h1 → RL t1 R1 d1 → rlf b lim n k t1 d1 = rlf b lim 21 0 t (ufil d 0 14 (-2)) → av_wp none cd_155 26 [some (.inr (.inr (.inl (some (77))))), some (.inl (at0 : Int)), some (.inl (k : Int))] [] h1 Q := by
    intro n
    induction n with
    | zero => intro k t1 d1 R1 h1 e1 e2; exfalso; omega
    | succ n ih =>
      intro k t1 d1 R1 h1 e1 e2 M1 F1 X1 he
      have gt := tok_f t1 M1.1.2.1.2.2.2.1
      have gt0 := gt.2.2.1
      have gtr := gt.2.2.2.2
      clear gt
      have gwr := wr_f t1
      refine av_wp_seq 1 (pc' := 27) (lv' := [some (.inr (.inr (.inl (some (77))))), some (.inl (at0 : Int)), some (.inl (k : Int))]) (st' := [.inr (.inr (.inl (some (77))))]) (h' := h1) rfl ?_
      refine wq_gi (p' := 30) rfl rfl (congrArg Prod.fst (ly_k (ml_L M1) 77 rfl)) rfl (ns_22 M1.1.1) ?_
      refine wq_k1 (p' := 33) rfl rfl ⟨by omega, by omega⟩ (fun c42 => ?_) (fun c43 => ?_)
      · have c42 : (tokv t1) = (0) := c42
        have hx : rlf b lim 21 0 t (ufil d 0 14 (-2)) = (k, t1, d1) := by rw [← he]; unfold rlf; rw [if_neg (by omega)]
        refine av_wp_seq 1 (pc' := 65) (lv' := [some (.inr (.inr (.inl (some (77))))), some (.inl (at0 : Int)), some (.inl (k : Int))]) (st' := [.inr (.inr (.inl (some (77))))]) (h' := h1) rfl ?_
        refine wq_gr (p' := 68) rfl rfl (congrArg Prod.fst (ly_k (ml_L M1) 77 rfl)) rfl (ly_g (ml_L M1) 77 15 93 rfl) ?_
        refine av_wp_seq 4 (pc' := 73) (lv' := [some (.inr (.inr (.inl (some (77))))), some (.inl (at0 : Int)), some (.inl (k : Int))]) (st' := [.inl (k : Int), .inl ((at0 : Int) + (13)), .inr (.inr (.inl (some (93))))]) (h' := h1) rfl ?_
        refine ml_as (p' := 74) rfl rfl M1 F1 (by omega) 13 (by decide) (by omega) (fun h44 M45 F46 => ?_)
        refine av_wp_seq 1 (pc' := 75) (lv' := [some (.inr (.inr (.inl (some (77))))), some (.inl (at0 : Int)), some (.inl (k : Int))]) (st' := [.inr (.inr (.inl (some (77))))]) (h' := h44) rfl ?_
        refine wq_gb (p' := 78) rfl rfl (congrArg Prod.fst (ly_k (ml_L M45) 77 rfl)) rfl (ns_25 M45.1.1) ?_
        refine wq_k1 (p' := 81) rfl rfl ⟨by omega, by omega⟩ (fun c47 => ?_) (fun c48 => ?_)
        · have c47 : (wrv t1) ≠ (0) := c47
          refine av_wp_seq 1 (pc' := 86) (lv' := [some (.inr (.inr (.inl (some (77))))), some (.inl (at0 : Int)), some (.inl (k : Int))]) (st' := [.inl (0)]) (h' := h44) rfl ?_
          refine av_wp_ret (v := some (.inl (0))) rfl rfl rfl ?_
          exact hq _ h44 (av_u1 R1 13 (k : Int)) (by rw [hx]; exact M45) F46 (by rw [hx]; intro z o ho; rw [u1_ne (by omega)]; exact X1 z o ho) (by rw [hx]; intro z; exact u1_eq) (by rw [hx]; show (_ = _ ∧ t1.2.2.2 = -1) ∨ (_ = _ ∧ t1.2.2.2 ≠ -1); omega)
        · have c48 : (wrv t1) = (0) := c48
          refine av_wp_seq 2 (pc' := 86) (lv' := [some (.inr (.inr (.inl (some (77))))), some (.inl (at0 : Int)), some (.inl (k : Int))]) (st' := [.inl (1)]) (h' := h44) rfl ?_
          refine av_wp_ret (v := some (.inl (1))) rfl rfl rfl ?_
          exact hq _ h44 (av_u1 R1 13 (k : Int)) (by rw [hx]; exact M45) F46 (by rw [hx]; intro z o ho; rw [u1_ne (by omega)]; exact X1 z o ho) (by rw [hx]; intro z; exact u1_eq) (by rw [hx]; show (_ = _ ∧ t1.2.2.2 = -1) ∨ (_ = _ ∧ t1.2.2.2 ≠ -1); omega)
      · have c43 : (tokv t1) ≠ (0) := c43
        refine av_wp_seq 1 (pc' := 34) (lv' := [some (.inr (.inr (.inl (some (77))))), some (.inl (at0 : Int)), some (.inl (k : Int))]) (st' := [.inr (.inr (.inl (some (77))))]) (h' := h1) rfl ?_
        refine wq_gb (p' := 37) rfl rfl (congrArg Prod.fst (ly_k (ml_L M1) 77 rfl)) rfl (ns_25 M1.1.1) ?_
        refine wq_k1 (p' := 40) rfl rfl ⟨by omega, by omega⟩ (fun c49 => ?_) (fun c50 => ?_)
        · have c49 : (wrv t1) ≠ (0) := c49
          have hx : rlf b lim 21 0 t (ufil d 0 14 (-2)) = (k, t1, d1) := by rw [← he]; unfold rlf; rw [if_neg (by omega)]
          refine av_wp_seq 1 (pc' := 65) (lv' := [some (.inr (.inr (.inl (some (77))))), some (.inl (at0 : Int)), some (.inl (k : Int))]) (st' := [.inr (.inr (.inl (some (77))))]) (h' := h1) rfl ?_
          refine wq_gr (p' := 68) rfl rfl (congrArg Prod.fst (ly_k (ml_L M1) 77 rfl)) rfl (ly_g (ml_L M1) 77 15 93 rfl) ?_
          refine av_wp_seq 4 (pc' := 73) (lv' := [some (.inr (.inr (.inl (some (77))))), some (.inl (at0 : Int)), some (.inl (k : Int))]) (st' := [.inl (k : Int), .inl ((at0 : Int) + (13)), .inr (.inr (.inl (some (93))))]) (h' := h1) rfl ?_
          refine ml_as (p' := 74) rfl rfl M1 F1 (by omega) 13 (by decide) (by omega) (fun h51 M52 F53 => ?_)
          refine av_wp_seq 1 (pc' := 75) (lv' := [some (.inr (.inr (.inl (some (77))))), some (.inl (at0 : Int)), some (.inl (k : Int))]) (st' := [.inr (.inr (.inl (some (77))))]) (h' := h51) rfl ?_
          refine wq_gb (p' := 78) rfl rfl (congrArg Prod.fst (ly_k (ml_L M52) 77 rfl)) rfl (ns_25 M52.1.1) ?_
          refine wq_k1 (p' := 81) rfl rfl ⟨by omega, by omega⟩ (fun c54 => ?_) (fun c55 => ?_)
          · have c54 : (wrv t1) ≠ (0) := c54
            refine av_wp_seq 1 (pc' := 86) (lv' := [some (.inr (.inr (.inl (some (77))))), some (.inl (at0 : Int)), some (.inl (k : Int))]) (st' := [.inl (0)]) (h' := h51) rfl ?_
            refine av_wp_ret (v := some (.inl (0))) rfl rfl rfl ?_
            exact hq _ h51 (av_u1 R1 13 (k : Int)) (by rw [hx]; exact M52) F53 (by rw [hx]; intro z o ho; rw [u1_ne (by omega)]; exact X1 z o ho) (by rw [hx]; intro z; exact u1_eq) (by rw [hx]; show (_ = _ ∧ t1.2.2.2 = -1) ∨ (_ = _ ∧ t1.2.2.2 ≠ -1); omega)
          · have c55 : (wrv t1) = (0) := c55
            refine av_wp_seq 2 (pc' := 86) (lv' := [some (.inr (.inr (.inl (some (77))))), some (.inl (at0 : Int)), some (.inl (k : Int))]) (st' := [.inl (1)]) (h' := h51) rfl ?_
            refine av_wp_ret (v := some (.inl (1))) rfl rfl rfl ?_
            exact hq _ h51 (av_u1 R1 13 (k : Int)) (by rw [hx]; exact M52) F53 (by rw [hx]; intro z o ho; rw [u1_ne (by omega)]; exact X1 z o ho) (by rw [hx]; intro z; exact u1_eq) (by rw [hx]; show (_ = _ ∧ t1.2.2.2 = -1) ∨ (_ = _ ∧ t1.2.2.2 ≠ -1); omega)
        · have c50 : (wrv t1) = (0) := c50
          refine av_wp_seq 2 (pc' := 43) (lv' := [some (.inr (.inr (.inl (some (77))))), some (.inl (at0 : Int)), some (.inl (k : Int))]) (st' := [.inl (20), .inl (k : Int)]) (h' := h1) rfl ?_
          refine wq_k2 (p' := 46) rfl rfl ⟨by omega, by omega⟩ ⟨by omega, by omega⟩ (fun c56 => ?_) (fun c57 => ?_)
          · have c56 : (k : Int) ≠ (20) := c56
            refine av_wp_seq 2 (pc' := 55) (lv' := [some (.inr (.inr (.inl (some (77))))), some (.inl (at0 : Int)), some (.inl (k : Int))]) (st' := [.inl (at0 : Int), .inr (.inr (.inl (some (77))))]) (h' := h1) rfl ?_
            refine wq_cv (p' := 58) (av_qc (.invokevirtual 339) 154 1 0 8) 5 cd_154 [.inl (at0 : Int)] (77) 8 [some (.inr (.inr (.inl (some (77))))), some (.inl (at0 : Int)), none, none, none] rfl rfl rfl pp_154 rfl rfl rfl (congrArg Prod.fst (ly_k (ml_L M1) 77 rfl)) rfl rfl rfl rfl ?_
            refine ct_154 M1 F1 (by omega) X1 ((at0 : Int)) (by omega) (fun h58 R59 M60 F61 X62 => ?_)
            show av_wp _ cd_155 58 [some (.inr (.inr (.inl (some (77))))), some (.inl (at0 : Int)), some (.inl (k : Int))] [] h58 _
            refine av_wp_seq 2 (pc' := 26) (lv' := [some (.inr (.inr (.inl (some (77))))), some (.inl (at0 : Int)), some (.inl ((k : Int) + (1)))]) (st' := []) (h' := h58) rfl ?_
            have he2 : rlf b lim n (k + 1) (rl1 b lim t1 d1).1 (rl1 b lim t1 d1).2 = rlf b lim 21 0 t (ufil d 0 14 (-2)) := by
              rw [← he]
              conv => rhs; unfold rlf
              rw [if_pos (by omega), if_neg (by omega)]
            exact ih (k + 1) _ _ _ h58 (by omega) (by omega) M60 F61 X62 he2
          · have c57 : (k : Int) = (20) := c57
            refine av_wp_seq 1 (pc' := 47) (lv' := [some (.inr (.inr (.inl (some (77))))), some (.inl (at0 : Int)), some (.inl (k : Int))]) (st' := [.inr (.inr (.inl (some (77))))]) (h' := h1) rfl ?_
            refine wq_cv (p' := 50) (av_qc (.invokevirtual 194) 131 0 0 8) 1 cd_131 [] (77) 8 [some (.inr (.inr (.inl (some (77)))))] rfl rfl rfl pp_131 rfl rfl rfl (congrArg Prod.fst (ly_k (ml_L M1) 77 rfl)) rfl rfl rfl rfl ?_
            refine ct_131 M1.1 F1 (fun h63 N64 F65 => ?_)
            have M66 := ml_tok M1 N64
            clear N64
            generalize q68 : fal t1 = t67 at M66
            have X69 : RL t67 R1 d1 := rlr_t X1 (fun z => by rw [← q68] at z; exact absurd z fal_ne)
            have gf : t67.2.2.2 ≠ -1 := by rw [← q68]; exact fal_ne
            have gwr2 := wr_f t67
            have gt2 := (tok_f t67 M66.1.2.1.2.2.2.1).2.2.2.2
            show av_wp _ cd_155 50 [some (.inr (.inr (.inl (some (77))))), some (.inl (at0 : Int)), some (.inl (k : Int))] [] h63 _
            refine av_wp_seq 3 (pc' := 26) (lv' := [some (.inr (.inr (.inl (some (77))))), some (.inl (at0 : Int)), some (.inl ((k : Int) + (1)))]) (st' := []) (h' := h63) rfl ?_
            refine av_wp_seq 1 (pc' := 27) (lv' := [some (.inr (.inr (.inl (some (77))))), some (.inl (at0 : Int)), some (.inl ((k : Int) + (1)))]) (st' := [.inr (.inr (.inl (some (77))))]) (h' := h63) rfl ?_
            refine wq_gi (p' := 30) rfl rfl (congrArg Prod.fst (ly_k (ml_L M66) 77 rfl)) rfl (ns_22 M66.1.1) ?_
            refine wq_k1 (p' := 33) rfl rfl ⟨by omega, by omega⟩ (fun c70 => ?_) (fun c71 => ?_)
            · have c70 : (tokv t67) = (0) := c70
              have hx : rlf b lim 21 0 t (ufil d 0 14 (-2)) = (k, t67, d1) := by rw [← he]; unfold rlf; rw [if_pos (by omega), if_pos (by omega), q68]
              refine av_wp_seq 1 (pc' := 65) (lv' := [some (.inr (.inr (.inl (some (77))))), some (.inl (at0 : Int)), some (.inl ((k : Int) + (1)))]) (st' := [.inr (.inr (.inl (some (77))))]) (h' := h63) rfl ?_
              refine wq_gr (p' := 68) rfl rfl (congrArg Prod.fst (ly_k (ml_L M66) 77 rfl)) rfl (ly_g (ml_L M66) 77 15 93 rfl) ?_
              refine av_wp_seq 4 (pc' := 73) (lv' := [some (.inr (.inr (.inl (some (77))))), some (.inl (at0 : Int)), some (.inl ((k : Int) + (1)))]) (st' := [.inl ((k : Int) + (1)), .inl ((at0 : Int) + (13)), .inr (.inr (.inl (some (93))))]) (h' := h63) rfl ?_
              refine ml_as (p' := 74) rfl rfl M66 F65 (by omega) 13 (by decide) (by omega) (fun h72 M73 F74 => ?_)
              refine av_wp_seq 1 (pc' := 75) (lv' := [some (.inr (.inr (.inl (some (77))))), some (.inl (at0 : Int)), some (.inl ((k : Int) + (1)))]) (st' := [.inr (.inr (.inl (some (77))))]) (h' := h72) rfl ?_
              refine wq_gb (p' := 78) rfl rfl (congrArg Prod.fst (ly_k (ml_L M73) 77 rfl)) rfl (ns_25 M73.1.1) ?_
              refine wq_k1 (p' := 81) rfl rfl ⟨by omega, by omega⟩ (fun c75 => ?_) (fun c76 => ?_)
              · have c75 : (wrv t67) ≠ (0) := c75
                refine av_wp_seq 1 (pc' := 86) (lv' := [some (.inr (.inr (.inl (some (77))))), some (.inl (at0 : Int)), some (.inl ((k : Int) + (1)))]) (st' := [.inl (0)]) (h' := h72) rfl ?_
                refine av_wp_ret (v := some (.inl (0))) rfl rfl rfl ?_
                exact hq _ h72 (av_u1 R1 13 ((k : Int) + (1))) (by rw [hx]; exact M73) F74 (by rw [hx]; intro z o ho; rw [u1_ne (by omega)]; exact X69 z o ho) (by rw [hx]; intro z; exact absurd z gf) (by rw [hx]; show (_ = _ ∧ t67.2.2.2 = -1) ∨ (_ = _ ∧ t67.2.2.2 ≠ -1); omega)
              · have c76 : (wrv t67) = (0) := c76
                exfalso; omega
            · have c71 : (tokv t67) ≠ (0) := c71
              refine av_wp_seq 1 (pc' := 34) (lv' := [some (.inr (.inr (.inl (some (77))))), some (.inl (at0 : Int)), some (.inl ((k : Int) + (1)))]) (st' := [.inr (.inr (.inl (some (77))))]) (h' := h63) rfl ?_
              refine wq_gb (p' := 37) rfl rfl (congrArg Prod.fst (ly_k (ml_L M66) 77 rfl)) rfl (ns_25 M66.1.1) ?_
              refine wq_k1 (p' := 40) rfl rfl ⟨by omega, by omega⟩ (fun c77 => ?_) (fun c78 => ?_)
              · have c77 : (wrv t67) ≠ (0) := c77
                have hx : rlf b lim 21 0 t (ufil d 0 14 (-2)) = (k, t67, d1) := by rw [← he]; unfold rlf; rw [if_pos (by omega), if_pos (by omega), q68]
                refine av_wp_seq 1 (pc' := 65) (lv' := [some (.inr (.inr (.inl (some (77))))), some (.inl (at0 : Int)), some (.inl ((k : Int) + (1)))]) (st' := [.inr (.inr (.inl (some (77))))]) (h' := h63) rfl ?_
                refine wq_gr (p' := 68) rfl rfl (congrArg Prod.fst (ly_k (ml_L M66) 77 rfl)) rfl (ly_g (ml_L M66) 77 15 93 rfl) ?_
                refine av_wp_seq 4 (pc' := 73) (lv' := [some (.inr (.inr (.inl (some (77))))), some (.inl (at0 : Int)), some (.inl ((k : Int) + (1)))]) (st' := [.inl ((k : Int) + (1)), .inl ((at0 : Int) + (13)), .inr (.inr (.inl (some (93))))]) (h' := h63) rfl ?_
                refine ml_as (p' := 74) rfl rfl M66 F65 (by omega) 13 (by decide) (by omega) (fun h79 M80 F81 => ?_)
                refine av_wp_seq 1 (pc' := 75) (lv' := [some (.inr (.inr (.inl (some (77))))), some (.inl (at0 : Int)), some (.inl ((k : Int) + (1)))]) (st' := [.inr (.inr (.inl (some (77))))]) (h' := h79) rfl ?_
                refine wq_gb (p' := 78) rfl rfl (congrArg Prod.fst (ly_k (ml_L M80) 77 rfl)) rfl (ns_25 M80.1.1) ?_
                refine wq_k1 (p' := 81) rfl rfl ⟨by omega, by omega⟩ (fun c82 => ?_) (fun c83 => ?_)
                · have c82 : (wrv t67) ≠ (0) := c82
                  refine av_wp_seq 1 (pc' := 86) (lv' := [some (.inr (.inr (.inl (some (77))))), some (.inl (at0 : Int)), some (.inl ((k : Int) + (1)))]) (st' := [.inl (0)]) (h' := h79) rfl ?_
                  refine av_wp_ret (v := some (.inl (0))) rfl rfl rfl ?_
                  exact hq _ h79 (av_u1 R1 13 ((k : Int) + (1))) (by rw [hx]; exact M80) F81 (by rw [hx]; intro z o ho; rw [u1_ne (by omega)]; exact X69 z o ho) (by rw [hx]; intro z; exact absurd z gf) (by rw [hx]; show (_ = _ ∧ t67.2.2.2 = -1) ∨ (_ = _ ∧ t67.2.2.2 ≠ -1); omega)
                · have c83 : (wrv t67) = (0) := c83
                  exfalso; omega
              · have c78 : (wrv t67) = (0) := c78
                exfalso; omega
  exact L40 21 0 t (ufil d 0 14 (-2)) (av_u1 (av_u1 (av_u1 (av_u1 (av_u1 (av_u1 (av_u1 (av_u1 (av_u1 (av_u1 (av_u1 (av_u1 (av_u1 R 0 (-2)) 1 (-2)) 2 (-2)) 3 (-2)) 4 (-2)) 5 (-2)) 6 (-2)) 7 (-2)) 8 (-2)) 9 (-2)) 10 (-2)) 11 (-2)) 12 (-2)) h37 rfl (by omega) M38 F39 X41 rfl

