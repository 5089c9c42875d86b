section
set_option maxRecDepth 100000 in
set_option maxHeartbeats 4000000 in
theorem ct_155 {g h : av_H} {b : Nat → Int} {lim : Nat} {t : TT} {x17 : Int} {A0 : Nat → Nat → Int} {at0 : Nat} {R : Nat → Int} (M : ML b lim t x17 A0 at0 R h) (F : FD g h) (hi : at0 ≤ 960) (d : Nat → Int) (x : Int) (ex : x = (at0 : Int))  {Q : Option av_V → av_H → Prop} (hq : ∀ (v : Int) h' R', ML b lim (rlf b lim 21 0 t (ufil d 0 14 (-2))).2.1 x17 A0 at0 R' h' → FD g h' → RL (rlf b lim 21 0 t (ufil d 0 14 (-2))).2.1 R' (rlf b lim 21 0 t (ufil d 0 14 (-2))).2.2 → ((rlf b lim 21 0 t (ufil d 0 14 (-2))).2.1.2.2.2 = -1 → R' 13 = ((rlf b lim 21 0 t (ufil d 0 14 (-2))).1 : Int)) → ((v = 1 ∧ (rlf b lim 21 0 t (ufil d 0 14 (-2))).2.1.2.2.2 = -1) ∨ (v = 0 ∧ (rlf b lim 21 0 t (ufil d 0 14 (-2))).2.1.2.2.2 ≠ -1)) → Q (some (.inl v)) h') : av_wp none cd_155 0 [some (.inr (.inr (.inl (some (77))))), some (.inl x), none] [] h Q := by
  subst ex
  refine av_wp_sqF ck_155 6 (pc' := 9) (lv' := [some (.inr (.inr (.inl (some (77))))), some (.inl (at0 : Int)), some (.inl (0))]) (st' := [.inr (.inr (.inl (some (77))))]) (h' := h) rfl ?_
  refine wq_gr (p' := 12) (ck_155 _ _ rfl) rfl (congrArg Prod.fst (ly_k (ml_L M) 77 rfl)) rfl (ly_g (ml_L M) 77 15 93 rfl) ?_
  refine av_wp_sqF ck_155 4 (pc' := 17) (lv' := [some (.inr (.inr (.inl (some (77))))), some (.inl (at0 : Int)), some (.inl (0))]) (st' := [.inl (-2), .inl ((at0 : Int) + (0)), .inr (.inr (.inl (some (93))))]) (h' := h) rfl ?_
  refine ml_as (p' := 18) rfl rfl M F (by omega) 0 (by decide) (by omega) (fun h1 M2 F3 => ?_)
  refine av_wp_sqF ck_155 6 (pc' := 9) (lv' := [some (.inr (.inr (.inl (some (77))))), some (.inl (at0 : Int)), some (.inl (1))]) (st' := [.inr (.inr (.inl (some (77))))]) (h' := h1) rfl ?_
  refine wq_gr (p' := 12) (ck_155 _ _ rfl) rfl (congrArg Prod.fst (ly_k (ml_L M2) 77 rfl)) rfl (ly_g (ml_L M2) 77 15 93 rfl) ?_
  refine av_wp_sqF ck_155 4 (pc' := 17) (lv' := [some (.inr (.inr (.inl (some (77))))), some (.inl (at0 : Int)), some (.inl (1))]) (st' := [.inl (-2), .inl ((at0 : Int) + (1)), .inr (.inr (.inl (some (93))))]) (h' := h1) rfl ?_
  refine ml_as (p' := 18) rfl rfl M2 F3 (by omega) 1 (by decide) (by omega) (fun h4 M5 F6 => ?_)
  refine av_wp_sqF ck_155 6 (pc' := 9) (lv' := [some (.inr (.inr (.inl (some (77))))), some (.inl (at0 : Int)), some (.inl (2))]) (st' := [.inr (.inr (.inl (some (77))))]) (h' := h4) rfl ?_
  refine wq_gr (p' := 12) (ck_155 _ _ rfl) rfl (congrArg Prod.fst (ly_k (ml_L M5) 77 rfl)) rfl (ly_g (ml_L M5) 77 15 93 rfl) ?_
  refine av_wp_sqF ck_155 4 (pc' := 17) (lv' := [some (.inr (.inr (.inl (some (77))))), some (.inl (at0 : Int)), some (.inl (2))]) (st' := [.inl (-2), .inl ((at0 : Int) + (2)), .inr (.inr (.inl (some (93))))]) (h' := h4) rfl ?_
  refine ml_as (p' := 18) rfl rfl M5 F6 (by omega) 2 (by decide) (by omega) (fun h7 M8 F9 => ?_)
  refine av_wp_sqF ck_155 6 (pc' := 9) (lv' := [some (.inr (.inr (.inl (some (77))))), some (.inl (at0 : Int)), some (.inl (3))]) (st' := [.inr (.inr (.inl (some (77))))]) (h' := h7) rfl ?_
  refine wq_gr (p' := 12) (ck_155 _ _ rfl) rfl (congrArg Prod.fst (ly_k (ml_L M8) 77 rfl)) rfl (ly_g (ml_L M8) 77 15 93 rfl) ?_
  refine av_wp_sqF ck_155 4 (pc' := 17) (lv' := [some (.inr (.inr (.inl (some (77))))), some (.inl (at0 : Int)), some (.inl (3))]) (st' := [.inl (-2), .inl ((at0 : Int) + (3)), .inr (.inr (.inl (some (93))))]) (h' := h7) rfl ?_
  refine ml_as (p' := 18) rfl rfl M8 F9 (by omega) 3 (by decide) (by omega) (fun h10 M11 F12 => ?_)
  refine av_wp_sqF ck_155 6 (pc' := 9) (lv' := [some (.inr (.inr (.inl (some (77))))), some (.inl (at0 : Int)), some (.inl (4))]) (st' := [.inr (.inr (.inl (some (77))))]) (h' := h10) rfl ?_
  refine wq_gr (p' := 12) (ck_155 _ _ rfl) rfl (congrArg Prod.fst (ly_k (ml_L M11) 77 rfl)) rfl (ly_g (ml_L M11) 77 15 93 rfl) ?_
  refine av_wp_sqF ck_155 4 (pc' := 17) (lv' := [some (.inr (.inr (.inl (some (77))))), some (.inl (at0 : Int)), some (.inl (4))]) (st' := [.inl (-2), .inl ((at0 : Int) + (4)), .inr (.inr (.inl (some (93))))]) (h' := h10) rfl ?_
  refine ml_as (p' := 18) rfl rfl M11 F12 (by omega) 4 (by decide) (by omega) (fun h13 M14 F15 => ?_)
  refine av_wp_sqF ck_155 6 (pc' := 9) (lv' := [some (.inr (.inr (.inl (some (77))))), some (.inl (at0 : Int)), some (.inl (5))]) (st' := [.inr (.inr (.inl (some (77))))]) (h' := h13) rfl ?_
  refine wq_gr (p' := 12) (ck_155 _ _ rfl) rfl (congrArg Prod.fst (ly_k (ml_L M14) 77 rfl)) rfl (ly_g (ml_L M14) 77 15 93 rfl) ?_
  refine av_wp_sqF ck_155 4 (pc' := 17) (lv' := [some (.inr (.inr (.inl (some (77))))), some (.inl (at0 : Int)), some (.inl (5))]) (st' := [.inl (-2), .inl ((at0 : Int) + (5)), .inr (.inr (.inl (some (93))))]) (h' := h13) rfl ?_
  refine ml_as (p' := 18) rfl rfl M14 F15 (by omega) 5 (by decide) (by omega) (fun h16 M17 F18 => ?_)
  refine av_wp_sqF ck_155 6 (pc' := 9) (lv' := [some (.inr (.inr (.inl (some (77))))), some (.inl (at0 : Int)), some (.inl (6))]) (st' := [.inr (.inr (.inl (some (77))))]) (h' := h16) rfl ?_
  refine wq_gr (p' := 12) (ck_155 _ _ rfl) rfl (congrArg Prod.fst (ly_k (ml_L M17) 77 rfl)) rfl (ly_g (ml_L M17) 77 15 93 rfl) ?_
  refine av_wp_sqF ck_155 4 (pc' := 17) (lv' := [some (.inr (.inr (.inl (some (77))))), some (.inl (at0 : Int)), some (.inl (6))]) (st' := [.inl (-2), .inl ((at0 : Int) + (6)), .inr (.inr (.inl (some (93))))]) (h' := h16) rfl ?_
  refine ml_as (p' := 18) rfl rfl M17 F18 (by omega) 6 (by decide) (by omega) (fun h19 M20 F21 => ?_)
  refine av_wp_sqF ck_155 6 (pc' := 9) (lv' := [some (.inr (.inr (.inl (some (77))))), some (.inl (at0 : Int)), some (.inl (7))]) (st' := [.inr (.inr (.inl (some (77))))]) (h' := h19) rfl ?_
  refine wq_gr (p' := 12) (ck_155 _ _ rfl) rfl (congrArg Prod.fst (ly_k (ml_L M20) 77 rfl)) rfl (ly_g (ml_L M20) 77 15 93 rfl) ?_
  refine av_wp_sqF ck_155 4 (pc' := 17) (lv' := [some (.inr (.inr (.inl (some (77))))), some (.inl (at0 : Int)), some (.inl (7))]) (st' := [.inl (-2), .inl ((at0 : Int) + (7)), .inr (.inr (.inl (some (93))))]) (h' := h19) rfl ?_
  refine ml_as (p' := 18) rfl rfl M20 F21 (by omega) 7 (by decide) (by omega) (fun h22 M23 F24 => ?_)
  refine av_wp_sqF ck_155 6 (pc' := 9) (lv' := [some (.inr (.inr (.inl (some (77))))), some (.inl (at0 : Int)), some (.inl (8))]) (st' := [.inr (.inr (.inl (some (77))))]) (h' := h22) rfl ?_
  refine wq_gr (p' := 12) (ck_155 _ _ rfl) rfl (congrArg Prod.fst (ly_k (ml_L M23) 77 rfl)) rfl (ly_g (ml_L M23) 77 15 93 rfl) ?_
  refine av_wp_sqF ck_155 4 (pc' := 17) (lv' := [some (.inr (.inr (.inl (some (77))))), some (.inl (at0 : Int)), some (.inl (8))]) (st' := [.inl (-2), .inl ((at0 : Int) + (8)), .inr (.inr (.inl (some (93))))]) (h' := h22) rfl ?_
  refine ml_as (p' := 18) rfl rfl M23 F24 (by omega) 8 (by decide) (by omega) (fun h25 M26 F27 => ?_)
  refine av_wp_sqF ck_155 6 (pc' := 9) (lv' := [some (.inr (.inr (.inl (some (77))))), some (.inl (at0 : Int)), some (.inl (9))]) (st' := [.inr (.inr (.inl (some (77))))]) (h' := h25) rfl ?_
  refine wq_gr (p' := 12) (ck_155 _ _ rfl) rfl (congrArg Prod.fst (ly_k (ml_L M26) 77 rfl)) rfl (ly_g (ml_L M26) 77 15 93 rfl) ?_
  refine av_wp_sqF ck_155 4 (pc' := 17) (lv' := [some (.inr (.inr (.inl (some (77))))), some (.inl (at0 : Int)), some (.inl (9))]) (st' := [.inl (-2), .inl ((at0 : Int) + (9)), .inr (.inr (.inl (some (93))))]) (h' := h25) rfl ?_
  refine ml_as (p' := 18) rfl rfl M26 F27 (by omega) 9 (by decide) (by omega) (fun h28 M29 F30 => ?_)
  refine av_wp_sqF ck_155 6 (pc' := 9) (lv' := [some (.inr (.inr (.inl (some (77))))), some (.inl (at0 : Int)), some (.inl (10))]) (st' := [.inr (.inr (.inl (some (77))))]) (h' := h28) rfl ?_
  refine wq_gr (p' := 12) (ck_155 _ _ rfl) rfl (congrArg Prod.fst (ly_k (ml_L M29) 77 rfl)) rfl (ly_g (ml_L M29) 77 15 93 rfl) ?_
  refine av_wp_sqF ck_155 4 (pc' := 17) (lv' := [some (.inr (.inr (.inl (some (77))))), some (.inl (at0 : Int)), some (.inl (10))]) (st' := [.inl (-2), .inl ((at0 : Int) + (10)), .inr (.inr (.inl (some (93))))]) (h' := h28) rfl ?_
  refine ml_as (p' := 18) rfl rfl M29 F30 (by omega) 10 (by decide) (by omega) (fun h31 M32 F33 => ?_)
  refine av_wp_sqF ck_155 6 (pc' := 9) (lv' := [some (.inr (.inr (.inl (some (77))))), some (.inl (at0 : Int)), some (.inl (11))]) (st' := [.inr (.inr (.inl (some (77))))]) (h' := h31) rfl ?_
  refine wq_gr (p' := 12) (ck_155 _ _ rfl) rfl (congrArg Prod.fst (ly_k (ml_L M32) 77 rfl)) rfl (ly_g (ml_L M32) 77 15 93 rfl) ?_
  refine av_wp_sqF ck_155 4 (pc' := 17) (lv' := [some (.inr (.inr (.inl (some (77))))), some (.inl (at0 : Int)), some (.inl (11))]) (st' := [.inl (-2), .inl ((at0 : Int) + (11)), .inr (.inr (.inl (some (93))))]) (h' := h31) rfl ?_
  refine ml_as (p' := 18) rfl rfl M32 F33 (by omega) 11 (by decide) (by omega) (fun h34 M35 F36 => ?_)
  refine av_wp_sqF ck_155 6 (pc' := 9) (lv' := [some (.inr (.inr (.inl (some (77))))), some (.inl (at0 : Int)), some (.inl (12))]) (st' := [.inr (.inr (.inl (some (77))))]) (h' := h34) rfl ?_
  refine wq_gr (p' := 12) (ck_155 _ _ rfl) rfl (congrArg Prod.fst (ly_k (ml_L M35) 77 rfl)) rfl (ly_g (ml_L M35) 77 15 93 rfl) ?_
  refine av_wp_sqF ck_155 4 (pc' := 17) (lv' := [some (.inr (.inr (.inl (some (77))))), some (.inl (at0 : Int)), some (.inl (12))]) (st' := [.inl (-2), .inl ((at0 : Int) + (12)), .inr (.inr (.inl (some (93))))]) (h' := h34) rfl ?_
  refine ml_as (p' := 18) rfl rfl M35 F36 (by omega) 12 (by decide) (by omega) (fun h37 M38 F39 => ?_)
  refine av_wp_sqF ck_155 7 (pc' := 26) (lv' := [some (.inr (.inr (.inl (some (77))))), some (.inl (at0 : Int)), some (.inl (0))]) (st' := []) (h' := h37) rfl ?_
  have X41 : RL t (av_u1 (av_u1 (av_u1 (av_u1 (av_u1 (av_u1 (av_u1 (av_u1 (av_u1 (av_u1 (av_u1 (av_u1 (av_u1 R 0 (-2)) 1 (-2)) 2 (-2)) 3 (-2)) 4 (-2)) 5 (-2)) 6 (-2)) 7 (-2)) 8 (-2)) 9 (-2)) 10 (-2)) 11 (-2)) 12 (-2)) (ufil d 0 14 (-2)) := fun _ o ho => by
    have e1 : (ufil d 0 14 (-2)) o = -2 := if_pos (by omega)
    rw [e1]
    rcases (show o = 0 ∨ o = 1 ∨ o = 2 ∨ o = 3 ∨ o = 4 ∨ o = 5 ∨ o = 6 ∨ o = 7 ∨ o = 8 ∨ o = 9 ∨ o = 10 ∨ o = 11 ∨ o = 12 by omega) with e2 | e2 | e2 | e2 | e2 | e2 | e2 | e2 | e2 | e2 | e2 | e2 | e2 <;> subst e2 <;> rfl
  have L40 : ∀ (n k : Nat) (t1 : TT) (d1 R1 : Nat → Int) (h1 : av_H), n + k = 21 → k ≤ 20 → ML b lim t1 x17 A0 at0 R1 h1 → FD g h1 → RL t1 R1 d1 → rlf b lim n k t1 d1 = rlf b lim 21 0 t (ufil d 0 14 (-2)) → av_wp none cd_155 26 [some (.inr (.inr (.inl (some (77))))), some (.inl (at0 : Int)), some (.inl (k : Int))] [] h1 Q := by
    intro n
    induction n with
    | zero => intro k t1 d1 R1 h1 e1 e2; exfalso; omega
    | succ n ih =>
      intro k t1 d1 R1 h1 e1 e2 M1 F1 X1 he
      have gt := tok_f t1 M1.1.2.1.2.2.2.1
      have gt0 := gt.2.2.1
      have gtr := gt.2.2.2.2
      clear gt
      have gwr := wr_f t1
      refine av_wp_sqF ck_155 1 (pc' := 27) (lv' := [some (.inr (.inr (.inl (some (77))))), some (.inl (at0 : Int)), some (.inl (k : Int))]) (st' := [.inr (.inr (.inl (some (77))))]) (h' := h1) rfl ?_
      refine wq_gi (p' := 30) (ck_155 _ _ rfl) rfl (congrArg Prod.fst (ly_k (ml_L M1) 77 rfl)) rfl (ns_22 M1.1.1) ?_
      refine wq_k1 (p' := 33) (ck_155 _ _ rfl) rfl ⟨by omega, by omega⟩ (fun c42 => ?_) (fun c43 => ?_)
      · have c42 : (tokv t1) = (0) := c42
        have hx : rlf b lim 21 0 t (ufil d 0 14 (-2)) = (k, t1, d1) := by rw [← he]; unfold rlf; rw [if_neg (by omega)]
        refine av_wp_sqF ck_155 1 (pc' := 65) (lv' := [some (.inr (.inr (.inl (some (77))))), some (.inl (at0 : Int)), some (.inl (k : Int))]) (st' := [.inr (.inr (.inl (some (77))))]) (h' := h1) rfl ?_
        refine wq_gr (p' := 68) (ck_155 _ _ rfl) rfl (congrArg Prod.fst (ly_k (ml_L M1) 77 rfl)) rfl (ly_g (ml_L M1) 77 15 93 rfl) ?_
        refine av_wp_sqF ck_155 4 (pc' := 73) (lv' := [some (.inr (.inr (.inl (some (77))))), some (.inl (at0 : Int)), some (.inl (k : Int))]) (st' := [.inl (k : Int), .inl ((at0 : Int) + (13)), .inr (.inr (.inl (some (93))))]) (h' := h1) rfl ?_
        refine ml_as (p' := 74) rfl rfl M1 F1 (by omega) 13 (by decide) (by omega) (fun h44 M45 F46 => ?_)
        refine av_wp_sqF ck_155 1 (pc' := 75) (lv' := [some (.inr (.inr (.inl (some (77))))), some (.inl (at0 : Int)), some (.inl (k : Int))]) (st' := [.inr (.inr (.inl (some (77))))]) (h' := h44) rfl ?_
        refine wq_gb (p' := 78) (ck_155 _ _ rfl) rfl (congrArg Prod.fst (ly_k (ml_L M45) 77 rfl)) rfl (ns_25 M45.1.1) ?_
        refine wq_k1 (p' := 81) (ck_155 _ _ rfl) rfl ⟨by omega, by omega⟩ (fun c47 => ?_) (fun c48 => ?_)
        · have c47 : (wrv t1) ≠ (0) := c47
          refine av_wp_sqF ck_155 1 (pc' := 86) (lv' := [some (.inr (.inr (.inl (some (77))))), some (.inl (at0 : Int)), some (.inl (k : Int))]) (st' := [.inl (0)]) (h' := h44) rfl ?_
          refine av_wp_ret (v := some (.inl (0))) (ck_155 _ _ rfl) rfl rfl ?_
          exact hq _ h44 (av_u1 R1 13 (k : Int)) (by rw [hx]; exact M45) F46 (by rw [hx]; intro z o ho; rw [u1_ne (by omega)]; exact X1 z o ho) (by rw [hx]; intro z; exact u1_eq) (by rw [hx]; show (_ = _ ∧ t1.2.2.2 = -1) ∨ (_ = _ ∧ t1.2.2.2 ≠ -1); omega)
        · have c48 : (wrv t1) = (0) := c48
          refine av_wp_sqF ck_155 2 (pc' := 86) (lv' := [some (.inr (.inr (.inl (some (77))))), some (.inl (at0 : Int)), some (.inl (k : Int))]) (st' := [.inl (1)]) (h' := h44) rfl ?_
          refine av_wp_ret (v := some (.inl (1))) (ck_155 _ _ rfl) rfl rfl ?_
          exact hq _ h44 (av_u1 R1 13 (k : Int)) (by rw [hx]; exact M45) F46 (by rw [hx]; intro z o ho; rw [u1_ne (by omega)]; exact X1 z o ho) (by rw [hx]; intro z; exact u1_eq) (by rw [hx]; show (_ = _ ∧ t1.2.2.2 = -1) ∨ (_ = _ ∧ t1.2.2.2 ≠ -1); omega)
      · have c43 : (tokv t1) ≠ (0) := c43
        refine av_wp_sqF ck_155 1 (pc' := 34) (lv' := [some (.inr (.inr (.inl (some (77))))), some (.inl (at0 : Int)), some (.inl (k : Int))]) (st' := [.inr (.inr (.inl (some (77))))]) (h' := h1) rfl ?_
        refine wq_gb (p' := 37) (ck_155 _ _ rfl) rfl (congrArg Prod.fst (ly_k (ml_L M1) 77 rfl)) rfl (ns_25 M1.1.1) ?_
        refine wq_k1 (p' := 40) (ck_155 _ _ rfl) rfl ⟨by omega, by omega⟩ (fun c49 => ?_) (fun c50 => ?_)
        · have c49 : (wrv t1) ≠ (0) := c49
          have hx : rlf b lim 21 0 t (ufil d 0 14 (-2)) = (k, t1, d1) := by rw [← he]; unfold rlf; rw [if_neg (by omega)]
          refine av_wp_sqF ck_155 1 (pc' := 65) (lv' := [some (.inr (.inr (.inl (some (77))))), some (.inl (at0 : Int)), some (.inl (k : Int))]) (st' := [.inr (.inr (.inl (some (77))))]) (h' := h1) rfl ?_
          refine wq_gr (p' := 68) (ck_155 _ _ rfl) rfl (congrArg Prod.fst (ly_k (ml_L M1) 77 rfl)) rfl (ly_g (ml_L M1) 77 15 93 rfl) ?_
          refine av_wp_sqF ck_155 4 (pc' := 73) (lv' := [some (.inr (.inr (.inl (some (77))))), some (.inl (at0 : Int)), some (.inl (k : Int))]) (st' := [.inl (k : Int), .inl ((at0 : Int) + (13)), .inr (.inr (.inl (some (93))))]) (h' := h1) rfl ?_
          refine ml_as (p' := 74) rfl rfl M1 F1 (by omega) 13 (by decide) (by omega) (fun h51 M52 F53 => ?_)
          refine av_wp_sqF ck_155 1 (pc' := 75) (lv' := [some (.inr (.inr (.inl (some (77))))), some (.inl (at0 : Int)), some (.inl (k : Int))]) (st' := [.inr (.inr (.inl (some (77))))]) (h' := h51) rfl ?_
          refine wq_gb (p' := 78) (ck_155 _ _ rfl) rfl (congrArg Prod.fst (ly_k (ml_L M52) 77 rfl)) rfl (ns_25 M52.1.1) ?_
          refine wq_k1 (p' := 81) (ck_155 _ _ rfl) rfl ⟨by omega, by omega⟩ (fun c54 => ?_) (fun c55 => ?_)
          · have c54 : (wrv t1) ≠ (0) := c54
            refine av_wp_sqF ck_155 1 (pc' := 86) (lv' := [some (.inr (.inr (.inl (some (77))))), some (.inl (at0 : Int)), some (.inl (k : Int))]) (st' := [.inl (0)]) (h' := h51) rfl ?_
            refine av_wp_ret (v := some (.inl (0))) (ck_155 _ _ rfl) rfl rfl ?_
            exact hq _ h51 (av_u1 R1 13 (k : Int)) (by rw [hx]; exact M52) F53 (by rw [hx]; intro z o ho; rw [u1_ne (by omega)]; exact X1 z o ho) (by rw [hx]; intro z; exact u1_eq) (by rw [hx]; show (_ = _ ∧ t1.2.2.2 = -1) ∨ (_ = _ ∧ t1.2.2.2 ≠ -1); omega)
          · have c55 : (wrv t1) = (0) := c55
            refine av_wp_sqF ck_155 2 (pc' := 86) (lv' := [some (.inr (.inr (.inl (some (77))))), some (.inl (at0 : Int)), some (.inl (k : Int))]) (st' := [.inl (1)]) (h' := h51) rfl ?_
            refine av_wp_ret (v := some (.inl (1))) (ck_155 _ _ rfl) rfl rfl ?_
            exact hq _ h51 (av_u1 R1 13 (k : Int)) (by rw [hx]; exact M52) F53 (by rw [hx]; intro z o ho; rw [u1_ne (by omega)]; exact X1 z o ho) (by rw [hx]; intro z; exact u1_eq) (by rw [hx]; show (_ = _ ∧ t1.2.2.2 = -1) ∨ (_ = _ ∧ t1.2.2.2 ≠ -1); omega)
        · have c50 : (wrv t1) = (0) := c50
          refine av_wp_sqF ck_155 2 (pc' := 43) (lv' := [some (.inr (.inr (.inl (some (77))))), some (.inl (at0 : Int)), some (.inl (k : Int))]) (st' := [.inl (20), .inl (k : Int)]) (h' := h1) rfl ?_
          refine wq_k2 (p' := 46) (ck_155 _ _ rfl) rfl ⟨by omega, by omega⟩ ⟨by omega, by omega⟩ (fun c56 => ?_) (fun c57 => ?_)
          · have c56 : (k : Int) ≠ (20) := c56
            refine av_wp_sqF ck_155 2 (pc' := 55) (lv' := [some (.inr (.inr (.inl (some (77))))), some (.inl (at0 : Int)), some (.inl (k : Int))]) (st' := [.inl (at0 : Int), .inr (.inr (.inl (some (77))))]) (h' := h1) rfl ?_
            refine wq_cv (p' := 58) (av_qc (.invokevirtual 339) 154 1 0 8) 5 cd_154 [.inl (at0 : Int)] (77) 8 [some (.inr (.inr (.inl (some (77))))), some (.inl (at0 : Int)), none, none, none] (ck_155 _ _ rfl) rfl rfl pp_154 rfl rfl rfl (congrArg Prod.fst (ly_k (ml_L M1) 77 rfl)) rfl rfl rfl rfl ?_
            refine ct_154 M1 F1 (by omega) X1 ((at0 : Int)) (by omega) (fun h58 R59 M60 F61 X62 => ?_)
            show av_wp _ cd_155 58 [some (.inr (.inr (.inl (some (77))))), some (.inl (at0 : Int)), some (.inl (k : Int))] [] h58 _
            refine av_wp_sqF ck_155 2 (pc' := 26) (lv' := [some (.inr (.inr (.inl (some (77))))), some (.inl (at0 : Int)), some (.inl ((k : Int) + (1)))]) (st' := []) (h' := h58) rfl ?_
            have he2 : rlf b lim n (k + 1) (rl1 b lim t1 d1).1 (rl1 b lim t1 d1).2 = rlf b lim 21 0 t (ufil d 0 14 (-2)) := by
              rw [← he]
              conv => rhs; unfold rlf
              rw [if_pos (by omega), if_neg (by omega)]
            exact ih (k + 1) _ _ _ h58 (by omega) (by omega) M60 F61 X62 he2
          · have c57 : (k : Int) = (20) := c57
            refine av_wp_sqF ck_155 1 (pc' := 47) (lv' := [some (.inr (.inr (.inl (some (77))))), some (.inl (at0 : Int)), some (.inl (k : Int))]) (st' := [.inr (.inr (.inl (some (77))))]) (h' := h1) rfl ?_
            refine wq_cv (p' := 50) (av_qc (.invokevirtual 194) 131 0 0 8) 1 cd_131 [] (77) 8 [some (.inr (.inr (.inl (some (77)))))] (ck_155 _ _ rfl) rfl rfl pp_131 rfl rfl rfl (congrArg Prod.fst (ly_k (ml_L M1) 77 rfl)) rfl rfl rfl rfl ?_
            refine ct_131 M1.1 F1 (fun h63 N64 F65 => ?_)
            have M66 := ml_tok M1 N64
            clear N64
            generalize q68 : fal t1 = t67 at M66
            have X69 : RL t67 R1 d1 := rlr_t X1 (fun z => by rw [← q68] at z; exact absurd z fal_ne)
            have gf : t67.2.2.2 ≠ -1 := by rw [← q68]; exact fal_ne
            have gwr2 := wr_f t67
            have gt2 := (tok_f t67 M66.1.2.1.2.2.2.1).2.2.2.2
            show av_wp _ cd_155 50 [some (.inr (.inr (.inl (some (77))))), some (.inl (at0 : Int)), some (.inl (k : Int))] [] h63 _
            refine av_wp_sqF ck_155 3 (pc' := 26) (lv' := [some (.inr (.inr (.inl (some (77))))), some (.inl (at0 : Int)), some (.inl ((k : Int) + (1)))]) (st' := []) (h' := h63) rfl ?_
            refine av_wp_sqF ck_155 1 (pc' := 27) (lv' := [some (.inr (.inr (.inl (some (77))))), some (.inl (at0 : Int)), some (.inl ((k : Int) + (1)))]) (st' := [.inr (.inr (.inl (some (77))))]) (h' := h63) rfl ?_
            refine wq_gi (p' := 30) (ck_155 _ _ rfl) rfl (congrArg Prod.fst (ly_k (ml_L M66) 77 rfl)) rfl (ns_22 M66.1.1) ?_
            refine wq_k1 (p' := 33) (ck_155 _ _ rfl) rfl ⟨by omega, by omega⟩ (fun c70 => ?_) (fun c71 => ?_)
            · have c70 : (tokv t67) = (0) := c70
              have hx : rlf b lim 21 0 t (ufil d 0 14 (-2)) = (k, t67, d1) := by rw [← he]; unfold rlf; rw [if_pos (by omega), if_pos (by omega), q68]
              refine av_wp_sqF ck_155 1 (pc' := 65) (lv' := [some (.inr (.inr (.inl (some (77))))), some (.inl (at0 : Int)), some (.inl ((k : Int) + (1)))]) (st' := [.inr (.inr (.inl (some (77))))]) (h' := h63) rfl ?_
              refine wq_gr (p' := 68) (ck_155 _ _ rfl) rfl (congrArg Prod.fst (ly_k (ml_L M66) 77 rfl)) rfl (ly_g (ml_L M66) 77 15 93 rfl) ?_
              refine av_wp_sqF ck_155 4 (pc' := 73) (lv' := [some (.inr (.inr (.inl (some (77))))), some (.inl (at0 : Int)), some (.inl ((k : Int) + (1)))]) (st' := [.inl ((k : Int) + (1)), .inl ((at0 : Int) + (13)), .inr (.inr (.inl (some (93))))]) (h' := h63) rfl ?_
              refine ml_as (p' := 74) rfl rfl M66 F65 (by omega) 13 (by decide) (by omega) (fun h72 M73 F74 => ?_)
              refine av_wp_sqF ck_155 1 (pc' := 75) (lv' := [some (.inr (.inr (.inl (some (77))))), some (.inl (at0 : Int)), some (.inl ((k : Int) + (1)))]) (st' := [.inr (.inr (.inl (some (77))))]) (h' := h72) rfl ?_
              refine wq_gb (p' := 78) (ck_155 _ _ rfl) rfl (congrArg Prod.fst (ly_k (ml_L M73) 77 rfl)) rfl (ns_25 M73.1.1) ?_
              refine wq_k1 (p' := 81) (ck_155 _ _ rfl) rfl ⟨by omega, by omega⟩ (fun c75 => ?_) (fun c76 => ?_)
              · have c75 : (wrv t67) ≠ (0) := c75
                refine av_wp_sqF ck_155 1 (pc' := 86) (lv' := [some (.inr (.inr (.inl (some (77))))), some (.inl (at0 : Int)), some (.inl ((k : Int) + (1)))]) (st' := [.inl (0)]) (h' := h72) rfl ?_
                refine av_wp_ret (v := some (.inl (0))) (ck_155 _ _ rfl) rfl rfl ?_
                exact hq _ h72 (av_u1 R1 13 ((k : Int) + (1))) (by rw [hx]; exact M73) F74 (by rw [hx]; intro z o ho; rw [u1_ne (by omega)]; exact X69 z o ho) (by rw [hx]; intro z; exact absurd z gf) (by rw [hx]; show (_ = _ ∧ t67.2.2.2 = -1) ∨ (_ = _ ∧ t67.2.2.2 ≠ -1); omega)
              · have c76 : (wrv t67) = (0) := c76
                exfalso; omega
            · have c71 : (tokv t67) ≠ (0) := c71
              refine av_wp_sqF ck_155 1 (pc' := 34) (lv' := [some (.inr (.inr (.inl (some (77))))), some (.inl (at0 : Int)), some (.inl ((k : Int) + (1)))]) (st' := [.inr (.inr (.inl (some (77))))]) (h' := h63) rfl ?_
              refine wq_gb (p' := 37) (ck_155 _ _ rfl) rfl (congrArg Prod.fst (ly_k (ml_L M66) 77 rfl)) rfl (ns_25 M66.1.1) ?_
              refine wq_k1 (p' := 40) (ck_155 _ _ rfl) rfl ⟨by omega, by omega⟩ (fun c77 => ?_) (fun c78 => ?_)
              · have c77 : (wrv t67) ≠ (0) := c77
                have hx : rlf b lim 21 0 t (ufil d 0 14 (-2)) = (k, t67, d1) := by rw [← he]; unfold rlf; rw [if_pos (by omega), if_pos (by omega), q68]
                refine av_wp_sqF ck_155 1 (pc' := 65) (lv' := [some (.inr (.inr (.inl (some (77))))), some (.inl (at0 : Int)), some (.inl ((k : Int) + (1)))]) (st' := [.inr (.inr (.inl (some (77))))]) (h' := h63) rfl ?_
                refine wq_gr (p' := 68) (ck_155 _ _ rfl) rfl (congrArg Prod.fst (ly_k (ml_L M66) 77 rfl)) rfl (ly_g (ml_L M66) 77 15 93 rfl) ?_
                refine av_wp_sqF ck_155 4 (pc' := 73) (lv' := [some (.inr (.inr (.inl (some (77))))), some (.inl (at0 : Int)), some (.inl ((k : Int) + (1)))]) (st' := [.inl ((k : Int) + (1)), .inl ((at0 : Int) + (13)), .inr (.inr (.inl (some (93))))]) (h' := h63) rfl ?_
                refine ml_as (p' := 74) rfl rfl M66 F65 (by omega) 13 (by decide) (by omega) (fun h79 M80 F81 => ?_)
                refine av_wp_sqF ck_155 1 (pc' := 75) (lv' := [some (.inr (.inr (.inl (some (77))))), some (.inl (at0 : Int)), some (.inl ((k : Int) + (1)))]) (st' := [.inr (.inr (.inl (some (77))))]) (h' := h79) rfl ?_
                refine wq_gb (p' := 78) (ck_155 _ _ rfl) rfl (congrArg Prod.fst (ly_k (ml_L M80) 77 rfl)) rfl (ns_25 M80.1.1) ?_
                refine wq_k1 (p' := 81) (ck_155 _ _ rfl) rfl ⟨by omega, by omega⟩ (fun c82 => ?_) (fun c83 => ?_)
                · have c82 : (wrv t67) ≠ (0) := c82
                  refine av_wp_sqF ck_155 1 (pc' := 86) (lv' := [some (.inr (.inr (.inl (some (77))))), some (.inl (at0 : Int)), some (.inl ((k : Int) + (1)))]) (st' := [.inl (0)]) (h' := h79) rfl ?_
                  refine av_wp_ret (v := some (.inl (0))) (ck_155 _ _ rfl) rfl rfl ?_
                  exact hq _ h79 (av_u1 R1 13 ((k : Int) + (1))) (by rw [hx]; exact M80) F81 (by rw [hx]; intro z o ho; rw [u1_ne (by omega)]; exact X69 z o ho) (by rw [hx]; intro z; exact absurd z gf) (by rw [hx]; show (_ = _ ∧ t67.2.2.2 = -1) ∨ (_ = _ ∧ t67.2.2.2 ≠ -1); omega)
                · have c83 : (wrv t67) = (0) := c83
                  exfalso; omega
              · have c78 : (wrv t67) = (0) := c78
                exfalso; omega
  exact L40 21 0 t (ufil d 0 14 (-2)) (av_u1 (av_u1 (av_u1 (av_u1 (av_u1 (av_u1 (av_u1 (av_u1 (av_u1 (av_u1 (av_u1 (av_u1 (av_u1 R 0 (-2)) 1 (-2)) 2 (-2)) 3 (-2)) 4 (-2)) 5 (-2)) 6 (-2)) 7 (-2)) 8 (-2)) 9 (-2)) 10 (-2)) 11 (-2)) 12 (-2)) h37 rfl (by omega) M38 F39 X41 rfl
end
section
/-! ALL SAYINGS OF A TEXT, as functions; what they leave as it was; their cells' bounds -/
section
variable (b : Nat → Int) (lim : Nat)
def rbf (ah : Int) : Nat → Nat → TT → (Nat → Int) → Nat × TT × (Nat → Int)
  | 0, k, t, r => (k, t, r)
  | f + 1, k, t, r => if t.2.2.2 = -1 ∧ t.2.2.1 ≠ 0 then (if k = 12 then (k, fal t, r) else rbf ah f (k + 1) (rsy b lim k ah t r).1 (rsy b lim k ah t r).2) else (k, t, r)
/-- behind those that were there: how many, the place, the rows -/
def rbA (ah : Int) (had : Nat) (t : TT) (r : Nat → Int) : Nat × TT × (Nat → Int) := ((rbf b lim ah (13 - had) had t r).1, (if (rbf b lim ah (13 - had) had t r).1 = had then fal (rbf b lim ah (13 - had) had t r).2.1 else (rbf b lim ah (13 - had) had t r).2.1), (rbf b lim ah (13 - had) had t r).2.2)
end
section
variable {b : Nat → Int} {lim : Nat} {t : TT} {row : Nat} {r : Nat → Int} {j : Nat}
theorem u1_out {f : Nat → Int} {i : Nat} {v : Int} (hj : j < row ∨ row + 21 ≤ j) (hi : row ≤ i ∧ i < row + 21) : av_u1 f i v j = f j := u1_ne (by omega)
theorem rsO_fr (hj : j < row ∨ row + 21 ≤ j) : (rsO b lim row t r).2 j = r j := by
  unfold rsO
  split <;> exact u1_out hj (by omega)
theorem rsW_fr (hj : j < row ∨ row + 21 ≤ j) : ∀ (n : Nat) (t : TT) (r : Nat → Int), (rsW b lim row n t r).2 j = r j := by
  intro n
  induction n with
  | zero => intro t r; rfl
  | succ n ih =>
    intro t r
    by_cases e : pkv b t 2 = -1
    · rw [rsW_e e]
    · rw [rsW_g e, ih]
      have g1 := pkv_le (b := b) (t := t) 2 4 rfl
      exact u1_out hj (by omega)
theorem rsT_fr {ah : Int} (hj : j < row ∨ row + 21 ≤ j) : (rsT b lim row ah t r).2 j = r j := by
  have e1 := rsW_fr (b := b) (lim := lim) hj 900 t r
  unfold rsT
  generalize rsW b lim row 900 t r = x at e1 ⊢
  have e2 : (rsT1 b lim row x).2 j = x.2 j := by
    unfold rsT1
    split
    · rfl
    · exact u1_out hj (by omega)
  generalize rsT1 b lim row x = y at e2 ⊢
  rw [← e1, ← e2]
  unfold rsT2
  split
  · rfl
  · exact u1_out hj (by omega)
theorem rsB0_fr (hj : j < row ∨ row + 21 ≤ j) : (rsB0 row r) j = r j := by
  unfold rsB0
  split
  · exact u1_out hj (by omega)
  · rfl
theorem rsB_fr (hj : j < row ∨ row + 21 ≤ j) : (rsB b lim row t r).2 j = r j := by
  unfold rsB
  rw [rsW_fr hj, rsB0_fr hj]
  exact u1_out hj (by omega)
theorem rsP_fr {i : Nat} {most : Int} (hi : i ≤ 2) (hj : j < row ∨ row + 21 ≤ j) : (rsP b lim row i most t r).2 j = r j := by
  unfold rsP rsP1
  split
  · exact u1_out hj (by omega)
  · exact (u1_out hj (by omega)).trans (u1_out hj (by omega))
theorem rsM_fr (hj : j < row ∨ row + 21 ≤ j) : (rsM b lim row t r).2 j = r j := by
  have e0 : (rsM0 b lim row t r).2 j = r j := by
    unfold rsM0
    rw [rsP_fr (by omega) hj]
    exact u1_out hj (by omega)
  have e3 : ∀ x : TT × (Nat → Int), (rsM3 b lim row x).2 j = x.2 j := by
    intro x
    unfold rsM3
    have p1 := rsP_fr (b := b) (lim := lim) (t := cho b lim x.1 9) (r := x.2) (i := 1) (most := 999) (by omega) hj
    generalize rsP b lim row 1 999 (cho b lim x.1 9) x.2 = y at p1 ⊢
    rw [← p1]
    have e1 : (rsM1 b lim row y).2 j = y.2 j := by
      unfold rsM1
      split
      · rfl
      · exact rsP_fr (by omega) hj
    rw [← e1]
    unfold rsM2
    split
    · rfl
    · exact u1_out hj (by omega)
  unfold rsM
  split
  · rw [e3, e0]
  · exact e0
theorem rsy_fr {k : Nat} {ah : Int} (hj : j < k * 21 ∨ k * 21 + 21 ≤ j) : (rsy b lim k ah t r).2 j = r j := by
  have e1 : (rs1 b lim k t r).2 j = r j := by
    show av_u1 (av_u1 (rs0 k r) (k * 21) (rsK b t)) (k * 21 + 1) _ j = r j
    rw [u1_out (row := k * 21) hj (by omega), u1_out (row := k * 21) hj (by omega), rs0_n (by omega)]
  unfold rsy
  generalize rsK b t = kind
  generalize rs1 b lim k t r = x at e1 ⊢
  have e2 : (rs2 b lim k kind x).2 j = x.2 j := by
    unfold rs2
    split
    · exact rsO_fr hj
    · exact rsS_fr (by omega)
  generalize rs2 b lim k kind x = y at e2 ⊢
  have e3 : (rs3 b lim k ah kind y).2 j = y.2 j := by
    unfold rs3
    split
    · exact rsT_fr hj
    · rfl
  generalize rs3 b lim k ah kind y = z at e3 ⊢
  have e4 : (rs4 b lim k kind z).2 j = z.2 j := by
    unfold rs4
    split
    · split
      · rfl
      · exact rsB_fr hj
    · rfl
  generalize rs4 b lim k kind z = u at e4 ⊢
  rw [← e1, ← e2, ← e3, ← e4]
  unfold rs5
  exact rsM_fr hj
end
/-! bounds of a row's cells -/
def VR (t : TT) (r : Nat → Int) (row : Nat) : Prop := t.2.2.2 = -1 → ∀ o, o < 21 → -1 ≤ r (row + o) ∧ r (row + o) ≤ 2000 ∧ (15 ≤ o → o < 19 → r (row + o) ≤ 16)
section
variable {b : Nat → Int} {lim : Nat} {t t' : TT} {row : Nat} {r : Nat → Int}
theorem vr_t (V : VR t r row) (e : t'.2.2.2 = -1 → t.2.2.2 = -1) : VR t' r row := fun z => V (e z)
theorem vr_u {i : Nat} {v : Int} (V : VR t r row) (o : Nat) (ei : i = row + o) (e : t.2.2.2 = -1 → -1 ≤ v ∧ v ≤ 2000 ∧ (15 ≤ o → o < 19 → v ≤ 16)) : VR t (av_u1 r i v) row := fun z q hq => by
  subst ei
  by_cases eq : q = o
  · subst eq
    rw [u1_eq]
    exact e z
  · rw [u1_ne (by omega)]
    exact V z q hq
theorem nmv_b {lo hi : Int} (h : (nmt b lim t lo hi).2.2.2 = -1) : lo ≤ nmv b t lo hi ∧ nmv b t lo hi ≤ hi := by
  have z := nmt_o h
  rw [z.2.2.2.2.1]
  exact ⟨z.2.2.1, z.2.2.2.1⟩
theorem vr_O (V : VR t r row) : VR (rsO b lim row t r).1 (rsO b lim row t r).2 row := by
  unfold rsO
  have g1 := pkv_le (b := b) (t := t) 1 2 rfl
  split
  · exact fun z => absurd ((cho_o z).1) fal_ne
  · exact vr_u (vr_t V (fun z => (cho_o z).1)) 2 rfl (fun _ => by omega)
theorem vr_S {k : Nat} {kind : Int} (V : VR t r (k * 21)) (hk : k ≤ 11) : VR (rsS b lim k kind t r).1 (rsS b lim k kind t r).2 (k * 21) := by
  unfold rsS
  split
  · next c => exact vr_u (vr_t V (fun z => z)) 3 rfl (fun _ => by have := c.1; omega)
  · exact fun z => absurd z fal_ne
theorem vr_W : ∀ (n : Nat) (t : TT) (r : Nat → Int), VR t r row → VR (rsW b lim row n t r).1 (rsW b lim row n t r).2 row := by
  intro n
  induction n with
  | zero => intro t r V; exact V
  | succ n ih =>
    intro t r V
    by_cases e : pkv b t 2 = -1
    · rw [rsW_e e]; exact V
    · rw [rsW_g e]
      have g1 := pkv_le (b := b) (t := t) 2 4 rfl
      refine ih _ _ (vr_u (vr_t V (fun z => (nmt_o z).1)) (10 + (pkv b t 2).toNat) (by omega) (fun z => ?_))
      have := nmv_b z
      omega
theorem vr_T {ah : Int} (ha : ah ≤ 16) (V : VR t r row) : VR (rsT b lim row ah t r).1 (rsT b lim row ah t r).2 row := by
  have e1 := vr_W (b := b) (lim := lim) (row := row) 900 t r V
  unfold rsT
  generalize rsW b lim row 900 t r = x at e1 ⊢
  have e2 : VR (rsT1 b lim row x).1 (rsT1 b lim row x).2 row := by
    unfold rsT1
    split
    · exact e1
    · exact vr_u (vr_t e1 (fun z => (nmt_o z).1)) 5 rfl (fun z => by have := nmv_b z; omega)
  generalize rsT1 b lim row x = y at e2 ⊢
  unfold rsT2
  split
  · exact e2
  · exact vr_u (vr_t e2 (fun z => (nmt_o z).1)) 6 rfl (fun z => by have := nmv_b z; omega)
theorem vr_B (V : VR t r row) (hr : t.2.2.2 = -1 → 0 ≤ r (row + 3) → r (row + 3) < 12 → -1 ≤ r ((r (row + 3)).toNat * 21 + 1) ∧ r ((r (row + 3)).toNat * 21 + 1) ≤ 2000) : VR (rsB b lim row t r).1 (rsB b lim row t r).2 row := by
  unfold rsB
  refine vr_W 900 _ _ ?_
  have V1 : VR t (av_u1 r row 3) row := vr_u V 0 rfl (fun _ => by omega)
  have V2 : VR t (rsB0 row (av_u1 r row 3)) row := by
    unfold rsB0
    rw [u1_ne (show row + 3 ≠ row by omega)]
    split
    · next c =>
      refine vr_u V1 2 rfl (fun z => ?_)
      by_cases e : (r (row + 3)).toNat * 21 + 1 = row
      · rw [e, u1_eq]
        omega
      · rw [u1_ne e]
        have := hr z c.1 c.2
        omega
    · exact V1
  split
  · exact fun z => absurd z fal_ne
  · exact V2
theorem vr_P {i : Nat} {most : Int} (hi : i ≤ 2) (hm : most ≤ 1999) (V : VR t r row) : VR (rsP b lim row i most t r).1 (rsP b lim row i most t r).2 row := by
  have V1 : VR (nmt b lim t 0 most) (av_u1 r (row + 7 + i) (nmv b t 0 most)) row := vr_u (vr_t V (fun z => (nmt_o z).1)) (7 + i) (by omega) (fun z => by have := nmv_b z; omega)
  unfold rsP
  generalize nmt b lim t 0 most = t1 at V1 ⊢
  generalize nmv b t 0 most = v at V1 ⊢
  generalize av_u1 r (row + 7 + i) v = r1 at V1 ⊢
  unfold rsP1
  split
  · exact V1
  · refine vr_u (vr_t V1 (fun z => (nmt_o z).1)) (15 + i) (by omega) (fun z => ?_)
    have h1 := nmv_b z
    have h2 : mn2 most (v + 15) ≤ v + 15 := by unfold mn2; split <;> omega
    omega
theorem vr_M (V : VR t r row) : VR (rsM b lim row t r).1 (rsM b lim row t r).2 row := by
  have g1 := pkv_le (b := b) (t := t) 6 3 rfl
  have e0 : VR (rsM0 b lim row t r).1 (rsM0 b lim row t r).2 row := by
    unfold rsM0
    refine vr_P (by omega) (by omega) ?_
    exact vr_u (vr_t V (fun z => (cho_o (cho_o z).1).1)) 4 rfl (fun _ => by omega)
  have e3 : ∀ x : TT × (Nat → Int), VR x.1 x.2 row → VR (rsM3 b lim row x).1 (rsM3 b lim row x).2 row := by
    intro x V
    unfold rsM3
    have p1 : VR (rsP b lim row 1 999 (cho b lim x.1 9) x.2).1 (rsP b lim row 1 999 (cho b lim x.1 9) x.2).2 row := vr_P (by omega) (by omega) (vr_t V (fun z => (cho_o z).1))
    generalize rsP b lim row 1 999 (cho b lim x.1 9) x.2 = y at p1 ⊢
    have e1 : VR (rsM1 b lim row y).1 (rsM1 b lim row y).2 row := by
      unfold rsM1
      split
      · exact p1
      · exact vr_P (by omega) (by omega) (vr_t p1 (fun z => z))
    generalize rsM1 b lim row y = u at e1 ⊢
    unfold rsM2
    split
    · exact e1
    · exact vr_u (vr_t e1 (fun z => z)) 18 rfl (fun _ => by omega)
  unfold rsM
  split
  · exact e3 _ e0
  · exact e0
theorem vr_y {k : Nat} {ah : Int} (hk : k ≤ 11) (ha : ah ≤ 16) (hr : ∀ q : Nat, q < k → -1 ≤ r (q * 21 + 1) ∧ r (q * 21 + 1) ≤ 2000) : VR (rsy b lim k ah t r).1 (rsy b lim k ah t r).2 (k * 21) := by
  have g0 := pkv_le (b := b) (t := t) 0 6 rfl
  have e1 : VR (rs1 b lim k t r).1 (rs1 b lim k t r).2 (k * 21) ∧ ∀ j, j < k * 21 → (rs1 b lim k t r).2 j = r j := by
    have g1 := pkv_le (b := b) (t := cho b lim t 0) 1 2 rfl
    have g2 : -1 ≤ rsK b t ∧ rsK b t ≤ 7 := by unfold rsK; split <;> omega
    constructor
    · refine vr_u (vr_u (fun _ o ho => ?_) 0 rfl (fun _ => by omega)) 1 rfl (fun _ => by omega)
      rw [rs0_v ho]
      split <;> omega
    · intro j hj
      show av_u1 (av_u1 (rs0 k r) (k * 21) (rsK b t)) (k * 21 + 1) _ j = r j
      rw [u1_ne (by omega), u1_ne (by omega), rs0_n (by omega)]
  unfold rsy
  generalize rsK b t = kind
  generalize rs1 b lim k t r = x at e1 ⊢
  have e2 : VR (rs2 b lim k kind x).1 (rs2 b lim k kind x).2 (k * 21) ∧ (∀ j, j < k * 21 → (rs2 b lim k kind x).2 j = r j) ∧ (kind = 2 → (rs2 b lim k kind x).1.2.2.2 = -1 → (rs2 b lim k kind x).2 (k * 21 + 3) < k) := by
    unfold rs2
    split
    · next c => exact ⟨vr_O e1.1, fun j hj => (rsO_fr (by omega)).trans (e1.2 j hj), fun h => by omega⟩
    · refine ⟨vr_S e1.1 hk, fun j hj => (rsS_fr (by omega)).trans (e1.2 j hj), fun _ zz => ?_⟩
      have o1 := rsS_o zz
      rw [o1.2.2.2]
      show av_u1 x.2 (k * 21 + 3) (vlv b x.1) (k * 21 + 3) < k
      rw [u1_eq]
      exact o1.2.2.1
  generalize rs2 b lim k kind x = y at e2 ⊢
  have e3 : VR (rs3 b lim k ah kind y).1 (rs3 b lim k ah kind y).2 (k * 21) ∧ (∀ j, j < k * 21 → (rs3 b lim k ah kind y).2 j = r j) ∧ (kind = 2 → (rs3 b lim k ah kind y).1.2.2.2 = -1 → (rs3 b lim k ah kind y).2 (k * 21 + 3) < k) := by
    unfold rs3
    split
    · exact ⟨vr_T ha e2.1, fun j hj => (rsT_fr (by omega)).trans (e2.2.1 j hj), fun h => by omega⟩
    · exact e2
  generalize rs3 b lim k ah kind y = z at e3 ⊢
  have e4 : VR (rs4 b lim k kind z).1 (rs4 b lim k kind z).2 (k * 21) := by
    unfold rs4
    split
    · next c =>
      split
      · exact e3.1
      · refine vr_B (vr_t e3.1 (fun z => z)) (fun zz h1 h2 => ?_)
        have h3 := e3.2.2 c zz
        rw [e3.2.1 _ (by omega)]
        exact hr _ (by omega)
    · exact e3.1
  generalize rs4 b lim k kind z = u at e4 ⊢
  unfold rs5
  exact vr_t (vr_M e4) (fun z => sem_o z)
end
/-- what a saying says of another: one ahead of it -/
theorem rsW_in {b : Nat → Int} {lim row j : Nat} (hj : j < row + 10 ∨ row + 15 ≤ j) : ∀ (n : Nat) (t : TT) (r : Nat → Int), (rsW b lim row n t r).2 j = r j := by
  intro n
  induction n with
  | zero => intro t r; rfl
  | succ n ih =>
    intro t r
    by_cases e : pkv b t 2 = -1
    · rw [rsW_e e]
    · rw [rsW_g e, ih]
      have g1 := pkv_le (b := b) (t := t) 2 4 rfl
      exact u1_ne (by omega)
theorem rsP_in {b : Nat → Int} {lim row i j : Nat} {most : Int} {t : TT} {r : Nat → Int} (h1 : j ≠ row + 7 + i) (h2 : j ≠ row + 15 + i) : (rsP b lim row i most t r).2 j = r j := by
  unfold rsP rsP1
  split
  · exact u1_ne h1
  · exact (u1_ne h2).trans (u1_ne h1)
theorem rsM_in {b : Nat → Int} {lim row j : Nat} {t : TT} {r : Nat → Int} (hj : j < row + 4) : (rsM b lim row t r).2 j = r j := by
  have e0 : (rsM0 b lim row t r).2 j = r j := by
    unfold rsM0
    rw [rsP_in (by omega) (by omega)]
    exact u1_ne (by omega)
  have e3 : ∀ x : TT × (Nat → Int), (rsM3 b lim row x).2 j = x.2 j := by
    intro x
    unfold rsM3
    have p1 := rsP_in (b := b) (lim := lim) (row := row) (t := cho b lim x.1 9) (r := x.2) (i := 1) (most := 999) (j := j) (by omega) (by omega)
    generalize rsP b lim row 1 999 (cho b lim x.1 9) x.2 = y at p1 ⊢
    rw [← p1]
    have e1 : (rsM1 b lim row y).2 j = y.2 j := by
      unfold rsM1
      split
      · rfl
      · exact rsP_in (by omega) (by omega)
    rw [← e1]
    unfold rsM2
    split
    · rfl
    · exact u1_ne (by omega)
  unfold rsM
  split
  · rw [e3, e0]
  · exact e0
theorem rsM_ok {b : Nat → Int} {lim row : Nat} {t : TT} {r : Nat → Int} (h : (rsM b lim row t r).1.2.2.2 = -1) : t.2.2.2 = -1 := by
  by_cases e : t.2.2.2 = -1
  · exact e
  · rw [rsM_w e] at h
    exact absurd h e
theorem rsB_ok {b : Nat → Int} {lim row : Nat} {t : TT} {r : Nat → Int} (h : (rsB b lim row t r).1.2.2.2 = -1) : t.2.2.2 = -1 := by
  by_cases e : t.2.2.2 = -1
  · exact e
  · rw [rsB_w e] at h
    exact absurd h e
theorem rsB_in {b : Nat → Int} {lim row : Nat} {t : TT} {r : Nat → Int} : (rsB b lim row t r).2 (row + 3) = r (row + 3) := by
  unfold rsB
  rw [rsW_in (by omega)]
  unfold rsB0
  split
  · exact (u1_ne (by omega)).trans (u1_ne (by omega))
  · exact u1_ne (by omega)
theorem adv_w {b : Nat → Int} {lim : Nat} {t : TT} : (adv b lim t).2.2.2 = t.2.2.2 := rfl
theorem rs4_in {b : Nat → Int} {lim k : Nat} {kind : Int} {y : TT × (Nat → Int)} (h : (rs4 b lim k kind y).1.2.2.2 = -1) : y.1.2.2.2 = -1 ∧ (rs4 b lim k kind y).2 (k * 21 + 3) = y.2 (k * 21 + 3) := by
  obtain ⟨t, r⟩ := y
  by_cases c1 : kind = 2
  · by_cases c2 : pkv b t 5 = -1
    · have e : rs4 b lim k kind (t, r) = (t, r) := by
        unfold rs4
        rw [if_pos c1, if_pos c2]
      rw [e] at h ⊢
      exact ⟨h, rfl⟩
    · have e : rs4 b lim k kind (t, r) = rsB b lim (k * 21) (adv b lim t) r := by
        unfold rs4
        rw [if_pos c1, if_neg c2]
      rw [e] at h ⊢
      have h1 := rsB_ok h
      rw [adv_w] at h1
      exact ⟨h1, rsB_in⟩
  · have e : rs4 b lim k kind (t, r) = (t, r) := by
      unfold rs4
      rw [if_neg c1]
    rw [e] at h ⊢
    exact ⟨h, rfl⟩
theorem rsy_sd {b : Nat → Int} {lim k : Nat} {ah : Int} {t : TT} {r : Nat → Int} (h : (rsy b lim k ah t r).1.2.2.2 = -1) (h2 : 2 ≤ (rsy b lim k ah t r).2 (k * 21)) : 0 ≤ (rsy b lim k ah t r).2 (k * 21 + 3) ∧ (rsy b lim k ah t r).2 (k * 21 + 3) < k := by
  have e1 : (rs1 b lim k t r).2 (k * 21) = rsK b t := by
    show av_u1 (av_u1 (rs0 k r) (k * 21) (rsK b t)) (k * 21 + 1) _ (k * 21) = _
    rw [u1_ne (by omega), u1_eq]
  unfold rsy at h h2 ⊢
  generalize rsK b t = kind at e1 h h2 ⊢
  generalize rs1 b lim k t r = x at e1 h h2 ⊢
  have h5 : ∀ u : TT × (Nat → Int), (rs5 b lim k u).1.2.2.2 = -1 → u.1.2.2.2 = -1 := fun u z => rsM_ok (sem_o z)
  have i5 : ∀ (u : TT × (Nat → Int)) (j : Nat), j < k * 21 + 4 → (rs5 b lim k u).2 j = u.2 j := fun u j hj => rsM_in hj
  rw [i5 _ _ (by omega)] at h2
  rw [i5 _ _ (by omega)]
  have h := h5 _ h
  by_cases c : kind = 0 ∨ kind = 1
  · exfalso
    have e2 : (rs2 b lim k kind x).2 (k * 21) = kind := by
      unfold rs2
      rw [if_pos c]
      unfold rsO
      split <;> exact (u1_ne (by omega)).trans e1
    have e3 : (rs3 b lim k ah kind (rs2 b lim k kind x)).2 (k * 21) = kind := by
      unfold rs3
      split
      · unfold rsT rsT2 rsT1
        have w := rsW_in (b := b) (lim := lim) (row := k * 21) (j := k * 21) (by omega) 900 (rs2 b lim k kind x).1 (rs2 b lim k kind x).2
        generalize rsW b lim (k * 21) 900 (rs2 b lim k kind x).1 (rs2 b lim k kind x).2 = y at w ⊢
        (repeat' split) <;> first | exact w.trans e2 | exact (u1_ne (by omega)).trans (w.trans e2) | exact (u1_ne (by omega)).trans ((u1_ne (by omega)).trans (w.trans e2))
      · exact e2
    have e4 : rs4 b lim k kind (rs3 b lim k ah kind (rs2 b lim k kind x)) = rs3 b lim k ah kind (rs2 b lim k kind x) := by
      unfold rs4
      rw [if_neg (by omega)]
    rw [e4, e3] at h2
    omega
  · have e3 : rs3 b lim k ah kind (rs2 b lim k kind x) = rs2 b lim k kind x := by
      unfold rs3
      rw [if_neg (by omega)]
    rw [e3] at h h2 ⊢
    have e2 : rs2 b lim k kind x = rsS b lim k kind x.1 x.2 := by
      unfold rs2
      rw [if_neg c]
    rw [e2] at h h2 ⊢
    have h4 := rs4_in h
    have o1 := rsS_o h4.1
    have o2 : (rsS b lim k kind x.1 x.2).2 (k * 21 + 3) = vlv b x.1 := by
      rw [o1.2.2.2]
      exact u1_eq
    rw [h4.2, o2]
    exact ⟨o1.2.1, o1.2.2.1⟩
def SD (s : Nat) (f : Nat → Int) : Prop := ∀ k, k < s → 2 ≤ f (k * 21) → 0 ≤ f (k * 21 + 3) ∧ f (k * 21 + 3) < k
/-! the loop over sayings -/
def VA (n : Nat) (r : Nat → Int) : Prop := ∀ j, j < n * 21 → -1 ≤ r j ∧ r j ≤ 100000 ∧ (15 ≤ j % 21 → j % 21 < 19 → r j ≤ 16) ∧ (j % 21 ≠ 20 → r j ≤ 2000)
section
variable {b : Nat → Int} {lim : Nat} {ah : Int}
theorem va_s {n : Nat} {r r' : Nat → Int} (V : VA n r) (e : ∀ j, j < n * 21 → r' j = r j) (w : ∀ o, o < 21 → -1 ≤ r' (n * 21 + o) ∧ r' (n * 21 + o) ≤ 2000 ∧ (15 ≤ o → o < 19 → r' (n * 21 + o) ≤ 16)) : VA (n + 1) r' := by
  intro j hj
  by_cases c : j < n * 21
  · rw [e j c]; exact V j c
  · have h1 := w (j - n * 21) (by omega)
    rw [show n * 21 + (j - n * 21) = j by omega] at h1
    refine ⟨h1.1, by omega, fun h2 h3 => h1.2.2 (by omega) (by omega), fun _ => h1.2.1⟩
theorem rbf_p (ha : ah ≤ 16) : ∀ (f k : Nat) (t : TT) (r : Nat → Int), k ≤ 12 → (t.2.2.2 = -1 → ∀ q : Nat, q < k → -1 ≤ r (q * 21 + 1) ∧ r (q * 21 + 1) ≤ 2000) → k ≤ (rbf b lim ah f k t r).1 ∧ (rbf b lim ah f k t r).1 ≤ 12 ∧ (∀ j, j < k * 21 ∨ 252 ≤ j → (rbf b lim ah f k t r).2.2 j = r j) ∧ ((rbf b lim ah f k t r).2.1.2.2.2 = -1 → t.2.2.2 = -1 ∧ (VA k r → VA (rbf b lim ah f k t r).1 (rbf b lim ah f k t r).2.2) ∧ (SD k r → SD (rbf b lim ah f k t r).1 (rbf b lim ah f k t r).2.2)) := by
  intro f
  induction f with
  | zero => intro k t r hk _; exact ⟨Nat.le_refl k, hk, fun _ _ => rfl, fun z => ⟨z, fun V => V, fun V => V⟩⟩
  | succ f ih =>
    intro k t r hk hq
    unfold rbf
    split
    · next c =>
      split
      · exact ⟨Nat.le_refl k, hk, fun _ _ => rfl, fun z => absurd z fal_ne⟩
      · have v := vr_y (b := b) (lim := lim) (t := t) (r := r) (k := k) (ah := ah) (by omega) ha (hq c.1)
        have fr : ∀ j, (j < k * 21 ∨ k * 21 + 21 ≤ j) → (rsy b lim k ah t r).2 j = r j := fun j hj => rsy_fr hj
        have i1 := ih (k + 1) (rsy b lim k ah t r).1 (rsy b lim k ah t r).2 (by omega) (fun z q h => by
          by_cases e : q < k
          · rw [fr _ (by omega)]; exact hq c.1 q e
          · have h1 := v z 1 (by omega)
            rw [show q = k by omega]
            exact ⟨h1.1, h1.2.1⟩)
        refine ⟨by omega, i1.2.1, fun j hj => (i1.2.2.1 j (by omega)).trans (fr j (by omega)), fun z => ?_⟩
        have i2 := i1.2.2.2 z
        refine ⟨c.1, fun V => i2.2.1 (va_s V (fun j hj => fr j (by omega)) (v i2.1)), fun V => i2.2.2 (fun q hq h2 => ?_)⟩
        by_cases e : q < k
        · have f1 := fr (q * 21) (by omega)
          have f2 := fr (q * 21 + 3) (by omega)
          rw [f1] at h2
          rw [f2]
          exact V q e h2
        · have e : q = k := by omega
          subst e
          exact rsy_sd i2.1 h2
    · exact ⟨Nat.le_refl k, hk, fun _ _ => rfl, fun z => ⟨z, fun V => V, fun V => V⟩⟩
end
end
section
/-! WHAT IS MADE NEW: rows, cases -/
section
variable {sc : av_Sr} {cd : List (Nat × av_E)} {Q : Option av_V → av_H → Prop} {pc p' : Nat} {lv : av_L} {r : List av_V} {h : av_H}
theorem wq_cl {ins : Instr} {o n : Nat} (hx : cd.lookup pc = some (av_qa ins 1004)) (hp : pc + 3 = p') (hkd : av_kd (av_qa ins 1004) = 0) (hs : ∀ lv st, av_stp sc (av_qa ins 1004) pc lv st h = av_lib 1004 pc lv st h) (hr : Nat.ble (r.map av_cat).sum 8 = true) (hk : hK h o = (20, n)) (hw : av_wp sc cd p' lv (.inr (.inr (.inl (some h.1))) :: r) (av_newN 20 n (hA h o) h) Q) : av_wp sc cd pc lv (.inr (.inr (.inl (some o))) :: r) h Q := by
  intro hg
  subst hp
  refine av_wp_st1 hx (pc' := pc + 3) (lv' := lv) (st' := .inr (.inr (.inl (some h.1))) :: r) (h' := av_newN 20 n (hA h o) h) hkd ?_ hw hg
  rw [hs]
  have k1 : (h.2.2.1 o).1 = 20 := by rw [show h.2.2.1 o = (20, n) from hk]
  have k2 : (h.2.2.1 o).2 = n := by rw [show h.2.2.1 o = (20, n) from hk]
  simp only [av_lib]
  rw [k2, if_pos ⟨Nat.le_of_ble_eq_true hr, av_ltN hg k1 rfl, k1⟩]
theorem wq_ck {idx o n : Nat} (hx : cd.lookup pc = some (av_q (.checkcast idx))) (hp : pc + 3 = p') (hk : hK h o = (20, n)) (hw : av_wp sc cd p' lv (.inr (.inr (.inl (some o))) :: r) h Q) : av_wp sc cd pc lv (.inr (.inr (.inl (some o))) :: r) h Q := by
  intro hg
  subst hp
  refine av_wp_st1 hx (pc' := pc + 3) (lv' := lv) (st' := .inr (.inr (.inl (some o))) :: r) (h' := h) rfl ?_ hw hg
  have k1 : (h.2.2.1 o).1 = 20 := by rw [show h.2.2.1 o = (20, n) from hk]
  show (if o < h.1 ∧ (h.2.2.1 o).1 = 20 then some (pc + 3, lv, .inr (.inr (.inl (some o))) :: r, h) else none) = _
  rw [if_pos ⟨av_ltN hg k1 rfl, k1⟩]
theorem wq_na {m : Nat} {x : Int} (hx : cd.lookup pc = some (av_q (.newarray .int))) (hp : pc + 2 = p') (ex : x = (m : Int)) (hm : m ≤ 100000) (hw : av_wp sc cd p' lv (.inr (.inr (.inl (some h.1))) :: r) (av_newN 20 m (fun _ => 0) h) Q) : av_wp sc cd pc lv (.inl x :: r) h Q := by
  subst hp
  subst ex
  refine av_wp_st1 hx (pc' := pc + 2) (lv' := lv) (st' := .inr (.inr (.inl (some h.1))) :: r) (h' := av_newN 20 m (fun _ => 0) h) rfl ?_ hw
  show av_newa .int pc lv (.inl (m : Int) :: r) h = _
  simp only [av_newa]
  rw [av_rgw (x := (m : Int)) ⟨by omega, by omega⟩, if_pos ⟨by decide, by omega, by omega⟩]
  rfl
end
theorem newN_k {k n : Nat} {f : Nat → Int} {h : av_H} : hK (av_newN k n f h) h.1 = (k, n) := if_pos rfl
theorem newN_ko {k n q : Nat} {f : Nat → Int} {h : av_H} (e : q ≠ h.1) : hK (av_newN k n f h) q = hK h q := if_neg e
theorem newN_a {k n : Nat} {f : Nat → Int} {h : av_H} : hA (av_newN k n f h) h.1 = f := if_pos rfl
theorem newN_ao {k n q : Nat} {f : Nat → Int} {h : av_H} (e : q ≠ h.1) : hA (av_newN k n f h) q = hA h q := if_neg e
set_option maxRecDepth 100000 in
set_option maxHeartbeats 4000000 in
theorem ct_222 {h : av_H} {a n m : Nat} (ha : a ≠ h.1) (hk : hK h a = (20, n)) (hm : m ≤ n) (hn : n ≤ 100000) (x : Int) (ex : x = (m : Int)) {Q : Option av_V → av_H → Prop} (hq : ∀ f : Nat → Int, (∀ j, j < m → f j = hA h a j) → (∀ j, m ≤ j → f j = 0 ∨ (m = n ∧ f j = hA h a j)) → Q (some (.inr (.inr (.inl (some h.1))))) (av_newN 20 m f h)) : av_wp none cd_222 0 [some (.inr (.inr (.inl (some a)))), some (.inl x), none] [] h Q := by
  subst ex
  refine av_wp_sqF ck_222 2 (pc' := 2) (lv' := [some (.inr (.inr (.inl (some a)))), some (.inl (m : Int)), none]) (st' := [.inr (.inr (.inl (some a))), .inl (m : Int)]) (h' := h) rfl ?_
  refine wq_ln (p' := 3) (ck_222 _ _ rfl) rfl hk (by simp) ?_
  refine wq_k2 (p' := 6) (ck_222 _ _ rfl) rfl ⟨by omega, by omega⟩ ⟨by omega, by omega⟩ (fun c1 => ?_) (fun c2 => ?_)
  · have c1 : (m : Int) ≠ (n : Int) := c1
    refine av_wp_sqF ck_222 1 (pc' := 15) (lv' := [some (.inr (.inr (.inl (some a)))), some (.inl (m : Int)), none]) (st' := [.inl (m : Int)]) (h' := h) rfl ?_
    refine wq_na (p' := 17) (m := m) (ck_222 _ _ rfl) rfl rfl (by omega) ?_
    have ka : hK (av_newN 20 m (fun _ => 0) h) a = (20, n) := (newN_ko ha).trans hk
    have aa : hA (av_newN 20 m (fun _ => 0) h) a = hA h a := newN_ao ha
    have kc : hK (av_newN 20 m (fun _ => 0) h) h.1 = (20, m) := newN_k
    refine av_wp_sqF ck_222 6 (pc' := 23) (lv' := [some (.inr (.inr (.inl (some a)))), some (.inl (m : Int)), some (.inr (.inr (.inl (some h.1))))]) (st' := [.inr (.inr (.inl (some a))), .inl (0), .inr (.inr (.inl (some h.1))), .inl (0), .inr (.inr (.inl (some a)))]) (h' := av_newN 20 m (fun _ => 0) h) rfl ?_
    refine wq_ln (p' := 24) (ck_222 _ _ rfl) rfl ka (by simp) ?_
    refine av_wp_sqF ck_222 1 (pc' := 25) (lv' := [some (.inr (.inr (.inl (some a)))), some (.inl (m : Int)), some (.inr (.inr (.inl (some h.1))))]) (st' := [.inl (m : Int), .inl (n : Int), .inl (0), .inr (.inr (.inl (some h.1))), .inl (0), .inr (.inr (.inl (some a)))]) (h' := av_newN 20 m (fun _ => 0) h) rfl ?_
    refine wq_mne (p' := 28) (ck_222 _ _ rfl) rfl rfl (fun _ _ => rfl) rfl ⟨by omega, by omega⟩ ⟨by omega, by omega⟩ ?_
    rw [if_pos (show (m : Int) < (n : Int) by omega)]
    refine wq_ac (p' := 31) (ck_222 _ _ rfl) rfl rfl (fun _ _ => rfl) rfl kc ka (by omega) (by omega) (by omega) (by omega) ?_
    rw [aa]
    refine av_wp_sqF ck_222 1 (pc' := 32) (lv' := [some (.inr (.inr (.inl (some a)))), some (.inl (m : Int)), some (.inr (.inr (.inl (some h.1))))]) (st' := [.inr (.inr (.inl (some h.1)))]) (h' := hcp (av_newN 20 m (fun _ => 0) h) h.1 (0 : Int).toNat (0 : Int).toNat (m : Int).toNat (hA h a)) rfl ?_
    refine av_wp_ret (v := some (.inr (.inr (.inl (some h.1))))) rfl rfl rfl ?_
    have e : hcp (av_newN 20 m (fun _ => 0) h) h.1 (0 : Int).toNat (0 : Int).toNat (m : Int).toNat (hA h a) = av_newN 20 m (fun j => if j < m then hA h a j else 0) h := by
      unfold hcp av_newN
      have e1 : av_cpy (av_u1 h.2.2.2.1 h.1 (fun _ => 0)) h.1 (0 : Int).toNat (0 : Int).toNat (m : Int).toNat (hA h a) = av_u1 h.2.2.2.1 h.1 (fun j => if j < m then hA h a j else 0) := by
        funext q j
        unfold av_cpy av_u1
        by_cases e2 : q = h.1
        · rw [if_pos e2, if_pos e2]
          by_cases e3 : j < m
          · rw [if_pos ⟨e2, by omega, by omega⟩, if_pos e3]
            show hA h a (0 + (j - 0)) = _
            rw [show 0 + (j - 0) = j by omega]
          · rw [if_neg (fun z => by have := z.2.2; omega), if_neg e3]
        · rw [if_neg (fun z => e2 z.1), if_neg e2, if_neg e2]
      exact congrArg (fun A => ((h.1 + 1, h.2.1 + m, av_u1 h.2.2.1 h.1 (20, m), A, h.2.2.2.2) : av_H)) e1
    rw [e]
    exact hq _ (fun j hj => if_pos hj) (fun j hj => Or.inl (if_neg (by omega)))
  · have c2 : (m : Int) = (n : Int) := c2
    have c2 : m = n := by omega
    subst c2
    refine av_wp_sqF ck_222 1 (pc' := 7) (lv' := [some (.inr (.inr (.inl (some a)))), some (.inl (m : Int)), none]) (st' := [.inr (.inr (.inl (some a)))]) (h' := h) rfl ?_
    refine wq_cl (p' := 10) (ck_222 _ _ rfl) rfl rfl (fun _ _ => rfl) rfl hk ?_
    refine wq_ck (p' := 13) (ck_222 _ _ rfl) rfl newN_k ?_
    refine av_wp_ret (v := some (.inr (.inr (.inl (some h.1))))) rfl rfl rfl ?_
    exact hq _ (fun j _ => rfl) (fun j _ => Or.inr ⟨rfl, rfl⟩)
/-! a case in the making: over the heap g that has its object t already -/
def NC (g : av_H) (t s : Nat) (f : Nat → Int) (x1 x3 : Int) (h : av_H) : Prop := h.1 = g.1 + 1 ∧ h.2.1 = g.2.1 + 21 * s ∧ hK h = av_u1 (hK g) g.1 (20, 21 * s) ∧ hA h = av_u1 (hA g) g.1 f ∧ hR h = hR g ∧ hG h = av_u2 (hG g) t 0 (some g.1) ∧ (∀ q k, q ≠ t → hF h q k = hF g q k) ∧ hF h t 1 = x1 ∧ hF h t 3 = x3 ∧ hK g t = (1, 0) ∧ t ≠ g.1
section
variable {g h : av_H} {t s : Nat} {f : Nat → Int} {x1 x3 : Int}
theorem nc_kt (N : NC g t s f x1 x3 h) : hK h t = (1, 0) := by
  rw [N.2.2.1]
  exact (if_neg N.2.2.2.2.2.2.2.2.2.2).trans N.2.2.2.2.2.2.2.2.2.1
theorem nc_kc (N : NC g t s f x1 x3 h) : hK h g.1 = (20, 21 * s) := by
  rw [N.2.2.1]
  exact if_pos rfl
theorem nc_g (N : NC g t s f x1 x3 h) : hG h t 0 = some g.1 := by
  rw [N.2.2.2.2.2.1]
  exact av_u2_self
theorem nc_a (N : NC g t s f x1 x3 h) : hA h g.1 = f := by
  rw [N.2.2.2.1]
  exact if_pos rfl
theorem nc_wA {j : Nat} {v : Int} (N : NC g t s f x1 x3 h) : NC g t s (av_u1 f j v) x1 x3 (hwA h g.1 j v) := by
  obtain ⟨n1, n2, n3, n4, n5, n6, n7⟩ := N
  refine ⟨n1, n2, n3, ?_, n5, n6, n7⟩
  funext q k
  show av_u2 h.2.2.2.1 g.1 j v q k = av_u1 (hA g) g.1 (av_u1 f j v) q k
  have e : h.2.2.2.1 = av_u1 (hA g) g.1 f := n4
  rw [e]
  unfold av_u2 av_u1
  by_cases e1 : q = g.1
  · by_cases e2 : k = j
    · rw [if_pos ⟨e1, e2⟩, if_pos e1, if_pos e2]
    · rw [if_neg (fun z => e2 z.2), if_pos e1, if_pos e1, if_neg e2]
  · rw [if_neg (fun z => e1 z.1), if_neg e1, if_neg e1]
theorem nc_wF {k : Nat} {v : Int} (N : NC g t s f x1 x3 h) : NC g t s f (if k = 1 then v else x1) (if k = 3 then v else x3) (hwF h t k v) := by
  obtain ⟨n1, n2, n3, n4, n5, n6, n7, n8, n9, n10⟩ := N
  refine ⟨n1, n2, n3, n4, n5, n6, fun q j hq => ?_, ?_, ?_, n10⟩
  · show av_u2 h.2.2.2.2.1 t k v q j = _
    rw [av_u2_ne hq]
    exact n7 q j hq
  · by_cases e : k = 1
    · subst e; rw [if_pos rfl]; exact hF_self
    · rw [if_neg e]; exact (hF_oth (Ne.symm e)).trans n8
  · by_cases e : k = 3
    · subst e; rw [if_pos rfl]; exact hF_self
    · rw [if_neg e]; exact (hF_oth (Ne.symm e)).trans n9
end
/-- by how many a saying may be, a case's combos -/
def mx1 (x : Int) : Int := if x < 1 then 1 else x
def tnv (f : Nat → Int) (k : Nat) : Int := 1 * mx1 (f (21 * k + 15)) * mx1 (f (21 * k + 16)) * mx1 (f (21 * k + 17)) * mx1 (f (21 * k + 18))
def cbf (f : Nat → Int) : Nat → Int
  | 0 => 1
  | k + 1 => mn2 (cbf f k * tnv f k) 1025
def cbv (f : Nat → Int) (s : Nat) : Int := if 1024 < cbf f s then -1 else cbf f s
/-- the cells with the first k sayings' turns set -/
def ctn (f : Nat → Int) (k : Nat) : Nat → Int := fun j => if j % 21 = 20 ∧ j < 21 * k then tnv f (j / 21) else f j
theorem mx1_b {x : Int} (h : x ≤ 16) : 1 ≤ mx1 x ∧ mx1 x ≤ 16 := by
  unfold mx1
  split <;> omega
theorem mul_b {x y a c : Int} (hx : 1 ≤ x ∧ x ≤ a) (hy : 1 ≤ y ∧ y ≤ c) : 1 ≤ x * y ∧ x * y ≤ a * c := by
  have h1 : 1 * 1 ≤ x * y := Int.mul_le_mul hx.1 hy.1 (by omega) (by omega)
  have h2 : x * y ≤ a * c := Int.mul_le_mul hx.2 hy.2 (by omega) (by omega)
  omega
theorem tnv_b {f : Nat → Int} {k : Nat} (h : ∀ o, 15 ≤ o → o < 19 → f (21 * k + o) ≤ 16) : 1 ≤ tnv f k ∧ tnv f k ≤ 65536 := by
  unfold tnv
  have h0 := mx1_b (h 15 (by omega) (by omega))
  have h1 := mx1_b (h 16 (by omega) (by omega))
  have h2 := mx1_b (h 17 (by omega) (by omega))
  have h3 := mx1_b (h 18 (by omega) (by omega))
  have a1 := mul_b (x := 1) (a := 1) (by omega) h0
  have a2 := mul_b a1 h1
  have a3 := mul_b a2 h2
  have a4 := mul_b a3 h3
  omega
theorem cbf_b {f : Nat → Int} : ∀ k : Nat, (∀ q, q < k → ∀ o, 15 ≤ o → o < 19 → f (21 * q + o) ≤ 16) → 1 ≤ cbf f k ∧ cbf f k ≤ 1025 := by
  intro k
  induction k with
  | zero => intro _; show (1 : Int) ≤ 1 ∧ (1 : Int) ≤ 1025; omega
  | succ k ih =>
    intro h
    have i1 := ih (fun q hq => h q (by omega))
    have i2 := mul_b i1 (tnv_b (h k (by omega)))
    show 1 ≤ mn2 (cbf f k * tnv f k) 1025 ∧ mn2 (cbf f k * tnv f k) 1025 ≤ 1025
    unfold mn2
    split <;> omega
theorem cbv_b {f : Nat → Int} {s : Nat} (h : ∀ q, q < s → ∀ o, 15 ≤ o → o < 19 → f (21 * q + o) ≤ 16) : -1 ≤ cbv f s ∧ cbv f s ≤ 1024 := by
  have := cbf_b s h
  unfold cbv
  split <;> omega
theorem ctn_s {f : Nat → Int} {k : Nat} : av_u1 (ctn f k) (21 * k + 20) (tnv f k) = ctn f (k + 1) := by
  funext j
  unfold av_u1 ctn
  by_cases e : j = 21 * k + 20
  · rw [if_pos e, if_pos (by omega), show j / 21 = k by omega]
  · rw [if_neg e]
    by_cases c : j % 21 = 20 ∧ j < 21 * k
    · rw [if_pos c, if_pos (by omega)]
    · rw [if_neg c, if_neg (by omega)]
theorem ctn_o {f : Nat → Int} {k j : Nat} (h : j % 21 ≠ 20) : ctn f k j = f j := if_neg (fun z => h z.1)
theorem ctn_0 {f : Nat → Int} : ctn f 0 = f := by
  funext j
  exact if_neg (by omega)
end
section
/-! A NEW CASE, exactly -/
set_option maxRecDepth 100000 in
set_option maxHeartbeats 4000000 in
theorem ct_27 {h : av_H} {t a n s : Nat} (ht : hK h t = (1, 0)) (htn : t ≠ h.1) (ha : a ≠ h.1) (hk : hK h a = (20, n)) (hs : s ≤ 12) (hm : 21 * s ≤ n) (hn : n ≤ 100000) (hb : ∀ j, j < 21 * s → -1 ≤ hA h a j ∧ hA h a j ≤ 100000 ∧ (15 ≤ j % 21 → j % 21 < 19 → hA h a j ≤ 16)) (x : Int) (ex : x = (s : Int)) {Q : Option av_V → av_H → Prop} (hq : ∀ (f : Nat → Int) h', (∀ j, j < 21 * s → f j = hA h a j) → (∀ j, 21 * s ≤ j → f j = 0 ∨ (21 * s = n ∧ f j = hA h a j)) → NC h t s (ctn f s) (s : Int) (cbv f s) h' → Q none h') : av_wp none cd_27 0 [some (.inr (.inr (.inl (some t)))), some (.inr (.inr (.inl (some a)))), some (.inl x), none, none, none, none, none, none] [] h Q := by
  subst ex
  refine av_wp_sqF ck_27 7 (pc' := 10) (lv' := [some (.inr (.inr (.inl (some t)))), some (.inr (.inr (.inl (some a)))), some (.inl (s : Int)), none, none, none, none, none, none]) (st' := [.inl ((s : Int) * 21), .inr (.inr (.inl (some a))), .inr (.inr (.inl (some t)))]) (h' := h) rfl ?_
  refine wq_cs (p' := 13) (av_qc (.invokestatic 9) 222 2 2 10) 3 cd_222 [.inr (.inr (.inl (some a))), .inl ((s : Int) * 21)] [.inl ((s : Int) * 21), .inr (.inr (.inl (some a))), .inr (.inr (.inl (some t)))] [some (.inr (.inr (.inl (some a)))), some (.inl ((s : Int) * 21)), none] (ck_27 _ _ rfl) rfl rfl pp_222 (fun _ => rfl) rfl rfl ?_
  refine ct_222 (m := 21 * s) ha hk hm hn _ (by omega) (fun f f1 f2 => ?_)
  show av_wp _ cd_27 13 [some (.inr (.inr (.inl (some t)))), some (.inr (.inr (.inl (some a)))), some (.inl (s : Int)), none, none, none, none, none, none] [.inr (.inr (.inl (some h.1))), .inr (.inr (.inl (some t)))] (av_newN 20 (21 * s) f h) _
  have k1 : hK (av_newN 20 (21 * s) f h) t = (1, 0) := (newN_ko htn).trans ht
  refine wq_pr (p' := 16) (ck_27 _ _ rfl) rfl (congrArg Prod.fst k1) rfl ?_
  refine av_wp_sqF ck_27 2 (pc' := 18) (lv' := [some (.inr (.inr (.inl (some t)))), some (.inr (.inr (.inl (some a)))), some (.inl (s : Int)), none, none, none, none, none, none]) (st' := [.inl (s : Int), .inr (.inr (.inl (some t)))]) (h' := hwG (av_newN 20 (21 * s) f h) t 0 (some h.1)) rfl ?_
  refine wq_pi (p' := 21) (ck_27 _ _ rfl) rfl (congrArg Prod.fst (show hK (hwG (av_newN 20 (21 * s) f h) t 0 (some h.1)) t = (1, 0) from k1)) rfl ?_
  have N0 : NC h t s (ctn f 0) (s : Int) (hF h t 3) (hwF (hwG (av_newN 20 (21 * s) f h) t 0 (some h.1)) t 1 (s : Int)) := by
    rw [ctn_0]
    refine ⟨rfl, rfl, rfl, rfl, rfl, rfl, fun q k hq => ?_, hF_self, hF_oth (by decide), ht, htn⟩
    show av_u2 h.2.2.2.2.1 t 1 (s : Int) q k = _
    rw [av_u2_ne hq]
  generalize hwF (hwG (av_newN 20 (21 * s) f h) t 0 (some h.1)) t 1 (s : Int) = h0 at N0 ⊢
  generalize hF h t 3 = x3 at N0
  have hf : ∀ j, j < 21 * s → -1 ≤ f j ∧ f j ≤ 100000 ∧ (15 ≤ j % 21 → j % 21 < 19 → f j ≤ 16) := fun j hj => by
    rw [f1 j hj]
    exact hb j hj
  have hg : ∀ q, q < s → ∀ o, 15 ≤ o → o < 19 → f (21 * q + o) ≤ 16 := fun q hq o h1 h2 => (hf (21 * q + o) (by omega)).2.2 (by omega) (by omega)
  refine av_wp_sqF ck_27 6 (pc' := 29) (lv' := [some (.inr (.inr (.inl (some (t))))), some (.inr (.inr (.inl (some (a))))), some (.inl (s : Int)), some (.inl (0)), some (.inl (1)), some (.inl (0)), none, none, none]) (st' := []) (h' := h0) rfl ?_
  have L : ∀ (n k : Nat) (as : Int) (a6 a7 a8 : Option av_V) (h1 : av_H), n + k = s → av_lg a6 = false → av_lg a7 = false → av_lg a8 = false → NC h t s (ctn f k) (s : Int) x3 h1 → av_wp none cd_27 29 [some (.inr (.inr (.inl (some (t))))), some (.inr (.inr (.inl (some (a))))), some (.inl (s : Int)), some (.inl as), some (.inl (cbf f k)), some (.inl (21 * (k : Int))), a6, a7, a8] [] h1 Q := by
    intro n
    induction n with
    | zero =>
      intro k as a6 a7 a8 h1 e1 la6 la7 la8 N1
      have e1 : k = s := by omega
      subst e1
      have gc := cbf_b k (fun q hq => hg q (by omega))
      refine av_wp_sqF ck_27 2 (pc' := 32) (lv' := [some (.inr (.inr (.inl (some (t))))), some (.inr (.inr (.inl (some (a))))), some (.inl (k : Int)), some (.inl as), some (.inl (cbf f k)), some (.inl (21 * (k : Int))), a6, a7, a8]) (st' := [.inr (.inr (.inl (some (t)))), .inl (21 * (k : Int))]) (h' := h1) rfl ?_
      refine wq_gr (p' := 35) (ck_27 _ _ rfl) rfl (congrArg Prod.fst (nc_kt N1)) rfl (nc_g N1) ?_
      refine wq_ln (p' := 36) (ck_27 _ _ rfl) rfl (nc_kc N1) (by simp) ?_
      refine wq_k2 (p' := 39) (ck_27 _ _ rfl) rfl ⟨by omega, by omega⟩ ⟨by omega, by omega⟩ (fun _ => ?_) (fun c => absurd (show ((21 * (k : Int))) < ((21 * k : Nat) : Int) from c) (by omega))
      refine av_wp_sqF ck_27 2 (pc' := 129) (lv' := [some (.inr (.inr (.inl (some (t))))), some (.inr (.inr (.inl (some (a))))), some (.inl (k : Int)), some (.inl as), some (.inl (cbf f k)), some (.inl (21 * (k : Int))), a6, a7, a8]) (st' := [.inl as, .inr (.inr (.inl (some (t))))]) (h' := h1) rfl ?_
      refine wq_pi (p' := 132) (ck_27 _ _ rfl) rfl (congrArg Prod.fst (nc_kt N1)) rfl ?_
      have N1 := nc_wF (k := 2) (v := as) N1
      generalize hwF h1 t 2 as = h2 at N1 ⊢
      refine av_wp_sqF ck_27 3 (pc' := 138) (lv' := [some (.inr (.inr (.inl (some (t))))), some (.inr (.inr (.inl (some (a))))), some (.inl (k : Int)), some (.inl as), some (.inl (cbf f k)), some (.inl (21 * (k : Int))), a6, a7, a8]) (st' := [.inl (1024), .inl (cbf f k), .inr (.inr (.inl (some (t))))]) (h' := h2) rfl ?_
      refine wq_k2 (p' := 141) (ck_27 _ _ rfl) rfl ⟨by omega, by omega⟩ ⟨by omega, by omega⟩ (fun c3 => ?_) (fun c4 => ?_)
      · have c3 : (1024) < (cbf f k) := c3
        refine av_wp_sqF ck_27 1 (pc' := 147) (lv' := [some (.inr (.inr (.inl (some (t))))), some (.inr (.inr (.inl (some (a))))), some (.inl (k : Int)), some (.inl as), some (.inl (cbf f k)), some (.inl (21 * (k : Int))), a6, a7, a8]) (st' := [.inl (-1), .inr (.inr (.inl (some (t))))]) (h' := h2) rfl ?_
        refine wq_pi (p' := 150) (ck_27 _ _ rfl) rfl (congrArg Prod.fst (nc_kt N1)) rfl ?_
        have N5 := nc_wF (k := 3) (v := (-1)) N1
        generalize hwF h2 t 3 (-1) = h6 at N5 ⊢
        refine av_wp_ret (v := none) (ck_27 _ _ rfl) rfl rfl ?_
        have zc : cbv f k = (-1) := by unfold cbv; first | rw [if_pos (by omega)] | rw [if_neg (by omega)]
        exact hq f h6 f1 f2 (by rw [zc]; exact N5)
      · have c4 : (cbf f k) ≤ (1024) := c4
        refine av_wp_sqF ck_27 2 (pc' := 147) (lv' := [some (.inr (.inr (.inl (some (t))))), some (.inr (.inr (.inl (some (a))))), some (.inl (k : Int)), some (.inl as), some (.inl (cbf f k)), some (.inl (21 * (k : Int))), a6, a7, a8]) (st' := [.inl (cbf f k), .inr (.inr (.inl (some (t))))]) (h' := h2) rfl ?_
        refine wq_pi (p' := 150) (ck_27 _ _ rfl) rfl (congrArg Prod.fst (nc_kt N1)) rfl ?_
        have N7 := nc_wF (k := 3) (v := (cbf f k)) N1
        generalize hwF h2 t 3 (cbf f k) = h8 at N7 ⊢
        refine av_wp_ret (v := none) (ck_27 _ _ rfl) rfl rfl ?_
        have zc : cbv f k = (cbf f k) := by unfold cbv; first | rw [if_pos (by omega)] | rw [if_neg (by omega)]
        exact hq f h8 f1 f2 (by rw [zc]; exact N7)
    | succ n ih =>
      intro k as a6 a7 a8 h1 e1 la6 la7 la8 N1
      have gc := cbf_b k (fun q hq => hg q (by omega))
      refine av_wp_sqF ck_27 2 (pc' := 32) (lv' := [some (.inr (.inr (.inl (some (t))))), some (.inr (.inr (.inl (some (a))))), some (.inl (s : Int)), some (.inl as), some (.inl (cbf f k)), some (.inl (21 * (k : Int))), a6, a7, a8]) (st' := [.inr (.inr (.inl (some (t)))), .inl (21 * (k : Int))]) (h' := h1) rfl ?_
      refine wq_gr (p' := 35) (ck_27 _ _ rfl) rfl (congrArg Prod.fst (nc_kt N1)) rfl (nc_g N1) ?_
      refine wq_ln (p' := 36) (ck_27 _ _ rfl) rfl (nc_kc N1) (by simp) ?_
      refine wq_k2 (p' := 39) (ck_27 _ _ rfl) rfl ⟨by omega, by omega⟩ ⟨by omega, by omega⟩ (fun c => absurd (show (((21 * s : Nat) : Int)) ≤ (21 * (k : Int)) from c) (by omega)) (fun _ => ?_)
      refine av_wp_sqF ck_27 8 (pc' := 52) (lv' := [some (.inr (.inr (.inl (some (t))))), some (.inr (.inr (.inl (some (a))))), some (.inl (s : Int)), some (.inl as), some (.inl (cbf f k)), some (.inl (21 * (k : Int))), some (.inl (1)), some (.inl (0)), a8]) (st' := [.inr (.inr (.inl (some (t))))]) (h' := h1) rfl ?_
      refine wq_gr (p' := 55) (ck_27 _ _ rfl) rfl (congrArg Prod.fst (nc_kt N1)) rfl (nc_g N1) ?_
      refine av_wp_sqF ck_27 5 (pc' := 63) (lv' := [some (.inr (.inr (.inl (some (t))))), some (.inr (.inr (.inl (some (a))))), some (.inl (s : Int)), some (.inl as), some (.inl (cbf f k)), some (.inl (21 * (k : Int))), some (.inl (1)), some (.inl (0)), a8]) (st' := [.inl (((21 * (k : Int)) + (15)) + (0)), .inr (.inr (.inl (some (h.1))))]) (h' := h1) rfl ?_
      obtain ⟨v9, q10⟩ : ∃ v, f (21 * k + 15) = v := ⟨_, rfl⟩
      have g11 := hf (21 * k + 15) (by omega)
      rw [q10] at g11
      have g11 : -1 ≤ v9 ∧ v9 ≤ 16 := ⟨g11.1, g11.2.2 (by omega) (by omega)⟩
      refine wq_al (p' := 64) (n := 21 * s) (ck_27 _ _ rfl) rfl (nc_kc N1) (by omega) ((congrFun (nc_a N1) _).trans ((congrArg (ctn f k) (show Int.toNat ((((21 * (k : Int)) + (15)) + (0))) = 21 * k + 15 by omega)).trans ((ctn_o (by omega)).trans q10))) ?_
      refine av_wp_sqF ck_27 3 (pc' := 69) (lv' := [some (.inr (.inr (.inl (some (t))))), some (.inr (.inr (.inl (some (a))))), some (.inl (s : Int)), some (.inl as), some (.inl (cbf f k)), some (.inl (21 * (k : Int))), some (.inl (1)), some (.inl (0)), some (.inl v9)]) (st' := [.inl v9, .inl as]) (h' := h1) rfl ?_
      have J14 : ∀ (j12 : Int), (0 ≤ j12 ∧ j12 ≤ 1) →  av_wp none cd_27 77 [some (.inr (.inr (.inl (some (t))))), some (.inr (.inr (.inl (some (a))))), some (.inl (s : Int)), some (.inl as), some (.inl (cbf f k)), some (.inl (21 * (k : Int))), some (.inl (1)), some (.inl (0)), some (.inl v9)] [.inl j12, .inl as] h1 Q := by
        intro j12 g13
        refine av_wp_sqF ck_27 5 (pc' := 84) (lv' := [some (.inr (.inr (.inl (some (t))))), some (.inr (.inr (.inl (some (a))))), some (.inl (s : Int)), some (.inl (as + j12)), some (.inl (cbf f k)), some (.inl (21 * (k : Int))), some (.inl (1)), some (.inl (0)), some (.inl v9)]) (st' := [.inl (1), .inl v9, .inl (1)]) (h' := h1) rfl ?_
        refine wq_mx (p' := 87) (ck_27 _ _ rfl) rfl rfl (fun _ _ => rfl) rfl (fun v15 e16 g17 => ?_)
        have g17 := g17 ⟨by omega, by omega⟩ ⟨by omega, by omega⟩
        have z18 : v15 = mx1 v9 := by unfold mx1; split <;> omega
        subst z18
        clear e16 g17
        refine av_wp_sqF ck_27 8 (pc' := 52) (lv' := [some (.inr (.inr (.inl (some (t))))), some (.inr (.inr (.inl (some (a))))), some (.inl (s : Int)), some (.inl (as + j12)), some (.inl (cbf f k)), some (.inl (21 * (k : Int))), some (.inl ((1) * (mx1 v9))), some (.inl (1)), some (.inl v9)]) (st' := [.inr (.inr (.inl (some (t))))]) (h' := h1) rfl ?_
        refine wq_gr (p' := 55) (ck_27 _ _ rfl) rfl (congrArg Prod.fst (nc_kt N1)) rfl (nc_g N1) ?_
        refine av_wp_sqF ck_27 5 (pc' := 63) (lv' := [some (.inr (.inr (.inl (some (t))))), some (.inr (.inr (.inl (some (a))))), some (.inl (s : Int)), some (.inl (as + j12)), some (.inl (cbf f k)), some (.inl (21 * (k : Int))), some (.inl ((1) * (mx1 v9))), some (.inl (1)), some (.inl v9)]) (st' := [.inl (((21 * (k : Int)) + (15)) + (1)), .inr (.inr (.inl (some (h.1))))]) (h' := h1) rfl ?_
        obtain ⟨v19, q20⟩ : ∃ v, f (21 * k + 16) = v := ⟨_, rfl⟩
        have g21 := hf (21 * k + 16) (by omega)
        rw [q20] at g21
        have g21 : -1 ≤ v19 ∧ v19 ≤ 16 := ⟨g21.1, g21.2.2 (by omega) (by omega)⟩
        refine wq_al (p' := 64) (n := 21 * s) (ck_27 _ _ rfl) rfl (nc_kc N1) (by omega) ((congrFun (nc_a N1) _).trans ((congrArg (ctn f k) (show Int.toNat ((((21 * (k : Int)) + (15)) + (1))) = 21 * k + 16 by omega)).trans ((ctn_o (by omega)).trans q20))) ?_
        refine av_wp_sqF ck_27 3 (pc' := 69) (lv' := [some (.inr (.inr (.inl (some (t))))), some (.inr (.inr (.inl (some (a))))), some (.inl (s : Int)), some (.inl (as + j12)), some (.inl (cbf f k)), some (.inl (21 * (k : Int))), some (.inl ((1) * (mx1 v9))), some (.inl (1)), some (.inl v19)]) (st' := [.inl v19, .inl (as + j12)]) (h' := h1) rfl ?_
        have J24 : ∀ (j22 : Int), (0 ≤ j22 ∧ j22 ≤ 1) →  av_wp none cd_27 77 [some (.inr (.inr (.inl (some (t))))), some (.inr (.inr (.inl (some (a))))), some (.inl (s : Int)), some (.inl (as + j12)), some (.inl (cbf f k)), some (.inl (21 * (k : Int))), some (.inl ((1) * (mx1 v9))), some (.inl (1)), some (.inl v19)] [.inl j22, .inl (as + j12)] h1 Q := by
          intro j22 g23
          refine av_wp_sqF ck_27 5 (pc' := 84) (lv' := [some (.inr (.inr (.inl (some (t))))), some (.inr (.inr (.inl (some (a))))), some (.inl (s : Int)), some (.inl ((as + j12) + j22)), some (.inl (cbf f k)), some (.inl (21 * (k : Int))), some (.inl ((1) * (mx1 v9))), some (.inl (1)), some (.inl v19)]) (st' := [.inl (1), .inl v19, .inl ((1) * (mx1 v9))]) (h' := h1) rfl ?_
          refine wq_mx (p' := 87) (ck_27 _ _ rfl) rfl rfl (fun _ _ => rfl) rfl (fun v25 e26 g27 => ?_)
          have g27 := g27 ⟨by omega, by omega⟩ ⟨by omega, by omega⟩
          have z28 : v25 = mx1 v19 := by unfold mx1; split <;> omega
          subst z28
          clear e26 g27
          refine av_wp_sqF ck_27 8 (pc' := 52) (lv' := [some (.inr (.inr (.inl (some (t))))), some (.inr (.inr (.inl (some (a))))), some (.inl (s : Int)), some (.inl ((as + j12) + j22)), some (.inl (cbf f k)), some (.inl (21 * (k : Int))), some (.inl (((1) * (mx1 v9)) * (mx1 v19))), some (.inl (2)), some (.inl v19)]) (st' := [.inr (.inr (.inl (some (t))))]) (h' := h1) rfl ?_
          refine wq_gr (p' := 55) (ck_27 _ _ rfl) rfl (congrArg Prod.fst (nc_kt N1)) rfl (nc_g N1) ?_
          refine av_wp_sqF ck_27 5 (pc' := 63) (lv' := [some (.inr (.inr (.inl (some (t))))), some (.inr (.inr (.inl (some (a))))), some (.inl (s : Int)), some (.inl ((as + j12) + j22)), some (.inl (cbf f k)), some (.inl (21 * (k : Int))), some (.inl (((1) * (mx1 v9)) * (mx1 v19))), some (.inl (2)), some (.inl v19)]) (st' := [.inl (((21 * (k : Int)) + (15)) + (2)), .inr (.inr (.inl (some (h.1))))]) (h' := h1) rfl ?_
          obtain ⟨v29, q30⟩ : ∃ v, f (21 * k + 17) = v := ⟨_, rfl⟩
          have g31 := hf (21 * k + 17) (by omega)
          rw [q30] at g31
          have g31 : -1 ≤ v29 ∧ v29 ≤ 16 := ⟨g31.1, g31.2.2 (by omega) (by omega)⟩
          refine wq_al (p' := 64) (n := 21 * s) (ck_27 _ _ rfl) rfl (nc_kc N1) (by omega) ((congrFun (nc_a N1) _).trans ((congrArg (ctn f k) (show Int.toNat ((((21 * (k : Int)) + (15)) + (2))) = 21 * k + 17 by omega)).trans ((ctn_o (by omega)).trans q30))) ?_
          refine av_wp_sqF ck_27 3 (pc' := 69) (lv' := [some (.inr (.inr (.inl (some (t))))), some (.inr (.inr (.inl (some (a))))), some (.inl (s : Int)), some (.inl ((as + j12) + j22)), some (.inl (cbf f k)), some (.inl (21 * (k : Int))), some (.inl (((1) * (mx1 v9)) * (mx1 v19))), some (.inl (2)), some (.inl v29)]) (st' := [.inl v29, .inl ((as + j12) + j22)]) (h' := h1) rfl ?_
          have J34 : ∀ (j32 : Int), (0 ≤ j32 ∧ j32 ≤ 1) →  av_wp none cd_27 77 [some (.inr (.inr (.inl (some (t))))), some (.inr (.inr (.inl (some (a))))), some (.inl (s : Int)), some (.inl ((as + j12) + j22)), some (.inl (cbf f k)), some (.inl (21 * (k : Int))), some (.inl (((1) * (mx1 v9)) * (mx1 v19))), some (.inl (2)), some (.inl v29)] [.inl j32, .inl ((as + j12) + j22)] h1 Q := by
            intro j32 g33
            refine av_wp_sqF ck_27 5 (pc' := 84) (lv' := [some (.inr (.inr (.inl (some (t))))), some (.inr (.inr (.inl (some (a))))), some (.inl (s : Int)), some (.inl (((as + j12) + j22) + j32)), some (.inl (cbf f k)), some (.inl (21 * (k : Int))), some (.inl (((1) * (mx1 v9)) * (mx1 v19))), some (.inl (2)), some (.inl v29)]) (st' := [.inl (1), .inl v29, .inl (((1) * (mx1 v9)) * (mx1 v19))]) (h' := h1) rfl ?_
            refine wq_mx (p' := 87) (ck_27 _ _ rfl) rfl rfl (fun _ _ => rfl) rfl (fun v35 e36 g37 => ?_)
            have g37 := g37 ⟨by omega, by omega⟩ ⟨by omega, by omega⟩
            have z38 : v35 = mx1 v29 := by unfold mx1; split <;> omega
            subst z38
            clear e36 g37
            refine av_wp_sqF ck_27 8 (pc' := 52) (lv' := [some (.inr (.inr (.inl (some (t))))), some (.inr (.inr (.inl (some (a))))), some (.inl (s : Int)), some (.inl (((as + j12) + j22) + j32)), some (.inl (cbf f k)), some (.inl (21 * (k : Int))), some (.inl ((((1) * (mx1 v9)) * (mx1 v19)) * (mx1 v29))), some (.inl (3)), some (.inl v29)]) (st' := [.inr (.inr (.inl (some (t))))]) (h' := h1) rfl ?_
            refine wq_gr (p' := 55) (ck_27 _ _ rfl) rfl (congrArg Prod.fst (nc_kt N1)) rfl (nc_g N1) ?_
            refine av_wp_sqF ck_27 5 (pc' := 63) (lv' := [some (.inr (.inr (.inl (some (t))))), some (.inr (.inr (.inl (some (a))))), some (.inl (s : Int)), some (.inl (((as + j12) + j22) + j32)), some (.inl (cbf f k)), some (.inl (21 * (k : Int))), some (.inl ((((1) * (mx1 v9)) * (mx1 v19)) * (mx1 v29))), some (.inl (3)), some (.inl v29)]) (st' := [.inl (((21 * (k : Int)) + (15)) + (3)), .inr (.inr (.inl (some (h.1))))]) (h' := h1) rfl ?_
            obtain ⟨v39, q40⟩ : ∃ v, f (21 * k + 18) = v := ⟨_, rfl⟩
            have g41 := hf (21 * k + 18) (by omega)
            rw [q40] at g41
            have g41 : -1 ≤ v39 ∧ v39 ≤ 16 := ⟨g41.1, g41.2.2 (by omega) (by omega)⟩
            refine wq_al (p' := 64) (n := 21 * s) (ck_27 _ _ rfl) rfl (nc_kc N1) (by omega) ((congrFun (nc_a N1) _).trans ((congrArg (ctn f k) (show Int.toNat ((((21 * (k : Int)) + (15)) + (3))) = 21 * k + 18 by omega)).trans ((ctn_o (by omega)).trans q40))) ?_
            refine av_wp_sqF ck_27 3 (pc' := 69) (lv' := [some (.inr (.inr (.inl (some (t))))), some (.inr (.inr (.inl (some (a))))), some (.inl (s : Int)), some (.inl (((as + j12) + j22) + j32)), some (.inl (cbf f k)), some (.inl (21 * (k : Int))), some (.inl ((((1) * (mx1 v9)) * (mx1 v19)) * (mx1 v29))), some (.inl (3)), some (.inl v39)]) (st' := [.inl v39, .inl (((as + j12) + j22) + j32)]) (h' := h1) rfl ?_
            have J44 : ∀ (j42 : Int), (0 ≤ j42 ∧ j42 ≤ 1) →  av_wp none cd_27 77 [some (.inr (.inr (.inl (some (t))))), some (.inr (.inr (.inl (some (a))))), some (.inl (s : Int)), some (.inl (((as + j12) + j22) + j32)), some (.inl (cbf f k)), some (.inl (21 * (k : Int))), some (.inl ((((1) * (mx1 v9)) * (mx1 v19)) * (mx1 v29))), some (.inl (3)), some (.inl v39)] [.inl j42, .inl (((as + j12) + j22) + j32)] h1 Q := by
              intro j42 g43
              refine av_wp_sqF ck_27 5 (pc' := 84) (lv' := [some (.inr (.inr (.inl (some (t))))), some (.inr (.inr (.inl (some (a))))), some (.inl (s : Int)), some (.inl ((((as + j12) + j22) + j32) + j42)), some (.inl (cbf f k)), some (.inl (21 * (k : Int))), some (.inl ((((1) * (mx1 v9)) * (mx1 v19)) * (mx1 v29))), some (.inl (3)), some (.inl v39)]) (st' := [.inl (1), .inl v39, .inl ((((1) * (mx1 v9)) * (mx1 v19)) * (mx1 v29))]) (h' := h1) rfl ?_
              refine wq_mx (p' := 87) (ck_27 _ _ rfl) rfl rfl (fun _ _ => rfl) rfl (fun v45 e46 g47 => ?_)
              have g47 := g47 ⟨by omega, by omega⟩ ⟨by omega, by omega⟩
              have z48 : v45 = mx1 v39 := by unfold mx1; split <;> omega
              subst z48
              clear e46 g47
              refine av_wp_sqF ck_27 7 (pc' := 96) (lv' := [some (.inr (.inr (.inl (some (t))))), some (.inr (.inr (.inl (some (a))))), some (.inl (s : Int)), some (.inl ((((as + j12) + j22) + j32) + j42)), some (.inl (cbf f k)), some (.inl (21 * (k : Int))), some (.inl (((((1) * (mx1 v9)) * (mx1 v19)) * (mx1 v29)) * (mx1 v39))), some (.inl (4)), some (.inl v39)]) (st' := []) (h' := h1) rfl ?_
              have zt : (((((1) * (mx1 v9)) * (mx1 v19)) * (mx1 v29)) * (mx1 v39)) = tnv f k := by unfold tnv; rw [q10, q20, q30, q40]
              rw [zt]
              have gt := tnv_b (hg k (by omega))
              have gm := mul_b gc gt
              refine av_wp_sqF ck_27 1 (pc' := 97) (lv' := [some (.inr (.inr (.inl (some (t))))), some (.inr (.inr (.inl (some (a))))), some (.inl (s : Int)), some (.inl ((((as + j12) + j22) + j32) + j42)), some (.inl (cbf f k)), some (.inl (21 * (k : Int))), some (.inl (tnv f k)), some (.inl (4)), some (.inl v39)]) (st' := [.inr (.inr (.inl (some (t))))]) (h' := h1) rfl ?_
              refine wq_gr (p' := 100) (ck_27 _ _ rfl) rfl (congrArg Prod.fst (nc_kt N1)) rfl (nc_g N1) ?_
              refine av_wp_sqF ck_27 4 (pc' := 107) (lv' := [some (.inr (.inr (.inl (some (t))))), some (.inr (.inr (.inl (some (a))))), some (.inl (s : Int)), some (.inl ((((as + j12) + j22) + j32) + j42)), some (.inl (cbf f k)), some (.inl (21 * (k : Int))), some (.inl (tnv f k)), some (.inl (4)), some (.inl v39)]) (st' := [.inl (tnv f k), .inl ((21 * (k : Int)) + (20)), .inr (.inr (.inl (some (h.1))))]) (h' := h1) rfl ?_
              refine wq_as (p' := 108) (n := 21 * s) (ck_27 _ _ rfl) rfl (nc_kc N1) (by omega) ?_
              have N49 := nc_wA (j := Int.toNat (((21 * (k : Int)) + (20)))) (v := (tnv f k)) N1
              generalize hwA h1 h.1 (Int.toNat (((21 * (k : Int)) + (20)))) (tnv f k) = h50 at N49 ⊢
              rw [show Int.toNat (((21 * (k : Int)) + (20))) = 21 * k + 20 by omega, ctn_s] at N49
              refine av_wp_sqF ck_27 4 (pc' := 116) (lv' := [some (.inr (.inr (.inl (some (t))))), some (.inr (.inr (.inl (some (a))))), some (.inl (s : Int)), some (.inl ((((as + j12) + j22) + j32) + j42)), some (.inl (cbf f k)), some (.inl (21 * (k : Int))), some (.inl (tnv f k)), some (.inl (4)), some (.inl v39)]) (st' := [.inl (1025), .inl ((cbf f k) * (tnv f k))]) (h' := h50) rfl ?_
              refine wq_mne (p' := 119) (ck_27 _ _ rfl) rfl rfl (fun _ _ => rfl) rfl ⟨by omega, by omega⟩ ⟨by omega, by omega⟩ ?_
              rw [show (if (1025 : Int) < ((cbf f k) * (tnv f k)) then (1025 : Int) else ((cbf f k) * (tnv f k))) = cbf f (k + 1) from rfl]
              refine av_wp_sqF ck_27 3 (pc' := 29) (lv' := [some (.inr (.inr (.inl (some (t))))), some (.inr (.inr (.inl (some (a))))), some (.inl (s : Int)), some (.inl ((((as + j12) + j22) + j32) + j42)), some (.inl (cbf f (k + 1))), some (.inl ((21 * (k : Int)) + (21))), some (.inl (tnv f k)), some (.inl (4)), some (.inl v39)]) (st' := []) (h' := h50) rfl ?_
              rw [show (21 * (k : Int)) + (21) = 21 * ((k + 1 : Nat) : Int) by omega]
              exact ih (k + 1) _ _ _ _ h50 (by omega) rfl rfl rfl N49
            refine wq_k1 (p' := 72) (ck_27 _ _ rfl) rfl ⟨by omega, by omega⟩ (fun c51 => ?_) (fun c52 => ?_)
            · have c51 : v39 ≤ (0) := c51
              refine av_wp_sqF ck_27 1 (pc' := 77) (lv' := [some (.inr (.inr (.inl (some (t))))), some (.inr (.inr (.inl (some (a))))), some (.inl (s : Int)), some (.inl (((as + j12) + j22) + j32)), some (.inl (cbf f k)), some (.inl (21 * (k : Int))), some (.inl ((((1) * (mx1 v9)) * (mx1 v19)) * (mx1 v29))), some (.inl (3)), some (.inl v39)]) (st' := [.inl (0), .inl (((as + j12) + j22) + j32)]) (h' := h1) rfl ?_
              exact J44 ((0)) (by omega)
            · have c52 : (0) < v39 := c52
              refine av_wp_sqF ck_27 2 (pc' := 77) (lv' := [some (.inr (.inr (.inl (some (t))))), some (.inr (.inr (.inl (some (a))))), some (.inl (s : Int)), some (.inl (((as + j12) + j22) + j32)), some (.inl (cbf f k)), some (.inl (21 * (k : Int))), some (.inl ((((1) * (mx1 v9)) * (mx1 v19)) * (mx1 v29))), some (.inl (3)), some (.inl v39)]) (st' := [.inl (1), .inl (((as + j12) + j22) + j32)]) (h' := h1) rfl ?_
              exact J44 ((1)) (by omega)
          refine wq_k1 (p' := 72) (ck_27 _ _ rfl) rfl ⟨by omega, by omega⟩ (fun c53 => ?_) (fun c54 => ?_)
          · have c53 : v29 ≤ (0) := c53
            refine av_wp_sqF ck_27 1 (pc' := 77) (lv' := [some (.inr (.inr (.inl (some (t))))), some (.inr (.inr (.inl (some (a))))), some (.inl (s : Int)), some (.inl ((as + j12) + j22)), some (.inl (cbf f k)), some (.inl (21 * (k : Int))), some (.inl (((1) * (mx1 v9)) * (mx1 v19))), some (.inl (2)), some (.inl v29)]) (st' := [.inl (0), .inl ((as + j12) + j22)]) (h' := h1) rfl ?_
            exact J34 ((0)) (by omega)
          · have c54 : (0) < v29 := c54
            refine av_wp_sqF ck_27 2 (pc' := 77) (lv' := [some (.inr (.inr (.inl (some (t))))), some (.inr (.inr (.inl (some (a))))), some (.inl (s : Int)), some (.inl ((as + j12) + j22)), some (.inl (cbf f k)), some (.inl (21 * (k : Int))), some (.inl (((1) * (mx1 v9)) * (mx1 v19))), some (.inl (2)), some (.inl v29)]) (st' := [.inl (1), .inl ((as + j12) + j22)]) (h' := h1) rfl ?_
            exact J34 ((1)) (by omega)
        refine wq_k1 (p' := 72) (ck_27 _ _ rfl) rfl ⟨by omega, by omega⟩ (fun c55 => ?_) (fun c56 => ?_)
        · have c55 : v19 ≤ (0) := c55
          refine av_wp_sqF ck_27 1 (pc' := 77) (lv' := [some (.inr (.inr (.inl (some (t))))), some (.inr (.inr (.inl (some (a))))), some (.inl (s : Int)), some (.inl (as + j12)), some (.inl (cbf f k)), some (.inl (21 * (k : Int))), some (.inl ((1) * (mx1 v9))), some (.inl (1)), some (.inl v19)]) (st' := [.inl (0), .inl (as + j12)]) (h' := h1) rfl ?_
          exact J24 ((0)) (by omega)
        · have c56 : (0) < v19 := c56
          refine av_wp_sqF ck_27 2 (pc' := 77) (lv' := [some (.inr (.inr (.inl (some (t))))), some (.inr (.inr (.inl (some (a))))), some (.inl (s : Int)), some (.inl (as + j12)), some (.inl (cbf f k)), some (.inl (21 * (k : Int))), some (.inl ((1) * (mx1 v9))), some (.inl (1)), some (.inl v19)]) (st' := [.inl (1), .inl (as + j12)]) (h' := h1) rfl ?_
          exact J24 ((1)) (by omega)
      refine wq_k1 (p' := 72) (ck_27 _ _ rfl) rfl ⟨by omega, by omega⟩ (fun c57 => ?_) (fun c58 => ?_)
      · have c57 : v9 ≤ (0) := c57
        refine av_wp_sqF ck_27 1 (pc' := 77) (lv' := [some (.inr (.inr (.inl (some (t))))), some (.inr (.inr (.inl (some (a))))), some (.inl (s : Int)), some (.inl as), some (.inl (cbf f k)), some (.inl (21 * (k : Int))), some (.inl (1)), some (.inl (0)), some (.inl v9)]) (st' := [.inl (0), .inl as]) (h' := h1) rfl ?_
        exact J14 ((0)) (by omega)
      · have c58 : (0) < v9 := c58
        refine av_wp_sqF ck_27 2 (pc' := 77) (lv' := [some (.inr (.inr (.inl (some (t))))), some (.inr (.inr (.inl (some (a))))), some (.inl (s : Int)), some (.inl as), some (.inl (cbf f k)), some (.inl (21 * (k : Int))), some (.inl (1)), some (.inl (0)), some (.inl v9)]) (st' := [.inl (1), .inl as]) (h' := h1) rfl ?_
        exact J14 ((1)) (by omega)
  exact L s 0 _ _ _ _ h0 (by omega) rfl rfl rfl N0
end
section
/-! THE CLASS'S OWN CHANGES: frames with new cells; a case by its cells -/
def bA (a : Nat) : Bool := Nat.beq a 2 || Nat.beq a 23 || Nat.beq a 25 || Nat.beq a 27 || (Nat.ble 6 a && Nat.ble a 13) || (Nat.ble 15 a && Nat.ble a 20)
def bF (o f : Nat) : Bool := Nat.beq o 1 || Nat.beq o 22 || (Nat.beq o 0 && (Nat.beq f 7 || Nat.beq f 8)) || (Nat.beq o 3 && (Nat.ble 3 f && Nat.ble f 5))
def bR (o : Nat) : Bool := Nat.beq o 4 || Nat.beq o 21
def FB (g h : av_H) (n m : Nat) : Prop := h.1 = g.1 + n ∧ h.2.1 = g.2.1 + m ∧ (∀ q, q < g.1 → hK h q = hK g q) ∧ (∀ q, q < g.1 → bA q = false → hA h q = hA g q) ∧ (∀ q k, q < g.1 → bF q k = false → hF h q k = hF g q k) ∧ (∀ q, q < g.1 → hG h q = hG g q) ∧ (∀ q, q < g.1 → bR q = false → hR h q = hR g q)
section
variable {g h k : av_H} {n m n' m' : Nat}
theorem FB_tr (a : FB g h n m) (c : FB h k n' m') : FB g k (n + n') (m + m') := by
  have l : ∀ q, q < g.1 → q < h.1 := fun q hq => by rw [a.1]; omega
  refine ⟨by rw [c.1, a.1]; omega, by rw [c.2.1, a.2.1]; omega, fun q hq => (c.2.2.1 q (l q hq)).trans (a.2.2.1 q hq), fun q hq e => (c.2.2.2.1 q (l q hq) e).trans (a.2.2.2.1 q hq e), fun q j hq e => (c.2.2.2.2.1 q j (l q hq) e).trans (a.2.2.2.2.1 q j hq e), fun q hq => (c.2.2.2.2.2.1 q (l q hq)).trans (a.2.2.2.2.2.1 q hq), fun q hq e => (c.2.2.2.2.2.2 q (l q hq) e).trans (a.2.2.2.2.2.2 q hq e)⟩
theorem tF_bF {o f : Nat} (e : bF o f = false) : tF o f = false := by
  cases h : tF o f with
  | false => rfl
  | true =>
    simp only [tF, Bool.and_eq_true, Bool.or_eq_true] at h
    have h1 : o = 1 := Nat.eq_of_beq_eq_true h.1
    subst h1
    rcases h.2 with (((h2 | h2) | h2) | h2) | h2 <;> (have h3 := Nat.eq_of_beq_eq_true h2; subst h3; cases e)
theorem FB_T (F : FT g h) : FB g h 0 0 := ⟨F.1, F.2.1, fun q _ => congrFun F.2.2.1 q, fun q _ e => F.2.2.2.2.2.2 q (fun z => by subst z; cases e) (fun z => by subst z; cases e), fun q j _ e => F.2.2.2.2.2.1 q j (tF_bF e), fun q _ => congrFun F.2.2.2.2.1 q, fun q _ _ => congrFun F.2.2.2.1 q⟩
theorem FB_wF {o f : Nat} {v : Int} (e : bF o f = true) : FB h (hwF h o f v) 0 0 := ⟨rfl, rfl, fun _ _ => rfl, fun _ _ _ => rfl, fun q j _ ej => by
  show av_u2 h.2.2.2.2.1 o f v q j = _
  have hne : ¬ (q = o ∧ j = f) := fun z => by rw [z.1, z.2, e] at ej; cases ej
  rw [av_u2, if_neg hne], fun _ _ => rfl, fun _ _ _ => rfl⟩
theorem FB_A {A : Nat → Nat → Int} (e : ∀ q, bA q = false → A q = hA h q) : FB h (h.1, h.2.1, h.2.2.1, A, h.2.2.2.2) 0 0 := ⟨rfl, rfl, fun _ _ => rfl, fun q _ ej => e q ej, fun _ _ _ _ => rfl, fun _ _ => rfl, fun _ _ _ => rfl⟩
end
/-- a case: its object, its cells' array, how many sayings, what was told -/
def CX (h : av_H) (t c s : Nat) (f : Nat → Int) : Prop := hK h t = (1, 0) ∧ hF h t 1 = (s : Int) ∧ hF h t 3 = cbv f s ∧ hG h t 0 = some c ∧ hK h c = (20, 21 * s) ∧ hA h c = ctn f s
/-- cells as they may be -/
def FV (s : Nat) (f : Nat → Int) : Prop := s ≤ 12 ∧ (∀ j, -1 ≤ f j ∧ f j ≤ 100000) ∧ (∀ k j, j < 4 → f (21 * k + 15 + j) ≤ 16) ∧ ∀ j, j % 21 ≠ 20 → f j ≤ 2000
theorem ctn_v {s : Nat} {f : Nat → Int} (V : FV s f) : (∀ j, -1 ≤ ctn f s j ∧ ctn f s j ≤ 100000) ∧ ∀ k j, j < 4 → ctn f s (21 * k + 15 + j) ≤ 16 := by
  constructor
  · intro j
    unfold ctn
    split
    · have := tnv_b (f := f) (k := j / 21) (fun o h1 h2 => by have := V.2.2.1 (j / 21) (o - 15) (by omega); rw [show 21 * (j / 21) + 15 + (o - 15) = 21 * (j / 21) + o by omega] at this; exact this)
      omega
    · exact V.2.1 j
  · intro k j hj
    rw [ctn_o (by omega)]
    exact V.2.2.1 k j hj
theorem cx_co {h : av_H} {t c s : Nat} {f : Nat → Int} (X : CX h t c s f) (V : FV s f) (hc : c = 34 ∨ c = 76 ∨ 122 ≤ c) : CO h t c s (cbv f s) := by
  obtain ⟨x1, x2, x3, x4, x5, x6⟩ := X
  refine ⟨x1, x2, V.1, x3, cbv_b (fun q _ o h1 h2 => by have := V.2.2.1 q (o - 15) (by omega); rw [show 21 * q + 15 + (o - 15) = 21 * q + o by omega] at this; exact this), x4, x5, hc, ?_⟩
  rw [x6]
  exact ctn_v V
/-- new cells alone -/
def AL (g h : av_H) (n m : Nat) : Prop := h.1 = g.1 + n ∧ h.2.1 = g.2.1 + m ∧ ∀ q, q < g.1 → hK h q = hK g q ∧ hA h q = hA g q ∧ hF h q = hF g q ∧ hG h q = hG g q ∧ hR h q = hR g q
theorem AL_fb {g h : av_H} {n m : Nat} (a : AL g h n m) : FB g h n m := ⟨a.1, a.2.1, fun q hq => (a.2.2 q hq).1, fun q hq _ => (a.2.2 q hq).2.1, fun q k hq _ => congrFun (a.2.2 q hq).2.2.1 k, fun q hq => (a.2.2 q hq).2.2.2.1, fun q hq _ => (a.2.2 q hq).2.2.2.2⟩
theorem AL_tr {g h k : av_H} {n m n' m' : Nat} (a : AL g h n m) (c : AL h k n' m') : AL g k (n + n') (m + m') := by
  refine ⟨by rw [c.1, a.1]; omega, by rw [c.2.1, a.2.1]; omega, fun q hq => ?_⟩
  obtain ⟨a1, a2, a3, a4, a5⟩ := a.2.2 q hq
  obtain ⟨c1, c2, c3, c4, c5⟩ := c.2.2 q (by rw [a.1]; omega)
  exact ⟨c1.trans a1, c2.trans a2, c3.trans a3, c4.trans a4, c5.trans a5⟩
theorem AL_eq {g h : av_H} {n m n' m' : Nat} (a : AL g h n m) (e : n = n') (f : m = m') : AL g h n' m' := by
  subst e
  subst f
  exact a
/-- from the making to the case -/
theorem nc_cx {g0 h : av_H} {s : Nat} {f : Nat → Int} (N : NC (av_newO 1 4 g0) g0.1 s (ctn f s) (s : Int) (cbv f s) h) : CX h g0.1 (g0.1 + 1) s f ∧ AL g0 h 2 (4 + 21 * s) := by
  refine ⟨⟨nc_kt N, N.2.2.2.2.2.2.2.1, N.2.2.2.2.2.2.2.2.1, nc_g N, nc_kc N, nc_a N⟩, ?_⟩
  obtain ⟨n1, n2, n3, n4, n5, n6, n7, _⟩ := N
  have e1 : (av_newO 1 4 g0).1 = g0.1 + 1 := rfl
  refine ⟨n1, by rw [n2]; show g0.2.1 + 4 + 21 * s = _; omega, fun q hq => ⟨?_, ?_, ?_, ?_, ?_⟩⟩
  · rw [n3]
    show av_u1 (av_u1 g0.2.2.1 g0.1 (1, 0)) (g0.1 + 1) _ q = _
    rw [show av_u1 (av_u1 g0.2.2.1 g0.1 (1, 0)) (g0.1 + 1) (20, 21 * s) q = av_u1 g0.2.2.1 g0.1 (1, 0) q from if_neg (by omega)]
    exact if_neg (by omega)
  · rw [n4]
    exact if_neg (by show ¬ q = g0.1 + 1; omega)
  · funext k
    rw [n7 q k (by omega)]
    show av_u1 g0.2.2.2.2.1 g0.1 (fun _ => 0) q k = _
    rw [show av_u1 g0.2.2.2.2.1 g0.1 (fun _ => 0) q = g0.2.2.2.2.1 q from if_neg (by omega)]
  · rw [n6]
    have e2 : av_u2 (hG (av_newO 1 4 g0)) g0.1 0 (some (av_newO 1 4 g0).1) q = hG (av_newO 1 4 g0) q := av_u2_ne (by omega)
    rw [e2]
    exact if_neg (by omega)
  · rw [n5]
    rfl
section
variable {g h : av_H} {n m : Nat}
theorem bF_case {g : av_H} {t c s : Nat} {cb : Int} (L : LY g) (o : CO g t c s cb) (f : Nat) : bF t f = false := by
  have e0 : t ≠ 0 := fun z => by have a := co_kt o; rw [z, L.1 0 rfl] at a; cases a
  have e1 : t ≠ 1 := fun z => by have a := co_kt o; rw [z, L.1 1 rfl] at a; cases a
  have e2 : t ≠ 22 := fun z => by have a := co_kt o; rw [z, L.1 22 rfl] at a; cases a
  have e3 : t ≠ 3 := fun z => by have a := co_kt o; rw [z, L.1 3 rfl] at a; cases a
  simp only [bF, nbeq e0, nbeq e1, nbeq e2, nbeq e3, Bool.false_and, Bool.or_false]
theorem bA_cells {c : Nat} (e : c = 34 ∨ c = 76 ∨ 122 ≤ c) : bA c = false := by
  rcases e with e | e | e
  · rw [e]; rfl
  · rw [e]; rfl
  · simp only [bA, nbeq (show c ≠ 2 by omega), nbeq (show c ≠ 23 by omega), nbeq (show c ≠ 25 by omega), nbeq (show c ≠ 27 by omega), nble (show 13 < c by omega), nble (show 20 < c by omega), Bool.and_false, Bool.or_false]
theorem gd_lt {a : Nat} (G : av_Gd g) {k l : Nat} (e : hK g a = (k, l)) (hk : k ≠ 99) : a < g.1 := G a (by rw [show g.2.2.1 a = (k, l) from e]; exact hk)
theorem CO_fb {t c s : Nat} {cb : Int} (G : av_Gd g) (L : LY g) (o : CO g t c s cb) (F : FB g h n m) : CO h t c s cb := by
  obtain ⟨o1, o2, o3, o4, o5, o6, o7, o8, o9⟩ := o
  have oo : CO g t c s cb := ⟨o1, o2, o3, o4, o5, o6, o7, o8, o9⟩
  have lt := gd_lt G o1 (by decide)
  have lc := gd_lt G o7 (by decide)
  refine ⟨(F.2.2.1 t lt).trans o1, (F.2.2.2.2.1 t 1 lt (bF_case L oo 1)).trans o2, o3, (F.2.2.2.2.1 t 3 lt (bF_case L oo 3)).trans o4, o5, (congrFun (F.2.2.2.2.2.1 t lt) 0).trans o6, (F.2.2.1 c lc).trans o7, o8, ?_⟩
  rw [F.2.2.2.1 c lc (bA_cells o8)]
  exact o9
theorem cK_99 : ∀ a, a < 122 → (c_K a).1 ≠ 99 := by decide
theorem ly_lt (G : av_Gd g) (L : LY g) {a : Nat} (ha : a < 122) : a < g.1 := by
  have e := L.1 a (Nat.ble_eq_true_of_le ha)
  exact G a (by rw [show g.2.2.1 a = c_K a from e]; exact cK_99 a ha)
theorem LY_fb (G : av_Gd g) (L : LY g) (F : FB g h n m) : LY h := by
  refine ⟨fun a ha => ?_, fun o f q e => ?_, fun i hi => ?_, fun i hi => ?_⟩
  · have ha' : a < 122 := Nat.le_of_ble_eq_true ha
    rw [F.2.2.1 a (ly_lt G L ha')]
    exact L.1 a ha
  · rw [F.2.2.2.2.2.1 o (ly_lt G L (cG_big e).1)]
    exact L.2.1 o f q e
  · rw [F.2.2.2.2.2.2 5 (ly_lt G L (by omega)) rfl]
    exact L.2.2.1 i hi
  · rw [F.2.2.2.2.2.2 14 (ly_lt G L (by omega)) rfl]
    exact L.2.2.2 i hi
theorem rwc_lt {a : Nat} (e : rwc a = true) : a < 122 := by
  by_cases h : a < 122
  · exact h
  · have h1 : rwc a = false := by
      simp only [rwc, nble (show 13 < a by omega), nble (show 20 < a by omega), nbeq (show a ≠ 25 by omega), nbeq (show a ≠ 30 by omega), nbeq (show a ≠ 47 by omega), nbeq (show a ≠ 60 by omega), nbeq (show a ≠ 73 by omega), Bool.and_false, Bool.or_false]
    rw [h1] at e
    cases e
theorem bn_lt {b : Nat} (e : bn b) : b < 122 := by rcases e with e | e | e <;> omega
theorem bF_bn {b f : Nat} (e : bn b) : bF b f = false := by rcases e with e | e | e <;> subst e <;> rfl
theorem IC_fb (G : av_Gd g) (I : IC g) (F : FB g h n m) (r : ∀ a, rwc a = true → bA a = true → ∀ j, -2 ≤ hA h a j ∧ hA h a j ≤ 999) (s : SH h) (c : CN h) : IC h := by
  obtain ⟨L, R, S, C, D, B⟩ := I
  refine ⟨LY_fb G L F, fun a ha j => ?_, s, c, ?_, fun b hb => ?_⟩
  · cases e : bA a with
    | true => exact r a ha e j
    | false =>
      rw [F.2.2.2.1 a (ly_lt G L (rwc_lt ha)) e]
      exact R a ha j
  · unfold HD at D ⊢
    rw [F.2.2.2.2.1 26 9 (ly_lt G L (by omega)) rfl, F.2.2.2.2.1 26 10 (ly_lt G L (by omega)) rfl]
    exact D
  · obtain ⟨x1, x2, t, c', s', cb, r', y1, y2, y3, y4, y5⟩ := B b hb
    have lb := ly_lt G L (bn_lt hb)
    have e13 : hF h b 13 = hF g b 13 := F.2.2.2.2.1 b 13 lb (bF_bn hb)
    have e14 : hF h b 14 = hF g b 14 := F.2.2.2.2.1 b 14 lb (bF_bn hb)
    rw [e13, e14, F.2.2.2.2.2.1 b lb]
    exact ⟨x1, x2, t, c', s', cb, r', y1, CO_fb G L y2 F, y3, (F.2.2.1 r' (gd_lt G y4 (by decide))).trans y4, y5⟩
end
theorem CT_al {g h : av_H} {n m lim : Nat} {b r d : Nat → Int} {t : TT} (G : av_Gd g) (C : CT b lim t r d g) (A : AL g h n m) : CT b lim t r d h := by
  have L := C.1
  have l1 := A.2.2 1 (ly_lt G L (by omega))
  have l2 := A.2.2 2 (ly_lt G L (by omega))
  have l23 := A.2.2 23 (ly_lt G L (by omega))
  have l25 := A.2.2 25 (ly_lt G L (by omega))
  refine ⟨LY_fb G L (AL_fb A), l2.2.1.trans C.2.1, C.2.2.1, ?_, ?_, ?_, ?_, ?_, l23.2.1.trans (ct_r C), l25.2.1.trans (ct_d C), ct_wf C, ct_rv C, ct_dv C⟩
  · rw [l1.2.2.1]; exact ct_l C
  · rw [l1.2.2.1]; exact ct_f C
  · rw [l1.2.2.1]; exact ct_p C
  · rw [l1.2.2.1]; exact ct_s C
  · rw [l1.2.2.1]; exact ct_w C
end
