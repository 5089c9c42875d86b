/-! A NEW CASE, exactly -/
set_option maxRecDepth 100000 in
set_option maxHeartbeats 4000000 in
theorem ct_27 {h : av_H} {t a n s : Nat} (ht : hK h t = (1, 0)) (htn : t ≠ h.1) (ha : a ≠ h.1) (hk : hK h a = (20, n)) (hs : s ≤ 12) (hm : 21 * s ≤ n) (hn : n ≤ 100000) (hb : ∀ j, j < 21 * s → -1 ≤ hA h a j ∧ hA h a j ≤ 100000 ∧ (15 ≤ j % 21 → j % 21 < 19 → hA h a j ≤ 16)) (x : Int) (ex : x = (s : Int)) {Q : Option av_V → av_H → Prop} (hq : ∀ (f : Nat → Int) h', (∀ j, j < 21 * s → f j = hA h a j) → (∀ j, 21 * s ≤ j → f j = 0 ∨ (21 * s = n ∧ f j = hA h a j)) → NC h t s (ctn f s) (s : Int) (cbv f s) h' → Q none h') : av_wp none cd_27 0 [some (.inr (.inr (.inl (some t)))), some (.inr (.inr (.inl (some a)))), some (.inl x), none, none, none, none, none, none] [] h Q := by
  subst ex
  refine av_wp_seq 7 (pc' := 10) (lv' := [some (.inr (.inr (.inl (some t)))), some (.inr (.inr (.inl (some a)))), some (.inl (s : Int)), none, none, none, none, none, none]) (st' := [.inl ((s : Int) * 21), .inr (.inr (.inl (some a))), .inr (.inr (.inl (some t)))]) (h' := h) rfl ?_
  refine wq_cs (p' := 13) (av_qc (.invokestatic 9) 222 2 2 10) 3 cd_222 [.inr (.inr (.inl (some a))), .inl ((s : Int) * 21)] [.inl ((s : Int) * 21), .inr (.inr (.inl (some a))), .inr (.inr (.inl (some t)))] [some (.inr (.inr (.inl (some a)))), some (.inl ((s : Int) * 21)), none] rfl rfl rfl pp_222 (fun _ => rfl) rfl rfl ?_
  refine ct_222 (m := 21 * s) ha hk hm hn _ (by omega) (fun f f1 f2 => ?_)
  show av_wp _ cd_27 13 [some (.inr (.inr (.inl (some t)))), some (.inr (.inr (.inl (some a)))), some (.inl (s : Int)), none, none, none, none, none, none] [.inr (.inr (.inl (some h.1))), .inr (.inr (.inl (some t)))] (av_newN 20 (21 * s) f h) _
  have k1 : hK (av_newN 20 (21 * s) f h) t = (1, 0) := (newN_ko htn).trans ht
  refine wq_pr (p' := 16) rfl rfl (congrArg Prod.fst k1) rfl ?_
  refine av_wp_seq 2 (pc' := 18) (lv' := [some (.inr (.inr (.inl (some t)))), some (.inr (.inr (.inl (some a)))), some (.inl (s : Int)), none, none, none, none, none, none]) (st' := [.inl (s : Int), .inr (.inr (.inl (some t)))]) (h' := hwG (av_newN 20 (21 * s) f h) t 0 (some h.1)) rfl ?_
  refine wq_pi (p' := 21) rfl rfl (congrArg Prod.fst (show hK (hwG (av_newN 20 (21 * s) f h) t 0 (some h.1)) t = (1, 0) from k1)) rfl ?_
  have N0 : NC h t s (ctn f 0) (s : Int) (hF h t 3) (hwF (hwG (av_newN 20 (21 * s) f h) t 0 (some h.1)) t 1 (s : Int)) := by
    rw [ctn_0]
    refine ⟨rfl, rfl, rfl, rfl, rfl, rfl, fun q k hq => ?_, hF_self, hF_oth (by decide), ht, htn⟩
    show av_u2 h.2.2.2.2.1 t 1 (s : Int) q k = _
    rw [av_u2_ne hq]
  generalize hwF (hwG (av_newN 20 (21 * s) f h) t 0 (some h.1)) t 1 (s : Int) = h0 at N0 ⊢
  generalize hF h t 3 = x3 at N0
  have hf : ∀ j, j < 21 * s → -1 ≤ f j ∧ f j ≤ 100000 ∧ (15 ≤ j % 21 → j % 21 < 19 → f j ≤ 16) := fun j hj => by
    rw [f1 j hj]
    exact hb j hj
  have hg : ∀ q, q < s → ∀ o, 15 ≤ o → o < 19 → f (21 * q + o) ≤ 16 := fun q hq o h1 h2 => (hf (21 * q + o) (by omega)).2.2 (by omega) (by omega)
  refine av_wp_seq 6 (pc' := 29) (lv' := [some (.inr (.inr (.inl (some (t))))), some (.inr (.inr (.inl (some (a))))), some (.inl (s : Int)), some (.inl (0)), some (.inl (1)), some (.inl (0)), none, none, none]) (st' := []) (h' := h0) rfl ?_
  have L : ∀ (n k : Nat) (as : Int) (a6 a7 a8 : Option av_V) (h1 : av_H), n + k = s → av_lg a6 = false → av_lg a7 = false → av_lg a8 = false → NC h t s (ctn f k) (s : Int) x3 h1 → av_wp none cd_27 29 [some (.inr (.inr (.inl (some (t))))), some (.inr (.inr (.inl (some (a))))), some (.inl (s : Int)), some (.inl as), some (.inl (cbf f k)), some (.inl (21 * (k : Int))), a6, a7, a8] [] h1 Q := by
    intro n
    induction n with
    | zero =>
      intro k as a6 a7 a8 h1 e1 la6 la7 la8 N1
      have e1 : k = s := by omega
      subst e1
      have gc := cbf_b k (fun q hq => hg q (by omega))
      refine av_wp_seq 2 (pc' := 32) (lv' := [some (.inr (.inr (.inl (some (t))))), some (.inr (.inr (.inl (some (a))))), some (.inl (k : Int)), some (.inl as), some (.inl (cbf f k)), some (.inl (21 * (k : Int))), a6, a7, a8]) (st' := [.inr (.inr (.inl (some (t)))), .inl (21 * (k : Int))]) (h' := h1) rfl ?_
      refine wq_gr (p' := 35) rfl rfl (congrArg Prod.fst (nc_kt N1)) rfl (nc_g N1) ?_
      refine wq_ln (p' := 36) rfl rfl (nc_kc N1) (by simp) ?_
      refine wq_k2 (p' := 39) rfl rfl ⟨by omega, by omega⟩ ⟨by omega, by omega⟩ (fun _ => ?_) (fun c => absurd (show ((21 * (k : Int))) < ((21 * k : Nat) : Int) from c) (by omega))
      refine av_wp_seq 2 (pc' := 129) (lv' := [some (.inr (.inr (.inl (some (t))))), some (.inr (.inr (.inl (some (a))))), some (.inl (k : Int)), some (.inl as), some (.inl (cbf f k)), some (.inl (21 * (k : Int))), a6, a7, a8]) (st' := [.inl as, .inr (.inr (.inl (some (t))))]) (h' := h1) rfl ?_
      refine wq_pi (p' := 132) rfl rfl (congrArg Prod.fst (nc_kt N1)) rfl ?_
      have N1 := nc_wF (k := 2) (v := as) N1
      generalize hwF h1 t 2 as = h2 at N1 ⊢
      refine av_wp_seq 3 (pc' := 138) (lv' := [some (.inr (.inr (.inl (some (t))))), some (.inr (.inr (.inl (some (a))))), some (.inl (k : Int)), some (.inl as), some (.inl (cbf f k)), some (.inl (21 * (k : Int))), a6, a7, a8]) (st' := [.inl (1024), .inl (cbf f k), .inr (.inr (.inl (some (t))))]) (h' := h2) rfl ?_
      refine wq_k2 (p' := 141) rfl rfl ⟨by omega, by omega⟩ ⟨by omega, by omega⟩ (fun c3 => ?_) (fun c4 => ?_)
      · have c3 : (1024) < (cbf f k) := c3
        refine av_wp_seq 1 (pc' := 147) (lv' := [some (.inr (.inr (.inl (some (t))))), some (.inr (.inr (.inl (some (a))))), some (.inl (k : Int)), some (.inl as), some (.inl (cbf f k)), some (.inl (21 * (k : Int))), a6, a7, a8]) (st' := [.inl (-1), .inr (.inr (.inl (some (t))))]) (h' := h2) rfl ?_
        refine wq_pi (p' := 150) rfl rfl (congrArg Prod.fst (nc_kt N1)) rfl ?_
        have N5 := nc_wF (k := 3) (v := (-1)) N1
        generalize hwF h2 t 3 (-1) = h6 at N5 ⊢
        refine av_wp_ret (v := none) rfl rfl rfl ?_
        have zc : cbv f k = (-1) := by unfold cbv; first | rw [if_pos (by omega)] | rw [if_neg (by omega)]
        exact hq f h6 f1 f2 (by rw [zc]; exact N5)
      · have c4 : (cbf f k) ≤ (1024) := c4
        refine av_wp_seq 2 (pc' := 147) (lv' := [some (.inr (.inr (.inl (some (t))))), some (.inr (.inr (.inl (some (a))))), some (.inl (k : Int)), some (.inl as), some (.inl (cbf f k)), some (.inl (21 * (k : Int))), a6, a7, a8]) (st' := [.inl (cbf f k), .inr (.inr (.inl (some (t))))]) (h' := h2) rfl ?_
        refine wq_pi (p' := 150) rfl rfl (congrArg Prod.fst (nc_kt N1)) rfl ?_
        have N7 := nc_wF (k := 3) (v := (cbf f k)) N1
        generalize hwF h2 t 3 (cbf f k) = h8 at N7 ⊢
        refine av_wp_ret (v := none) rfl rfl rfl ?_
        have zc : cbv f k = (cbf f k) := by unfold cbv; first | rw [if_pos (by omega)] | rw [if_neg (by omega)]
        exact hq f h8 f1 f2 (by rw [zc]; exact N7)
    | succ n ih =>
      intro k as a6 a7 a8 h1 e1 la6 la7 la8 N1
      have gc := cbf_b k (fun q hq => hg q (by omega))
      refine av_wp_seq 2 (pc' := 32) (lv' := [some (.inr (.inr (.inl (some (t))))), some (.inr (.inr (.inl (some (a))))), some (.inl (s : Int)), some (.inl as), some (.inl (cbf f k)), some (.inl (21 * (k : Int))), a6, a7, a8]) (st' := [.inr (.inr (.inl (some (t)))), .inl (21 * (k : Int))]) (h' := h1) rfl ?_
      refine wq_gr (p' := 35) rfl rfl (congrArg Prod.fst (nc_kt N1)) rfl (nc_g N1) ?_
      refine wq_ln (p' := 36) rfl rfl (nc_kc N1) (by simp) ?_
      refine wq_k2 (p' := 39) rfl rfl ⟨by omega, by omega⟩ ⟨by omega, by omega⟩ (fun c => absurd (show (((21 * s : Nat) : Int)) ≤ (21 * (k : Int)) from c) (by omega)) (fun _ => ?_)
      refine av_wp_seq 8 (pc' := 52) (lv' := [some (.inr (.inr (.inl (some (t))))), some (.inr (.inr (.inl (some (a))))), some (.inl (s : Int)), some (.inl as), some (.inl (cbf f k)), some (.inl (21 * (k : Int))), some (.inl (1)), some (.inl (0)), a8]) (st' := [.inr (.inr (.inl (some (t))))]) (h' := h1) rfl ?_
      refine wq_gr (p' := 55) rfl rfl (congrArg Prod.fst (nc_kt N1)) rfl (nc_g N1) ?_
      refine av_wp_seq 5 (pc' := 63) (lv' := [some (.inr (.inr (.inl (some (t))))), some (.inr (.inr (.inl (some (a))))), some (.inl (s : Int)), some (.inl as), some (.inl (cbf f k)), some (.inl (21 * (k : Int))), some (.inl (1)), some (.inl (0)), a8]) (st' := [.inl (((21 * (k : Int)) + (15)) + (0)), .inr (.inr (.inl (some (h.1))))]) (h' := h1) rfl ?_
      obtain ⟨v9, q10⟩ : ∃ v, f (21 * k + 15) = v := ⟨_, rfl⟩
      have g11 := hf (21 * k + 15) (by omega)
      rw [q10] at g11
      have g11 : -1 ≤ v9 ∧ v9 ≤ 16 := ⟨g11.1, g11.2.2 (by omega) (by omega)⟩
      refine wq_al (p' := 64) (n := 21 * s) rfl rfl (nc_kc N1) (by omega) ((congrFun (nc_a N1) _).trans ((congrArg (ctn f k) (show Int.toNat ((((21 * (k : Int)) + (15)) + (0))) = 21 * k + 15 by omega)).trans ((ctn_o (by omega)).trans q10))) ?_
      refine av_wp_seq 3 (pc' := 69) (lv' := [some (.inr (.inr (.inl (some (t))))), some (.inr (.inr (.inl (some (a))))), some (.inl (s : Int)), some (.inl as), some (.inl (cbf f k)), some (.inl (21 * (k : Int))), some (.inl (1)), some (.inl (0)), some (.inl v9)]) (st' := [.inl v9, .inl as]) (h' := h1) rfl ?_
      have J14 : ∀ (j12 : Int), (0 ≤ j12 ∧ j12 ≤ 1) →  av_wp none cd_27 77 [some (.inr (.inr (.inl (some (t))))), some (.inr (.inr (.inl (some (a))))), some (.inl (s : Int)), some (.inl as), some (.inl (cbf f k)), some (.inl (21 * (k : Int))), some (.inl (1)), some (.inl (0)), some (.inl v9)] [.inl j12, .inl as] h1 Q := by
        intro j12 g13
        refine av_wp_seq 5 (pc' := 84) (lv' := [some (.inr (.inr (.inl (some (t))))), some (.inr (.inr (.inl (some (a))))), some (.inl (s : Int)), some (.inl (as + j12)), some (.inl (cbf f k)), some (.inl (21 * (k : Int))), some (.inl (1)), some (.inl (0)), some (.inl v9)]) (st' := [.inl (1), .inl v9, .inl (1)]) (h' := h1) rfl ?_
        refine wq_mx (p' := 87) rfl rfl rfl (fun _ _ => rfl) rfl (fun v15 e16 g17 => ?_)
        have g17 := g17 ⟨by omega, by omega⟩ ⟨by omega, by omega⟩
        have z18 : v15 = mx1 v9 := by unfold mx1; split <;> omega
        subst z18
        clear e16 g17
        refine av_wp_seq 8 (pc' := 52) (lv' := [some (.inr (.inr (.inl (some (t))))), some (.inr (.inr (.inl (some (a))))), some (.inl (s : Int)), some (.inl (as + j12)), some (.inl (cbf f k)), some (.inl (21 * (k : Int))), some (.inl ((1) * (mx1 v9))), some (.inl (1)), some (.inl v9)]) (st' := [.inr (.inr (.inl (some (t))))]) (h' := h1) rfl ?_
        refine wq_gr (p' := 55) rfl rfl (congrArg Prod.fst (nc_kt N1)) rfl (nc_g N1) ?_
        refine av_wp_seq 5 (pc' := 63) (lv' := [some (.inr (.inr (.inl (some (t))))), some (.inr (.inr (.inl (some (a))))), some (.inl (s : Int)), some (.inl (as + j12)), some (.inl (cbf f k)), some (.inl (21 * (k : Int))), some (.inl ((1) * (mx1 v9))), some (.inl (1)), some (.inl v9)]) (st' := [.inl (((21 * (k : Int)) + (15)) + (1)), .inr (.inr (.inl (some (h.1))))]) (h' := h1) rfl ?_
        obtain ⟨v19, q20⟩ : ∃ v, f (21 * k + 16) = v := ⟨_, rfl⟩
        have g21 := hf (21 * k + 16) (by omega)
        rw [q20] at g21
        have g21 : -1 ≤ v19 ∧ v19 ≤ 16 := ⟨g21.1, g21.2.2 (by omega) (by omega)⟩
        refine wq_al (p' := 64) (n := 21 * s) rfl rfl (nc_kc N1) (by omega) ((congrFun (nc_a N1) _).trans ((congrArg (ctn f k) (show Int.toNat ((((21 * (k : Int)) + (15)) + (1))) = 21 * k + 16 by omega)).trans ((ctn_o (by omega)).trans q20))) ?_
        refine av_wp_seq 3 (pc' := 69) (lv' := [some (.inr (.inr (.inl (some (t))))), some (.inr (.inr (.inl (some (a))))), some (.inl (s : Int)), some (.inl (as + j12)), some (.inl (cbf f k)), some (.inl (21 * (k : Int))), some (.inl ((1) * (mx1 v9))), some (.inl (1)), some (.inl v19)]) (st' := [.inl v19, .inl (as + j12)]) (h' := h1) rfl ?_
        have J24 : ∀ (j22 : Int), (0 ≤ j22 ∧ j22 ≤ 1) →  av_wp none cd_27 77 [some (.inr (.inr (.inl (some (t))))), some (.inr (.inr (.inl (some (a))))), some (.inl (s : Int)), some (.inl (as + j12)), some (.inl (cbf f k)), some (.inl (21 * (k : Int))), some (.inl ((1) * (mx1 v9))), some (.inl (1)), some (.inl v19)] [.inl j22, .inl (as + j12)] h1 Q := by
          intro j22 g23
          refine av_wp_seq 5 (pc' := 84) (lv' := [some (.inr (.inr (.inl (some (t))))), some (.inr (.inr (.inl (some (a))))), some (.inl (s : Int)), some (.inl ((as + j12) + j22)), some (.inl (cbf f k)), some (.inl (21 * (k : Int))), some (.inl ((1) * (mx1 v9))), some (.inl (1)), some (.inl v19)]) (st' := [.inl (1), .inl v19, .inl ((1) * (mx1 v9))]) (h' := h1) rfl ?_
          refine wq_mx (p' := 87) rfl rfl rfl (fun _ _ => rfl) rfl (fun v25 e26 g27 => ?_)
          have g27 := g27 ⟨by omega, by omega⟩ ⟨by omega, by omega⟩
          have z28 : v25 = mx1 v19 := by unfold mx1; split <;> omega
          subst z28
          clear e26 g27
          refine av_wp_seq 8 (pc' := 52) (lv' := [some (.inr (.inr (.inl (some (t))))), some (.inr (.inr (.inl (some (a))))), some (.inl (s : Int)), some (.inl ((as + j12) + j22)), some (.inl (cbf f k)), some (.inl (21 * (k : Int))), some (.inl (((1) * (mx1 v9)) * (mx1 v19))), some (.inl (2)), some (.inl v19)]) (st' := [.inr (.inr (.inl (some (t))))]) (h' := h1) rfl ?_
          refine wq_gr (p' := 55) rfl rfl (congrArg Prod.fst (nc_kt N1)) rfl (nc_g N1) ?_
          refine av_wp_seq 5 (pc' := 63) (lv' := [some (.inr (.inr (.inl (some (t))))), some (.inr (.inr (.inl (some (a))))), some (.inl (s : Int)), some (.inl ((as + j12) + j22)), some (.inl (cbf f k)), some (.inl (21 * (k : Int))), some (.inl (((1) * (mx1 v9)) * (mx1 v19))), some (.inl (2)), some (.inl v19)]) (st' := [.inl (((21 * (k : Int)) + (15)) + (2)), .inr (.inr (.inl (some (h.1))))]) (h' := h1) rfl ?_
          obtain ⟨v29, q30⟩ : ∃ v, f (21 * k + 17) = v := ⟨_, rfl⟩
          have g31 := hf (21 * k + 17) (by omega)
          rw [q30] at g31
          have g31 : -1 ≤ v29 ∧ v29 ≤ 16 := ⟨g31.1, g31.2.2 (by omega) (by omega)⟩
          refine wq_al (p' := 64) (n := 21 * s) rfl rfl (nc_kc N1) (by omega) ((congrFun (nc_a N1) _).trans ((congrArg (ctn f k) (show Int.toNat ((((21 * (k : Int)) + (15)) + (2))) = 21 * k + 17 by omega)).trans ((ctn_o (by omega)).trans q30))) ?_
          refine av_wp_seq 3 (pc' := 69) (lv' := [some (.inr (.inr (.inl (some (t))))), some (.inr (.inr (.inl (some (a))))), some (.inl (s : Int)), some (.inl ((as + j12) + j22)), some (.inl (cbf f k)), some (.inl (21 * (k : Int))), some (.inl (((1) * (mx1 v9)) * (mx1 v19))), some (.inl (2)), some (.inl v29)]) (st' := [.inl v29, .inl ((as + j12) + j22)]) (h' := h1) rfl ?_
          have J34 : ∀ (j32 : Int), (0 ≤ j32 ∧ j32 ≤ 1) →  av_wp none cd_27 77 [some (.inr (.inr (.inl (some (t))))), some (.inr (.inr (.inl (some (a))))), some (.inl (s : Int)), some (.inl ((as + j12) + j22)), some (.inl (cbf f k)), some (.inl (21 * (k : Int))), some (.inl (((1) * (mx1 v9)) * (mx1 v19))), some (.inl (2)), some (.inl v29)] [.inl j32, .inl ((as + j12) + j22)] h1 Q := by
            intro j32 g33
            refine av_wp_seq 5 (pc' := 84) (lv' := [some (.inr (.inr (.inl (some (t))))), some (.inr (.inr (.inl (some (a))))), some (.inl (s : Int)), some (.inl (((as + j12) + j22) + j32)), some (.inl (cbf f k)), some (.inl (21 * (k : Int))), some (.inl (((1) * (mx1 v9)) * (mx1 v19))), some (.inl (2)), some (.inl v29)]) (st' := [.inl (1), .inl v29, .inl (((1) * (mx1 v9)) * (mx1 v19))]) (h' := h1) rfl ?_
            refine wq_mx (p' := 87) rfl rfl rfl (fun _ _ => rfl) rfl (fun v35 e36 g37 => ?_)
            have g37 := g37 ⟨by omega, by omega⟩ ⟨by omega, by omega⟩
            have z38 : v35 = mx1 v29 := by unfold mx1; split <;> omega
            subst z38
            clear e36 g37
            refine av_wp_seq 8 (pc' := 52) (lv' := [some (.inr (.inr (.inl (some (t))))), some (.inr (.inr (.inl (some (a))))), some (.inl (s : Int)), some (.inl (((as + j12) + j22) + j32)), some (.inl (cbf f k)), some (.inl (21 * (k : Int))), some (.inl ((((1) * (mx1 v9)) * (mx1 v19)) * (mx1 v29))), some (.inl (3)), some (.inl v29)]) (st' := [.inr (.inr (.inl (some (t))))]) (h' := h1) rfl ?_
            refine wq_gr (p' := 55) rfl rfl (congrArg Prod.fst (nc_kt N1)) rfl (nc_g N1) ?_
            refine av_wp_seq 5 (pc' := 63) (lv' := [some (.inr (.inr (.inl (some (t))))), some (.inr (.inr (.inl (some (a))))), some (.inl (s : Int)), some (.inl (((as + j12) + j22) + j32)), some (.inl (cbf f k)), some (.inl (21 * (k : Int))), some (.inl ((((1) * (mx1 v9)) * (mx1 v19)) * (mx1 v29))), some (.inl (3)), some (.inl v29)]) (st' := [.inl (((21 * (k : Int)) + (15)) + (3)), .inr (.inr (.inl (some (h.1))))]) (h' := h1) rfl ?_
            obtain ⟨v39, q40⟩ : ∃ v, f (21 * k + 18) = v := ⟨_, rfl⟩
            have g41 := hf (21 * k + 18) (by omega)
            rw [q40] at g41
            have g41 : -1 ≤ v39 ∧ v39 ≤ 16 := ⟨g41.1, g41.2.2 (by omega) (by omega)⟩
            refine wq_al (p' := 64) (n := 21 * s) rfl rfl (nc_kc N1) (by omega) ((congrFun (nc_a N1) _).trans ((congrArg (ctn f k) (show Int.toNat ((((21 * (k : Int)) + (15)) + (3))) = 21 * k + 18 by omega)).trans ((ctn_o (by omega)).trans q40))) ?_
            refine av_wp_seq 3 (pc' := 69) (lv' := [some (.inr (.inr (.inl (some (t))))), some (.inr (.inr (.inl (some (a))))), some (.inl (s : Int)), some (.inl (((as + j12) + j22) + j32)), some (.inl (cbf f k)), some (.inl (21 * (k : Int))), some (.inl ((((1) * (mx1 v9)) * (mx1 v19)) * (mx1 v29))), some (.inl (3)), some (.inl v39)]) (st' := [.inl v39, .inl (((as + j12) + j22) + j32)]) (h' := h1) rfl ?_
            have J44 : ∀ (j42 : Int), (0 ≤ j42 ∧ j42 ≤ 1) →  av_wp none cd_27 77 [some (.inr (.inr (.inl (some (t))))), some (.inr (.inr (.inl (some (a))))), some (.inl (s : Int)), some (.inl (((as + j12) + j22) + j32)), some (.inl (cbf f k)), some (.inl (21 * (k : Int))), some (.inl ((((1) * (mx1 v9)) * (mx1 v19)) * (mx1 v29))), some (.inl (3)), some (.inl v39)] [.inl j42, .inl (((as + j12) + j22) + j32)] h1 Q := by
              intro j42 g43
              refine av_wp_seq 5 (pc' := 84) (lv' := [some (.inr (.inr (.inl (some (t))))), some (.inr (.inr (.inl (some (a))))), some (.inl (s : Int)), some (.inl ((((as + j12) + j22) + j32) + j42)), some (.inl (cbf f k)), some (.inl (21 * (k : Int))), some (.inl ((((1) * (mx1 v9)) * (mx1 v19)) * (mx1 v29))), some (.inl (3)), some (.inl v39)]) (st' := [.inl (1), .inl v39, .inl ((((1) * (mx1 v9)) * (mx1 v19)) * (mx1 v29))]) (h' := h1) rfl ?_
              refine wq_mx (p' := 87) rfl rfl rfl (fun _ _ => rfl) rfl (fun v45 e46 g47 => ?_)
              have g47 := g47 ⟨by omega, by omega⟩ ⟨by omega, by omega⟩
              have z48 : v45 = mx1 v39 := by unfold mx1; split <;> omega
              subst z48
              clear e46 g47
              refine av_wp_seq 7 (pc' := 96) (lv' := [some (.inr (.inr (.inl (some (t))))), some (.inr (.inr (.inl (some (a))))), some (.inl (s : Int)), some (.inl ((((as + j12) + j22) + j32) + j42)), some (.inl (cbf f k)), some (.inl (21 * (k : Int))), some (.inl (((((1) * (mx1 v9)) * (mx1 v19)) * (mx1 v29)) * (mx1 v39))), some (.inl (4)), some (.inl v39)]) (st' := []) (h' := h1) rfl ?_
              have zt : (((((1) * (mx1 v9)) * (mx1 v19)) * (mx1 v29)) * (mx1 v39)) = tnv f k := by unfold tnv; rw [q10, q20, q30, q40]
              rw [zt]
              have gt := tnv_b (hg k (by omega))
              have gm := mul_b gc gt
              refine av_wp_seq 1 (pc' := 97) (lv' := [some (.inr (.inr (.inl (some (t))))), some (.inr (.inr (.inl (some (a))))), some (.inl (s : Int)), some (.inl ((((as + j12) + j22) + j32) + j42)), some (.inl (cbf f k)), some (.inl (21 * (k : Int))), some (.inl (tnv f k)), some (.inl (4)), some (.inl v39)]) (st' := [.inr (.inr (.inl (some (t))))]) (h' := h1) rfl ?_
              refine wq_gr (p' := 100) rfl rfl (congrArg Prod.fst (nc_kt N1)) rfl (nc_g N1) ?_
              refine av_wp_seq 4 (pc' := 107) (lv' := [some (.inr (.inr (.inl (some (t))))), some (.inr (.inr (.inl (some (a))))), some (.inl (s : Int)), some (.inl ((((as + j12) + j22) + j32) + j42)), some (.inl (cbf f k)), some (.inl (21 * (k : Int))), some (.inl (tnv f k)), some (.inl (4)), some (.inl v39)]) (st' := [.inl (tnv f k), .inl ((21 * (k : Int)) + (20)), .inr (.inr (.inl (some (h.1))))]) (h' := h1) rfl ?_
              refine wq_as (p' := 108) (n := 21 * s) rfl rfl (nc_kc N1) (by omega) ?_
              have N49 := nc_wA (j := Int.toNat (((21 * (k : Int)) + (20)))) (v := (tnv f k)) N1
              generalize hwA h1 h.1 (Int.toNat (((21 * (k : Int)) + (20)))) (tnv f k) = h50 at N49 ⊢
              rw [show Int.toNat (((21 * (k : Int)) + (20))) = 21 * k + 20 by omega, ctn_s] at N49
              refine av_wp_seq 4 (pc' := 116) (lv' := [some (.inr (.inr (.inl (some (t))))), some (.inr (.inr (.inl (some (a))))), some (.inl (s : Int)), some (.inl ((((as + j12) + j22) + j32) + j42)), some (.inl (cbf f k)), some (.inl (21 * (k : Int))), some (.inl (tnv f k)), some (.inl (4)), some (.inl v39)]) (st' := [.inl (1025), .inl ((cbf f k) * (tnv f k))]) (h' := h50) rfl ?_
              refine wq_mne (p' := 119) rfl rfl rfl (fun _ _ => rfl) rfl ⟨by omega, by omega⟩ ⟨by omega, by omega⟩ ?_
              rw [show (if (1025 : Int) < ((cbf f k) * (tnv f k)) then (1025 : Int) else ((cbf f k) * (tnv f k))) = cbf f (k + 1) from rfl]
              refine av_wp_seq 3 (pc' := 29) (lv' := [some (.inr (.inr (.inl (some (t))))), some (.inr (.inr (.inl (some (a))))), some (.inl (s : Int)), some (.inl ((((as + j12) + j22) + j32) + j42)), some (.inl (cbf f (k + 1))), some (.inl ((21 * (k : Int)) + (21))), some (.inl (tnv f k)), some (.inl (4)), some (.inl v39)]) (st' := []) (h' := h50) rfl ?_
              rw [show (21 * (k : Int)) + (21) = 21 * ((k + 1 : Nat) : Int) by omega]
              exact ih (k + 1) _ _ _ _ h50 (by omega) rfl rfl rfl N49
            refine wq_k1 (p' := 72) rfl rfl ⟨by omega, by omega⟩ (fun c51 => ?_) (fun c52 => ?_)
            · have c51 : v39 ≤ (0) := c51
              refine av_wp_seq 1 (pc' := 77) (lv' := [some (.inr (.inr (.inl (some (t))))), some (.inr (.inr (.inl (some (a))))), some (.inl (s : Int)), some (.inl (((as + j12) + j22) + j32)), some (.inl (cbf f k)), some (.inl (21 * (k : Int))), some (.inl ((((1) * (mx1 v9)) * (mx1 v19)) * (mx1 v29))), some (.inl (3)), some (.inl v39)]) (st' := [.inl (0), .inl (((as + j12) + j22) + j32)]) (h' := h1) rfl ?_
              exact J44 ((0)) (by omega)
            · have c52 : (0) < v39 := c52
              refine av_wp_seq 2 (pc' := 77) (lv' := [some (.inr (.inr (.inl (some (t))))), some (.inr (.inr (.inl (some (a))))), some (.inl (s : Int)), some (.inl (((as + j12) + j22) + j32)), some (.inl (cbf f k)), some (.inl (21 * (k : Int))), some (.inl ((((1) * (mx1 v9)) * (mx1 v19)) * (mx1 v29))), some (.inl (3)), some (.inl v39)]) (st' := [.inl (1), .inl (((as + j12) + j22) + j32)]) (h' := h1) rfl ?_
              exact J44 ((1)) (by omega)
          refine wq_k1 (p' := 72) rfl rfl ⟨by omega, by omega⟩ (fun c53 => ?_) (fun c54 => ?_)
          · have c53 : v29 ≤ (0) := c53
            refine av_wp_seq 1 (pc' := 77) (lv' := [some (.inr (.inr (.inl (some (t))))), some (.inr (.inr (.inl (some (a))))), some (.inl (s : Int)), some (.inl ((as + j12) + j22)), some (.inl (cbf f k)), some (.inl (21 * (k : Int))), some (.inl (((1) * (mx1 v9)) * (mx1 v19))), some (.inl (2)), some (.inl v29)]) (st' := [.inl (0), .inl ((as + j12) + j22)]) (h' := h1) rfl ?_
            exact J34 ((0)) (by omega)
          · have c54 : (0) < v29 := c54
            refine av_wp_seq 2 (pc' := 77) (lv' := [some (.inr (.inr (.inl (some (t))))), some (.inr (.inr (.inl (some (a))))), some (.inl (s : Int)), some (.inl ((as + j12) + j22)), some (.inl (cbf f k)), some (.inl (21 * (k : Int))), some (.inl (((1) * (mx1 v9)) * (mx1 v19))), some (.inl (2)), some (.inl v29)]) (st' := [.inl (1), .inl ((as + j12) + j22)]) (h' := h1) rfl ?_
            exact J34 ((1)) (by omega)
        refine wq_k1 (p' := 72) rfl rfl ⟨by omega, by omega⟩ (fun c55 => ?_) (fun c56 => ?_)
        · have c55 : v19 ≤ (0) := c55
          refine av_wp_seq 1 (pc' := 77) (lv' := [some (.inr (.inr (.inl (some (t))))), some (.inr (.inr (.inl (some (a))))), some (.inl (s : Int)), some (.inl (as + j12)), some (.inl (cbf f k)), some (.inl (21 * (k : Int))), some (.inl ((1) * (mx1 v9))), some (.inl (1)), some (.inl v19)]) (st' := [.inl (0), .inl (as + j12)]) (h' := h1) rfl ?_
          exact J24 ((0)) (by omega)
        · have c56 : (0) < v19 := c56
          refine av_wp_seq 2 (pc' := 77) (lv' := [some (.inr (.inr (.inl (some (t))))), some (.inr (.inr (.inl (some (a))))), some (.inl (s : Int)), some (.inl (as + j12)), some (.inl (cbf f k)), some (.inl (21 * (k : Int))), some (.inl ((1) * (mx1 v9))), some (.inl (1)), some (.inl v19)]) (st' := [.inl (1), .inl (as + j12)]) (h' := h1) rfl ?_
          exact J24 ((1)) (by omega)
      refine wq_k1 (p' := 72) rfl rfl ⟨by omega, by omega⟩ (fun c57 => ?_) (fun c58 => ?_)
      · have c57 : v9 ≤ (0) := c57
        refine av_wp_seq 1 (pc' := 77) (lv' := [some (.inr (.inr (.inl (some (t))))), some (.inr (.inr (.inl (some (a))))), some (.inl (s : Int)), some (.inl as), some (.inl (cbf f k)), some (.inl (21 * (k : Int))), some (.inl (1)), some (.inl (0)), some (.inl v9)]) (st' := [.inl (0), .inl as]) (h' := h1) rfl ?_
        exact J14 ((0)) (by omega)
      · have c58 : (0) < v9 := c58
        refine av_wp_seq 2 (pc' := 77) (lv' := [some (.inr (.inr (.inl (some (t))))), some (.inr (.inr (.inl (some (a))))), some (.inl (s : Int)), some (.inl as), some (.inl (cbf f k)), some (.inl (21 * (k : Int))), some (.inl (1)), some (.inl (0)), some (.inl v9)]) (st' := [.inl (1), .inl as]) (h' := h1) rfl ?_
        exact J14 ((1)) (by omega)
  exact L s 0 _ _ _ _ h0 (by omega) rfl rfl rfl N0
