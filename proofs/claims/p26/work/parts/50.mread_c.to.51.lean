section
set_option maxRecDepth 100000 in
set_option maxHeartbeats 4000000 in
theorem ct_146 {g h : av_H} {b : Nat → Int} {lim : Nat} {t : TT} {x17 : Int} (N : MT b lim t x17 (hA h) h) (F : FD g h) (B : BN (hA h)) (c k : Nat) (hc : c ≤ 15) (hk : k ≤ 11) (x y : Int) (ex : x = (c : Int)) (ey : y = (k : Int)) {r : Nat → Int} (rel : ∀ s, s < k → hA h 82 (12 * c + s) = r (s * 21) ∧ hA h 83 (12 * c + s) = r (s * 21 + 1) ∧ hA h 84 (12 * c + s) = r (s * 21 + 2))  {Q : Option av_V → av_H → Prop} (hq : ∀ h' R', MR b lim (rsy b lim k (c : Int) t r).1 x17 (hA h) (12 * c + k) R' h' → FD g h' → RX 3 1 (rsy b lim k (c : Int) t r).1 R' (rsy b lim k (c : Int) t r).2 (k * 21) → Q none h') : av_wp none cd_146 0 [some (.inr (.inr (.inl (some (77))))), some (.inl x), some (.inl y), none, none, none] [] h Q := by
  subst ex
  subst ey
  have M := mr_0 (i := 12 * c + k) N B
  generalize (fun o => hA h (vq o) (vk (12 * c + k) o)) = R at M
  refine av_wp_sqF ck_146 7 (pc' := 8) (lv' := [some (.inr (.inr (.inl (some (77))))), some (.inl (c : Int)), some (.inl (k : Int)), some (.inl (((12) * (c : Int)) + (k : Int))), none, none]) (st' := [.inr (.inr (.inl (some (77))))]) (h' := h) rfl ?_
  refine wq_cv (p' := 11) (av_qc (.invokevirtual 261) 139 0 0 8) 1 cd_139 [] (77) 8 [some (.inr (.inr (.inl (some (77)))))] (ck_146 _ _ rfl) rfl rfl pp_139 rfl rfl rfl (congrArg Prod.fst (ly_k (mr_L M) 77 rfl)) rfl rfl rfl rfl ?_
  refine ct_139 M.1 F (fun v1 p2 => ?_)
  show av_wp _ cd_146 11 [some (.inr (.inr (.inl (some (77))))), some (.inl (c : Int)), some (.inl (k : Int)), some (.inl (((12) * (c : Int)) + (k : Int))), none, none] [.inl v1] h _
  refine av_wp_sqF ck_146 2 (pc' := 15) (lv' := [some (.inr (.inr (.inl (some (77))))), some (.inl (c : Int)), some (.inl (k : Int)), some (.inl (((12) * (c : Int)) + (k : Int))), some (.inl v1), none]) (st' := [.inl v1]) (h' := h) rfl ?_
  refine wq_k1 (p' := 18) (ck_146 _ _ rfl) rfl ⟨by omega, by omega⟩ (fun c3 => ?_) (fun c4 => ?_)
  · have c3 : v1 < (0) := c3
    refine av_wp_sqF ck_146 1 (pc' := 25) (lv' := [some (.inr (.inr (.inl (some (77))))), some (.inl (c : Int)), some (.inl (k : Int)), some (.inl (((12) * (c : Int)) + (k : Int))), some (.inl v1), none]) (st' := [.inr (.inr (.inl (some (77))))]) (h' := h) rfl ?_
    refine wq_cv (p' := 28) (av_qc (.invokevirtual 194) 131 0 0 8) 1 cd_131 [] (77) 8 [some (.inr (.inr (.inl (some (77)))))] (ck_146 _ _ rfl) rfl rfl pp_131 rfl rfl rfl (congrArg Prod.fst (ly_k (mr_L M) 77 rfl)) rfl rfl rfl rfl ?_
    refine ct_131 M.1 F (fun h5 N6 F7 => ?_)
    have M8 := mr_tok M N6
    clear N6
    generalize q10 : fal t = t9 at M8
    show av_wp _ cd_146 28 [some (.inr (.inr (.inl (some (77))))), some (.inl (c : Int)), some (.inl (k : Int)), some (.inl (((12) * (c : Int)) + (k : Int))), some (.inl v1), none] [] h5 _
    refine av_wp_ret (v := none) (ck_146 _ _ rfl) rfl rfl ?_
    have z1 : (rsy b lim k (c : Int) t r).1 = t9 := by rw [rsy_f (by omega)]; exact q10
    exact hq h5 R (by rw [z1]; exact M8) F7 (by rw [z1, ← q10]; exact rx_f fal_ne)
  · have c4 : (0) ≤ v1 := c4
    refine av_wp_sqF ck_146 2 (pc' := 21) (lv' := [some (.inr (.inr (.inl (some (77))))), some (.inl (c : Int)), some (.inl (k : Int)), some (.inl (((12) * (c : Int)) + (k : Int))), some (.inl v1), none]) (st' := [.inl (12), .inl (k : Int)]) (h' := h) rfl ?_
    refine wq_k2 (p' := 24) (ck_146 _ _ rfl) rfl ⟨by omega, by omega⟩ ⟨by omega, by omega⟩ (fun c11 => ?_) (fun c12 => ?_)
    · have c11 : (k : Int) ≠ (12) := c11
      refine av_wp_sqF ck_146 1 (pc' := 30) (lv' := [some (.inr (.inr (.inl (some (77))))), some (.inl (c : Int)), some (.inl (k : Int)), some (.inl (((12) * (c : Int)) + (k : Int))), some (.inl v1), none]) (st' := [.inr (.inr (.inl (some (77))))]) (h' := h) rfl ?_
      refine wq_cv (p' := 33) (av_qc (.invokevirtual 191) 130 0 0 8) 2 cd_130 [] (77) 8 [some (.inr (.inr (.inl (some (77))))), none] (ck_146 _ _ rfl) rfl rfl pp_130 rfl rfl rfl (congrArg Prod.fst (ly_k (mr_L M) 77 rfl)) rfl rfl rfl rfl ?_
      refine ct_130t M.1 F (fun h13 N14 F15 => ?_)
      have M16 := mr_tok M N14
      clear N14
      generalize q18 : adv b lim t = t17 at M16
      show av_wp _ cd_146 33 [some (.inr (.inr (.inl (some (77))))), some (.inl (c : Int)), some (.inl (k : Int)), some (.inl (((12) * (c : Int)) + (k : Int))), some (.inl v1), none] [] h13 _
      have q19 : rsK b t = v1 := by unfold rsK; split <;> omega
      have q20 : cho b lim t 0 = t17 := by rw [← q18]; exact if_neg (by omega)
      have gw : 0 ≤ v1 ∧ v1 ≤ 7 ∧ v1 ≠ 3 := by omega
      clear p2
      refine av_wp_sqF ck_146 1 (pc' := 34) (lv' := [some (.inr (.inr (.inl (some (77))))), some (.inl (c : Int)), some (.inl (k : Int)), some (.inl (((12) * (c : Int)) + (k : Int))), some (.inl v1), none]) (st' := [.inr (.inr (.inl (some (77))))]) (h' := h13) rfl ?_
      refine wq_gr (p' := 37) (ck_146 _ _ rfl) rfl (congrArg Prod.fst (ly_k (mr_L M16) 77 rfl)) rfl (ly_g (mr_L M16) 77 4 82 rfl) ?_
      refine av_wp_sqF ck_146 2 (pc' := 40) (lv' := [some (.inr (.inr (.inl (some (77))))), some (.inl (c : Int)), some (.inl (k : Int)), some (.inl (((12) * (c : Int)) + (k : Int))), some (.inl v1), none]) (st' := [.inl v1, .inl (((12) * (c : Int)) + (k : Int)), .inr (.inr (.inl (some (82))))]) (h' := h13) rfl ?_
      refine mr_as (p' := 41) rfl rfl M16 F15 (by omega) 0 (by decide) (by show _ = (((1 * (12 * c + k) + 0 : Nat)) : Int); omega) rfl (by show (0 : Int) ≤ v1 ∧ v1 ≤ (7 : Int); omega) (fun h21 M22 F23 => ?_)
      refine av_wp_sqF ck_146 1 (pc' := 42) (lv' := [some (.inr (.inr (.inl (some (77))))), some (.inl (c : Int)), some (.inl (k : Int)), some (.inl (((12) * (c : Int)) + (k : Int))), some (.inl v1), none]) (st' := [.inr (.inr (.inl (some (77))))]) (h' := h21) rfl ?_
      refine wq_gr (p' := 45) (ck_146 _ _ rfl) rfl (congrArg Prod.fst (ly_k (mr_L M22) 77 rfl)) rfl (ly_g (mr_L M22) 77 6 84 rfl) ?_
      refine av_wp_sqF ck_146 2 (pc' := 47) (lv' := [some (.inr (.inr (.inl (some (77))))), some (.inl (c : Int)), some (.inl (k : Int)), some (.inl (((12) * (c : Int)) + (k : Int))), some (.inl v1), none]) (st' := [.inl (-1), .inl (((12) * (c : Int)) + (k : Int)), .inr (.inr (.inl (some (84))))]) (h' := h21) rfl ?_
      refine mr_as (p' := 48) rfl rfl M22 F23 (by omega) 2 (by decide) (by show _ = (((1 * (12 * c + k) + 0 : Nat)) : Int); omega) rfl (by show (-1 : Int) ≤ (-1) ∧ (-1) ≤ (2 : Int); omega) (fun h25 M26 F27 => ?_)
      refine av_wp_sqF ck_146 1 (pc' := 49) (lv' := [some (.inr (.inr (.inl (some (77))))), some (.inl (c : Int)), some (.inl (k : Int)), some (.inl (((12) * (c : Int)) + (k : Int))), some (.inl v1), none]) (st' := [.inr (.inr (.inl (some (77))))]) (h' := h25) rfl ?_
      refine wq_gr (p' := 52) (ck_146 _ _ rfl) rfl (congrArg Prod.fst (ly_k (mr_L M26) 77 rfl)) rfl (ly_g (mr_L M26) 77 7 85 rfl) ?_
      refine av_wp_sqF ck_146 2 (pc' := 54) (lv' := [some (.inr (.inr (.inl (some (77))))), some (.inl (c : Int)), some (.inl (k : Int)), some (.inl (((12) * (c : Int)) + (k : Int))), some (.inl v1), none]) (st' := [.inl (-1), .inl (((12) * (c : Int)) + (k : Int)), .inr (.inr (.inl (some (85))))]) (h' := h25) rfl ?_
      refine mr_as (p' := 55) rfl rfl M26 F27 (by omega) 3 (by decide) (by show _ = (((1 * (12 * c + k) + 0 : Nat)) : Int); omega) rfl (by show (-1 : Int) ≤ (-1) ∧ (-1) ≤ (11 : Int); omega) (fun h29 M30 F31 => ?_)
      refine av_wp_sqF ck_146 1 (pc' := 56) (lv' := [some (.inr (.inr (.inl (some (77))))), some (.inl (c : Int)), some (.inl (k : Int)), some (.inl (((12) * (c : Int)) + (k : Int))), some (.inl v1), none]) (st' := [.inr (.inr (.inl (some (77))))]) (h' := h29) rfl ?_
      refine wq_gr (p' := 59) (ck_146 _ _ rfl) rfl (congrArg Prod.fst (ly_k (mr_L M30) 77 rfl)) rfl (ly_g (mr_L M30) 77 9 87 rfl) ?_
      refine av_wp_sqF ck_146 2 (pc' := 61) (lv' := [some (.inr (.inr (.inl (some (77))))), some (.inl (c : Int)), some (.inl (k : Int)), some (.inl (((12) * (c : Int)) + (k : Int))), some (.inl v1), none]) (st' := [.inl (-1), .inl (((12) * (c : Int)) + (k : Int)), .inr (.inr (.inl (some (87))))]) (h' := h29) rfl ?_
      refine mr_as (p' := 62) rfl rfl M30 F31 (by omega) 5 (by decide) (by show _ = (((1 * (12 * c + k) + 0 : Nat)) : Int); omega) rfl (by show (-1 : Int) ≤ (-1) ∧ (-1) ≤ (1999 : Int); omega) (fun h33 M34 F35 => ?_)
      refine av_wp_sqF ck_146 1 (pc' := 63) (lv' := [some (.inr (.inr (.inl (some (77))))), some (.inl (c : Int)), some (.inl (k : Int)), some (.inl (((12) * (c : Int)) + (k : Int))), some (.inl v1), none]) (st' := [.inr (.inr (.inl (some (77))))]) (h' := h33) rfl ?_
      refine wq_gr (p' := 66) (ck_146 _ _ rfl) rfl (congrArg Prod.fst (ly_k (mr_L M34) 77 rfl)) rfl (ly_g (mr_L M34) 77 10 88 rfl) ?_
      refine av_wp_sqF ck_146 2 (pc' := 68) (lv' := [some (.inr (.inr (.inl (some (77))))), some (.inl (c : Int)), some (.inl (k : Int)), some (.inl (((12) * (c : Int)) + (k : Int))), some (.inl v1), none]) (st' := [.inl (-1), .inl (((12) * (c : Int)) + (k : Int)), .inr (.inr (.inl (some (88))))]) (h' := h33) rfl ?_
      refine mr_as (p' := 69) rfl rfl M34 F35 (by omega) 6 (by decide) (by show _ = (((1 * (12 * c + k) + 0 : Nat)) : Int); omega) rfl (by show (-1 : Int) ≤ (-1) ∧ (-1) ≤ (15 : Int); omega) (fun h37 M38 F39 => ?_)
      refine av_wp_sqF ck_146 1 (pc' := 70) (lv' := [some (.inr (.inr (.inl (some (77))))), some (.inl (c : Int)), some (.inl (k : Int)), some (.inl (((12) * (c : Int)) + (k : Int))), some (.inl v1), none]) (st' := [.inr (.inr (.inl (some (77))))]) (h' := h37) rfl ?_
      refine wq_gr (p' := 73) (ck_146 _ _ rfl) rfl (congrArg Prod.fst (ly_k (mr_L M38) 77 rfl)) rfl (ly_g (mr_L M38) 77 11 89 rfl) ?_
      refine av_wp_sqF ck_146 2 (pc' := 75) (lv' := [some (.inr (.inr (.inl (some (77))))), some (.inl (c : Int)), some (.inl (k : Int)), some (.inl (((12) * (c : Int)) + (k : Int))), some (.inl v1), none]) (st' := [.inl (0), .inl (((12) * (c : Int)) + (k : Int)), .inr (.inr (.inl (some (89))))]) (h' := h37) rfl ?_
      refine mr_as (p' := 76) rfl rfl M38 F39 (by omega) 18 (by decide) (by show _ = (((1 * (12 * c + k) + 0 : Nat)) : Int); omega) rfl (by show (0 : Int) ≤ (0) ∧ (0) ≤ (1 : Int); omega) (fun h41 M42 F43 => ?_)
      refine av_wp_sqF ck_146 6 (pc' := 86) (lv' := [some (.inr (.inr (.inl (some (77))))), some (.inl (c : Int)), some (.inl (k : Int)), some (.inl (((12) * (c : Int)) + (k : Int))), some (.inl v1), some (.inl (0))]) (st' := [.inr (.inr (.inl (some (77))))]) (h' := h41) rfl ?_
      refine wq_gr (p' := 89) (ck_146 _ _ rfl) rfl (congrArg Prod.fst (ly_k (mr_L M42) 77 rfl)) rfl (ly_g (mr_L M42) 77 12 90 rfl) ?_
      refine av_wp_sqF ck_146 6 (pc' := 96) (lv' := [some (.inr (.inr (.inl (some (77))))), some (.inl (c : Int)), some (.inl (k : Int)), some (.inl (((12) * (c : Int)) + (k : Int))), some (.inl v1), some (.inl (0))]) (st' := [.inl (-1), .inl (((5) * (((12) * (c : Int)) + (k : Int))) + (0)), .inr (.inr (.inl (some (90))))]) (h' := h41) rfl ?_
      refine mr_as (p' := 97) rfl rfl M42 F43 (by omega) 10 (by decide) (by show _ = (((5 * (12 * c + k) + 0 : Nat)) : Int); omega) rfl (by show (-1 : Int) ≤ (-1) ∧ (-1) ≤ (999 : Int); omega) (fun h45 M46 F47 => ?_)
      refine av_wp_sqF ck_146 6 (pc' := 86) (lv' := [some (.inr (.inr (.inl (some (77))))), some (.inl (c : Int)), some (.inl (k : Int)), some (.inl (((12) * (c : Int)) + (k : Int))), some (.inl v1), some (.inl (1))]) (st' := [.inr (.inr (.inl (some (77))))]) (h' := h45) rfl ?_
      refine wq_gr (p' := 89) (ck_146 _ _ rfl) rfl (congrArg Prod.fst (ly_k (mr_L M46) 77 rfl)) rfl (ly_g (mr_L M46) 77 12 90 rfl) ?_
      refine av_wp_sqF ck_146 6 (pc' := 96) (lv' := [some (.inr (.inr (.inl (some (77))))), some (.inl (c : Int)), some (.inl (k : Int)), some (.inl (((12) * (c : Int)) + (k : Int))), some (.inl v1), some (.inl (1))]) (st' := [.inl (-1), .inl (((5) * (((12) * (c : Int)) + (k : Int))) + (1)), .inr (.inr (.inl (some (90))))]) (h' := h45) rfl ?_
      refine mr_as (p' := 97) rfl rfl M46 F47 (by omega) 11 (by decide) (by show _ = (((5 * (12 * c + k) + 1 : Nat)) : Int); omega) rfl (by show (-1 : Int) ≤ (-1) ∧ (-1) ≤ (999 : Int); omega) (fun h49 M50 F51 => ?_)
      refine av_wp_sqF ck_146 6 (pc' := 86) (lv' := [some (.inr (.inr (.inl (some (77))))), some (.inl (c : Int)), some (.inl (k : Int)), some (.inl (((12) * (c : Int)) + (k : Int))), some (.inl v1), some (.inl (2))]) (st' := [.inr (.inr (.inl (some (77))))]) (h' := h49) rfl ?_
      refine wq_gr (p' := 89) (ck_146 _ _ rfl) rfl (congrArg Prod.fst (ly_k (mr_L M50) 77 rfl)) rfl (ly_g (mr_L M50) 77 12 90 rfl) ?_
      refine av_wp_sqF ck_146 6 (pc' := 96) (lv' := [some (.inr (.inr (.inl (some (77))))), some (.inl (c : Int)), some (.inl (k : Int)), some (.inl (((12) * (c : Int)) + (k : Int))), some (.inl v1), some (.inl (2))]) (st' := [.inl (-1), .inl (((5) * (((12) * (c : Int)) + (k : Int))) + (2)), .inr (.inr (.inl (some (90))))]) (h' := h49) rfl ?_
      refine mr_as (p' := 97) rfl rfl M50 F51 (by omega) 12 (by decide) (by show _ = (((5 * (12 * c + k) + 2 : Nat)) : Int); omega) rfl (by show (-1 : Int) ≤ (-1) ∧ (-1) ≤ (999 : Int); omega) (fun h53 M54 F55 => ?_)
      refine av_wp_sqF ck_146 6 (pc' := 86) (lv' := [some (.inr (.inr (.inl (some (77))))), some (.inl (c : Int)), some (.inl (k : Int)), some (.inl (((12) * (c : Int)) + (k : Int))), some (.inl v1), some (.inl (3))]) (st' := [.inr (.inr (.inl (some (77))))]) (h' := h53) rfl ?_
      refine wq_gr (p' := 89) (ck_146 _ _ rfl) rfl (congrArg Prod.fst (ly_k (mr_L M54) 77 rfl)) rfl (ly_g (mr_L M54) 77 12 90 rfl) ?_
      refine av_wp_sqF ck_146 6 (pc' := 96) (lv' := [some (.inr (.inr (.inl (some (77))))), some (.inl (c : Int)), some (.inl (k : Int)), some (.inl (((12) * (c : Int)) + (k : Int))), some (.inl v1), some (.inl (3))]) (st' := [.inl (-1), .inl (((5) * (((12) * (c : Int)) + (k : Int))) + (3)), .inr (.inr (.inl (some (90))))]) (h' := h53) rfl ?_
      refine mr_as (p' := 97) rfl rfl M54 F55 (by omega) 13 (by decide) (by show _ = (((5 * (12 * c + k) + 3 : Nat)) : Int); omega) rfl (by show (-1 : Int) ≤ (-1) ∧ (-1) ≤ (999 : Int); omega) (fun h57 M58 F59 => ?_)
      refine av_wp_sqF ck_146 6 (pc' := 86) (lv' := [some (.inr (.inr (.inl (some (77))))), some (.inl (c : Int)), some (.inl (k : Int)), some (.inl (((12) * (c : Int)) + (k : Int))), some (.inl v1), some (.inl (4))]) (st' := [.inr (.inr (.inl (some (77))))]) (h' := h57) rfl ?_
      refine wq_gr (p' := 89) (ck_146 _ _ rfl) rfl (congrArg Prod.fst (ly_k (mr_L M58) 77 rfl)) rfl (ly_g (mr_L M58) 77 12 90 rfl) ?_
      refine av_wp_sqF ck_146 6 (pc' := 96) (lv' := [some (.inr (.inr (.inl (some (77))))), some (.inl (c : Int)), some (.inl (k : Int)), some (.inl (((12) * (c : Int)) + (k : Int))), some (.inl v1), some (.inl (4))]) (st' := [.inl (-1), .inl (((5) * (((12) * (c : Int)) + (k : Int))) + (4)), .inr (.inr (.inl (some (90))))]) (h' := h57) rfl ?_
      refine mr_as (p' := 97) rfl rfl M58 F59 (by omega) 14 (by decide) (by show _ = (((5 * (12 * c + k) + 4 : Nat)) : Int); omega) rfl (by show (-1 : Int) ≤ (-1) ∧ (-1) ≤ (999 : Int); omega) (fun h61 M62 F63 => ?_)
      refine av_wp_sqF ck_146 11 (pc' := 113) (lv' := [some (.inr (.inr (.inl (some (77))))), some (.inl (c : Int)), some (.inl (k : Int)), some (.inl (((12) * (c : Int)) + (k : Int))), some (.inl v1), some (.inl (0))]) (st' := [.inr (.inr (.inl (some (77))))]) (h' := h61) rfl ?_
      refine wq_gr (p' := 116) (ck_146 _ _ rfl) rfl (congrArg Prod.fst (ly_k (mr_L M62) 77 rfl)) rfl (ly_g (mr_L M62) 77 13 91 rfl) ?_
      refine av_wp_sqF ck_146 6 (pc' := 123) (lv' := [some (.inr (.inr (.inl (some (77))))), some (.inl (c : Int)), some (.inl (k : Int)), some (.inl (((12) * (c : Int)) + (k : Int))), some (.inl v1), some (.inl (0))]) (st' := [.inl (0), .inl (((3) * (((12) * (c : Int)) + (k : Int))) + (0)), .inr (.inr (.inl (some (91))))]) (h' := h61) rfl ?_
      refine mr_as (p' := 124) rfl rfl M62 F63 (by omega) 7 (by decide) (by show _ = (((3 * (12 * c + k) + 0 : Nat)) : Int); omega) rfl (by show (0 : Int) ≤ (0) ∧ (0) ≤ (1999 : Int); omega) (fun h65 M66 F67 => ?_)
      refine av_wp_sqF ck_146 1 (pc' := 125) (lv' := [some (.inr (.inr (.inl (some (77))))), some (.inl (c : Int)), some (.inl (k : Int)), some (.inl (((12) * (c : Int)) + (k : Int))), some (.inl v1), some (.inl (0))]) (st' := [.inr (.inr (.inl (some (77))))]) (h' := h65) rfl ?_
      refine wq_gr (p' := 128) (ck_146 _ _ rfl) rfl (congrArg Prod.fst (ly_k (mr_L M66) 77 rfl)) rfl (ly_g (mr_L M66) 77 14 92 rfl) ?_
      refine av_wp_sqF ck_146 6 (pc' := 135) (lv' := [some (.inr (.inr (.inl (some (77))))), some (.inl (c : Int)), some (.inl (k : Int)), some (.inl (((12) * (c : Int)) + (k : Int))), some (.inl v1), some (.inl (0))]) (st' := [.inl (0), .inl (((3) * (((12) * (c : Int)) + (k : Int))) + (0)), .inr (.inr (.inl (some (92))))]) (h' := h65) rfl ?_
      refine mr_as (p' := 136) rfl rfl M66 F67 (by omega) 15 (by decide) (by show _ = (((3 * (12 * c + k) + 0 : Nat)) : Int); omega) rfl (by show (0 : Int) ≤ (0) ∧ (0) ≤ (1999 : Int); omega) (fun h69 M70 F71 => ?_)
      refine av_wp_sqF ck_146 6 (pc' := 113) (lv' := [some (.inr (.inr (.inl (some (77))))), some (.inl (c : Int)), some (.inl (k : Int)), some (.inl (((12) * (c : Int)) + (k : Int))), some (.inl v1), some (.inl (1))]) (st' := [.inr (.inr (.inl (some (77))))]) (h' := h69) rfl ?_
      refine wq_gr (p' := 116) (ck_146 _ _ rfl) rfl (congrArg Prod.fst (ly_k (mr_L M70) 77 rfl)) rfl (ly_g (mr_L M70) 77 13 91 rfl) ?_
      refine av_wp_sqF ck_146 6 (pc' := 123) (lv' := [some (.inr (.inr (.inl (some (77))))), some (.inl (c : Int)), some (.inl (k : Int)), some (.inl (((12) * (c : Int)) + (k : Int))), some (.inl v1), some (.inl (1))]) (st' := [.inl (0), .inl (((3) * (((12) * (c : Int)) + (k : Int))) + (1)), .inr (.inr (.inl (some (91))))]) (h' := h69) rfl ?_
      refine mr_as (p' := 124) rfl rfl M70 F71 (by omega) 8 (by decide) (by show _ = (((3 * (12 * c + k) + 1 : Nat)) : Int); omega) rfl (by show (0 : Int) ≤ (0) ∧ (0) ≤ (1999 : Int); omega) (fun h73 M74 F75 => ?_)
      refine av_wp_sqF ck_146 1 (pc' := 125) (lv' := [some (.inr (.inr (.inl (some (77))))), some (.inl (c : Int)), some (.inl (k : Int)), some (.inl (((12) * (c : Int)) + (k : Int))), some (.inl v1), some (.inl (1))]) (st' := [.inr (.inr (.inl (some (77))))]) (h' := h73) rfl ?_
      refine wq_gr (p' := 128) (ck_146 _ _ rfl) rfl (congrArg Prod.fst (ly_k (mr_L M74) 77 rfl)) rfl (ly_g (mr_L M74) 77 14 92 rfl) ?_
      refine av_wp_sqF ck_146 6 (pc' := 135) (lv' := [some (.inr (.inr (.inl (some (77))))), some (.inl (c : Int)), some (.inl (k : Int)), some (.inl (((12) * (c : Int)) + (k : Int))), some (.inl v1), some (.inl (1))]) (st' := [.inl (0), .inl (((3) * (((12) * (c : Int)) + (k : Int))) + (1)), .inr (.inr (.inl (some (92))))]) (h' := h73) rfl ?_
      refine mr_as (p' := 136) rfl rfl M74 F75 (by omega) 16 (by decide) (by show _ = (((3 * (12 * c + k) + 1 : Nat)) : Int); omega) rfl (by show (0 : Int) ≤ (0) ∧ (0) ≤ (1999 : Int); omega) (fun h77 M78 F79 => ?_)
      refine av_wp_sqF ck_146 6 (pc' := 113) (lv' := [some (.inr (.inr (.inl (some (77))))), some (.inl (c : Int)), some (.inl (k : Int)), some (.inl (((12) * (c : Int)) + (k : Int))), some (.inl v1), some (.inl (2))]) (st' := [.inr (.inr (.inl (some (77))))]) (h' := h77) rfl ?_
      refine wq_gr (p' := 116) (ck_146 _ _ rfl) rfl (congrArg Prod.fst (ly_k (mr_L M78) 77 rfl)) rfl (ly_g (mr_L M78) 77 13 91 rfl) ?_
      refine av_wp_sqF ck_146 6 (pc' := 123) (lv' := [some (.inr (.inr (.inl (some (77))))), some (.inl (c : Int)), some (.inl (k : Int)), some (.inl (((12) * (c : Int)) + (k : Int))), some (.inl v1), some (.inl (2))]) (st' := [.inl (0), .inl (((3) * (((12) * (c : Int)) + (k : Int))) + (2)), .inr (.inr (.inl (some (91))))]) (h' := h77) rfl ?_
      refine mr_as (p' := 124) rfl rfl M78 F79 (by omega) 9 (by decide) (by show _ = (((3 * (12 * c + k) + 2 : Nat)) : Int); omega) rfl (by show (0 : Int) ≤ (0) ∧ (0) ≤ (1999 : Int); omega) (fun h81 M82 F83 => ?_)
      refine av_wp_sqF ck_146 1 (pc' := 125) (lv' := [some (.inr (.inr (.inl (some (77))))), some (.inl (c : Int)), some (.inl (k : Int)), some (.inl (((12) * (c : Int)) + (k : Int))), some (.inl v1), some (.inl (2))]) (st' := [.inr (.inr (.inl (some (77))))]) (h' := h81) rfl ?_
      refine wq_gr (p' := 128) (ck_146 _ _ rfl) rfl (congrArg Prod.fst (ly_k (mr_L M82) 77 rfl)) rfl (ly_g (mr_L M82) 77 14 92 rfl) ?_
      refine av_wp_sqF ck_146 6 (pc' := 135) (lv' := [some (.inr (.inr (.inl (some (77))))), some (.inl (c : Int)), some (.inl (k : Int)), some (.inl (((12) * (c : Int)) + (k : Int))), some (.inl v1), some (.inl (2))]) (st' := [.inl (0), .inl (((3) * (((12) * (c : Int)) + (k : Int))) + (2)), .inr (.inr (.inl (some (92))))]) (h' := h81) rfl ?_
      refine mr_as (p' := 136) rfl rfl M82 F83 (by omega) 17 (by decide) (by show _ = (((3 * (12 * c + k) + 2 : Nat)) : Int); omega) rfl (by show (0 : Int) ≤ (0) ∧ (0) ≤ (1999 : Int); omega) (fun h85 M86 F87 => ?_)
      refine av_wp_sqF ck_146 6 (pc' := 143) (lv' := [some (.inr (.inr (.inl (some (77))))), some (.inl (c : Int)), some (.inl (k : Int)), some (.inl (((12) * (c : Int)) + (k : Int))), some (.inl v1), some (.inl (3))]) (st' := [.inr (.inr (.inl (some (77))))]) (h' := h85) rfl ?_
      refine wq_gr (p' := 146) (ck_146 _ _ rfl) rfl (congrArg Prod.fst (ly_k (mr_L M86) 77 rfl)) rfl (ly_g (mr_L M86) 77 5 83 rfl) ?_
      refine av_wp_sqF ck_146 3 (pc' := 149) (lv' := [some (.inr (.inr (.inl (some (77))))), some (.inl (c : Int)), some (.inl (k : Int)), some (.inl (((12) * (c : Int)) + (k : Int))), some (.inl v1), some (.inl (3))]) (st' := [.inl (-1), .inr (.inr (.inl (some (77)))), .inl (((12) * (c : Int)) + (k : Int)), .inr (.inr (.inl (some (83))))]) (h' := h85) rfl ?_
      refine wq_cv (p' := 152) (av_qc (.invokevirtual 264) 137 1 0 8) 3 cd_137 [.inl (-1)] (77) 8 [some (.inr (.inr (.inl (some (77))))), some (.inl (-1)), none] (ck_146 _ _ rfl) rfl rfl pp_137 rfl rfl rfl (congrArg Prod.fst (ly_k (mr_L M86) 77 rfl)) rfl rfl rfl rfl ?_
      refine ct_137p M86.1 F87 (-1) (by omega) (fun v89 h92 P91 E90 N93 F94 => ?_)
      have M95 := mr_tok M86 N93
      clear N93
      rw [hnd_1] at M95 E90
      generalize q97 : cho b lim t17 1 = t96 at M95 E90
      show av_wp _ cd_146 152 [some (.inr (.inr (.inl (some (77))))), some (.inl (c : Int)), some (.inl (k : Int)), some (.inl (((12) * (c : Int)) + (k : Int))), some (.inl v1), some (.inl (3))] [.inl v89, .inl (((12) * (c : Int)) + (k : Int)), .inr (.inr (.inl (some (83))))] h92 _
      refine mr_as (p' := 153) rfl rfl M95 F94 (by omega) 1 (by decide) (by show _ = (((1 * (12 * c + k) + 0 : Nat)) : Int); omega) rfl (by show (0 : Int) ≤ v89 ∧ v89 ≤ (2 : Int); omega) (fun h98 M99 F100 => ?_)
      have X101 : RX 0 0 t96 (av_u1 (av_u1 (av_u1 (av_u1 (av_u1 (av_u1 (av_u1 (av_u1 (av_u1 (av_u1 (av_u1 (av_u1 (av_u1 (av_u1 (av_u1 (av_u1 (av_u1 (av_u1 R 0 v1) 2 (-1)) 3 (-1)) 5 (-1)) 6 (-1)) 18 (0)) 10 (-1)) 11 (-1)) 12 (-1)) 13 (-1)) 14 (-1)) 7 (0)) 15 (0)) 8 (0)) 16 (0)) 9 (0)) 17 (0)) 1 v89) (av_u1 (av_u1 (rs0 k r) (k * 21) v1) (k * 21 + 1) (pkv b t17 1)) (k * 21) := rx_0 rfl rfl rfl rfl rfl rfl ⟨rfl, rfl, rfl⟩ ⟨rfl, rfl, rfl, rfl, rfl⟩ ⟨rfl, rfl, rfl⟩ rfl E90
      have q103 : (av_u1 (av_u1 (av_u1 (av_u1 (av_u1 (av_u1 (av_u1 (av_u1 (av_u1 (av_u1 (av_u1 (av_u1 (av_u1 (av_u1 (av_u1 (av_u1 (av_u1 (av_u1 R 0 v1) 2 (-1)) 3 (-1)) 5 (-1)) 6 (-1)) 18 (0)) 10 (-1)) 11 (-1)) 12 (-1)) 13 (-1)) 14 (-1)) 7 (0)) 15 (0)) 8 (0)) 16 (0)) 9 (0)) 17 (0)) 1 v89) 1 = v89 := rfl
      generalize (av_u1 (av_u1 (av_u1 (av_u1 (av_u1 (av_u1 (av_u1 (av_u1 (av_u1 (av_u1 (av_u1 (av_u1 (av_u1 (av_u1 (av_u1 (av_u1 (av_u1 (av_u1 R 0 v1) 2 (-1)) 3 (-1)) 5 (-1)) 6 (-1)) 18 (0)) 10 (-1)) 11 (-1)) 12 (-1)) 13 (-1)) 14 (-1)) 7 (0)) 15 (0)) 8 (0)) 16 (0)) 9 (0)) 17 (0)) 1 v89) = R102 at M99 X101 q103
      refine av_wp_sqF ck_146 2 (pc' := 156) (lv' := [some (.inr (.inr (.inl (some (77))))), some (.inl (c : Int)), some (.inl (k : Int)), some (.inl (((12) * (c : Int)) + (k : Int))), some (.inl v1), some (.inl (3))]) (st' := [.inl (2), .inl v1]) (h' := h98) rfl ?_
      refine wq_k2 (p' := 159) (ck_146 _ _ rfl) rfl ⟨by omega, by omega⟩ ⟨by omega, by omega⟩ (fun c104 => ?_) (fun c105 => ?_)
      · have c104 : (2) ≤ v1 := c104
        refine av_wp_sqF ck_146 1 (pc' := 179) (lv' := [some (.inr (.inr (.inl (some (77))))), some (.inl (c : Int)), some (.inl (k : Int)), some (.inl (((12) * (c : Int)) + (k : Int))), some (.inl v1), some (.inl (3))]) (st' := [.inr (.inr (.inl (some (77))))]) (h' := h98) rfl ?_
        refine wq_gr (p' := 182) (ck_146 _ _ rfl) rfl (congrArg Prod.fst (ly_k (mr_L M99) 77 rfl)) rfl (ly_g (mr_L M99) 77 7 85 rfl) ?_
        refine av_wp_sqF ck_146 6 (pc' := 189) (lv' := [some (.inr (.inr (.inl (some (77))))), some (.inl (c : Int)), some (.inl (k : Int)), some (.inl (((12) * (c : Int)) + (k : Int))), some (.inl v1), some (.inl (3))]) (st' := [.inr (.inr (.inl (some (77)))), .inl v1, .inl (k : Int), .inl (c : Int), .inr (.inr (.inl (some (77)))), .inl (((12) * (c : Int)) + (k : Int)), .inr (.inr (.inl (some (85))))]) (h' := h98) rfl ?_
        refine wq_gr (p' := 192) (ck_146 _ _ rfl) rfl (congrArg Prod.fst (ly_k (mr_L M99) 77 rfl)) rfl (ly_g (mr_L M99) 77 5 83 rfl) ?_
        refine av_wp_sqF ck_146 1 (pc' := 193) (lv' := [some (.inr (.inr (.inl (some (77))))), some (.inl (c : Int)), some (.inl (k : Int)), some (.inl (((12) * (c : Int)) + (k : Int))), some (.inl v1), some (.inl (3))]) (st' := [.inl (((12) * (c : Int)) + (k : Int)), .inr (.inr (.inl (some (83)))), .inl v1, .inl (k : Int), .inl (c : Int), .inr (.inr (.inl (some (77)))), .inl (((12) * (c : Int)) + (k : Int)), .inr (.inr (.inl (some (85))))]) (h' := h98) rfl ?_
        refine wq_al (p' := 194) (n := 960) (ck_146 _ _ rfl) rfl (ly_k (mr_L M99) 83 rfl) (by omega) ((mr_ld M99 1 (by decide) rfl (by show _ = (((1 * (12 * c + k) + 0 : Nat)) : Int); omega)).trans q103) ?_
        refine wq_cv (p' := 197) (av_qc (.invokevirtual 268) 145 4 0 8) 8 cd_145 [.inl v89, .inl v1, .inl (k : Int), .inl (c : Int)] (77) 8 [some (.inr (.inr (.inl (some (77))))), some (.inl (c : Int)), some (.inl (k : Int)), some (.inl v1), some (.inl v89), none, none, none] (ck_146 _ _ rfl) rfl rfl pp_145 rfl rfl rfl (congrArg Prod.fst (ly_k (mr_L M99) 77 rfl)) rfl rfl rfl rfl ?_
        refine ct_145 M99.1 F100 M99.2.2.1 c k (by omega) (by omega) ((c : Int)) ((k : Int)) (by omega) (by omega) v1 v89 (by omega) (by omega) (r := (av_u1 (av_u1 (rs0 k r) (k * 21) v1) (k * 21 + 1) (pkv b t17 1))) (fun s hs => ?_) (fun z => (E90 z).trans u1_eq.symm) (fun v106 h109 N110 F111 E107 P108 => ?_)
        · obtain ⟨e0, e1, e2⟩ := rel s hs
          have k0 : hA h98 82 (12 * c + s) = (av_u1 (av_u1 (rs0 k r) (k * 21) v1) (k * 21 + 1) (pkv b t17 1)) (s * 21) := (frw_a M99.2.2.2 (by omega) (by omega)).trans (e0.trans ((u1_ne (by omega)).trans ((u1_ne (by omega)).trans (rs0_n (by omega)))).symm)
          have k1 : hA h98 83 (12 * c + s) = (av_u1 (av_u1 (rs0 k r) (k * 21) v1) (k * 21 + 1) (pkv b t17 1)) (s * 21 + 1) := (frw_a M99.2.2.2 (by omega) (by omega)).trans (e1.trans ((u1_ne (by omega)).trans ((u1_ne (by omega)).trans (rs0_n (by omega)))).symm)
          have k2 : hA h98 84 (12 * c + s) = (av_u1 (av_u1 (rs0 k r) (k * 21) v1) (k * 21 + 1) (pkv b t17 1)) (s * 21 + 2) := (frw_a M99.2.2.2 (by omega) (by omega)).trans (e2.trans ((u1_ne (by omega)).trans ((u1_ne (by omega)).trans (rs0_n (by omega)))).symm)
          exact ⟨k0, k1, k2⟩
        have M112 := mr_tok M99 N110
        clear N110
        have fr116 : ∀ j, j ≠ k * 21 + 3 → (rsS b lim k v1 t96 (av_u1 (av_u1 (rs0 k r) (k * 21) v1) (k * 21 + 1) (pkv b t17 1))).2 j = (av_u1 (av_u1 (rs0 k r) (k * 21) v1) (k * 21 + 1) (pkv b t17 1)) j := fun j hj => rsS_fr hj
        have fr116o := rsS_o (b := b) (lim := lim) (k := k) (kind := v1) (t := t96) (r := (av_u1 (av_u1 (rs0 k r) (k * 21) v1) (k * 21 + 1) (pkv b t17 1)))
        have fr116x := rx_S (v := v106) X101 E107
        obtain ⟨⟨t113, r114⟩, q115⟩ : ∃ x, rsS b lim k v1 t96 (av_u1 (av_u1 (rs0 k r) (k * 21) v1) (k * 21 + 1) (pkv b t17 1)) = x := ⟨_, rfl⟩
        rw [q115] at M112 E107 fr116 fr116o fr116x
        have M112 : MR b lim t113 x17 (hA h) (12 * c + k) R102 h109 := M112
        have fr116 : ∀ j, j ≠ k * 21 + 3 → r114 j = (av_u1 (av_u1 (rs0 k r) (k * 21) v1) (k * 21 + 1) (pkv b t17 1)) j := fr116
        show av_wp _ cd_146 197 [some (.inr (.inr (.inl (some (77))))), some (.inl (c : Int)), some (.inl (k : Int)), some (.inl (((12) * (c : Int)) + (k : Int))), some (.inl v1), some (.inl (3))] [.inl v106, .inl (((12) * (c : Int)) + (k : Int)), .inr (.inr (.inl (some (85))))] h109 _
        refine mr_as (p' := 198) rfl rfl M112 F111 (by omega) 3 (by decide) (by show _ = (((1 * (12 * c + k) + 0 : Nat)) : Int); omega) rfl (by show (-1 : Int) ≤ v106 ∧ v106 ≤ (11 : Int); omega) (fun h117 M118 F119 => ?_)
        have X120 : RX 0 0 t113 (av_u1 R102 3 v106) r114 (k * 21) := fr116x
        refine av_wp_sqF ck_146 1 (pc' := 200) (lv' := [some (.inr (.inr (.inl (some (77))))), some (.inl (c : Int)), some (.inl (k : Int)), some (.inl (((12) * (c : Int)) + (k : Int))), some (.inl v1), some (.inl (3))]) (st' := [.inl v1]) (h' := h117) rfl ?_
        refine wq_k1 (p' := 203) (ck_146 _ _ rfl) rfl ⟨by omega, by omega⟩ (fun c121 => ?_) (fun c122 => ?_)
        · have c121 : v1 ≠ (0) := c121
          refine av_wp_sqF ck_146 2 (pc' := 268) (lv' := [some (.inr (.inr (.inl (some (77))))), some (.inl (c : Int)), some (.inl (k : Int)), some (.inl (((12) * (c : Int)) + (k : Int))), some (.inl v1), some (.inl (3))]) (st' := [.inl (2), .inl v1]) (h' := h117) rfl ?_
          refine wq_k2 (p' := 271) (ck_146 _ _ rfl) rfl ⟨by omega, by omega⟩ ⟨by omega, by omega⟩ (fun c123 => ?_) (fun c124 => ?_)
          · have c123 : v1 ≠ (2) := c123
            refine av_wp_sqF ck_146 2 (pc' := 322) (lv' := [some (.inr (.inr (.inl (some (77))))), some (.inl (c : Int)), some (.inl (k : Int)), some (.inl (((12) * (c : Int)) + (k : Int))), some (.inl v1), some (.inl (3))]) (st' := [.inl (((12) * (c : Int)) + (k : Int)), .inr (.inr (.inl (some (77))))]) (h' := h117) rfl ?_
            refine wq_cv (p' := 325) (av_qc (.invokevirtual 282) 143 1 0 8) 3 cd_143 [.inl (((12) * (c : Int)) + (k : Int))] (77) 8 [some (.inr (.inr (.inl (some (77))))), some (.inl (((12) * (c : Int)) + (k : Int))), none] (ck_146 _ _ rfl) rfl rfl pp_143 rfl rfl rfl (congrArg Prod.fst (ly_k (mr_L M118) 77 rfl)) rfl rfl rfl rfl ?_
            refine ct_143 M118 F119 (by omega) X120 ((((12) * (c : Int)) + (k : Int))) (by omega) rfl (fun h125 R126 M127 F128 X129 => ?_)
            obtain ⟨⟨t130, r131⟩, q132⟩ : ∃ x, rsM b lim (k * 21) t113 r114 = x := ⟨_, rfl⟩
            rw [q132] at M127 X129
            have M127 : MR b lim t130 x17 (hA h) (12 * c + k) R126 h125 := M127
            have X129 : RX 3 1 t130 R126 r131 (k * 21) := X129
            show av_wp _ cd_146 325 [some (.inr (.inr (.inl (some (77))))), some (.inl (c : Int)), some (.inl (k : Int)), some (.inl (((12) * (c : Int)) + (k : Int))), some (.inl v1), some (.inl (3))] [] h125 _
            refine av_wp_sqF ck_146 1 (pc' := 326) (lv' := [some (.inr (.inr (.inl (some (77))))), some (.inl (c : Int)), some (.inl (k : Int)), some (.inl (((12) * (c : Int)) + (k : Int))), some (.inl v1), some (.inl (3))]) (st' := [.inr (.inr (.inl (some (77))))]) (h' := h125) rfl ?_
            refine wq_cv (p' := 329) (av_qc (.invokevirtual 286) 135 0 0 8) 1 cd_135 [] (77) 8 [some (.inr (.inr (.inl (some (77)))))] (ck_146 _ _ rfl) rfl rfl pp_135 rfl rfl rfl (congrArg Prod.fst (ly_k (mr_L M127) 77 rfl)) rfl rfl rfl rfl ?_
            refine ct_135 M127.1 F128 (fun h133 N134 F135 => ?_)
            have M136 := mr_tok M127 N134
            clear N134
            generalize q138 : sem b lim t130 = t137 at M136
            have X139 : RX 3 1 t137 R126 r131 (k * 21) := rx_t X129 (fun z => sem_o (by rw [q138]; exact z))
            show av_wp _ cd_146 329 [some (.inr (.inr (.inl (some (77))))), some (.inl (c : Int)), some (.inl (k : Int)), some (.inl (((12) * (c : Int)) + (k : Int))), some (.inl v1), some (.inl (3))] [] h133 _
            refine av_wp_ret (v := none) (ck_146 _ _ rfl) rfl rfl ?_
            exact hq h133 R126 (by simp only [rsy, rs5, rs4, rs3, rs2, rs1, rsT, rsT1, rsT2, rsB, q18, q19, q20, q97, q115, q132, q138, if_neg (show ¬ (v1 = 0 ∨ v1 = 1) by omega), if_neg (show ¬ v1 = 0 by omega), if_neg (show ¬ v1 = 2 by omega)]; exact M136) F135 (by simp only [rsy, rs5, rs4, rs3, rs2, rs1, rsT, rsT1, rsT2, rsB, q18, q19, q20, q97, q115, q132, q138, if_neg (show ¬ (v1 = 0 ∨ v1 = 1) by omega), if_neg (show ¬ v1 = 0 by omega), if_neg (show ¬ v1 = 2 by omega)]; exact X139)
          · have c124 : v1 = (2) := c124
            refine av_wp_sqF ck_146 2 (pc' := 275) (lv' := [some (.inr (.inr (.inl (some (77))))), some (.inl (c : Int)), some (.inl (k : Int)), some (.inl (((12) * (c : Int)) + (k : Int))), some (.inl v1), some (.inl (3))]) (st' := [.inr (.inl (2045)), .inr (.inr (.inl (some (77))))]) (h' := h117) rfl ?_
            refine wq_cv (p' := 278) (av_qc (.invokevirtual 187) 132 1 0 8) 3 cd_132 [.inr (.inl (2045))] (77) 8 [some (.inr (.inr (.inl (some (77))))), some (.inr (.inl (2045))), none] (ck_146 _ _ rfl) rfl rfl pp_132 rfl rfl rfl (congrArg Prod.fst (ly_k (mr_L M118) 77 rfl)) rfl rfl rfl rfl ?_
            refine ct_132p M118.1 F119 (2045) (by omega) 5 ltw_5 (fun z140 => ?_) (fun z140 => ?_)
            · show av_wp _ cd_146 278 [some (.inr (.inr (.inl (some (77))))), some (.inl (c : Int)), some (.inl (k : Int)), some (.inl (((12) * (c : Int)) + (k : Int))), some (.inl v1), some (.inl (3))] [.inl (1)] h117 _
              refine av_wp_sqF ck_146 2 (pc' := 282) (lv' := [some (.inr (.inr (.inl (some (77))))), some (.inl (c : Int)), some (.inl (k : Int)), some (.inl (((12) * (c : Int)) + (k : Int))), some (.inl v1), some (.inl (3))]) (st' := [.inr (.inr (.inl (some (77))))]) (h' := h117) rfl ?_
              refine wq_cv (p' := 285) (av_qc (.invokevirtual 191) 130 0 0 8) 2 cd_130 [] (77) 8 [some (.inr (.inr (.inl (some (77))))), none] (ck_146 _ _ rfl) rfl rfl pp_130 rfl rfl rfl (congrArg Prod.fst (ly_k (mr_L M118) 77 rfl)) rfl rfl rfl rfl ?_
              refine ct_130t M118.1 F119 (fun h141 N142 F143 => ?_)
              have M144 := mr_tok M118 N142
              clear N142
              generalize q146 : adv b lim t113 = t145 at M144
              have X147 : RX 0 0 t145 (av_u1 R102 3 v106) r114 (k * 21) := rx_t X120 (fun z => by rw [← q146] at z; exact z)
              show av_wp _ cd_146 285 [some (.inr (.inr (.inl (some (77))))), some (.inl (c : Int)), some (.inl (k : Int)), some (.inl (((12) * (c : Int)) + (k : Int))), some (.inl v1), some (.inl (3))] [] h141 _
              refine av_wp_sqF ck_146 1 (pc' := 286) (lv' := [some (.inr (.inr (.inl (some (77))))), some (.inl (c : Int)), some (.inl (k : Int)), some (.inl (((12) * (c : Int)) + (k : Int))), some (.inl v1), some (.inl (3))]) (st' := [.inr (.inr (.inl (some (77))))]) (h' := h141) rfl ?_
              refine wq_gr (p' := 289) (ck_146 _ _ rfl) rfl (congrArg Prod.fst (ly_k (mr_L M144) 77 rfl)) rfl (ly_g (mr_L M144) 77 4 82 rfl) ?_
              refine av_wp_sqF ck_146 2 (pc' := 291) (lv' := [some (.inr (.inr (.inl (some (77))))), some (.inl (c : Int)), some (.inl (k : Int)), some (.inl (((12) * (c : Int)) + (k : Int))), some (.inl v1), some (.inl (3))]) (st' := [.inl (3), .inl (((12) * (c : Int)) + (k : Int)), .inr (.inr (.inl (some (82))))]) (h' := h141) rfl ?_
              refine mr_as (p' := 292) rfl rfl M144 F143 (by omega) 0 (by decide) (by show _ = (((1 * (12 * c + k) + 0 : Nat)) : Int); omega) rfl (by show (0 : Int) ≤ (3) ∧ (3) ≤ (7 : Int); omega) (fun h148 M149 F150 => ?_)
              have X151 : RX 0 0 t145 (av_u1 (av_u1 R102 3 v106) 0 (3)) (av_u1 r114 (k * 21) (3)) (k * 21) := rx_u X147 (by omega) (by omega) (fun _ => rfl)
              refine av_wp_sqF ck_146 1 (pc' := 293) (lv' := [some (.inr (.inr (.inl (some (77))))), some (.inl (c : Int)), some (.inl (k : Int)), some (.inl (((12) * (c : Int)) + (k : Int))), some (.inl v1), some (.inl (3))]) (st' := [.inr (.inr (.inl (some (77))))]) (h' := h148) rfl ?_
              refine wq_gr (p' := 296) (ck_146 _ _ rfl) rfl (congrArg Prod.fst (ly_k (mr_L M149) 77 rfl)) rfl (ly_g (mr_L M149) 77 6 84 rfl) ?_
              refine av_wp_sqF ck_146 2 (pc' := 298) (lv' := [some (.inr (.inr (.inl (some (77))))), some (.inl (c : Int)), some (.inl (k : Int)), some (.inl (((12) * (c : Int)) + (k : Int))), some (.inl v1), some (.inl (3))]) (st' := [.inr (.inr (.inl (some (77)))), .inl (((12) * (c : Int)) + (k : Int)), .inr (.inr (.inl (some (84))))]) (h' := h148) rfl ?_
              refine wq_gr (p' := 301) (ck_146 _ _ rfl) rfl (congrArg Prod.fst (ly_k (mr_L M149) 77 rfl)) rfl (ly_g (mr_L M149) 77 5 83 rfl) ?_
              refine av_wp_sqF ck_146 4 (pc' := 306) (lv' := [some (.inr (.inr (.inl (some (77))))), some (.inl (c : Int)), some (.inl (k : Int)), some (.inl (((12) * (c : Int)) + (k : Int))), some (.inl v1), some (.inl (3))]) (st' := [.inr (.inr (.inl (some (77)))), .inl ((12) * (c : Int)), .inr (.inr (.inl (some (83)))), .inl (((12) * (c : Int)) + (k : Int)), .inr (.inr (.inl (some (84))))]) (h' := h148) rfl ?_
              refine wq_gr (p' := 309) (ck_146 _ _ rfl) rfl (congrArg Prod.fst (ly_k (mr_L M149) 77 rfl)) rfl (ly_g (mr_L M149) 77 7 85 rfl) ?_
              refine av_wp_sqF ck_146 1 (pc' := 310) (lv' := [some (.inr (.inr (.inl (some (77))))), some (.inl (c : Int)), some (.inl (k : Int)), some (.inl (((12) * (c : Int)) + (k : Int))), some (.inl v1), some (.inl (3))]) (st' := [.inl (((12) * (c : Int)) + (k : Int)), .inr (.inr (.inl (some (85)))), .inl ((12) * (c : Int)), .inr (.inr (.inl (some (83)))), .inl (((12) * (c : Int)) + (k : Int)), .inr (.inr (.inl (some (84))))]) (h' := h148) rfl ?_
              refine wq_al (p' := 311) (n := 960) (ck_146 _ _ rfl) rfl (ly_k (mr_L M149) 85 rfl) (by omega) ((mr_ld M149 3 (by decide) rfl (by show _ = (((1 * (12 * c + k) + 0 : Nat)) : Int); omega)).trans ((u1_ne (by omega)).trans (u1_eq))) ?_
              refine av_wp_sqF ck_146 1 (pc' := 312) (lv' := [some (.inr (.inr (.inl (some (77))))), some (.inl (c : Int)), some (.inl (k : Int)), some (.inl (((12) * (c : Int)) + (k : Int))), some (.inl v1), some (.inl (3))]) (st' := [.inl (((12) * (c : Int)) + v106), .inr (.inr (.inl (some (83)))), .inl (((12) * (c : Int)) + (k : Int)), .inr (.inr (.inl (some (84))))]) (h' := h148) rfl ?_
              have ok4 := (pkv_s z140).1
              have o4 := fr116o ok4
              have e3 := (E107 ok4)
              have e3b : r114 (k * 21 + 3) = v106 := (show r114 (k * 21 + 3) = (av_u1 (av_u1 (av_u1 (rs0 k r) (k * 21) v1) (k * 21 + 1) (pkv b t17 1)) (k * 21 + 3) (vlv b t96)) (k * 21 + 3) from congrFun (congrArg Prod.snd o4.2.2.2) (k * 21 + 3)).trans (u1_eq.trans e3.symm)
              obtain ⟨e0r, e1r, e2r⟩ := rel (Int.toNat v106) (by omega)
              have bH := M149.2.2.1 83 (by omega) (by omega) (12 * c + Int.toNat v106)
              have fH := frw_a (a := 83) (j := 12 * c + Int.toNat v106) M149.2.2.2 (by omega) (by omega)
              obtain ⟨vH, hH⟩ : ∃ v, hA h148 83 (12 * c + Int.toNat v106) = v := ⟨_, rfl⟩
              rw [hH] at bH fH
              have bH : 0 ≤ vH ∧ vH ≤ 2 := bH
              have eHb : (av_u1 (av_u1 (rs0 k r) (k * 21) v1) (k * 21 + 1) (pkv b t17 1)) (Int.toNat v106 * 21 + 1) = vH := by rw [u1_ne (by omega), u1_ne (by omega), rs0_n (by omega), ← e1r]; exact fH.symm
              refine wq_al (p' := 313) (n := 960) (ck_146 _ _ rfl) rfl (ly_k (mr_L M149) 83 rfl) (by omega) ((congrArg (hA h148 83) (show Int.toNat ((((12) * (c : Int)) + v106)) = 12 * c + Int.toNat v106 by omega)).trans hH) ?_
              refine mr_as (p' := 314) rfl rfl M149 F150 (by omega) 2 (by decide) (by show _ = (((1 * (12 * c + k) + 0 : Nat)) : Int); omega) rfl (by show (-1 : Int) ≤ vH ∧ vH ≤ (2 : Int); omega) (fun h152 M153 F154 => ?_)
              have X155 : RX 0 0 t145 (av_u1 (av_u1 (av_u1 R102 3 v106) 0 (3)) 2 vH) (av_u1 (av_u1 r114 (k * 21) (3)) (k * 21 + 2) vH) (k * 21) := rx_u X151 (by omega) (by omega) (fun _ => rfl)
              have q156 : rsB0 (k * 21) (av_u1 r114 (k * 21) (3)) = (av_u1 (av_u1 r114 (k * 21) (3)) (k * 21 + 2) vH) := by unfold rsB0; rw [u1_ne (i := k * 21) (j := k * 21 + 3) (by omega), e3b, if_pos (by omega), u1_ne (i := k * 21) (by omega), fr116 _ (by omega), eHb]
              refine av_wp_sqF ck_146 3 (pc' := 317) (lv' := [some (.inr (.inr (.inl (some (77))))), some (.inl (c : Int)), some (.inl (k : Int)), some (.inl (((12) * (c : Int)) + (k : Int))), some (.inl v1), some (.inl (3))]) (st' := [.inl (1), .inl (((12) * (c : Int)) + (k : Int)), .inr (.inr (.inl (some (77))))]) (h' := h152) rfl ?_
              refine wq_cv (p' := 320) (av_qc (.invokevirtual 272) 141 2 0 8) 4 cd_141 [.inl (1), .inl (((12) * (c : Int)) + (k : Int))] (77) 8 [some (.inr (.inr (.inl (some (77))))), some (.inl (((12) * (c : Int)) + (k : Int))), some (.inl (1)), none] (ck_146 _ _ rfl) rfl rfl pp_141 rfl rfl rfl (congrArg Prod.fst (ly_k (mr_L M153) 77 rfl)) rfl rfl rfl rfl ?_
              refine ct_141b M153 F154 (by omega) X155 ((((12) * (c : Int)) + (k : Int))) (by omega)  (fun h157 R158 M159 F160 X161 => ?_)
              obtain ⟨⟨t162, r163⟩, q164⟩ : ∃ x, rsW b lim (k * 21) 900 (if pkv b t145 2 = -1 then fal t145 else t145) (av_u1 (av_u1 r114 (k * 21) (3)) (k * 21 + 2) vH) = x := ⟨_, rfl⟩
              rw [q164] at M159 X161
              have M159 : MR b lim t162 x17 (hA h) (12 * c + k) R158 h157 := M159
              have X161 : RX 0 0 t162 R158 r163 (k * 21) := X161
              show av_wp _ cd_146 320 [some (.inr (.inr (.inl (some (77))))), some (.inl (c : Int)), some (.inl (k : Int)), some (.inl (((12) * (c : Int)) + (k : Int))), some (.inl v1), some (.inl (3))] [] h157 _
              refine av_wp_sqF ck_146 2 (pc' := 322) (lv' := [some (.inr (.inr (.inl (some (77))))), some (.inl (c : Int)), some (.inl (k : Int)), some (.inl (((12) * (c : Int)) + (k : Int))), some (.inl v1), some (.inl (3))]) (st' := [.inl (((12) * (c : Int)) + (k : Int)), .inr (.inr (.inl (some (77))))]) (h' := h157) rfl ?_
              refine wq_cv (p' := 325) (av_qc (.invokevirtual 282) 143 1 0 8) 3 cd_143 [.inl (((12) * (c : Int)) + (k : Int))] (77) 8 [some (.inr (.inr (.inl (some (77))))), some (.inl (((12) * (c : Int)) + (k : Int))), none] (ck_146 _ _ rfl) rfl rfl pp_143 rfl rfl rfl (congrArg Prod.fst (ly_k (mr_L M159) 77 rfl)) rfl rfl rfl rfl ?_
              refine ct_143 M159 F160 (by omega) X161 ((((12) * (c : Int)) + (k : Int))) (by omega) rfl (fun h165 R166 M167 F168 X169 => ?_)
              obtain ⟨⟨t170, r171⟩, q172⟩ : ∃ x, rsM b lim (k * 21) t162 r163 = x := ⟨_, rfl⟩
              rw [q172] at M167 X169
              have M167 : MR b lim t170 x17 (hA h) (12 * c + k) R166 h165 := M167
              have X169 : RX 3 1 t170 R166 r171 (k * 21) := X169
              show av_wp _ cd_146 325 [some (.inr (.inr (.inl (some (77))))), some (.inl (c : Int)), some (.inl (k : Int)), some (.inl (((12) * (c : Int)) + (k : Int))), some (.inl v1), some (.inl (3))] [] h165 _
              refine av_wp_sqF ck_146 1 (pc' := 326) (lv' := [some (.inr (.inr (.inl (some (77))))), some (.inl (c : Int)), some (.inl (k : Int)), some (.inl (((12) * (c : Int)) + (k : Int))), some (.inl v1), some (.inl (3))]) (st' := [.inr (.inr (.inl (some (77))))]) (h' := h165) rfl ?_
              refine wq_cv (p' := 329) (av_qc (.invokevirtual 286) 135 0 0 8) 1 cd_135 [] (77) 8 [some (.inr (.inr (.inl (some (77)))))] (ck_146 _ _ rfl) rfl rfl pp_135 rfl rfl rfl (congrArg Prod.fst (ly_k (mr_L M167) 77 rfl)) rfl rfl rfl rfl ?_
              refine ct_135 M167.1 F168 (fun h173 N174 F175 => ?_)
              have M176 := mr_tok M167 N174
              clear N174
              generalize q178 : sem b lim t170 = t177 at M176
              have X179 : RX 3 1 t177 R166 r171 (k * 21) := rx_t X169 (fun z => sem_o (by rw [q178]; exact z))
              show av_wp _ cd_146 329 [some (.inr (.inr (.inl (some (77))))), some (.inl (c : Int)), some (.inl (k : Int)), some (.inl (((12) * (c : Int)) + (k : Int))), some (.inl v1), some (.inl (3))] [] h173 _
              refine av_wp_ret (v := none) (ck_146 _ _ rfl) rfl rfl ?_
              exact hq h173 R166 (by simp only [rsy, rs5, rs4, rs3, rs2, rs1, rsT, rsT1, rsT2, rsB, q18, q19, q20, q97, q115, q146, q156, q164, q172, q178, if_neg (show ¬ (v1 = 0 ∨ v1 = 1) by omega), if_neg (show ¬ v1 = 0 by omega), if_pos (show v1 = 2 by omega), if_neg z140]; exact M176) F175 (by simp only [rsy, rs5, rs4, rs3, rs2, rs1, rsT, rsT1, rsT2, rsB, q18, q19, q20, q97, q115, q146, q156, q164, q172, q178, if_neg (show ¬ (v1 = 0 ∨ v1 = 1) by omega), if_neg (show ¬ v1 = 0 by omega), if_pos (show v1 = 2 by omega), if_neg z140]; exact X179)
            · show av_wp _ cd_146 278 [some (.inr (.inr (.inl (some (77))))), some (.inl (c : Int)), some (.inl (k : Int)), some (.inl (((12) * (c : Int)) + (k : Int))), some (.inl v1), some (.inl (3))] [.inl (0)] h117 _
              refine av_wp_sqF ck_146 1 (pc' := 320) (lv' := [some (.inr (.inr (.inl (some (77))))), some (.inl (c : Int)), some (.inl (k : Int)), some (.inl (((12) * (c : Int)) + (k : Int))), some (.inl v1), some (.inl (3))]) (st' := []) (h' := h117) rfl ?_
              refine av_wp_sqF ck_146 2 (pc' := 322) (lv' := [some (.inr (.inr (.inl (some (77))))), some (.inl (c : Int)), some (.inl (k : Int)), some (.inl (((12) * (c : Int)) + (k : Int))), some (.inl v1), some (.inl (3))]) (st' := [.inl (((12) * (c : Int)) + (k : Int)), .inr (.inr (.inl (some (77))))]) (h' := h117) rfl ?_
              refine wq_cv (p' := 325) (av_qc (.invokevirtual 282) 143 1 0 8) 3 cd_143 [.inl (((12) * (c : Int)) + (k : Int))] (77) 8 [some (.inr (.inr (.inl (some (77))))), some (.inl (((12) * (c : Int)) + (k : Int))), none] (ck_146 _ _ rfl) rfl rfl pp_143 rfl rfl rfl (congrArg Prod.fst (ly_k (mr_L M118) 77 rfl)) rfl rfl rfl rfl ?_
              refine ct_143 M118 F119 (by omega) X120 ((((12) * (c : Int)) + (k : Int))) (by omega) rfl (fun h180 R181 M182 F183 X184 => ?_)
              obtain ⟨⟨t185, r186⟩, q187⟩ : ∃ x, rsM b lim (k * 21) t113 r114 = x := ⟨_, rfl⟩
              rw [q187] at M182 X184
              have M182 : MR b lim t185 x17 (hA h) (12 * c + k) R181 h180 := M182
              have X184 : RX 3 1 t185 R181 r186 (k * 21) := X184
              show av_wp _ cd_146 325 [some (.inr (.inr (.inl (some (77))))), some (.inl (c : Int)), some (.inl (k : Int)), some (.inl (((12) * (c : Int)) + (k : Int))), some (.inl v1), some (.inl (3))] [] h180 _
              refine av_wp_sqF ck_146 1 (pc' := 326) (lv' := [some (.inr (.inr (.inl (some (77))))), some (.inl (c : Int)), some (.inl (k : Int)), some (.inl (((12) * (c : Int)) + (k : Int))), some (.inl v1), some (.inl (3))]) (st' := [.inr (.inr (.inl (some (77))))]) (h' := h180) rfl ?_
              refine wq_cv (p' := 329) (av_qc (.invokevirtual 286) 135 0 0 8) 1 cd_135 [] (77) 8 [some (.inr (.inr (.inl (some (77)))))] (ck_146 _ _ rfl) rfl rfl pp_135 rfl rfl rfl (congrArg Prod.fst (ly_k (mr_L M182) 77 rfl)) rfl rfl rfl rfl ?_
              refine ct_135 M182.1 F183 (fun h188 N189 F190 => ?_)
              have M191 := mr_tok M182 N189
              clear N189
              generalize q193 : sem b lim t185 = t192 at M191
              have X194 : RX 3 1 t192 R181 r186 (k * 21) := rx_t X184 (fun z => sem_o (by rw [q193]; exact z))
              show av_wp _ cd_146 329 [some (.inr (.inr (.inl (some (77))))), some (.inl (c : Int)), some (.inl (k : Int)), some (.inl (((12) * (c : Int)) + (k : Int))), some (.inl v1), some (.inl (3))] [] h188 _
              refine av_wp_ret (v := none) (ck_146 _ _ rfl) rfl rfl ?_
              exact hq h188 R181 (by simp only [rsy, rs5, rs4, rs3, rs2, rs1, rsT, rsT1, rsT2, rsB, q18, q19, q20, q97, q115, q187, q193, if_neg (show ¬ (v1 = 0 ∨ v1 = 1) by omega), if_neg (show ¬ v1 = 0 by omega), if_pos (show v1 = 2 by omega), if_pos z140]; exact M191) F190 (by simp only [rsy, rs5, rs4, rs3, rs2, rs1, rsT, rsT1, rsT2, rsB, q18, q19, q20, q97, q115, q187, q193, if_neg (show ¬ (v1 = 0 ∨ v1 = 1) by omega), if_neg (show ¬ v1 = 0 by omega), if_pos (show v1 = 2 by omega), if_pos z140]; exact X194)
        · have c122 : v1 = (0) := c122
          exfalso; omega
      · have c105 : v1 < (2) := c105
        refine av_wp_sqF ck_146 1 (pc' := 160) (lv' := [some (.inr (.inr (.inl (some (77))))), some (.inl (c : Int)), some (.inl (k : Int)), some (.inl (((12) * (c : Int)) + (k : Int))), some (.inl v1), some (.inl (3))]) (st' := [.inr (.inr (.inl (some (77))))]) (h' := h98) rfl ?_
        refine wq_gr (p' := 163) (ck_146 _ _ rfl) rfl (congrArg Prod.fst (ly_k (mr_L M99) 77 rfl)) rfl (ly_g (mr_L M99) 77 6 84 rfl) ?_
        refine av_wp_sqF ck_146 3 (pc' := 166) (lv' := [some (.inr (.inr (.inl (some (77))))), some (.inl (c : Int)), some (.inl (k : Int)), some (.inl (((12) * (c : Int)) + (k : Int))), some (.inl v1), some (.inl (3))]) (st' := [.inr (.inr (.inl (some (77)))), .inr (.inr (.inl (some (77)))), .inl (((12) * (c : Int)) + (k : Int)), .inr (.inr (.inl (some (84))))]) (h' := h98) rfl ?_
        refine wq_gr (p' := 169) (ck_146 _ _ rfl) rfl (congrArg Prod.fst (ly_k (mr_L M99) 77 rfl)) rfl (ly_g (mr_L M99) 77 5 83 rfl) ?_
        refine av_wp_sqF ck_146 1 (pc' := 170) (lv' := [some (.inr (.inr (.inl (some (77))))), some (.inl (c : Int)), some (.inl (k : Int)), some (.inl (((12) * (c : Int)) + (k : Int))), some (.inl v1), some (.inl (3))]) (st' := [.inl (((12) * (c : Int)) + (k : Int)), .inr (.inr (.inl (some (83)))), .inr (.inr (.inl (some (77)))), .inl (((12) * (c : Int)) + (k : Int)), .inr (.inr (.inl (some (84))))]) (h' := h98) rfl ?_
        refine wq_al (p' := 171) (n := 960) (ck_146 _ _ rfl) rfl (ly_k (mr_L M99) 83 rfl) (by omega) ((mr_ld M99 1 (by decide) rfl (by show _ = (((1 * (12 * c + k) + 0 : Nat)) : Int); omega)).trans q103) ?_
        refine wq_cv (p' := 174) (av_qc (.invokevirtual 264) 137 1 0 8) 3 cd_137 [.inl v89] (77) 8 [some (.inr (.inr (.inl (some (77))))), some (.inl v89), none] (ck_146 _ _ rfl) rfl rfl pp_137 rfl rfl rfl (congrArg Prod.fst (ly_k (mr_L M99) 77 rfl)) rfl rfl rfl rfl ?_
        refine ct_137p M99.1 F100 v89 (by omega) (fun v195 h198 P197 E196 N199 F200 => ?_)
        have M201 := mr_tok M99 N199
        clear N199
        have z204 : t96.2.2.2 = -1 → v89 = (av_u1 (av_u1 (rs0 k r) (k * 21) v1) (k * 21 + 1) (pkv b t17 1)) (k * 21 + 1) := fun z => (E90 z).trans u1_eq.symm
        obtain ⟨⟨t202, r205⟩, q203⟩ : ∃ x, rsO b lim (k * 21) t96 (av_u1 (av_u1 (rs0 k r) (k * 21) v1) (k * 21 + 1) (pkv b t17 1)) = x := ⟨_, rfl⟩
        rw [hnd_O z204, q203] at M201
        have M201 : MR b lim t202 x17 (hA h) (12 * c + k) R102 h198 := M201
        show av_wp _ cd_146 174 [some (.inr (.inr (.inl (some (77))))), some (.inl (c : Int)), some (.inl (k : Int)), some (.inl (((12) * (c : Int)) + (k : Int))), some (.inl v1), some (.inl (3))] [.inl v195, .inl (((12) * (c : Int)) + (k : Int)), .inr (.inr (.inl (some (84))))] h198 _
        refine mr_as (p' := 175) rfl rfl M201 F200 (by omega) 2 (by decide) (by show _ = (((1 * (12 * c + k) + 0 : Nat)) : Int); omega) rfl (by show (-1 : Int) ≤ v195 ∧ v195 ≤ (2 : Int); omega) (fun h206 M207 F208 => ?_)
        have X209 := rx_O (v := v195) X101 z204 E196
        rw [q203] at X209
        have X209 : RX 0 0 t202 (av_u1 R102 2 v195) r205 (k * 21) := X209
        refine av_wp_sqF ck_146 2 (pc' := 200) (lv' := [some (.inr (.inr (.inl (some (77))))), some (.inl (c : Int)), some (.inl (k : Int)), some (.inl (((12) * (c : Int)) + (k : Int))), some (.inl v1), some (.inl (3))]) (st' := [.inl v1]) (h' := h206) rfl ?_
        refine wq_k1 (p' := 203) (ck_146 _ _ rfl) rfl ⟨by omega, by omega⟩ (fun c210 => ?_) (fun c211 => ?_)
        · have c210 : v1 ≠ (0) := c210
          refine av_wp_sqF ck_146 2 (pc' := 268) (lv' := [some (.inr (.inr (.inl (some (77))))), some (.inl (c : Int)), some (.inl (k : Int)), some (.inl (((12) * (c : Int)) + (k : Int))), some (.inl v1), some (.inl (3))]) (st' := [.inl (2), .inl v1]) (h' := h206) rfl ?_
          refine wq_k2 (p' := 271) (ck_146 _ _ rfl) rfl ⟨by omega, by omega⟩ ⟨by omega, by omega⟩ (fun c212 => ?_) (fun c213 => ?_)
          · have c212 : v1 ≠ (2) := c212
            refine av_wp_sqF ck_146 2 (pc' := 322) (lv' := [some (.inr (.inr (.inl (some (77))))), some (.inl (c : Int)), some (.inl (k : Int)), some (.inl (((12) * (c : Int)) + (k : Int))), some (.inl v1), some (.inl (3))]) (st' := [.inl (((12) * (c : Int)) + (k : Int)), .inr (.inr (.inl (some (77))))]) (h' := h206) rfl ?_
            refine wq_cv (p' := 325) (av_qc (.invokevirtual 282) 143 1 0 8) 3 cd_143 [.inl (((12) * (c : Int)) + (k : Int))] (77) 8 [some (.inr (.inr (.inl (some (77))))), some (.inl (((12) * (c : Int)) + (k : Int))), none] (ck_146 _ _ rfl) rfl rfl pp_143 rfl rfl rfl (congrArg Prod.fst (ly_k (mr_L M207) 77 rfl)) rfl rfl rfl rfl ?_
            refine ct_143 M207 F208 (by omega) X209 ((((12) * (c : Int)) + (k : Int))) (by omega) rfl (fun h214 R215 M216 F217 X218 => ?_)
            obtain ⟨⟨t219, r220⟩, q221⟩ : ∃ x, rsM b lim (k * 21) t202 r205 = x := ⟨_, rfl⟩
            rw [q221] at M216 X218
            have M216 : MR b lim t219 x17 (hA h) (12 * c + k) R215 h214 := M216
            have X218 : RX 3 1 t219 R215 r220 (k * 21) := X218
            show av_wp _ cd_146 325 [some (.inr (.inr (.inl (some (77))))), some (.inl (c : Int)), some (.inl (k : Int)), some (.inl (((12) * (c : Int)) + (k : Int))), some (.inl v1), some (.inl (3))] [] h214 _
            refine av_wp_sqF ck_146 1 (pc' := 326) (lv' := [some (.inr (.inr (.inl (some (77))))), some (.inl (c : Int)), some (.inl (k : Int)), some (.inl (((12) * (c : Int)) + (k : Int))), some (.inl v1), some (.inl (3))]) (st' := [.inr (.inr (.inl (some (77))))]) (h' := h214) rfl ?_
            refine wq_cv (p' := 329) (av_qc (.invokevirtual 286) 135 0 0 8) 1 cd_135 [] (77) 8 [some (.inr (.inr (.inl (some (77)))))] (ck_146 _ _ rfl) rfl rfl pp_135 rfl rfl rfl (congrArg Prod.fst (ly_k (mr_L M216) 77 rfl)) rfl rfl rfl rfl ?_
            refine ct_135 M216.1 F217 (fun h222 N223 F224 => ?_)
            have M225 := mr_tok M216 N223
            clear N223
            generalize q227 : sem b lim t219 = t226 at M225
            have X228 : RX 3 1 t226 R215 r220 (k * 21) := rx_t X218 (fun z => sem_o (by rw [q227]; exact z))
            show av_wp _ cd_146 329 [some (.inr (.inr (.inl (some (77))))), some (.inl (c : Int)), some (.inl (k : Int)), some (.inl (((12) * (c : Int)) + (k : Int))), some (.inl v1), some (.inl (3))] [] h222 _
            refine av_wp_ret (v := none) (ck_146 _ _ rfl) rfl rfl ?_
            exact hq h222 R215 (by simp only [rsy, rs5, rs4, rs3, rs2, rs1, rsT, rsT1, rsT2, rsB, q18, q19, q20, q97, q203, q221, q227, if_pos (show v1 = 0 ∨ v1 = 1 by omega), if_neg (show ¬ v1 = 0 by omega), if_neg (show ¬ v1 = 2 by omega)]; exact M225) F224 (by simp only [rsy, rs5, rs4, rs3, rs2, rs1, rsT, rsT1, rsT2, rsB, q18, q19, q20, q97, q203, q221, q227, if_pos (show v1 = 0 ∨ v1 = 1 by omega), if_neg (show ¬ v1 = 0 by omega), if_neg (show ¬ v1 = 2 by omega)]; exact X228)
          · have c213 : v1 = (2) := c213
            exfalso; omega
        · have c211 : v1 = (0) := c211
          refine av_wp_sqF ck_146 3 (pc' := 206) (lv' := [some (.inr (.inr (.inl (some (77))))), some (.inl (c : Int)), some (.inl (k : Int)), some (.inl (((12) * (c : Int)) + (k : Int))), some (.inl v1), some (.inl (3))]) (st' := [.inl (0), .inl (((12) * (c : Int)) + (k : Int)), .inr (.inr (.inl (some (77))))]) (h' := h206) rfl ?_
          refine wq_cv (p' := 209) (av_qc (.invokevirtual 272) 141 2 0 8) 4 cd_141 [.inl (0), .inl (((12) * (c : Int)) + (k : Int))] (77) 8 [some (.inr (.inr (.inl (some (77))))), some (.inl (((12) * (c : Int)) + (k : Int))), some (.inl (0)), none] (ck_146 _ _ rfl) rfl rfl pp_141 rfl rfl rfl (congrArg Prod.fst (ly_k (mr_L M207) 77 rfl)) rfl rfl rfl rfl ?_
          refine ct_141a M207 F208 (by omega) X209 ((((12) * (c : Int)) + (k : Int))) (by omega)  (fun h229 R230 M231 F232 X233 => ?_)
          obtain ⟨⟨t234, r235⟩, q236⟩ : ∃ x, rsW b lim (k * 21) 900 t202 r205 = x := ⟨_, rfl⟩
          rw [q236] at M231 X233
          have M231 : MR b lim t234 x17 (hA h) (12 * c + k) R230 h229 := M231
          have X233 : RX 0 0 t234 R230 r235 (k * 21) := X233
          show av_wp _ cd_146 209 [some (.inr (.inr (.inl (some (77))))), some (.inl (c : Int)), some (.inl (k : Int)), some (.inl (((12) * (c : Int)) + (k : Int))), some (.inl v1), some (.inl (3))] [] h229 _
          refine av_wp_sqF ck_146 2 (pc' := 213) (lv' := [some (.inr (.inr (.inl (some (77))))), some (.inl (c : Int)), some (.inl (k : Int)), some (.inl (((12) * (c : Int)) + (k : Int))), some (.inl v1), some (.inl (3))]) (st' := [.inr (.inl (168727)), .inr (.inr (.inl (some (77))))]) (h' := h229) rfl ?_
          refine wq_cv (p' := 216) (av_qc (.invokevirtual 187) 132 1 0 8) 3 cd_132 [.inr (.inl (168727))] (77) 8 [some (.inr (.inr (.inl (some (77))))), some (.inr (.inl (168727))), none] (ck_146 _ _ rfl) rfl rfl pp_132 rfl rfl rfl (congrArg Prod.fst (ly_k (mr_L M231) 77 rfl)) rfl rfl rfl rfl ?_
          refine ct_132p M231.1 F232 (168727) (by omega) 3 ltw_3 (fun z237 => ?_) (fun z237 => ?_)
          · show av_wp _ cd_146 216 [some (.inr (.inr (.inl (some (77))))), some (.inl (c : Int)), some (.inl (k : Int)), some (.inl (((12) * (c : Int)) + (k : Int))), some (.inl v1), some (.inl (3))] [.inl (1)] h229 _
            refine av_wp_sqF ck_146 2 (pc' := 220) (lv' := [some (.inr (.inr (.inl (some (77))))), some (.inl (c : Int)), some (.inl (k : Int)), some (.inl (((12) * (c : Int)) + (k : Int))), some (.inl v1), some (.inl (3))]) (st' := [.inr (.inr (.inl (some (77))))]) (h' := h229) rfl ?_
            refine wq_cv (p' := 223) (av_qc (.invokevirtual 191) 130 0 0 8) 2 cd_130 [] (77) 8 [some (.inr (.inr (.inl (some (77))))), none] (ck_146 _ _ rfl) rfl rfl pp_130 rfl rfl rfl (congrArg Prod.fst (ly_k (mr_L M231) 77 rfl)) rfl rfl rfl rfl ?_
            refine ct_130t M231.1 F232 (fun h238 N239 F240 => ?_)
            have M241 := mr_tok M231 N239
            clear N239
            generalize q243 : adv b lim t234 = t242 at M241
            have X244 : RX 0 0 t242 R230 r235 (k * 21) := rx_t X233 (fun z => by rw [← q243] at z; exact z)
            show av_wp _ cd_146 223 [some (.inr (.inr (.inl (some (77))))), some (.inl (c : Int)), some (.inl (k : Int)), some (.inl (((12) * (c : Int)) + (k : Int))), some (.inl v1), some (.inl (3))] [] h238 _
            refine av_wp_sqF ck_146 1 (pc' := 224) (lv' := [some (.inr (.inr (.inl (some (77))))), some (.inl (c : Int)), some (.inl (k : Int)), some (.inl (((12) * (c : Int)) + (k : Int))), some (.inl v1), some (.inl (3))]) (st' := [.inr (.inr (.inl (some (77))))]) (h' := h238) rfl ?_
            refine wq_gr (p' := 227) (ck_146 _ _ rfl) rfl (congrArg Prod.fst (ly_k (mr_L M241) 77 rfl)) rfl (ly_g (mr_L M241) 77 9 87 rfl) ?_
            refine av_wp_sqF ck_146 4 (pc' := 233) (lv' := [some (.inr (.inr (.inl (some (77))))), some (.inl (c : Int)), some (.inl (k : Int)), some (.inl (((12) * (c : Int)) + (k : Int))), some (.inl v1), some (.inl (3))]) (st' := [.inl (1999), .inl (0), .inr (.inr (.inl (some (77)))), .inl (((12) * (c : Int)) + (k : Int)), .inr (.inr (.inl (some (87))))]) (h' := h238) rfl ?_
            refine wq_cv (p' := 236) (av_qc (.invokevirtual 232) 134 2 0 8) 4 cd_134 [.inl (1999), .inl (0)] (77) 8 [some (.inr (.inr (.inl (some (77))))), some (.inl (0)), some (.inl (1999)), none] (ck_146 _ _ rfl) rfl rfl pp_134 rfl rfl rfl (congrArg Prod.fst (ly_k (mr_L M241) 77 rfl)) rfl rfl rfl rfl ?_
            refine ct_134 M241.1 F240 (0) (1999) (by omega) (by omega) (fun v245 h248 N249 E246 F250 P247 => ?_)
            have M251 := mr_tok M241 N249
            clear N249
            generalize q253 : nmt b lim t242 (0) (1999) = t252 at M251 E246
            have X254 : RX 0 0 t252 R230 r235 (k * 21) := rx_t X244 (fun z => (nmt_o (by rw [q253]; exact z)).1)
            show av_wp _ cd_146 236 [some (.inr (.inr (.inl (some (77))))), some (.inl (c : Int)), some (.inl (k : Int)), some (.inl (((12) * (c : Int)) + (k : Int))), some (.inl v1), some (.inl (3))] [.inl v245, .inl (((12) * (c : Int)) + (k : Int)), .inr (.inr (.inl (some (87))))] h248 _
            refine mr_as (p' := 237) rfl rfl M251 F250 (by omega) 5 (by decide) (by show _ = (((1 * (12 * c + k) + 0 : Nat)) : Int); omega) rfl (by show (-1 : Int) ≤ v245 ∧ v245 ≤ (1999 : Int); omega) (fun h255 M256 F257 => ?_)
            have X258 : RX 0 0 t252 (av_u1 R230 5 v245) (av_u1 r235 (k * 21 + 5) (nmv b t242 (0) (1999))) (k * 21) := rx_u X254 (by omega) (by omega) E246
            refine av_wp_sqF ck_146 2 (pc' := 241) (lv' := [some (.inr (.inr (.inl (some (77))))), some (.inl (c : Int)), some (.inl (k : Int)), some (.inl (((12) * (c : Int)) + (k : Int))), some (.inl v1), some (.inl (3))]) (st' := [.inr (.inl (3913421)), .inr (.inr (.inl (some (77))))]) (h' := h255) rfl ?_
            refine wq_cv (p' := 244) (av_qc (.invokevirtual 187) 132 1 0 8) 3 cd_132 [.inr (.inl (3913421))] (77) 8 [some (.inr (.inr (.inl (some (77))))), some (.inr (.inl (3913421))), none] (ck_146 _ _ rfl) rfl rfl pp_132 rfl rfl rfl (congrArg Prod.fst (ly_k (mr_L M256) 77 rfl)) rfl rfl rfl rfl ?_
            refine ct_132p M256.1 F257 (3913421) (by omega) 4 ltw_4 (fun z259 => ?_) (fun z259 => ?_)
            · show av_wp _ cd_146 244 [some (.inr (.inr (.inl (some (77))))), some (.inl (c : Int)), some (.inl (k : Int)), some (.inl (((12) * (c : Int)) + (k : Int))), some (.inl v1), some (.inl (3))] [.inl (1)] h255 _
              refine av_wp_sqF ck_146 2 (pc' := 248) (lv' := [some (.inr (.inr (.inl (some (77))))), some (.inl (c : Int)), some (.inl (k : Int)), some (.inl (((12) * (c : Int)) + (k : Int))), some (.inl v1), some (.inl (3))]) (st' := [.inr (.inr (.inl (some (77))))]) (h' := h255) rfl ?_
              refine wq_cv (p' := 251) (av_qc (.invokevirtual 191) 130 0 0 8) 2 cd_130 [] (77) 8 [some (.inr (.inr (.inl (some (77))))), none] (ck_146 _ _ rfl) rfl rfl pp_130 rfl rfl rfl (congrArg Prod.fst (ly_k (mr_L M256) 77 rfl)) rfl rfl rfl rfl ?_
              refine ct_130t M256.1 F257 (fun h260 N261 F262 => ?_)
              have M263 := mr_tok M256 N261
              clear N261
              generalize q265 : adv b lim t252 = t264 at M263
              have X266 : RX 0 0 t264 (av_u1 R230 5 v245) (av_u1 r235 (k * 21 + 5) (nmv b t242 (0) (1999))) (k * 21) := rx_t X258 (fun z => by rw [← q265] at z; exact z)
              show av_wp _ cd_146 251 [some (.inr (.inr (.inl (some (77))))), some (.inl (c : Int)), some (.inl (k : Int)), some (.inl (((12) * (c : Int)) + (k : Int))), some (.inl v1), some (.inl (3))] [] h260 _
              refine av_wp_sqF ck_146 1 (pc' := 252) (lv' := [some (.inr (.inr (.inl (some (77))))), some (.inl (c : Int)), some (.inl (k : Int)), some (.inl (((12) * (c : Int)) + (k : Int))), some (.inl v1), some (.inl (3))]) (st' := [.inr (.inr (.inl (some (77))))]) (h' := h260) rfl ?_
              refine wq_gr (p' := 255) (ck_146 _ _ rfl) rfl (congrArg Prod.fst (ly_k (mr_L M263) 77 rfl)) rfl (ly_g (mr_L M263) 77 10 88 rfl) ?_
              refine av_wp_sqF ck_146 6 (pc' := 261) (lv' := [some (.inr (.inr (.inl (some (77))))), some (.inl (c : Int)), some (.inl (k : Int)), some (.inl (((12) * (c : Int)) + (k : Int))), some (.inl v1), some (.inl (3))]) (st' := [.inl ((c : Int) - (1)), .inl (0), .inr (.inr (.inl (some (77)))), .inl (((12) * (c : Int)) + (k : Int)), .inr (.inr (.inl (some (88))))]) (h' := h260) rfl ?_
              refine wq_cv (p' := 264) (av_qc (.invokevirtual 232) 134 2 0 8) 4 cd_134 [.inl ((c : Int) - (1)), .inl (0)] (77) 8 [some (.inr (.inr (.inl (some (77))))), some (.inl (0)), some (.inl ((c : Int) - (1))), none] (ck_146 _ _ rfl) rfl rfl pp_134 rfl rfl rfl (congrArg Prod.fst (ly_k (mr_L M263) 77 rfl)) rfl rfl rfl rfl ?_
              refine ct_134 M263.1 F262 (0) ((c : Int) - (1)) (by omega) (by omega) (fun v267 h270 N271 E268 F272 P269 => ?_)
              have M273 := mr_tok M263 N271
              clear N271
              generalize q275 : nmt b lim t264 (0) ((c : Int) - (1)) = t274 at M273 E268
              have X276 : RX 0 0 t274 (av_u1 R230 5 v245) (av_u1 r235 (k * 21 + 5) (nmv b t242 (0) (1999))) (k * 21) := rx_t X266 (fun z => (nmt_o (by rw [q275]; exact z)).1)
              show av_wp _ cd_146 264 [some (.inr (.inr (.inl (some (77))))), some (.inl (c : Int)), some (.inl (k : Int)), some (.inl (((12) * (c : Int)) + (k : Int))), some (.inl v1), some (.inl (3))] [.inl v267, .inl (((12) * (c : Int)) + (k : Int)), .inr (.inr (.inl (some (88))))] h270 _
              refine mr_as (p' := 265) rfl rfl M273 F272 (by omega) 6 (by decide) (by show _ = (((1 * (12 * c + k) + 0 : Nat)) : Int); omega) rfl (by show (-1 : Int) ≤ v267 ∧ v267 ≤ (15 : Int); omega) (fun h277 M278 F279 => ?_)
              have X280 : RX 0 0 t274 (av_u1 (av_u1 R230 5 v245) 6 v267) (av_u1 (av_u1 r235 (k * 21 + 5) (nmv b t242 (0) (1999))) (k * 21 + 6) (nmv b t264 (0) ((c : Int) - (1)))) (k * 21) := rx_u X276 (by omega) (by omega) E268
              refine av_wp_sqF ck_146 2 (pc' := 268) (lv' := [some (.inr (.inr (.inl (some (77))))), some (.inl (c : Int)), some (.inl (k : Int)), some (.inl (((12) * (c : Int)) + (k : Int))), some (.inl v1), some (.inl (3))]) (st' := [.inl (2), .inl v1]) (h' := h277) rfl ?_
              refine wq_k2 (p' := 271) (ck_146 _ _ rfl) rfl ⟨by omega, by omega⟩ ⟨by omega, by omega⟩ (fun c281 => ?_) (fun c282 => ?_)
              · have c281 : v1 ≠ (2) := c281
                refine av_wp_sqF ck_146 2 (pc' := 322) (lv' := [some (.inr (.inr (.inl (some (77))))), some (.inl (c : Int)), some (.inl (k : Int)), some (.inl (((12) * (c : Int)) + (k : Int))), some (.inl v1), some (.inl (3))]) (st' := [.inl (((12) * (c : Int)) + (k : Int)), .inr (.inr (.inl (some (77))))]) (h' := h277) rfl ?_
                refine wq_cv (p' := 325) (av_qc (.invokevirtual 282) 143 1 0 8) 3 cd_143 [.inl (((12) * (c : Int)) + (k : Int))] (77) 8 [some (.inr (.inr (.inl (some (77))))), some (.inl (((12) * (c : Int)) + (k : Int))), none] (ck_146 _ _ rfl) rfl rfl pp_143 rfl rfl rfl (congrArg Prod.fst (ly_k (mr_L M278) 77 rfl)) rfl rfl rfl rfl ?_
                refine ct_143 M278 F279 (by omega) X280 ((((12) * (c : Int)) + (k : Int))) (by omega) rfl (fun h283 R284 M285 F286 X287 => ?_)
                obtain ⟨⟨t288, r289⟩, q290⟩ : ∃ x, rsM b lim (k * 21) t274 (av_u1 (av_u1 r235 (k * 21 + 5) (nmv b t242 (0) (1999))) (k * 21 + 6) (nmv b t264 (0) ((c : Int) - (1)))) = x := ⟨_, rfl⟩
                rw [q290] at M285 X287
                have M285 : MR b lim t288 x17 (hA h) (12 * c + k) R284 h283 := M285
                have X287 : RX 3 1 t288 R284 r289 (k * 21) := X287
                show av_wp _ cd_146 325 [some (.inr (.inr (.inl (some (77))))), some (.inl (c : Int)), some (.inl (k : Int)), some (.inl (((12) * (c : Int)) + (k : Int))), some (.inl v1), some (.inl (3))] [] h283 _
                refine av_wp_sqF ck_146 1 (pc' := 326) (lv' := [some (.inr (.inr (.inl (some (77))))), some (.inl (c : Int)), some (.inl (k : Int)), some (.inl (((12) * (c : Int)) + (k : Int))), some (.inl v1), some (.inl (3))]) (st' := [.inr (.inr (.inl (some (77))))]) (h' := h283) rfl ?_
                refine wq_cv (p' := 329) (av_qc (.invokevirtual 286) 135 0 0 8) 1 cd_135 [] (77) 8 [some (.inr (.inr (.inl (some (77)))))] (ck_146 _ _ rfl) rfl rfl pp_135 rfl rfl rfl (congrArg Prod.fst (ly_k (mr_L M285) 77 rfl)) rfl rfl rfl rfl ?_
                refine ct_135 M285.1 F286 (fun h291 N292 F293 => ?_)
                have M294 := mr_tok M285 N292
                clear N292
                generalize q296 : sem b lim t288 = t295 at M294
                have X297 : RX 3 1 t295 R284 r289 (k * 21) := rx_t X287 (fun z => sem_o (by rw [q296]; exact z))
                show av_wp _ cd_146 329 [some (.inr (.inr (.inl (some (77))))), some (.inl (c : Int)), some (.inl (k : Int)), some (.inl (((12) * (c : Int)) + (k : Int))), some (.inl v1), some (.inl (3))] [] h291 _
                refine av_wp_ret (v := none) (ck_146 _ _ rfl) rfl rfl ?_
                exact hq h291 R284 (by simp only [rsy, rs5, rs4, rs3, rs2, rs1, rsT, rsT1, rsT2, rsB, q18, q19, q20, q97, q203, q236, q243, q253, q265, q275, q290, q296, if_pos (show v1 = 0 ∨ v1 = 1 by omega), if_pos (show v1 = 0 by omega), if_neg z237, if_neg z259, if_neg (show ¬ v1 = 2 by omega)]; exact M294) F293 (by simp only [rsy, rs5, rs4, rs3, rs2, rs1, rsT, rsT1, rsT2, rsB, q18, q19, q20, q97, q203, q236, q243, q253, q265, q275, q290, q296, if_pos (show v1 = 0 ∨ v1 = 1 by omega), if_pos (show v1 = 0 by omega), if_neg z237, if_neg z259, if_neg (show ¬ v1 = 2 by omega)]; exact X297)
              · have c282 : v1 = (2) := c282
                exfalso; omega
            · show av_wp _ cd_146 244 [some (.inr (.inr (.inl (some (77))))), some (.inl (c : Int)), some (.inl (k : Int)), some (.inl (((12) * (c : Int)) + (k : Int))), some (.inl v1), some (.inl (3))] [.inl (0)] h255 _
              refine av_wp_sqF ck_146 1 (pc' := 265) (lv' := [some (.inr (.inr (.inl (some (77))))), some (.inl (c : Int)), some (.inl (k : Int)), some (.inl (((12) * (c : Int)) + (k : Int))), some (.inl v1), some (.inl (3))]) (st' := []) (h' := h255) rfl ?_
              refine av_wp_sqF ck_146 2 (pc' := 268) (lv' := [some (.inr (.inr (.inl (some (77))))), some (.inl (c : Int)), some (.inl (k : Int)), some (.inl (((12) * (c : Int)) + (k : Int))), some (.inl v1), some (.inl (3))]) (st' := [.inl (2), .inl v1]) (h' := h255) rfl ?_
              refine wq_k2 (p' := 271) (ck_146 _ _ rfl) rfl ⟨by omega, by omega⟩ ⟨by omega, by omega⟩ (fun c298 => ?_) (fun c299 => ?_)
              · have c298 : v1 ≠ (2) := c298
                refine av_wp_sqF ck_146 2 (pc' := 322) (lv' := [some (.inr (.inr (.inl (some (77))))), some (.inl (c : Int)), some (.inl (k : Int)), some (.inl (((12) * (c : Int)) + (k : Int))), some (.inl v1), some (.inl (3))]) (st' := [.inl (((12) * (c : Int)) + (k : Int)), .inr (.inr (.inl (some (77))))]) (h' := h255) rfl ?_
                refine wq_cv (p' := 325) (av_qc (.invokevirtual 282) 143 1 0 8) 3 cd_143 [.inl (((12) * (c : Int)) + (k : Int))] (77) 8 [some (.inr (.inr (.inl (some (77))))), some (.inl (((12) * (c : Int)) + (k : Int))), none] (ck_146 _ _ rfl) rfl rfl pp_143 rfl rfl rfl (congrArg Prod.fst (ly_k (mr_L M256) 77 rfl)) rfl rfl rfl rfl ?_
                refine ct_143 M256 F257 (by omega) X258 ((((12) * (c : Int)) + (k : Int))) (by omega) rfl (fun h300 R301 M302 F303 X304 => ?_)
                obtain ⟨⟨t305, r306⟩, q307⟩ : ∃ x, rsM b lim (k * 21) t252 (av_u1 r235 (k * 21 + 5) (nmv b t242 (0) (1999))) = x := ⟨_, rfl⟩
                rw [q307] at M302 X304
                have M302 : MR b lim t305 x17 (hA h) (12 * c + k) R301 h300 := M302
                have X304 : RX 3 1 t305 R301 r306 (k * 21) := X304
                show av_wp _ cd_146 325 [some (.inr (.inr (.inl (some (77))))), some (.inl (c : Int)), some (.inl (k : Int)), some (.inl (((12) * (c : Int)) + (k : Int))), some (.inl v1), some (.inl (3))] [] h300 _
                refine av_wp_sqF ck_146 1 (pc' := 326) (lv' := [some (.inr (.inr (.inl (some (77))))), some (.inl (c : Int)), some (.inl (k : Int)), some (.inl (((12) * (c : Int)) + (k : Int))), some (.inl v1), some (.inl (3))]) (st' := [.inr (.inr (.inl (some (77))))]) (h' := h300) rfl ?_
                refine wq_cv (p' := 329) (av_qc (.invokevirtual 286) 135 0 0 8) 1 cd_135 [] (77) 8 [some (.inr (.inr (.inl (some (77)))))] (ck_146 _ _ rfl) rfl rfl pp_135 rfl rfl rfl (congrArg Prod.fst (ly_k (mr_L M302) 77 rfl)) rfl rfl rfl rfl ?_
                refine ct_135 M302.1 F303 (fun h308 N309 F310 => ?_)
                have M311 := mr_tok M302 N309
                clear N309
                generalize q313 : sem b lim t305 = t312 at M311
                have X314 : RX 3 1 t312 R301 r306 (k * 21) := rx_t X304 (fun z => sem_o (by rw [q313]; exact z))
                show av_wp _ cd_146 329 [some (.inr (.inr (.inl (some (77))))), some (.inl (c : Int)), some (.inl (k : Int)), some (.inl (((12) * (c : Int)) + (k : Int))), some (.inl v1), some (.inl (3))] [] h308 _
                refine av_wp_ret (v := none) (ck_146 _ _ rfl) rfl rfl ?_
                exact hq h308 R301 (by simp only [rsy, rs5, rs4, rs3, rs2, rs1, rsT, rsT1, rsT2, rsB, q18, q19, q20, q97, q203, q236, q243, q253, q307, q313, if_pos (show v1 = 0 ∨ v1 = 1 by omega), if_pos (show v1 = 0 by omega), if_neg z237, if_pos z259, if_neg (show ¬ v1 = 2 by omega)]; exact M311) F310 (by simp only [rsy, rs5, rs4, rs3, rs2, rs1, rsT, rsT1, rsT2, rsB, q18, q19, q20, q97, q203, q236, q243, q253, q307, q313, if_pos (show v1 = 0 ∨ v1 = 1 by omega), if_pos (show v1 = 0 by omega), if_neg z237, if_pos z259, if_neg (show ¬ v1 = 2 by omega)]; exact X314)
              · have c299 : v1 = (2) := c299
                exfalso; omega
          · show av_wp _ cd_146 216 [some (.inr (.inr (.inl (some (77))))), some (.inl (c : Int)), some (.inl (k : Int)), some (.inl (((12) * (c : Int)) + (k : Int))), some (.inl v1), some (.inl (3))] [.inl (0)] h229 _
            refine av_wp_sqF ck_146 3 (pc' := 241) (lv' := [some (.inr (.inr (.inl (some (77))))), some (.inl (c : Int)), some (.inl (k : Int)), some (.inl (((12) * (c : Int)) + (k : Int))), some (.inl v1), some (.inl (3))]) (st' := [.inr (.inl (3913421)), .inr (.inr (.inl (some (77))))]) (h' := h229) rfl ?_
            refine wq_cv (p' := 244) (av_qc (.invokevirtual 187) 132 1 0 8) 3 cd_132 [.inr (.inl (3913421))] (77) 8 [some (.inr (.inr (.inl (some (77))))), some (.inr (.inl (3913421))), none] (ck_146 _ _ rfl) rfl rfl pp_132 rfl rfl rfl (congrArg Prod.fst (ly_k (mr_L M231) 77 rfl)) rfl rfl rfl rfl ?_
            refine ct_132p M231.1 F232 (3913421) (by omega) 4 ltw_4 (fun z315 => ?_) (fun z315 => ?_)
            · show av_wp _ cd_146 244 [some (.inr (.inr (.inl (some (77))))), some (.inl (c : Int)), some (.inl (k : Int)), some (.inl (((12) * (c : Int)) + (k : Int))), some (.inl v1), some (.inl (3))] [.inl (1)] h229 _
              refine av_wp_sqF ck_146 2 (pc' := 248) (lv' := [some (.inr (.inr (.inl (some (77))))), some (.inl (c : Int)), some (.inl (k : Int)), some (.inl (((12) * (c : Int)) + (k : Int))), some (.inl v1), some (.inl (3))]) (st' := [.inr (.inr (.inl (some (77))))]) (h' := h229) rfl ?_
              refine wq_cv (p' := 251) (av_qc (.invokevirtual 191) 130 0 0 8) 2 cd_130 [] (77) 8 [some (.inr (.inr (.inl (some (77))))), none] (ck_146 _ _ rfl) rfl rfl pp_130 rfl rfl rfl (congrArg Prod.fst (ly_k (mr_L M231) 77 rfl)) rfl rfl rfl rfl ?_
              refine ct_130t M231.1 F232 (fun h316 N317 F318 => ?_)
              have M319 := mr_tok M231 N317
              clear N317
              generalize q321 : adv b lim t234 = t320 at M319
              have X322 : RX 0 0 t320 R230 r235 (k * 21) := rx_t X233 (fun z => by rw [← q321] at z; exact z)
              show av_wp _ cd_146 251 [some (.inr (.inr (.inl (some (77))))), some (.inl (c : Int)), some (.inl (k : Int)), some (.inl (((12) * (c : Int)) + (k : Int))), some (.inl v1), some (.inl (3))] [] h316 _
              refine av_wp_sqF ck_146 1 (pc' := 252) (lv' := [some (.inr (.inr (.inl (some (77))))), some (.inl (c : Int)), some (.inl (k : Int)), some (.inl (((12) * (c : Int)) + (k : Int))), some (.inl v1), some (.inl (3))]) (st' := [.inr (.inr (.inl (some (77))))]) (h' := h316) rfl ?_
              refine wq_gr (p' := 255) (ck_146 _ _ rfl) rfl (congrArg Prod.fst (ly_k (mr_L M319) 77 rfl)) rfl (ly_g (mr_L M319) 77 10 88 rfl) ?_
              refine av_wp_sqF ck_146 6 (pc' := 261) (lv' := [some (.inr (.inr (.inl (some (77))))), some (.inl (c : Int)), some (.inl (k : Int)), some (.inl (((12) * (c : Int)) + (k : Int))), some (.inl v1), some (.inl (3))]) (st' := [.inl ((c : Int) - (1)), .inl (0), .inr (.inr (.inl (some (77)))), .inl (((12) * (c : Int)) + (k : Int)), .inr (.inr (.inl (some (88))))]) (h' := h316) rfl ?_
              refine wq_cv (p' := 264) (av_qc (.invokevirtual 232) 134 2 0 8) 4 cd_134 [.inl ((c : Int) - (1)), .inl (0)] (77) 8 [some (.inr (.inr (.inl (some (77))))), some (.inl (0)), some (.inl ((c : Int) - (1))), none] (ck_146 _ _ rfl) rfl rfl pp_134 rfl rfl rfl (congrArg Prod.fst (ly_k (mr_L M319) 77 rfl)) rfl rfl rfl rfl ?_
              refine ct_134 M319.1 F318 (0) ((c : Int) - (1)) (by omega) (by omega) (fun v323 h326 N327 E324 F328 P325 => ?_)
              have M329 := mr_tok M319 N327
              clear N327
              generalize q331 : nmt b lim t320 (0) ((c : Int) - (1)) = t330 at M329 E324
              have X332 : RX 0 0 t330 R230 r235 (k * 21) := rx_t X322 (fun z => (nmt_o (by rw [q331]; exact z)).1)
              show av_wp _ cd_146 264 [some (.inr (.inr (.inl (some (77))))), some (.inl (c : Int)), some (.inl (k : Int)), some (.inl (((12) * (c : Int)) + (k : Int))), some (.inl v1), some (.inl (3))] [.inl v323, .inl (((12) * (c : Int)) + (k : Int)), .inr (.inr (.inl (some (88))))] h326 _
              refine mr_as (p' := 265) rfl rfl M329 F328 (by omega) 6 (by decide) (by show _ = (((1 * (12 * c + k) + 0 : Nat)) : Int); omega) rfl (by show (-1 : Int) ≤ v323 ∧ v323 ≤ (15 : Int); omega) (fun h333 M334 F335 => ?_)
              have X336 : RX 0 0 t330 (av_u1 R230 6 v323) (av_u1 r235 (k * 21 + 6) (nmv b t320 (0) ((c : Int) - (1)))) (k * 21) := rx_u X332 (by omega) (by omega) E324
              refine av_wp_sqF ck_146 2 (pc' := 268) (lv' := [some (.inr (.inr (.inl (some (77))))), some (.inl (c : Int)), some (.inl (k : Int)), some (.inl (((12) * (c : Int)) + (k : Int))), some (.inl v1), some (.inl (3))]) (st' := [.inl (2), .inl v1]) (h' := h333) rfl ?_
              refine wq_k2 (p' := 271) (ck_146 _ _ rfl) rfl ⟨by omega, by omega⟩ ⟨by omega, by omega⟩ (fun c337 => ?_) (fun c338 => ?_)
              · have c337 : v1 ≠ (2) := c337
                refine av_wp_sqF ck_146 2 (pc' := 322) (lv' := [some (.inr (.inr (.inl (some (77))))), some (.inl (c : Int)), some (.inl (k : Int)), some (.inl (((12) * (c : Int)) + (k : Int))), some (.inl v1), some (.inl (3))]) (st' := [.inl (((12) * (c : Int)) + (k : Int)), .inr (.inr (.inl (some (77))))]) (h' := h333) rfl ?_
                refine wq_cv (p' := 325) (av_qc (.invokevirtual 282) 143 1 0 8) 3 cd_143 [.inl (((12) * (c : Int)) + (k : Int))] (77) 8 [some (.inr (.inr (.inl (some (77))))), some (.inl (((12) * (c : Int)) + (k : Int))), none] (ck_146 _ _ rfl) rfl rfl pp_143 rfl rfl rfl (congrArg Prod.fst (ly_k (mr_L M334) 77 rfl)) rfl rfl rfl rfl ?_
                refine ct_143 M334 F335 (by omega) X336 ((((12) * (c : Int)) + (k : Int))) (by omega) rfl (fun h339 R340 M341 F342 X343 => ?_)
                obtain ⟨⟨t344, r345⟩, q346⟩ : ∃ x, rsM b lim (k * 21) t330 (av_u1 r235 (k * 21 + 6) (nmv b t320 (0) ((c : Int) - (1)))) = x := ⟨_, rfl⟩
                rw [q346] at M341 X343
                have M341 : MR b lim t344 x17 (hA h) (12 * c + k) R340 h339 := M341
                have X343 : RX 3 1 t344 R340 r345 (k * 21) := X343
                show av_wp _ cd_146 325 [some (.inr (.inr (.inl (some (77))))), some (.inl (c : Int)), some (.inl (k : Int)), some (.inl (((12) * (c : Int)) + (k : Int))), some (.inl v1), some (.inl (3))] [] h339 _
                refine av_wp_sqF ck_146 1 (pc' := 326) (lv' := [some (.inr (.inr (.inl (some (77))))), some (.inl (c : Int)), some (.inl (k : Int)), some (.inl (((12) * (c : Int)) + (k : Int))), some (.inl v1), some (.inl (3))]) (st' := [.inr (.inr (.inl (some (77))))]) (h' := h339) rfl ?_
                refine wq_cv (p' := 329) (av_qc (.invokevirtual 286) 135 0 0 8) 1 cd_135 [] (77) 8 [some (.inr (.inr (.inl (some (77)))))] (ck_146 _ _ rfl) rfl rfl pp_135 rfl rfl rfl (congrArg Prod.fst (ly_k (mr_L M341) 77 rfl)) rfl rfl rfl rfl ?_
                refine ct_135 M341.1 F342 (fun h347 N348 F349 => ?_)
                have M350 := mr_tok M341 N348
                clear N348
                generalize q352 : sem b lim t344 = t351 at M350
                have X353 : RX 3 1 t351 R340 r345 (k * 21) := rx_t X343 (fun z => sem_o (by rw [q352]; exact z))
                show av_wp _ cd_146 329 [some (.inr (.inr (.inl (some (77))))), some (.inl (c : Int)), some (.inl (k : Int)), some (.inl (((12) * (c : Int)) + (k : Int))), some (.inl v1), some (.inl (3))] [] h347 _
                refine av_wp_ret (v := none) (ck_146 _ _ rfl) rfl rfl ?_
                exact hq h347 R340 (by simp only [rsy, rs5, rs4, rs3, rs2, rs1, rsT, rsT1, rsT2, rsB, q18, q19, q20, q97, q203, q236, q321, q331, q346, q352, if_pos (show v1 = 0 ∨ v1 = 1 by omega), if_pos (show v1 = 0 by omega), if_pos z237, if_neg z315, if_neg (show ¬ v1 = 2 by omega)]; exact M350) F349 (by simp only [rsy, rs5, rs4, rs3, rs2, rs1, rsT, rsT1, rsT2, rsB, q18, q19, q20, q97, q203, q236, q321, q331, q346, q352, if_pos (show v1 = 0 ∨ v1 = 1 by omega), if_pos (show v1 = 0 by omega), if_pos z237, if_neg z315, if_neg (show ¬ v1 = 2 by omega)]; exact X353)
              · have c338 : v1 = (2) := c338
                exfalso; omega
            · show av_wp _ cd_146 244 [some (.inr (.inr (.inl (some (77))))), some (.inl (c : Int)), some (.inl (k : Int)), some (.inl (((12) * (c : Int)) + (k : Int))), some (.inl v1), some (.inl (3))] [.inl (0)] h229 _
              refine av_wp_sqF ck_146 1 (pc' := 265) (lv' := [some (.inr (.inr (.inl (some (77))))), some (.inl (c : Int)), some (.inl (k : Int)), some (.inl (((12) * (c : Int)) + (k : Int))), some (.inl v1), some (.inl (3))]) (st' := []) (h' := h229) rfl ?_
              refine av_wp_sqF ck_146 2 (pc' := 268) (lv' := [some (.inr (.inr (.inl (some (77))))), some (.inl (c : Int)), some (.inl (k : Int)), some (.inl (((12) * (c : Int)) + (k : Int))), some (.inl v1), some (.inl (3))]) (st' := [.inl (2), .inl v1]) (h' := h229) rfl ?_
              refine wq_k2 (p' := 271) (ck_146 _ _ rfl) rfl ⟨by omega, by omega⟩ ⟨by omega, by omega⟩ (fun c354 => ?_) (fun c355 => ?_)
              · have c354 : v1 ≠ (2) := c354
                refine av_wp_sqF ck_146 2 (pc' := 322) (lv' := [some (.inr (.inr (.inl (some (77))))), some (.inl (c : Int)), some (.inl (k : Int)), some (.inl (((12) * (c : Int)) + (k : Int))), some (.inl v1), some (.inl (3))]) (st' := [.inl (((12) * (c : Int)) + (k : Int)), .inr (.inr (.inl (some (77))))]) (h' := h229) rfl ?_
                refine wq_cv (p' := 325) (av_qc (.invokevirtual 282) 143 1 0 8) 3 cd_143 [.inl (((12) * (c : Int)) + (k : Int))] (77) 8 [some (.inr (.inr (.inl (some (77))))), some (.inl (((12) * (c : Int)) + (k : Int))), none] (ck_146 _ _ rfl) rfl rfl pp_143 rfl rfl rfl (congrArg Prod.fst (ly_k (mr_L M231) 77 rfl)) rfl rfl rfl rfl ?_
                refine ct_143 M231 F232 (by omega) X233 ((((12) * (c : Int)) + (k : Int))) (by omega) rfl (fun h356 R357 M358 F359 X360 => ?_)
                obtain ⟨⟨t361, r362⟩, q363⟩ : ∃ x, rsM b lim (k * 21) t234 r235 = x := ⟨_, rfl⟩
                rw [q363] at M358 X360
                have M358 : MR b lim t361 x17 (hA h) (12 * c + k) R357 h356 := M358
                have X360 : RX 3 1 t361 R357 r362 (k * 21) := X360
                show av_wp _ cd_146 325 [some (.inr (.inr (.inl (some (77))))), some (.inl (c : Int)), some (.inl (k : Int)), some (.inl (((12) * (c : Int)) + (k : Int))), some (.inl v1), some (.inl (3))] [] h356 _
                refine av_wp_sqF ck_146 1 (pc' := 326) (lv' := [some (.inr (.inr (.inl (some (77))))), some (.inl (c : Int)), some (.inl (k : Int)), some (.inl (((12) * (c : Int)) + (k : Int))), some (.inl v1), some (.inl (3))]) (st' := [.inr (.inr (.inl (some (77))))]) (h' := h356) rfl ?_
                refine wq_cv (p' := 329) (av_qc (.invokevirtual 286) 135 0 0 8) 1 cd_135 [] (77) 8 [some (.inr (.inr (.inl (some (77)))))] (ck_146 _ _ rfl) rfl rfl pp_135 rfl rfl rfl (congrArg Prod.fst (ly_k (mr_L M358) 77 rfl)) rfl rfl rfl rfl ?_
                refine ct_135 M358.1 F359 (fun h364 N365 F366 => ?_)
                have M367 := mr_tok M358 N365
                clear N365
                generalize q369 : sem b lim t361 = t368 at M367
                have X370 : RX 3 1 t368 R357 r362 (k * 21) := rx_t X360 (fun z => sem_o (by rw [q369]; exact z))
                show av_wp _ cd_146 329 [some (.inr (.inr (.inl (some (77))))), some (.inl (c : Int)), some (.inl (k : Int)), some (.inl (((12) * (c : Int)) + (k : Int))), some (.inl v1), some (.inl (3))] [] h364 _
                refine av_wp_ret (v := none) (ck_146 _ _ rfl) rfl rfl ?_
                exact hq h364 R357 (by simp only [rsy, rs5, rs4, rs3, rs2, rs1, rsT, rsT1, rsT2, rsB, q18, q19, q20, q97, q203, q236, q363, q369, if_pos (show v1 = 0 ∨ v1 = 1 by omega), if_pos (show v1 = 0 by omega), if_pos z237, if_pos z315, if_neg (show ¬ v1 = 2 by omega)]; exact M367) F366 (by simp only [rsy, rs5, rs4, rs3, rs2, rs1, rsT, rsT1, rsT2, rsB, q18, q19, q20, q97, q203, q236, q363, q369, if_pos (show v1 = 0 ∨ v1 = 1 by omega), if_pos (show v1 = 0 by omega), if_pos z237, if_pos z315, if_neg (show ¬ v1 = 2 by omega)]; exact X370)
              · have c355 : v1 = (2) := c355
                exfalso; omega
    · have c12 : (k : Int) = (12) := c12
      exfalso; omega
end
section
/-! THE READERS OF LAWS, as functions of the place and of the row of what is told -/
section
variable (b : Nat → Int) (lim : Nat)
def rlY3 (w v : Int) (d : Nat → Int) : Nat → Int := if w = 2 ∨ w = 3 then av_u1 d 2 v else d
def rlY2 (w v : Int) (d : Nat → Int) : Nat → Int := if w = 1 ∨ w = 3 then av_u1 d 1 v else d
def rlY1 (w v : Int) (d : Nat → Int) : Nat → Int := if w = 0 ∨ w = 3 then av_u1 d 0 v else d
def rlY (t : TT) (d : Nat → Int) : TT × (Nat → Int) := (cho b lim (cho b lim t 13) 14, rlY3 (pkv b t 13) (pkv b (cho b lim t 13) 14) (rlY2 (pkv b t 13) (pkv b (cho b lim t 13) 14) (rlY1 (pkv b t 13) (pkv b (cho b lim t 13) 14) d)))
def rlC (o n : Nat) (t : TT) (d : Nat → Int) : TT × (Nat → Int) := (cho b lim t n, av_u1 d o (pkv b t n))
def rlN (o : Nat) (t : TT) (d : Nat → Int) : TT × (Nat → Int) := (nmt b lim t 0 999, av_u1 d o (nmv b t 0 999))
def rlK (k : Int) (t : TT) (d : Nat → Int) : TT × (Nat → Int) :=
  if k = 0 then rlY b lim t d else if k = 1 then rlC b lim 3 14 t d else if k = 2 then rlC b lim 4 14 t d else if k = 3 then rlC b lim 5 14 t d else if k = 4 then rlC b lim 6 15 t d else if k = 5 then rlN b lim 7 t d else if k = 6 then rlN b lim 8 t d else if k = 7 then rlC b lim 9 16 t d else if k = 8 then rlC b lim 10 17 t d else if k = 9 then rlC b lim 11 18 t d else if k = 10 then rlC b lim 12 19 t d else (t, d)
/-- one rule -/
def rl1 (t : TT) (d : Nat → Int) : TT × (Nat → Int) := (sem b lim (rlK b lim (pkv b t 12) (cho b lim t 12) d).1, (rlK b lim (pkv b t 12) (cho b lim t 12) d).2)
/-- all of them: how many, the place, what is told -/
def rlf : Nat → Nat → TT → (Nat → Int) → Nat × TT × (Nat → Int)
  | 0, n, t, d => (n, t, d)
  | f + 1, n, t, d => if t.2.2.2 = -1 ∧ t.2.2.1 ≠ 0 then (if n = 20 then (n, fal t, d) else rlf f (n + 1) (rl1 b lim t d).1 (rl1 b lim t d).2) else (n, t, d)
end
section
variable {b : Nat → Int} {lim : Nat} {t : TT} {d : Nat → Int}
theorem pkP_12 (k : TKW b t) : pkv b t 12 = (if (t.2.2.2 = -1 ∧ t.2.2.1 = 1 ∧ txtv b t = 18379) then 0 else (if (t.2.2.2 = -1 ∧ t.2.2.1 = 1 ∧ txtv b t = 8094240) then 1 else (if (t.2.2.2 = -1 ∧ t.2.2.1 = 1 ∧ txtv b t = 40187) then 2 else (if (t.2.2.2 = -1 ∧ t.2.2.1 = 1 ∧ txtv b t = 393) then 3 else (if (t.2.2.2 = -1 ∧ t.2.2.1 = 1 ∧ txtv b t = 168727) then 4 else (if (t.2.2.2 = -1 ∧ t.2.2.1 = 1 ∧ txtv b t = 6409157) then 5 else (if (t.2.2.2 = -1 ∧ t.2.2.1 = 1 ∧ txtv b t = 7496615453) then 6 else (if (t.2.2.2 = -1 ∧ t.2.2.1 = 1 ∧ txtv b t = 2045) then 7 else (if (t.2.2.2 = -1 ∧ t.2.2.1 = 1 ∧ txtv b t = 129532) then 8 else (if (t.2.2.2 = -1 ∧ t.2.2.1 = 1 ∧ txtv b t = 82516) then 9 else (if (t.2.2.2 = -1 ∧ t.2.2.1 = 1 ∧ txtv b t = 361379) then 10 else -1))))))))))) := by
  by_cases h2 : t.2.2.2 = -1 ∧ t.2.2.1 = 1
  · have z3 : pkv b t 12 = pkf b t.1 t.2.1 (av_lit 12) 0 t.1 true := if_pos h2
    have z1 : txtv b t = txt b t.1 (t.2.1 - t.1) := if_pos h2.2
    have hP : ∀ w : Int, (t.2.2.2 = -1 ∧ t.2.2.1 = 1 ∧ txtv b t = w) = (txt b t.1 (t.2.1 - t.1) = w) := fun w => propext ⟨fun z => z1.symm.trans z.2.2, fun z => ⟨h2.1, h2.2, z1.trans z⟩⟩
    simp only [hP]
    rw [z3, ltw_12 k.1 (k.2.1 h2.2)]
  · have hP : ∀ w : Int, (t.2.2.2 = -1 ∧ t.2.2.1 = 1 ∧ txtv b t = w) = False := fun w => propext ⟨fun z => h2 ⟨z.1, z.2.1⟩, fun z => z.elim⟩
    simp only [hP, if_false]
    exact if_neg h2
theorem pkP_13 (k : TKW b t) : pkv b t 13 = (if (t.2.2.2 = -1 ∧ t.2.2.1 = 1 ∧ txtv b t = 326396) then 0 else (if (t.2.2.2 = -1 ∧ t.2.2.1 = 1 ∧ txtv b t = 459761) then 1 else (if (t.2.2.2 = -1 ∧ t.2.2.1 = 1 ∧ txtv b t = 7219835) then 2 else (if (t.2.2.2 = -1 ∧ t.2.2.1 = 1 ∧ txtv b t = 1065) then 3 else -1)))) := by
  by_cases h2 : t.2.2.2 = -1 ∧ t.2.2.1 = 1
  · have z3 : pkv b t 13 = pkf b t.1 t.2.1 (av_lit 13) 0 t.1 true := if_pos h2
    have z1 : txtv b t = txt b t.1 (t.2.1 - t.1) := if_pos h2.2
    have hP : ∀ w : Int, (t.2.2.2 = -1 ∧ t.2.2.1 = 1 ∧ txtv b t = w) = (txt b t.1 (t.2.1 - t.1) = w) := fun w => propext ⟨fun z => z1.symm.trans z.2.2, fun z => ⟨h2.1, h2.2, z1.trans z⟩⟩
    simp only [hP]
    rw [z3, ltw_13 k.1 (k.2.1 h2.2)]
  · have hP : ∀ w : Int, (t.2.2.2 = -1 ∧ t.2.2.1 = 1 ∧ txtv b t = w) = False := fun w => propext ⟨fun z => h2 ⟨z.1, z.2.1⟩, fun z => z.elim⟩
    simp only [hP, if_false]
    exact if_neg h2
theorem pkP_14 (k : TKW b t) : pkv b t 14 = (if (t.2.2.2 = -1 ∧ t.2.2.1 = 1 ∧ txtv b t = 378020) then 0 else (if (t.2.2.2 = -1 ∧ t.2.2.1 = 1 ∧ txtv b t = 70340) then 1 else (if (t.2.2.2 = -1 ∧ t.2.2.1 = 1 ∧ txtv b t = 357970) then 2 else -1))) := by
  by_cases h2 : t.2.2.2 = -1 ∧ t.2.2.1 = 1
  · have z3 : pkv b t 14 = pkf b t.1 t.2.1 (av_lit 14) 0 t.1 true := if_pos h2
    have z1 : txtv b t = txt b t.1 (t.2.1 - t.1) := if_pos h2.2
    have hP : ∀ w : Int, (t.2.2.2 = -1 ∧ t.2.2.1 = 1 ∧ txtv b t = w) = (txt b t.1 (t.2.1 - t.1) = w) := fun w => propext ⟨fun z => z1.symm.trans z.2.2, fun z => ⟨h2.1, h2.2, z1.trans z⟩⟩
    simp only [hP]
    rw [z3, ltw_14 k.1 (k.2.1 h2.2)]
  · have hP : ∀ w : Int, (t.2.2.2 = -1 ∧ t.2.2.1 = 1 ∧ txtv b t = w) = False := fun w => propext ⟨fun z => h2 ⟨z.1, z.2.1⟩, fun z => z.elim⟩
    simp only [hP, if_false]
    exact if_neg h2
theorem pkP_15 (k : TKW b t) : pkv b t 15 = (if (t.2.2.2 = -1 ∧ t.2.2.1 = 1 ∧ txtv b t = 131360) then 0 else (if (t.2.2.2 = -1 ∧ t.2.2.1 = 1 ∧ txtv b t = 1250362) then 1 else -1)) := by
  by_cases h2 : t.2.2.2 = -1 ∧ t.2.2.1 = 1
  · have z3 : pkv b t 15 = pkf b t.1 t.2.1 (av_lit 15) 0 t.1 true := if_pos h2
    have z1 : txtv b t = txt b t.1 (t.2.1 - t.1) := if_pos h2.2
    have hP : ∀ w : Int, (t.2.2.2 = -1 ∧ t.2.2.1 = 1 ∧ txtv b t = w) = (txt b t.1 (t.2.1 - t.1) = w) := fun w => propext ⟨fun z => z1.symm.trans z.2.2, fun z => ⟨h2.1, h2.2, z1.trans z⟩⟩
    simp only [hP]
    rw [z3, ltw_15 k.1 (k.2.1 h2.2)]
  · have hP : ∀ w : Int, (t.2.2.2 = -1 ∧ t.2.2.1 = 1 ∧ txtv b t = w) = False := fun w => propext ⟨fun z => h2 ⟨z.1, z.2.1⟩, fun z => z.elim⟩
    simp only [hP, if_false]
    exact if_neg h2
theorem pkP_16 (k : TKW b t) : pkv b t 16 = (if (t.2.2.2 = -1 ∧ t.2.2.1 = 1 ∧ txtv b t = 393) then 0 else (if (t.2.2.2 = -1 ∧ t.2.2.1 = 1 ∧ txtv b t = 10354323) then 1 else -1)) := by
  by_cases h2 : t.2.2.2 = -1 ∧ t.2.2.1 = 1
  · have z3 : pkv b t 16 = pkf b t.1 t.2.1 (av_lit 16) 0 t.1 true := if_pos h2
    have z1 : txtv b t = txt b t.1 (t.2.1 - t.1) := if_pos h2.2
    have hP : ∀ w : Int, (t.2.2.2 = -1 ∧ t.2.2.1 = 1 ∧ txtv b t = w) = (txt b t.1 (t.2.1 - t.1) = w) := fun w => propext ⟨fun z => z1.symm.trans z.2.2, fun z => ⟨h2.1, h2.2, z1.trans z⟩⟩
    simp only [hP]
    rw [z3, ltw_16 k.1 (k.2.1 h2.2)]
  · have hP : ∀ w : Int, (t.2.2.2 = -1 ∧ t.2.2.1 = 1 ∧ txtv b t = w) = False := fun w => propext ⟨fun z => h2 ⟨z.1, z.2.1⟩, fun z => z.elim⟩
    simp only [hP, if_false]
    exact if_neg h2
theorem pkP_17 (k : TKW b t) : pkv b t 17 = (if (t.2.2.2 = -1 ∧ t.2.2.1 = 1 ∧ txtv b t = 3379448) then 0 else (if (t.2.2.2 = -1 ∧ t.2.2.1 = 1 ∧ txtv b t = 237458) then 1 else (if (t.2.2.2 = -1 ∧ t.2.2.1 = 1 ∧ txtv b t = 286880) then 2 else -1))) := by
  by_cases h2 : t.2.2.2 = -1 ∧ t.2.2.1 = 1
  · have z3 : pkv b t 17 = pkf b t.1 t.2.1 (av_lit 17) 0 t.1 true := if_pos h2
    have z1 : txtv b t = txt b t.1 (t.2.1 - t.1) := if_pos h2.2
    have hP : ∀ w : Int, (t.2.2.2 = -1 ∧ t.2.2.1 = 1 ∧ txtv b t = w) = (txt b t.1 (t.2.1 - t.1) = w) := fun w => propext ⟨fun z => z1.symm.trans z.2.2, fun z => ⟨h2.1, h2.2, z1.trans z⟩⟩
    simp only [hP]
    rw [z3, ltw_17 k.1 (k.2.1 h2.2)]
  · have hP : ∀ w : Int, (t.2.2.2 = -1 ∧ t.2.2.1 = 1 ∧ txtv b t = w) = False := fun w => propext ⟨fun z => h2 ⟨z.1, z.2.1⟩, fun z => z.elim⟩
    simp only [hP, if_false]
    exact if_neg h2
theorem pkP_18 (k : TKW b t) : pkv b t 18 = (if (t.2.2.2 = -1 ∧ t.2.2.1 = 1 ∧ txtv b t = 286880) then 0 else (if (t.2.2.2 = -1 ∧ t.2.2.1 = 1 ∧ txtv b t = 18379) then 1 else -1)) := by
  by_cases h2 : t.2.2.2 = -1 ∧ t.2.2.1 = 1
  · have z3 : pkv b t 18 = pkf b t.1 t.2.1 (av_lit 18) 0 t.1 true := if_pos h2
    have z1 : txtv b t = txt b t.1 (t.2.1 - t.1) := if_pos h2.2
    have hP : ∀ w : Int, (t.2.2.2 = -1 ∧ t.2.2.1 = 1 ∧ txtv b t = w) = (txt b t.1 (t.2.1 - t.1) = w) := fun w => propext ⟨fun z => z1.symm.trans z.2.2, fun z => ⟨h2.1, h2.2, z1.trans z⟩⟩
    simp only [hP]
    rw [z3, ltw_18 k.1 (k.2.1 h2.2)]
  · have hP : ∀ w : Int, (t.2.2.2 = -1 ∧ t.2.2.1 = 1 ∧ txtv b t = w) = False := fun w => propext ⟨fun z => h2 ⟨z.1, z.2.1⟩, fun z => z.elim⟩
    simp only [hP, if_false]
    exact if_neg h2
theorem pkP_19 (k : TKW b t) : pkv b t 19 = (if (t.2.2.2 = -1 ∧ t.2.2.1 = 1 ∧ txtv b t = 798894590) then 0 else (if (t.2.2.2 = -1 ∧ t.2.2.1 = 1 ∧ txtv b t = 378020) then 1 else (if (t.2.2.2 = -1 ∧ t.2.2.1 = 1 ∧ txtv b t = 70340) then 2 else -1))) := by
  by_cases h2 : t.2.2.2 = -1 ∧ t.2.2.1 = 1
  · have z3 : pkv b t 19 = pkf b t.1 t.2.1 (av_lit 19) 0 t.1 true := if_pos h2
    have z1 : txtv b t = txt b t.1 (t.2.1 - t.1) := if_pos h2.2
    have hP : ∀ w : Int, (t.2.2.2 = -1 ∧ t.2.2.1 = 1 ∧ txtv b t = w) = (txt b t.1 (t.2.1 - t.1) = w) := fun w => propext ⟨fun z => z1.symm.trans z.2.2, fun z => ⟨h2.1, h2.2, z1.trans z⟩⟩
    simp only [hP]
    rw [z3, ltw_19 k.1 (k.2.1 h2.2)]
  · have hP : ∀ w : Int, (t.2.2.2 = -1 ∧ t.2.2.1 = 1 ∧ txtv b t = w) = False := fun w => propext ⟨fun z => h2 ⟨z.1, z.2.1⟩, fun z => z.elim⟩
    simp only [hP, if_false]
    exact if_neg h2
end
/-- the reference's choice of one of three -/
def on3 (b : Nat → Int) (t : TT) (w0 w1 w2 : Int) : Int := if (t.2.2.2 = -1 ∧ t.2.2.1 = 1 ∧ txtv b t = w0) then 0 else if (t.2.2.2 = -1 ∧ t.2.2.1 = 1 ∧ txtv b t = w1) then 1 else if (t.2.2.2 = -1 ∧ t.2.2.1 = 1 ∧ txtv b t = w2) then 2 else -1
section
variable {b : Nat → Int} {lim : Nat} {t : TT} {d : Nat → Int}
theorem on3_15 (k : TKW b t) : on3 b t 131360 1250362 (-9) = pkv b t 15 := by
  rw [pkP_15 k]
  unfold on3
  rw [if_neg (fun z : t.2.2.2 = -1 ∧ t.2.2.1 = 1 ∧ txtv b t = -9 => by have h := (txtv_r k).1; have z2 := z.2.2; omega)]
theorem on3_16 (k : TKW b t) : on3 b t 393 10354323 (-9) = pkv b t 16 := by
  rw [pkP_16 k]
  unfold on3
  rw [if_neg (fun z : t.2.2.2 = -1 ∧ t.2.2.1 = 1 ∧ txtv b t = -9 => by have h := (txtv_r k).1; have z2 := z.2.2; omega)]
theorem on3_18 (k : TKW b t) : on3 b t 286880 18379 (-9) = pkv b t 18 := by
  rw [pkP_18 k]
  unfold on3
  rw [if_neg (fun z : t.2.2.2 = -1 ∧ t.2.2.1 = 1 ∧ txtv b t = -9 => by have h := (txtv_r k).1; have z2 := z.2.2; omega)]
theorem on3_17 (k : TKW b t) : on3 b t 3379448 237458 286880 = pkv b t 17 := (pkP_17 k).symm
theorem on3_19 (k : TKW b t) : on3 b t 798894590 378020 70340 = pkv b t 19 := (pkP_19 k).symm
theorem on3_13 (k : TKW b t) (z : ¬ (t.2.2.2 = -1 ∧ t.2.2.1 = 1 ∧ txtv b t = 1065)) : on3 b t 326396 459761 7219835 = pkv b t 13 := by
  rw [pkP_13 k, if_neg z]
  rfl
theorem pk13_3 (k : TKW b t) (z : t.2.2.2 = -1 ∧ t.2.2.1 = 1 ∧ txtv b t = 1065) : pkv b t 13 = 3 := by
  rw [pkP_13 k, if_neg (fun y => by have y1 := y.2.2; have z1 := z.2.2; omega), if_neg (fun y => by have y1 := y.2.2; have z1 := z.2.2; omega), if_neg (fun y => by have y1 := y.2.2; have z1 := z.2.2; omega), if_pos z]
end
/-! the reference's row of a law -/
def ML (b : Nat → Int) (lim : Nat) (t : TT) (x17 : Int) (A0 : Nat → Nat → Int) (at0 : Nat) (R : Nat → Int) (h : av_H) : Prop := MT b lim t x17 (hA h) h ∧ (∀ o, o < 14 → hA h 93 (at0 + o) = R o) ∧ (∀ a j, ¬ (a = 93 ∧ at0 ≤ j ∧ j < at0 + 14) → hA h a j = A0 a j)
def RL (t : TT) (R d : Nat → Int) : Prop := t.2.2.2 = -1 → ∀ o, o < 13 → R o = d o
section
variable {g h : av_H} {b : Nat → Int} {lim : Nat} {t t' : TT} {x17 : Int} {A0 : Nat → Nat → Int} {at0 : Nat} {R d : Nat → Int}
theorem ml_tok {h' : av_H} (M : ML b lim t x17 A0 at0 R h) (N : MT b lim t' x17 (hA h) h') : ML b lim t' x17 A0 at0 R h' := by
  have e : hA h' = hA h := ns_A N.1
  refine ⟨by rw [e]; exact N, ?_, ?_⟩
  · rw [e]; exact M.2.1
  · rw [e]; exact M.2.2
theorem ml_L (M : ML b lim t x17 A0 at0 R h) : LY h := M.1.1.1
theorem ml_wA {v : Int} (M : ML b lim t x17 A0 at0 R h) (o : Nat) (ho : o < 14) : ML b lim t x17 A0 at0 (av_u1 R o v) (hwA h 93 (at0 + o) v) := by
  refine ⟨mt_wA M.1 (by decide), fun q hq => ?_, fun a j hj => ?_⟩
  · rw [hA_wA]
    by_cases e : q = o
    · subst e; rw [if_pos ⟨rfl, rfl⟩]; exact (if_pos rfl).symm
    · rw [if_neg (by omega)]; exact (M.2.1 q hq).trans (if_neg e).symm
  · rw [hA_wA, if_neg (by omega)]
    exact M.2.2 a j hj
theorem rlr_t (X : RL t R d) (e : t'.2.2.2 = -1 → t.2.2.2 = -1) : RL t' R d := fun z => X (e z)
theorem rlr_u {o : Nat} {v v' : Int} (X : RL t R d) (e : t.2.2.2 = -1 → v = v') : RL t (av_u1 R o v) (av_u1 d o v') := fun z q hq => by
  by_cases e1 : q = o
  · subst e1; rw [u1_eq, u1_eq]; exact e z
  · rw [u1_ne e1, u1_ne e1]; exact X z q hq
theorem ml_0 (N : MT b lim t x17 (hA h) h) : ML b lim t x17 (hA h) at0 (fun o => hA h 93 (at0 + o)) h := ⟨N, fun _ _ => rfl, fun _ _ _ => rfl⟩
end
section
variable {sc : av_Sr} {cd : List (Nat × av_E)} {Q : Option av_V → av_H → Prop} {pc p' : Nat} {lv : av_L} {r' : List av_V} {g h : av_H} {b r d : Nat → Int} {lim : Nat} {t : TT} {x17 : Int} {A0 : Nat → Nat → Int} {at0 : Nat} {R : Nat → Int}
theorem ml_as {v x : Int} (hx : cd.lookup pc = some (av_q (.iastore))) (hp : pc + 1 = p') (M : ML b lim t x17 A0 at0 R h) (F : FD g h) (hi : at0 ≤ 960) (o : Nat) (ho : o < 14) (ex : x = (at0 : Int) + o) (hw : ∀ h', ML b lim t x17 A0 at0 (av_u1 R o v) h' → FD g h' → av_wp sc cd p' lv r' h' Q) : av_wp sc cd pc lv (.inl v :: .inl x :: .inr (.inr (.inl (some 93))) :: r') h Q := by
  have ex : x = ((at0 + o : Nat) : Int) := by omega
  subst ex
  exact wq_as (n := 980) hx hp (ly_k M.1.1.1 93 rfl) (by omega) (hw _ (ml_wA M o ho) (FD_wA F rfl))
theorem ct_w25 {j : Nat} {v : Int} (C : CT b lim t r d h) (hv : -2 ≤ v ∧ v ≤ 999) : CT b lim t r (av_u1 d j v) (hwA h 25 j v) := by
  refine ⟨C.1, (hA_ne (by decide)).trans C.2.1, C.2.2.1, C.2.2.2.1, C.2.2.2.2.1, C.2.2.2.2.2.1, C.2.2.2.2.2.2.1, C.2.2.2.2.2.2.2.1, (hA_ne (by decide)).trans (ct_r C), ?_, ct_wf C, ct_rv C, fun q => ?_⟩
  case refine_2 =>
    unfold av_u1
    split
    · exact hv
    · exact ct_dv C q
  rw [← ct_d C]
  funext q
  show av_u2 h.2.2.2.1 25 j v 25 q = av_u1 (hA h 25) j v q
  unfold av_u2 av_u1
  by_cases e : q = j
  · rw [if_pos ⟨rfl, e⟩, if_pos e]
  · rw [if_neg (fun z => e z.2), if_neg e]
theorem ct_ds {v x : Int} (hx : cd.lookup pc = some (av_q (.iastore))) (hp : pc + 1 = p') (C : CT b lim t r d h) (F : FT g h) (k : Nat) (e : x = (k : Int)) (hk : k < 14) (hv : -2 ≤ v ∧ v ≤ 999) (hw : ∀ h', CT b lim t r (av_u1 d k v) h' → FT g h' → av_wp sc cd p' lv r' h' Q) : av_wp sc cd pc lv (.inl v :: .inl x :: .inr (.inr (.inl (some 25))) :: r') h Q := by
  subst e
  exact wq_as (n := 14) hx hp (ly_k C.1 25 rfl) (by omega) (hw _ (ct_w25 C hv) (FT_wA F (Or.inr rfl)))
theorem ct_dfil {lo hi : Nat} {v : Int} (C : CT b lim t r d h) (F : FT g h) (hv : -2 ≤ v ∧ v ≤ 999) : CT b lim t r (ufil d lo hi v) (hfil h 25 lo hi v) ∧ FT g (hfil h 25 lo hi v) := by
  have E : ∀ q, q ≠ 25 → hA (hfil h 25 lo hi v) q = hA h q := fun q hq => by
    funext j
    show (if q = 25 ∧ lo ≤ j ∧ j < hi then v else h.2.2.2.1 q j) = _
    rw [if_neg (fun z => hq z.1)]
  refine ⟨⟨C.1, (E 2 (by decide)).trans C.2.1, C.2.2.1, C.2.2.2.1, C.2.2.2.2.1, C.2.2.2.2.2.1, C.2.2.2.2.2.2.1, C.2.2.2.2.2.2.2.1, (E 23 (by decide)).trans (ct_r C), ?_, ct_wf C, ct_rv C, fun q => ?_⟩, F.1, F.2.1, F.2.2.1, F.2.2.2.1, F.2.2.2.2.1, F.2.2.2.2.2.1, fun q h1 h2 => (E q h2).trans (F.2.2.2.2.2.2 q h1 h2)⟩
  case refine_2 =>
    unfold ufil
    split
    · exact hv
    · exact ct_dv C q
  rw [← ct_d C]
  funext j
  show (if 25 = 25 ∧ lo ≤ j ∧ j < hi then v else h.2.2.2.1 25 j) = ufil (hA h 25) lo hi v j
  unfold ufil
  by_cases e : lo ≤ j ∧ j < hi
  · rw [if_pos ⟨rfl, e⟩, if_pos e]
  · rw [if_neg (fun z => e z.2), if_neg e]
end
end
