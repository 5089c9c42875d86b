set_option maxRecDepth 100000 in
set_option maxHeartbeats 4000000 in
theorem ct_145 {g h : av_H} {b : Nat → Int} {lim : Nat} {t : TT} {x17 : Int} {A : Nat → Nat → Int} (N : MT b lim t x17 A h) (F : FD g h) (B : BN A) (c k : Nat) (hc : c ≤ 15) (hk : k ≤ 11) (x y : Int) (ex : x = (c : Int)) (ey : y = (k : Int)) (w hd : Int) (qw : 2 ≤ w ∧ w ≤ 7 ∧ w ≠ 3) (qh : 0 ≤ hd ∧ hd ≤ 2) {r : Nat → Int} (rel : ∀ s, s < k → A 82 (12 * c + s) = r (s * 21) ∧ A 83 (12 * c + s) = r (s * 21 + 1) ∧ A 84 (12 * c + s) = r (s * 21 + 2)) (hr : t.2.2.2 = -1 → hd = r (k * 21 + 1)) {Q : Option av_V → av_H → Prop} (hq : ∀ (v : Int) h', MT b lim (rsS b lim k w t r).1 x17 A h' → FD g h' → ((rsS b lim k w t r).1.2.2.2 = -1 → v = vlv b t) → (-1 ≤ v ∧ v ≤ 10) → Q (some (.inl v)) h') : av_wp none cd_145 0 [some (.inr (.inr (.inl (some (77))))), some (.inl x), some (.inl y), some (.inl w), some (.inl hd), none, none, none] [] h Q := by
  have gw1 : t.1 ≤ 900 ∧ t.2.1 ≤ lim ∧ lim ≤ 900 := ⟨N.2.1.1, N.2.1.2.1, N.2.1.2.2.1⟩
  have gw2 : -1 ≤ t.2.2.2 ∧ t.2.2.2 ≤ 900 := N.2.1.2.2.2.2
  have gt := tok_f t N.2.1.2.2.2.1
  have gt2 := gt.2.1
  have gtr := gt.2.2.2.2
  clear gt
  have gwr := wr_f t
  have gvl := vl_f N.2.2
  subst ex
  subst ey
  have gq : -2147483648 ≤ valv b t ∧ valv b t ≤ 2147483647 := valv_r N.2.2
  refine av_wp_sqF ck_145 1 (pc' := 1) (lv' := [some (.inr (.inr (.inl (some (77))))), some (.inl (c : Int)), some (.inl (k : Int)), some (.inl w), some (.inl hd), none, none, none]) (st' := [.inr (.inr (.inl (some (77))))]) (h' := h) rfl ?_
  refine wq_gb (p' := 4) (ck_145 _ _ rfl) rfl (congrArg Prod.fst (ly_k N.1.1 77 rfl)) rfl (ns_25 N.1) ?_
  refine wq_k1 (p' := 7) (ck_145 _ _ rfl) rfl ⟨by omega, by omega⟩ (fun c1 => ?_) (fun c2 => ?_)
  · have c1 : (wrv t) = (0) := c1
    refine av_wp_sqF ck_145 1 (pc' := 10) (lv' := [some (.inr (.inr (.inl (some (77))))), some (.inl (c : Int)), some (.inl (k : Int)), some (.inl w), some (.inl hd), none, none, none]) (st' := [.inr (.inr (.inl (some (77))))]) (h' := h) rfl ?_
    refine wq_gi (p' := 13) (ck_145 _ _ rfl) rfl (congrArg Prod.fst (ly_k N.1.1 77 rfl)) rfl (ns_22 N.1) ?_
    refine av_wp_sqF ck_145 1 (pc' := 14) (lv' := [some (.inr (.inr (.inl (some (77))))), some (.inl (c : Int)), some (.inl (k : Int)), some (.inl w), some (.inl hd), none, none, none]) (st' := [.inl (2), .inl (tokv t)]) (h' := h) rfl ?_
    refine wq_k2 (p' := 17) (ck_145 _ _ rfl) rfl ⟨by omega, by omega⟩ ⟨by omega, by omega⟩ (fun c3 => ?_) (fun c4 => ?_)
    · have c3 : (tokv t) ≠ (2) := c3
      refine av_wp_sqF ck_145 12 (pc' := 56) (lv' := [some (.inr (.inr (.inl (some (77))))), some (.inl (c : Int)), some (.inl (k : Int)), some (.inl w), some (.inl hd), some (.inl (-1)), some (.inl (((12) * (c : Int)) + (-1))), some (.inl (0))]) (st' := []) (h' := h) rfl ?_
      refine av_wp_sqF ck_145 9 (pc' := 214) (lv' := [some (.inr (.inr (.inl (some (77))))), some (.inl (c : Int)), some (.inl (k : Int)), some (.inl w), some (.inl hd), some (.inl (-1)), some (.inl (((12) * (c : Int)) + (-1))), some (.inl (0))]) (st' := [.inr (.inr (.inl (some (77))))]) (h' := h) rfl ?_
      refine wq_cv (p' := 217) (av_qc (.invokevirtual 194) 131 0 0 8) 1 cd_131 [] (77) 8 [some (.inr (.inr (.inl (some (77)))))] (ck_145 _ _ rfl) rfl rfl pp_131 rfl rfl rfl (congrArg Prod.fst (ly_k N.1.1 77 rfl)) rfl rfl rfl rfl ?_
      refine ct_131 N F (fun h5 N6 F7 => ?_)
      show av_wp _ cd_145 217 [some (.inr (.inr (.inl (some (77))))), some (.inl (c : Int)), some (.inl (k : Int)), some (.inl w), some (.inl hd), some (.inl (-1)), some (.inl (((12) * (c : Int)) + (-1))), some (.inl (0))] [] h5 _
      refine av_wp_sqF ck_145 2 (pc' := 226) (lv' := [some (.inr (.inr (.inl (some (77))))), some (.inl (c : Int)), some (.inl (k : Int)), some (.inl w), some (.inl hd), some (.inl (-1)), some (.inl (((12) * (c : Int)) + (-1))), some (.inl (0))]) (st' := [.inl (-1)]) (h' := h5) rfl ?_
      refine av_wp_ret (v := some (.inl (-1))) (ck_145 _ _ rfl) rfl rfl ?_
      have z1 : rsS b lim k w t r = (fal t, r) := if_neg (fun z => by have z1 := z.1; clear z; omega)
      exact hq _ h5 (by rw [z1]; exact N6) F7 (by intro z; rw [z1] at z; exact absurd z fal_ne) (by omega)
    · have c4 : (tokv t) = (2) := c4
      refine av_wp_sqF ck_145 1 (pc' := 18) (lv' := [some (.inr (.inr (.inl (some (77))))), some (.inl (c : Int)), some (.inl (k : Int)), some (.inl w), some (.inl hd), none, none, none]) (st' := [.inr (.inr (.inl (some (77))))]) (h' := h) rfl ?_
      refine wq_gi (p' := 21) (ck_145 _ _ rfl) rfl (congrArg Prod.fst (ly_k N.1.1 77 rfl)) rfl (ns_23 N.1) ?_
      refine av_wp_sqF ck_145 1 (pc' := 22) (lv' := [some (.inr (.inr (.inl (some (77))))), some (.inl (c : Int)), some (.inl (k : Int)), some (.inl w), some (.inl hd), none, none, none]) (st' := [.inl (k : Int), .inl (valv b t)]) (h' := h) rfl ?_
      refine wq_k2 (p' := 25) (ck_145 _ _ rfl) rfl ⟨by omega, by omega⟩ ⟨by omega, by omega⟩ (fun c8 => ?_) (fun c9 => ?_)
      · have c8 : (k : Int) ≤ (valv b t) := c8
        refine av_wp_sqF ck_145 12 (pc' := 56) (lv' := [some (.inr (.inr (.inl (some (77))))), some (.inl (c : Int)), some (.inl (k : Int)), some (.inl w), some (.inl hd), some (.inl (-1)), some (.inl (((12) * (c : Int)) + (-1))), some (.inl (0))]) (st' := []) (h' := h) rfl ?_
        refine av_wp_sqF ck_145 9 (pc' := 214) (lv' := [some (.inr (.inr (.inl (some (77))))), some (.inl (c : Int)), some (.inl (k : Int)), some (.inl w), some (.inl hd), some (.inl (-1)), some (.inl (((12) * (c : Int)) + (-1))), some (.inl (0))]) (st' := [.inr (.inr (.inl (some (77))))]) (h' := h) rfl ?_
        refine wq_cv (p' := 217) (av_qc (.invokevirtual 194) 131 0 0 8) 1 cd_131 [] (77) 8 [some (.inr (.inr (.inl (some (77)))))] (ck_145 _ _ rfl) rfl rfl pp_131 rfl rfl rfl (congrArg Prod.fst (ly_k N.1.1 77 rfl)) rfl rfl rfl rfl ?_
        refine ct_131 N F (fun h10 N11 F12 => ?_)
        show av_wp _ cd_145 217 [some (.inr (.inr (.inl (some (77))))), some (.inl (c : Int)), some (.inl (k : Int)), some (.inl w), some (.inl hd), some (.inl (-1)), some (.inl (((12) * (c : Int)) + (-1))), some (.inl (0))] [] h10 _
        refine av_wp_sqF ck_145 2 (pc' := 226) (lv' := [some (.inr (.inr (.inl (some (77))))), some (.inl (c : Int)), some (.inl (k : Int)), some (.inl w), some (.inl hd), some (.inl (-1)), some (.inl (((12) * (c : Int)) + (-1))), some (.inl (0))]) (st' := [.inl (-1)]) (h' := h10) rfl ?_
        refine av_wp_ret (v := some (.inl (-1))) (ck_145 _ _ rfl) rfl rfl ?_
        have z1 : rsS b lim k w t r = (fal t, r) := if_neg (fun z => by have z1 := z.1; clear z; omega)
        exact hq _ h10 (by rw [z1]; exact N11) F12 (by intro z; rw [z1] at z; exact absurd z fal_ne) (by omega)
      · have c9 : (valv b t) < (k : Int) := c9
        have es : vlv b t ≠ -1 := gvl.1.mpr (by omega)
        have gs := gvl.2 es
        clear gvl
        have ev : vlv b t = valv b t := gs.1.symm
        rw [ev] at gs
        have gs1 : 0 ≤ valv b t := gs.2.1
        clear gs es
        obtain ⟨r0, r1, r2⟩ := rel (Int.toNat (valv b t)) (by omega)
        have b0 := B 82 (by omega) (by omega) (12 * c + Int.toNat (valv b t))
        have b1 := B 83 (by omega) (by omega) (12 * c + Int.toNat (valv b t))
        have b2 := B 84 (by omega) (by omega) (12 * c + Int.toNat (valv b t))
        obtain ⟨a0, l0⟩ : ∃ v, A 82 (12 * c + Int.toNat (valv b t)) = v := ⟨_, rfl⟩
        obtain ⟨a1, l1⟩ : ∃ v, A 83 (12 * c + Int.toNat (valv b t)) = v := ⟨_, rfl⟩
        obtain ⟨a2, l2⟩ : ∃ v, A 84 (12 * c + Int.toNat (valv b t)) = v := ⟨_, rfl⟩
        rw [l0] at r0 b0
        rw [l1] at r1 b1
        rw [l2] at r2 b2
        have b0 : 0 ≤ a0 ∧ a0 ≤ 7 := b0
        have b1 : 0 ≤ a1 ∧ a1 ≤ 2 := b1
        have b2 : -1 ≤ a2 ∧ a2 ≤ 2 := b2
        refine av_wp_sqF ck_145 1 (pc' := 26) (lv' := [some (.inr (.inr (.inl (some (77))))), some (.inl (c : Int)), some (.inl (k : Int)), some (.inl w), some (.inl hd), none, none, none]) (st' := [.inr (.inr (.inl (some (77))))]) (h' := h) rfl ?_
        refine wq_gi (p' := 29) (ck_145 _ _ rfl) rfl (congrArg Prod.fst (ly_k N.1.1 77 rfl)) rfl (ns_23 N.1) ?_
        refine av_wp_sqF ck_145 9 (pc' := 46) (lv' := [some (.inr (.inr (.inl (some (77))))), some (.inl (c : Int)), some (.inl (k : Int)), some (.inl w), some (.inl hd), some (.inl (valv b t)), some (.inl (((12) * (c : Int)) + (valv b t))), none]) (st' := [.inl (valv b t)]) (h' := h) rfl ?_
        refine wq_k1 (p' := 49) (ck_145 _ _ rfl) rfl ⟨by omega, by omega⟩ (fun c13 => ?_) (fun c14 => ?_)
        · have c13 : (valv b t) < (0) := c13
          exfalso; omega
        · have c14 : (0) ≤ (valv b t) := c14
          refine av_wp_sqF ck_145 7 (pc' := 63) (lv' := [some (.inr (.inr (.inl (some (77))))), some (.inl (c : Int)), some (.inl (k : Int)), some (.inl w), some (.inl hd), some (.inl (valv b t)), some (.inl (((12) * (c : Int)) + (valv b t))), some (.inl (1))]) (st' := [.inl (2), .inl w]) (h' := h) rfl ?_
          refine wq_k2 (p' := 66) (ck_145 _ _ rfl) rfl ⟨by omega, by omega⟩ ⟨by omega, by omega⟩ (fun c15 => ?_) (fun c16 => ?_)
          · have c15 : w = (2) := c15
            refine av_wp_sqF ck_145 2 (pc' := 79) (lv' := [some (.inr (.inr (.inl (some (77))))), some (.inl (c : Int)), some (.inl (k : Int)), some (.inl w), some (.inl hd), some (.inl (valv b t)), some (.inl (((12) * (c : Int)) + (valv b t))), some (.inl (1))]) (st' := [.inr (.inr (.inl (some (77)))), .inr (.inr (.inl (some (77))))]) (h' := h) rfl ?_
            refine wq_gr (p' := 82) (ck_145 _ _ rfl) rfl (congrArg Prod.fst (ly_k N.1.1 77 rfl)) rfl (ly_g N.1.1 77 4 82 rfl) ?_
            refine av_wp_sqF ck_145 1 (pc' := 84) (lv' := [some (.inr (.inr (.inl (some (77))))), some (.inl (c : Int)), some (.inl (k : Int)), some (.inl w), some (.inl hd), some (.inl (valv b t)), some (.inl (((12) * (c : Int)) + (valv b t))), some (.inl (1))]) (st' := [.inl (((12) * (c : Int)) + (valv b t)), .inr (.inr (.inl (some (82)))), .inr (.inr (.inl (some (77))))]) (h' := h) rfl ?_
            refine wq_al (p' := 85) (n := 960) (ck_145 _ _ rfl) rfl (ly_k N.1.1 82 rfl) (by omega) ((congrFun (congrFun (ns_A N.1) 82) _).trans ((congrArg (A 82) (show Int.toNat ((((12) * (c : Int)) + (valv b t))) = 12 * c + Int.toNat (valv b t) by omega)).trans l0)) ?_
            refine wq_cv (p' := 88) (av_qc (.invokevirtual 257) 144 1 0 8) 2 cd_144 [.inl a0] (77) 8 [some (.inr (.inr (.inl (some (77))))), some (.inl a0)] (ck_145 _ _ rfl) rfl rfl pp_144 rfl rfl rfl (congrArg Prod.fst (ly_k N.1.1 77 rfl)) rfl rfl rfl rfl ?_
            refine ct_144 (a0) (by omega) (fun z17 => ?_) (fun z17 => ?_)
            · show av_wp _ cd_145 88 [some (.inr (.inr (.inl (some (77))))), some (.inl (c : Int)), some (.inl (k : Int)), some (.inl w), some (.inl hd), some (.inl (valv b t)), some (.inl (((12) * (c : Int)) + (valv b t))), some (.inl (1))] [.inl (1)] h _
              refine av_wp_sqF ck_145 2 (pc' := 92) (lv' := [some (.inr (.inr (.inl (some (77))))), some (.inl (c : Int)), some (.inl (k : Int)), some (.inl w), some (.inl hd), some (.inl (valv b t)), some (.inl (((12) * (c : Int)) + (valv b t))), some (.inl (1))]) (st' := [.inr (.inr (.inl (some (77))))]) (h' := h) rfl ?_
              refine wq_gr (p' := 95) (ck_145 _ _ rfl) rfl (congrArg Prod.fst (ly_k N.1.1 77 rfl)) rfl (ly_g N.1.1 77 6 84 rfl) ?_
              refine av_wp_sqF ck_145 1 (pc' := 97) (lv' := [some (.inr (.inr (.inl (some (77))))), some (.inl (c : Int)), some (.inl (k : Int)), some (.inl w), some (.inl hd), some (.inl (valv b t)), some (.inl (((12) * (c : Int)) + (valv b t))), some (.inl (1))]) (st' := [.inl (((12) * (c : Int)) + (valv b t)), .inr (.inr (.inl (some (84))))]) (h' := h) rfl ?_
              refine wq_al (p' := 98) (n := 960) (ck_145 _ _ rfl) rfl (ly_k N.1.1 84 rfl) (by omega) ((congrFun (congrFun (ns_A N.1) 84) _).trans ((congrArg (A 84) (show Int.toNat ((((12) * (c : Int)) + (valv b t))) = 12 * c + Int.toNat (valv b t) by omega)).trans l2)) ?_
              refine av_wp_sqF ck_145 1 (pc' := 100) (lv' := [some (.inr (.inr (.inl (some (77))))), some (.inl (c : Int)), some (.inl (k : Int)), some (.inl w), some (.inl hd), some (.inl (valv b t)), some (.inl (((12) * (c : Int)) + (valv b t))), some (.inl (1))]) (st' := [.inl hd, .inl a2]) (h' := h) rfl ?_
              refine wq_k2 (p' := 103) (ck_145 _ _ rfl) rfl ⟨by omega, by omega⟩ ⟨by omega, by omega⟩ (fun c18 => ?_) (fun c19 => ?_)
              · have c18 : a2 ≠ hd := c18
                refine av_wp_sqF ck_145 9 (pc' := 214) (lv' := [some (.inr (.inr (.inl (some (77))))), some (.inl (c : Int)), some (.inl (k : Int)), some (.inl w), some (.inl hd), some (.inl (valv b t)), some (.inl (((12) * (c : Int)) + (valv b t))), some (.inl (0))]) (st' := [.inr (.inr (.inl (some (77))))]) (h' := h) rfl ?_
                refine wq_cv (p' := 217) (av_qc (.invokevirtual 194) 131 0 0 8) 1 cd_131 [] (77) 8 [some (.inr (.inr (.inl (some (77)))))] (ck_145 _ _ rfl) rfl rfl pp_131 rfl rfl rfl (congrArg Prod.fst (ly_k N.1.1 77 rfl)) rfl rfl rfl rfl ?_
                refine ct_131 N F (fun h20 N21 F22 => ?_)
                show av_wp _ cd_145 217 [some (.inr (.inr (.inl (some (77))))), some (.inl (c : Int)), some (.inl (k : Int)), some (.inl w), some (.inl hd), some (.inl (valv b t)), some (.inl (((12) * (c : Int)) + (valv b t))), some (.inl (0))] [] h20 _
                refine av_wp_sqF ck_145 2 (pc' := 226) (lv' := [some (.inr (.inr (.inl (some (77))))), some (.inl (c : Int)), some (.inl (k : Int)), some (.inl w), some (.inl hd), some (.inl (valv b t)), some (.inl (((12) * (c : Int)) + (valv b t))), some (.inl (0))]) (st' := [.inl (valv b t)]) (h' := h20) rfl ?_
                refine av_wp_ret (v := some (.inl (valv b t))) (ck_145 _ _ rfl) rfl rfl ?_
                have hh : hd = r (k * 21 + 1) := hr (by omega)
                have z0 : ¬ ((0 ≤ valv b t ∧ valv b t < (k : Int)) ∧ fts r w (r (k * 21 + 1)) (Int.toNat (valv b t) * 21)) := by
                  rw [← hh]
                  unfold fts
                  rw [← r0, ← r1, ← r2]
                  clear hh rel hr r0 r1 r2 l0 l1 l2 gt2 gwr gw1 gw2
                  omega
                have z1 : rsS b lim k w t r = (fal t, r) := by unfold rsS; rw [ev]; exact if_neg z0
                exact hq _ h20 (by rw [z1]; exact N21) F22 (by intro z; rw [z1] at z; exact absurd z fal_ne) (by omega)
              · have c19 : a2 = hd := c19
                refine av_wp_sqF ck_145 7 (pc' := 117) (lv' := [some (.inr (.inr (.inl (some (77))))), some (.inl (c : Int)), some (.inl (k : Int)), some (.inl w), some (.inl hd), some (.inl (valv b t)), some (.inl (((12) * (c : Int)) + (valv b t))), some (.inl (1))]) (st' := [.inl (5), .inl w]) (h' := h) rfl ?_
                refine wq_k2 (p' := 120) (ck_145 _ _ rfl) rfl ⟨by omega, by omega⟩ ⟨by omega, by omega⟩ (fun c23 => ?_) (fun c24 => ?_)
                · have c23 : w ≠ (5) := c23
                  refine av_wp_sqF ck_145 4 (pc' := 172) (lv' := [some (.inr (.inr (.inl (some (77))))), some (.inl (c : Int)), some (.inl (k : Int)), some (.inl w), some (.inl hd), some (.inl (valv b t)), some (.inl (((12) * (c : Int)) + (valv b t))), some (.inl (1))]) (st' := [.inl (7), .inl w]) (h' := h) rfl ?_
                  refine wq_k2 (p' := 175) (ck_145 _ _ rfl) rfl ⟨by omega, by omega⟩ ⟨by omega, by omega⟩ (fun c25 => ?_) (fun c26 => ?_)
                  · have c25 : w ≠ (7) := c25
                    refine av_wp_sqF ck_145 3 (pc' := 221) (lv' := [some (.inr (.inr (.inl (some (77))))), some (.inl (c : Int)), some (.inl (k : Int)), some (.inl w), some (.inl hd), some (.inl (valv b t)), some (.inl (((12) * (c : Int)) + (valv b t))), some (.inl (1))]) (st' := [.inr (.inr (.inl (some (77))))]) (h' := h) rfl ?_
                    refine wq_cv (p' := 224) (av_qc (.invokevirtual 191) 130 0 0 8) 2 cd_130 [] (77) 8 [some (.inr (.inr (.inl (some (77))))), none] (ck_145 _ _ rfl) rfl rfl pp_130 rfl rfl rfl (congrArg Prod.fst (ly_k N.1.1 77 rfl)) rfl rfl rfl rfl ?_
                    refine ct_130t N F (fun h27 N28 F29 => ?_)
                    show av_wp _ cd_145 224 [some (.inr (.inr (.inl (some (77))))), some (.inl (c : Int)), some (.inl (k : Int)), some (.inl w), some (.inl hd), some (.inl (valv b t)), some (.inl (((12) * (c : Int)) + (valv b t))), some (.inl (1))] [] h27 _
                    refine av_wp_sqF ck_145 1 (pc' := 226) (lv' := [some (.inr (.inr (.inl (some (77))))), some (.inl (c : Int)), some (.inl (k : Int)), some (.inl w), some (.inl hd), some (.inl (valv b t)), some (.inl (((12) * (c : Int)) + (valv b t))), some (.inl (1))]) (st' := [.inl (valv b t)]) (h' := h27) rfl ?_
                    refine av_wp_ret (v := some (.inl (valv b t))) (ck_145 _ _ rfl) rfl rfl ?_
                    have hh : hd = r (k * 21 + 1) := hr (by omega)
                    have z0 : ((0 ≤ valv b t ∧ valv b t < (k : Int)) ∧ fts r w (r (k * 21 + 1)) (Int.toNat (valv b t) * 21)) := by
                      rw [← hh]
                      unfold fts
                      rw [← r0, ← r1, ← r2]
                      clear hh rel hr r0 r1 r2 l0 l1 l2 gt2 gwr gw1 gw2
                      omega
                    have z1 : rsS b lim k w t r = (adv b lim t, av_u1 r (k * 21 + 3) (valv b t)) := by unfold rsS; rw [ev]; exact if_pos z0
                    exact hq _ h27 (by rw [z1]; exact N28) F29 (fun _ => ev.symm) (by omega)
                  · have c26 : w = (7) := c26
                    exfalso; omega
                · have c24 : w = (5) := c24
                  exfalso; omega
            · show av_wp _ cd_145 88 [some (.inr (.inr (.inl (some (77))))), some (.inl (c : Int)), some (.inl (k : Int)), some (.inl w), some (.inl hd), some (.inl (valv b t)), some (.inl (((12) * (c : Int)) + (valv b t))), some (.inl (1))] [.inl (0)] h _
              refine av_wp_sqF ck_145 10 (pc' := 214) (lv' := [some (.inr (.inr (.inl (some (77))))), some (.inl (c : Int)), some (.inl (k : Int)), some (.inl w), some (.inl hd), some (.inl (valv b t)), some (.inl (((12) * (c : Int)) + (valv b t))), some (.inl (0))]) (st' := [.inr (.inr (.inl (some (77))))]) (h' := h) rfl ?_
              refine wq_cv (p' := 217) (av_qc (.invokevirtual 194) 131 0 0 8) 1 cd_131 [] (77) 8 [some (.inr (.inr (.inl (some (77)))))] (ck_145 _ _ rfl) rfl rfl pp_131 rfl rfl rfl (congrArg Prod.fst (ly_k N.1.1 77 rfl)) rfl rfl rfl rfl ?_
              refine ct_131 N F (fun h30 N31 F32 => ?_)
              show av_wp _ cd_145 217 [some (.inr (.inr (.inl (some (77))))), some (.inl (c : Int)), some (.inl (k : Int)), some (.inl w), some (.inl hd), some (.inl (valv b t)), some (.inl (((12) * (c : Int)) + (valv b t))), some (.inl (0))] [] h30 _
              refine av_wp_sqF ck_145 2 (pc' := 226) (lv' := [some (.inr (.inr (.inl (some (77))))), some (.inl (c : Int)), some (.inl (k : Int)), some (.inl w), some (.inl hd), some (.inl (valv b t)), some (.inl (((12) * (c : Int)) + (valv b t))), some (.inl (0))]) (st' := [.inl (valv b t)]) (h' := h30) rfl ?_
              refine av_wp_ret (v := some (.inl (valv b t))) (ck_145 _ _ rfl) rfl rfl ?_
              have hh : hd = r (k * 21 + 1) := hr (by omega)
              have z0 : ¬ ((0 ≤ valv b t ∧ valv b t < (k : Int)) ∧ fts r w (r (k * 21 + 1)) (Int.toNat (valv b t) * 21)) := by
                rw [← hh]
                unfold fts
                rw [← r0, ← r1, ← r2]
                clear hh rel hr r0 r1 r2 l0 l1 l2 gt2 gwr gw1 gw2
                omega
              have z1 : rsS b lim k w t r = (fal t, r) := by unfold rsS; rw [ev]; exact if_neg z0
              exact hq _ h30 (by rw [z1]; exact N31) F32 (by intro z; rw [z1] at z; exact absurd z fal_ne) (by omega)
          · have c16 : w ≠ (2) := c16
            refine av_wp_sqF ck_145 2 (pc' := 68) (lv' := [some (.inr (.inr (.inl (some (77))))), some (.inl (c : Int)), some (.inl (k : Int)), some (.inl w), some (.inl hd), some (.inl (valv b t)), some (.inl (((12) * (c : Int)) + (valv b t))), some (.inl (1))]) (st' := [.inl (4), .inl w]) (h' := h) rfl ?_
            refine wq_k2 (p' := 71) (ck_145 _ _ rfl) rfl ⟨by omega, by omega⟩ ⟨by omega, by omega⟩ (fun c33 => ?_) (fun c34 => ?_)
            · have c33 : w = (4) := c33
              refine av_wp_sqF ck_145 2 (pc' := 79) (lv' := [some (.inr (.inr (.inl (some (77))))), some (.inl (c : Int)), some (.inl (k : Int)), some (.inl w), some (.inl hd), some (.inl (valv b t)), some (.inl (((12) * (c : Int)) + (valv b t))), some (.inl (1))]) (st' := [.inr (.inr (.inl (some (77)))), .inr (.inr (.inl (some (77))))]) (h' := h) rfl ?_
              refine wq_gr (p' := 82) (ck_145 _ _ rfl) rfl (congrArg Prod.fst (ly_k N.1.1 77 rfl)) rfl (ly_g N.1.1 77 4 82 rfl) ?_
              refine av_wp_sqF ck_145 1 (pc' := 84) (lv' := [some (.inr (.inr (.inl (some (77))))), some (.inl (c : Int)), some (.inl (k : Int)), some (.inl w), some (.inl hd), some (.inl (valv b t)), some (.inl (((12) * (c : Int)) + (valv b t))), some (.inl (1))]) (st' := [.inl (((12) * (c : Int)) + (valv b t)), .inr (.inr (.inl (some (82)))), .inr (.inr (.inl (some (77))))]) (h' := h) rfl ?_
              refine wq_al (p' := 85) (n := 960) (ck_145 _ _ rfl) rfl (ly_k N.1.1 82 rfl) (by omega) ((congrFun (congrFun (ns_A N.1) 82) _).trans ((congrArg (A 82) (show Int.toNat ((((12) * (c : Int)) + (valv b t))) = 12 * c + Int.toNat (valv b t) by omega)).trans l0)) ?_
              refine wq_cv (p' := 88) (av_qc (.invokevirtual 257) 144 1 0 8) 2 cd_144 [.inl a0] (77) 8 [some (.inr (.inr (.inl (some (77))))), some (.inl a0)] (ck_145 _ _ rfl) rfl rfl pp_144 rfl rfl rfl (congrArg Prod.fst (ly_k N.1.1 77 rfl)) rfl rfl rfl rfl ?_
              refine ct_144 (a0) (by omega) (fun z35 => ?_) (fun z35 => ?_)
              · show av_wp _ cd_145 88 [some (.inr (.inr (.inl (some (77))))), some (.inl (c : Int)), some (.inl (k : Int)), some (.inl w), some (.inl hd), some (.inl (valv b t)), some (.inl (((12) * (c : Int)) + (valv b t))), some (.inl (1))] [.inl (1)] h _
                refine av_wp_sqF ck_145 2 (pc' := 92) (lv' := [some (.inr (.inr (.inl (some (77))))), some (.inl (c : Int)), some (.inl (k : Int)), some (.inl w), some (.inl hd), some (.inl (valv b t)), some (.inl (((12) * (c : Int)) + (valv b t))), some (.inl (1))]) (st' := [.inr (.inr (.inl (some (77))))]) (h' := h) rfl ?_
                refine wq_gr (p' := 95) (ck_145 _ _ rfl) rfl (congrArg Prod.fst (ly_k N.1.1 77 rfl)) rfl (ly_g N.1.1 77 6 84 rfl) ?_
                refine av_wp_sqF ck_145 1 (pc' := 97) (lv' := [some (.inr (.inr (.inl (some (77))))), some (.inl (c : Int)), some (.inl (k : Int)), some (.inl w), some (.inl hd), some (.inl (valv b t)), some (.inl (((12) * (c : Int)) + (valv b t))), some (.inl (1))]) (st' := [.inl (((12) * (c : Int)) + (valv b t)), .inr (.inr (.inl (some (84))))]) (h' := h) rfl ?_
                refine wq_al (p' := 98) (n := 960) (ck_145 _ _ rfl) rfl (ly_k N.1.1 84 rfl) (by omega) ((congrFun (congrFun (ns_A N.1) 84) _).trans ((congrArg (A 84) (show Int.toNat ((((12) * (c : Int)) + (valv b t))) = 12 * c + Int.toNat (valv b t) by omega)).trans l2)) ?_
                refine av_wp_sqF ck_145 1 (pc' := 100) (lv' := [some (.inr (.inr (.inl (some (77))))), some (.inl (c : Int)), some (.inl (k : Int)), some (.inl w), some (.inl hd), some (.inl (valv b t)), some (.inl (((12) * (c : Int)) + (valv b t))), some (.inl (1))]) (st' := [.inl hd, .inl a2]) (h' := h) rfl ?_
                refine wq_k2 (p' := 103) (ck_145 _ _ rfl) rfl ⟨by omega, by omega⟩ ⟨by omega, by omega⟩ (fun c36 => ?_) (fun c37 => ?_)
                · have c36 : a2 ≠ hd := c36
                  refine av_wp_sqF ck_145 9 (pc' := 214) (lv' := [some (.inr (.inr (.inl (some (77))))), some (.inl (c : Int)), some (.inl (k : Int)), some (.inl w), some (.inl hd), some (.inl (valv b t)), some (.inl (((12) * (c : Int)) + (valv b t))), some (.inl (0))]) (st' := [.inr (.inr (.inl (some (77))))]) (h' := h) rfl ?_
                  refine wq_cv (p' := 217) (av_qc (.invokevirtual 194) 131 0 0 8) 1 cd_131 [] (77) 8 [some (.inr (.inr (.inl (some (77)))))] (ck_145 _ _ rfl) rfl rfl pp_131 rfl rfl rfl (congrArg Prod.fst (ly_k N.1.1 77 rfl)) rfl rfl rfl rfl ?_
                  refine ct_131 N F (fun h38 N39 F40 => ?_)
                  show av_wp _ cd_145 217 [some (.inr (.inr (.inl (some (77))))), some (.inl (c : Int)), some (.inl (k : Int)), some (.inl w), some (.inl hd), some (.inl (valv b t)), some (.inl (((12) * (c : Int)) + (valv b t))), some (.inl (0))] [] h38 _
                  refine av_wp_sqF ck_145 2 (pc' := 226) (lv' := [some (.inr (.inr (.inl (some (77))))), some (.inl (c : Int)), some (.inl (k : Int)), some (.inl w), some (.inl hd), some (.inl (valv b t)), some (.inl (((12) * (c : Int)) + (valv b t))), some (.inl (0))]) (st' := [.inl (valv b t)]) (h' := h38) rfl ?_
                  refine av_wp_ret (v := some (.inl (valv b t))) (ck_145 _ _ rfl) rfl rfl ?_
                  have hh : hd = r (k * 21 + 1) := hr (by omega)
                  have z0 : ¬ ((0 ≤ valv b t ∧ valv b t < (k : Int)) ∧ fts r w (r (k * 21 + 1)) (Int.toNat (valv b t) * 21)) := by
                    rw [← hh]
                    unfold fts
                    rw [← r0, ← r1, ← r2]
                    clear hh rel hr r0 r1 r2 l0 l1 l2 gt2 gwr gw1 gw2
                    omega
                  have z1 : rsS b lim k w t r = (fal t, r) := by unfold rsS; rw [ev]; exact if_neg z0
                  exact hq _ h38 (by rw [z1]; exact N39) F40 (by intro z; rw [z1] at z; exact absurd z fal_ne) (by omega)
                · have c37 : a2 = hd := c37
                  refine av_wp_sqF ck_145 7 (pc' := 117) (lv' := [some (.inr (.inr (.inl (some (77))))), some (.inl (c : Int)), some (.inl (k : Int)), some (.inl w), some (.inl hd), some (.inl (valv b t)), some (.inl (((12) * (c : Int)) + (valv b t))), some (.inl (1))]) (st' := [.inl (5), .inl w]) (h' := h) rfl ?_
                  refine wq_k2 (p' := 120) (ck_145 _ _ rfl) rfl ⟨by omega, by omega⟩ ⟨by omega, by omega⟩ (fun c41 => ?_) (fun c42 => ?_)
                  · have c41 : w ≠ (5) := c41
                    refine av_wp_sqF ck_145 4 (pc' := 172) (lv' := [some (.inr (.inr (.inl (some (77))))), some (.inl (c : Int)), some (.inl (k : Int)), some (.inl w), some (.inl hd), some (.inl (valv b t)), some (.inl (((12) * (c : Int)) + (valv b t))), some (.inl (1))]) (st' := [.inl (7), .inl w]) (h' := h) rfl ?_
                    refine wq_k2 (p' := 175) (ck_145 _ _ rfl) rfl ⟨by omega, by omega⟩ ⟨by omega, by omega⟩ (fun c43 => ?_) (fun c44 => ?_)
                    · have c43 : w ≠ (7) := c43
                      refine av_wp_sqF ck_145 3 (pc' := 221) (lv' := [some (.inr (.inr (.inl (some (77))))), some (.inl (c : Int)), some (.inl (k : Int)), some (.inl w), some (.inl hd), some (.inl (valv b t)), some (.inl (((12) * (c : Int)) + (valv b t))), some (.inl (1))]) (st' := [.inr (.inr (.inl (some (77))))]) (h' := h) rfl ?_
                      refine wq_cv (p' := 224) (av_qc (.invokevirtual 191) 130 0 0 8) 2 cd_130 [] (77) 8 [some (.inr (.inr (.inl (some (77))))), none] (ck_145 _ _ rfl) rfl rfl pp_130 rfl rfl rfl (congrArg Prod.fst (ly_k N.1.1 77 rfl)) rfl rfl rfl rfl ?_
                      refine ct_130t N F (fun h45 N46 F47 => ?_)
                      show av_wp _ cd_145 224 [some (.inr (.inr (.inl (some (77))))), some (.inl (c : Int)), some (.inl (k : Int)), some (.inl w), some (.inl hd), some (.inl (valv b t)), some (.inl (((12) * (c : Int)) + (valv b t))), some (.inl (1))] [] h45 _
                      refine av_wp_sqF ck_145 1 (pc' := 226) (lv' := [some (.inr (.inr (.inl (some (77))))), some (.inl (c : Int)), some (.inl (k : Int)), some (.inl w), some (.inl hd), some (.inl (valv b t)), some (.inl (((12) * (c : Int)) + (valv b t))), some (.inl (1))]) (st' := [.inl (valv b t)]) (h' := h45) rfl ?_
                      refine av_wp_ret (v := some (.inl (valv b t))) (ck_145 _ _ rfl) rfl rfl ?_
                      have hh : hd = r (k * 21 + 1) := hr (by omega)
                      have z0 : ((0 ≤ valv b t ∧ valv b t < (k : Int)) ∧ fts r w (r (k * 21 + 1)) (Int.toNat (valv b t) * 21)) := by
                        rw [← hh]
                        unfold fts
                        rw [← r0, ← r1, ← r2]
                        clear hh rel hr r0 r1 r2 l0 l1 l2 gt2 gwr gw1 gw2
                        omega
                      have z1 : rsS b lim k w t r = (adv b lim t, av_u1 r (k * 21 + 3) (valv b t)) := by unfold rsS; rw [ev]; exact if_pos z0
                      exact hq _ h45 (by rw [z1]; exact N46) F47 (fun _ => ev.symm) (by omega)
                    · have c44 : w = (7) := c44
                      exfalso; omega
                  · have c42 : w = (5) := c42
                    exfalso; omega
              · show av_wp _ cd_145 88 [some (.inr (.inr (.inl (some (77))))), some (.inl (c : Int)), some (.inl (k : Int)), some (.inl w), some (.inl hd), some (.inl (valv b t)), some (.inl (((12) * (c : Int)) + (valv b t))), some (.inl (1))] [.inl (0)] h _
                refine av_wp_sqF ck_145 10 (pc' := 214) (lv' := [some (.inr (.inr (.inl (some (77))))), some (.inl (c : Int)), some (.inl (k : Int)), some (.inl w), some (.inl hd), some (.inl (valv b t)), some (.inl (((12) * (c : Int)) + (valv b t))), some (.inl (0))]) (st' := [.inr (.inr (.inl (some (77))))]) (h' := h) rfl ?_
                refine wq_cv (p' := 217) (av_qc (.invokevirtual 194) 131 0 0 8) 1 cd_131 [] (77) 8 [some (.inr (.inr (.inl (some (77)))))] (ck_145 _ _ rfl) rfl rfl pp_131 rfl rfl rfl (congrArg Prod.fst (ly_k N.1.1 77 rfl)) rfl rfl rfl rfl ?_
                refine ct_131 N F (fun h48 N49 F50 => ?_)
                show av_wp _ cd_145 217 [some (.inr (.inr (.inl (some (77))))), some (.inl (c : Int)), some (.inl (k : Int)), some (.inl w), some (.inl hd), some (.inl (valv b t)), some (.inl (((12) * (c : Int)) + (valv b t))), some (.inl (0))] [] h48 _
                refine av_wp_sqF ck_145 2 (pc' := 226) (lv' := [some (.inr (.inr (.inl (some (77))))), some (.inl (c : Int)), some (.inl (k : Int)), some (.inl w), some (.inl hd), some (.inl (valv b t)), some (.inl (((12) * (c : Int)) + (valv b t))), some (.inl (0))]) (st' := [.inl (valv b t)]) (h' := h48) rfl ?_
                refine av_wp_ret (v := some (.inl (valv b t))) (ck_145 _ _ rfl) rfl rfl ?_
                have hh : hd = r (k * 21 + 1) := hr (by omega)
                have z0 : ¬ ((0 ≤ valv b t ∧ valv b t < (k : Int)) ∧ fts r w (r (k * 21 + 1)) (Int.toNat (valv b t) * 21)) := by
                  rw [← hh]
                  unfold fts
                  rw [← r0, ← r1, ← r2]
                  clear hh rel hr r0 r1 r2 l0 l1 l2 gt2 gwr gw1 gw2
                  omega
                have z1 : rsS b lim k w t r = (fal t, r) := by unfold rsS; rw [ev]; exact if_neg z0
                exact hq _ h48 (by rw [z1]; exact N49) F50 (by intro z; rw [z1] at z; exact absurd z fal_ne) (by omega)
            · have c34 : w ≠ (4) := c34
              refine av_wp_sqF ck_145 2 (pc' := 74) (lv' := [some (.inr (.inr (.inl (some (77))))), some (.inl (c : Int)), some (.inl (k : Int)), some (.inl w), some (.inl hd), some (.inl (valv b t)), some (.inl (((12) * (c : Int)) + (valv b t))), some (.inl (1))]) (st' := [.inl (6), .inl w]) (h' := h) rfl ?_
              refine wq_k2 (p' := 77) (ck_145 _ _ rfl) rfl ⟨by omega, by omega⟩ ⟨by omega, by omega⟩ (fun c51 => ?_) (fun c52 => ?_)
              · have c51 : w ≠ (6) := c51
                refine av_wp_sqF ck_145 4 (pc' := 117) (lv' := [some (.inr (.inr (.inl (some (77))))), some (.inl (c : Int)), some (.inl (k : Int)), some (.inl w), some (.inl hd), some (.inl (valv b t)), some (.inl (((12) * (c : Int)) + (valv b t))), some (.inl (1))]) (st' := [.inl (5), .inl w]) (h' := h) rfl ?_
                refine wq_k2 (p' := 120) (ck_145 _ _ rfl) rfl ⟨by omega, by omega⟩ ⟨by omega, by omega⟩ (fun c53 => ?_) (fun c54 => ?_)
                · have c53 : w ≠ (5) := c53
                  refine av_wp_sqF ck_145 4 (pc' := 172) (lv' := [some (.inr (.inr (.inl (some (77))))), some (.inl (c : Int)), some (.inl (k : Int)), some (.inl w), some (.inl hd), some (.inl (valv b t)), some (.inl (((12) * (c : Int)) + (valv b t))), some (.inl (1))]) (st' := [.inl (7), .inl w]) (h' := h) rfl ?_
                  refine wq_k2 (p' := 175) (ck_145 _ _ rfl) rfl ⟨by omega, by omega⟩ ⟨by omega, by omega⟩ (fun c55 => ?_) (fun c56 => ?_)
                  · have c55 : w ≠ (7) := c55
                    refine av_wp_sqF ck_145 3 (pc' := 221) (lv' := [some (.inr (.inr (.inl (some (77))))), some (.inl (c : Int)), some (.inl (k : Int)), some (.inl w), some (.inl hd), some (.inl (valv b t)), some (.inl (((12) * (c : Int)) + (valv b t))), some (.inl (1))]) (st' := [.inr (.inr (.inl (some (77))))]) (h' := h) rfl ?_
                    refine wq_cv (p' := 224) (av_qc (.invokevirtual 191) 130 0 0 8) 2 cd_130 [] (77) 8 [some (.inr (.inr (.inl (some (77))))), none] (ck_145 _ _ rfl) rfl rfl pp_130 rfl rfl rfl (congrArg Prod.fst (ly_k N.1.1 77 rfl)) rfl rfl rfl rfl ?_
                    refine ct_130t N F (fun h57 N58 F59 => ?_)
                    show av_wp _ cd_145 224 [some (.inr (.inr (.inl (some (77))))), some (.inl (c : Int)), some (.inl (k : Int)), some (.inl w), some (.inl hd), some (.inl (valv b t)), some (.inl (((12) * (c : Int)) + (valv b t))), some (.inl (1))] [] h57 _
                    refine av_wp_sqF ck_145 1 (pc' := 226) (lv' := [some (.inr (.inr (.inl (some (77))))), some (.inl (c : Int)), some (.inl (k : Int)), some (.inl w), some (.inl hd), some (.inl (valv b t)), some (.inl (((12) * (c : Int)) + (valv b t))), some (.inl (1))]) (st' := [.inl (valv b t)]) (h' := h57) rfl ?_
                    refine av_wp_ret (v := some (.inl (valv b t))) (ck_145 _ _ rfl) rfl rfl ?_
                    have hh : hd = r (k * 21 + 1) := hr (by omega)
                    have z0 : ((0 ≤ valv b t ∧ valv b t < (k : Int)) ∧ fts r w (r (k * 21 + 1)) (Int.toNat (valv b t) * 21)) := by
                      rw [← hh]
                      unfold fts
                      rw [← r0, ← r1, ← r2]
                      clear hh rel hr r0 r1 r2 l0 l1 l2 gt2 gwr gw1 gw2
                      omega
                    have z1 : rsS b lim k w t r = (adv b lim t, av_u1 r (k * 21 + 3) (valv b t)) := by unfold rsS; rw [ev]; exact if_pos z0
                    exact hq _ h57 (by rw [z1]; exact N58) F59 (fun _ => ev.symm) (by omega)
                  · have c56 : w = (7) := c56
                    refine av_wp_sqF ck_145 2 (pc' := 177) (lv' := [some (.inr (.inr (.inl (some (77))))), some (.inl (c : Int)), some (.inl (k : Int)), some (.inl w), some (.inl hd), some (.inl (valv b t)), some (.inl (((12) * (c : Int)) + (valv b t))), some (.inl (1))]) (st' := [.inr (.inr (.inl (some (77)))), .inr (.inr (.inl (some (77))))]) (h' := h) rfl ?_
                    refine wq_gr (p' := 180) (ck_145 _ _ rfl) rfl (congrArg Prod.fst (ly_k N.1.1 77 rfl)) rfl (ly_g N.1.1 77 4 82 rfl) ?_
                    refine av_wp_sqF ck_145 1 (pc' := 182) (lv' := [some (.inr (.inr (.inl (some (77))))), some (.inl (c : Int)), some (.inl (k : Int)), some (.inl w), some (.inl hd), some (.inl (valv b t)), some (.inl (((12) * (c : Int)) + (valv b t))), some (.inl (1))]) (st' := [.inl (((12) * (c : Int)) + (valv b t)), .inr (.inr (.inl (some (82)))), .inr (.inr (.inl (some (77))))]) (h' := h) rfl ?_
                    refine wq_al (p' := 183) (n := 960) (ck_145 _ _ rfl) rfl (ly_k N.1.1 82 rfl) (by omega) ((congrFun (congrFun (ns_A N.1) 82) _).trans ((congrArg (A 82) (show Int.toNat ((((12) * (c : Int)) + (valv b t))) = 12 * c + Int.toNat (valv b t) by omega)).trans l0)) ?_
                    refine wq_cv (p' := 186) (av_qc (.invokevirtual 257) 144 1 0 8) 2 cd_144 [.inl a0] (77) 8 [some (.inr (.inr (.inl (some (77))))), some (.inl a0)] (ck_145 _ _ rfl) rfl rfl pp_144 rfl rfl rfl (congrArg Prod.fst (ly_k N.1.1 77 rfl)) rfl rfl rfl rfl ?_
                    refine ct_144 (a0) (by omega) (fun z60 => ?_) (fun z60 => ?_)
                    · show av_wp _ cd_145 186 [some (.inr (.inr (.inl (some (77))))), some (.inl (c : Int)), some (.inl (k : Int)), some (.inl w), some (.inl hd), some (.inl (valv b t)), some (.inl (((12) * (c : Int)) + (valv b t))), some (.inl (1))] [.inl (1)] h _
                      refine av_wp_sqF ck_145 2 (pc' := 190) (lv' := [some (.inr (.inr (.inl (some (77))))), some (.inl (c : Int)), some (.inl (k : Int)), some (.inl w), some (.inl hd), some (.inl (valv b t)), some (.inl (((12) * (c : Int)) + (valv b t))), some (.inl (1))]) (st' := [.inr (.inr (.inl (some (77))))]) (h' := h) rfl ?_
                      refine wq_gr (p' := 193) (ck_145 _ _ rfl) rfl (congrArg Prod.fst (ly_k N.1.1 77 rfl)) rfl (ly_g N.1.1 77 5 83 rfl) ?_
                      refine av_wp_sqF ck_145 1 (pc' := 195) (lv' := [some (.inr (.inr (.inl (some (77))))), some (.inl (c : Int)), some (.inl (k : Int)), some (.inl w), some (.inl hd), some (.inl (valv b t)), some (.inl (((12) * (c : Int)) + (valv b t))), some (.inl (1))]) (st' := [.inl (((12) * (c : Int)) + (valv b t)), .inr (.inr (.inl (some (83))))]) (h' := h) rfl ?_
                      refine wq_al (p' := 196) (n := 960) (ck_145 _ _ rfl) rfl (ly_k N.1.1 83 rfl) (by omega) ((congrFun (congrFun (ns_A N.1) 83) _).trans ((congrArg (A 83) (show Int.toNat ((((12) * (c : Int)) + (valv b t))) = 12 * c + Int.toNat (valv b t) by omega)).trans l1)) ?_
                      refine av_wp_sqF ck_145 1 (pc' := 198) (lv' := [some (.inr (.inr (.inl (some (77))))), some (.inl (c : Int)), some (.inl (k : Int)), some (.inl w), some (.inl hd), some (.inl (valv b t)), some (.inl (((12) * (c : Int)) + (valv b t))), some (.inl (1))]) (st' := [.inl hd, .inl a1]) (h' := h) rfl ?_
                      refine wq_k2 (p' := 201) (ck_145 _ _ rfl) rfl ⟨by omega, by omega⟩ ⟨by omega, by omega⟩ (fun c61 => ?_) (fun c62 => ?_)
                      · have c61 : a1 ≠ hd := c61
                        refine av_wp_sqF ck_145 5 (pc' := 214) (lv' := [some (.inr (.inr (.inl (some (77))))), some (.inl (c : Int)), some (.inl (k : Int)), some (.inl w), some (.inl hd), some (.inl (valv b t)), some (.inl (((12) * (c : Int)) + (valv b t))), some (.inl (0))]) (st' := [.inr (.inr (.inl (some (77))))]) (h' := h) rfl ?_
                        refine wq_cv (p' := 217) (av_qc (.invokevirtual 194) 131 0 0 8) 1 cd_131 [] (77) 8 [some (.inr (.inr (.inl (some (77)))))] (ck_145 _ _ rfl) rfl rfl pp_131 rfl rfl rfl (congrArg Prod.fst (ly_k N.1.1 77 rfl)) rfl rfl rfl rfl ?_
                        refine ct_131 N F (fun h63 N64 F65 => ?_)
                        show av_wp _ cd_145 217 [some (.inr (.inr (.inl (some (77))))), some (.inl (c : Int)), some (.inl (k : Int)), some (.inl w), some (.inl hd), some (.inl (valv b t)), some (.inl (((12) * (c : Int)) + (valv b t))), some (.inl (0))] [] h63 _
                        refine av_wp_sqF ck_145 2 (pc' := 226) (lv' := [some (.inr (.inr (.inl (some (77))))), some (.inl (c : Int)), some (.inl (k : Int)), some (.inl w), some (.inl hd), some (.inl (valv b t)), some (.inl (((12) * (c : Int)) + (valv b t))), some (.inl (0))]) (st' := [.inl (valv b t)]) (h' := h63) rfl ?_
                        refine av_wp_ret (v := some (.inl (valv b t))) (ck_145 _ _ rfl) rfl rfl ?_
                        have hh : hd = r (k * 21 + 1) := hr (by omega)
                        have z0 : ¬ ((0 ≤ valv b t ∧ valv b t < (k : Int)) ∧ fts r w (r (k * 21 + 1)) (Int.toNat (valv b t) * 21)) := by
                          rw [← hh]
                          unfold fts
                          rw [← r0, ← r1, ← r2]
                          clear hh rel hr r0 r1 r2 l0 l1 l2 gt2 gwr gw1 gw2
                          omega
                        have z1 : rsS b lim k w t r = (fal t, r) := by unfold rsS; rw [ev]; exact if_neg z0
                        exact hq _ h63 (by rw [z1]; exact N64) F65 (by intro z; rw [z1] at z; exact absurd z fal_ne) (by omega)
                      · have c62 : a1 = hd := c62
                        refine av_wp_sqF ck_145 6 (pc' := 221) (lv' := [some (.inr (.inr (.inl (some (77))))), some (.inl (c : Int)), some (.inl (k : Int)), some (.inl w), some (.inl hd), some (.inl (valv b t)), some (.inl (((12) * (c : Int)) + (valv b t))), some (.inl (1))]) (st' := [.inr (.inr (.inl (some (77))))]) (h' := h) rfl ?_
                        refine wq_cv (p' := 224) (av_qc (.invokevirtual 191) 130 0 0 8) 2 cd_130 [] (77) 8 [some (.inr (.inr (.inl (some (77))))), none] (ck_145 _ _ rfl) rfl rfl pp_130 rfl rfl rfl (congrArg Prod.fst (ly_k N.1.1 77 rfl)) rfl rfl rfl rfl ?_
                        refine ct_130t N F (fun h66 N67 F68 => ?_)
                        show av_wp _ cd_145 224 [some (.inr (.inr (.inl (some (77))))), some (.inl (c : Int)), some (.inl (k : Int)), some (.inl w), some (.inl hd), some (.inl (valv b t)), some (.inl (((12) * (c : Int)) + (valv b t))), some (.inl (1))] [] h66 _
                        refine av_wp_sqF ck_145 1 (pc' := 226) (lv' := [some (.inr (.inr (.inl (some (77))))), some (.inl (c : Int)), some (.inl (k : Int)), some (.inl w), some (.inl hd), some (.inl (valv b t)), some (.inl (((12) * (c : Int)) + (valv b t))), some (.inl (1))]) (st' := [.inl (valv b t)]) (h' := h66) rfl ?_
                        refine av_wp_ret (v := some (.inl (valv b t))) (ck_145 _ _ rfl) rfl rfl ?_
                        have hh : hd = r (k * 21 + 1) := hr (by omega)
                        have z0 : ((0 ≤ valv b t ∧ valv b t < (k : Int)) ∧ fts r w (r (k * 21 + 1)) (Int.toNat (valv b t) * 21)) := by
                          rw [← hh]
                          unfold fts
                          rw [← r0, ← r1, ← r2]
                          clear hh rel hr r0 r1 r2 l0 l1 l2 gt2 gwr gw1 gw2
                          omega
                        have z1 : rsS b lim k w t r = (adv b lim t, av_u1 r (k * 21 + 3) (valv b t)) := by unfold rsS; rw [ev]; exact if_pos z0
                        exact hq _ h66 (by rw [z1]; exact N67) F68 (fun _ => ev.symm) (by omega)
                    · show av_wp _ cd_145 186 [some (.inr (.inr (.inl (some (77))))), some (.inl (c : Int)), some (.inl (k : Int)), some (.inl w), some (.inl hd), some (.inl (valv b t)), some (.inl (((12) * (c : Int)) + (valv b t))), some (.inl (1))] [.inl (0)] h _
                      refine av_wp_sqF ck_145 6 (pc' := 214) (lv' := [some (.inr (.inr (.inl (some (77))))), some (.inl (c : Int)), some (.inl (k : Int)), some (.inl w), some (.inl hd), some (.inl (valv b t)), some (.inl (((12) * (c : Int)) + (valv b t))), some (.inl (0))]) (st' := [.inr (.inr (.inl (some (77))))]) (h' := h) rfl ?_
                      refine wq_cv (p' := 217) (av_qc (.invokevirtual 194) 131 0 0 8) 1 cd_131 [] (77) 8 [some (.inr (.inr (.inl (some (77)))))] (ck_145 _ _ rfl) rfl rfl pp_131 rfl rfl rfl (congrArg Prod.fst (ly_k N.1.1 77 rfl)) rfl rfl rfl rfl ?_
                      refine ct_131 N F (fun h69 N70 F71 => ?_)
                      show av_wp _ cd_145 217 [some (.inr (.inr (.inl (some (77))))), some (.inl (c : Int)), some (.inl (k : Int)), some (.inl w), some (.inl hd), some (.inl (valv b t)), some (.inl (((12) * (c : Int)) + (valv b t))), some (.inl (0))] [] h69 _
                      refine av_wp_sqF ck_145 2 (pc' := 226) (lv' := [some (.inr (.inr (.inl (some (77))))), some (.inl (c : Int)), some (.inl (k : Int)), some (.inl w), some (.inl hd), some (.inl (valv b t)), some (.inl (((12) * (c : Int)) + (valv b t))), some (.inl (0))]) (st' := [.inl (valv b t)]) (h' := h69) rfl ?_
                      refine av_wp_ret (v := some (.inl (valv b t))) (ck_145 _ _ rfl) rfl rfl ?_
                      have hh : hd = r (k * 21 + 1) := hr (by omega)
                      have z0 : ¬ ((0 ≤ valv b t ∧ valv b t < (k : Int)) ∧ fts r w (r (k * 21 + 1)) (Int.toNat (valv b t) * 21)) := by
                        rw [← hh]
                        unfold fts
                        rw [← r0, ← r1, ← r2]
                        clear hh rel hr r0 r1 r2 l0 l1 l2 gt2 gwr gw1 gw2
                        omega
                      have z1 : rsS b lim k w t r = (fal t, r) := by unfold rsS; rw [ev]; exact if_neg z0
                      exact hq _ h69 (by rw [z1]; exact N70) F71 (by intro z; rw [z1] at z; exact absurd z fal_ne) (by omega)
                · have c54 : w = (5) := c54
                  refine av_wp_sqF ck_145 2 (pc' := 122) (lv' := [some (.inr (.inr (.inl (some (77))))), some (.inl (c : Int)), some (.inl (k : Int)), some (.inl w), some (.inl hd), some (.inl (valv b t)), some (.inl (((12) * (c : Int)) + (valv b t))), some (.inl (1))]) (st' := [.inr (.inr (.inl (some (77)))), .inr (.inr (.inl (some (77))))]) (h' := h) rfl ?_
                  refine wq_gr (p' := 125) (ck_145 _ _ rfl) rfl (congrArg Prod.fst (ly_k N.1.1 77 rfl)) rfl (ly_g N.1.1 77 4 82 rfl) ?_
                  refine av_wp_sqF ck_145 1 (pc' := 127) (lv' := [some (.inr (.inr (.inl (some (77))))), some (.inl (c : Int)), some (.inl (k : Int)), some (.inl w), some (.inl hd), some (.inl (valv b t)), some (.inl (((12) * (c : Int)) + (valv b t))), some (.inl (1))]) (st' := [.inl (((12) * (c : Int)) + (valv b t)), .inr (.inr (.inl (some (82)))), .inr (.inr (.inl (some (77))))]) (h' := h) rfl ?_
                  refine wq_al (p' := 128) (n := 960) (ck_145 _ _ rfl) rfl (ly_k N.1.1 82 rfl) (by omega) ((congrFun (congrFun (ns_A N.1) 82) _).trans ((congrArg (A 82) (show Int.toNat ((((12) * (c : Int)) + (valv b t))) = 12 * c + Int.toNat (valv b t) by omega)).trans l0)) ?_
                  refine wq_cv (p' := 131) (av_qc (.invokevirtual 257) 144 1 0 8) 2 cd_144 [.inl a0] (77) 8 [some (.inr (.inr (.inl (some (77))))), some (.inl a0)] (ck_145 _ _ rfl) rfl rfl pp_144 rfl rfl rfl (congrArg Prod.fst (ly_k N.1.1 77 rfl)) rfl rfl rfl rfl ?_
                  refine ct_144 (a0) (by omega) (fun z72 => ?_) (fun z72 => ?_)
                  · show av_wp _ cd_145 131 [some (.inr (.inr (.inl (some (77))))), some (.inl (c : Int)), some (.inl (k : Int)), some (.inl w), some (.inl hd), some (.inl (valv b t)), some (.inl (((12) * (c : Int)) + (valv b t))), some (.inl (1))] [.inl (1)] h _
                    refine av_wp_sqF ck_145 2 (pc' := 146) (lv' := [some (.inr (.inr (.inl (some (77))))), some (.inl (c : Int)), some (.inl (k : Int)), some (.inl w), some (.inl hd), some (.inl (valv b t)), some (.inl (((12) * (c : Int)) + (valv b t))), some (.inl (1))]) (st' := [.inr (.inr (.inl (some (77))))]) (h' := h) rfl ?_
                    refine wq_gr (p' := 149) (ck_145 _ _ rfl) rfl (congrArg Prod.fst (ly_k N.1.1 77 rfl)) rfl (ly_g N.1.1 77 5 83 rfl) ?_
                    refine av_wp_sqF ck_145 1 (pc' := 151) (lv' := [some (.inr (.inr (.inl (some (77))))), some (.inl (c : Int)), some (.inl (k : Int)), some (.inl w), some (.inl hd), some (.inl (valv b t)), some (.inl (((12) * (c : Int)) + (valv b t))), some (.inl (1))]) (st' := [.inl (((12) * (c : Int)) + (valv b t)), .inr (.inr (.inl (some (83))))]) (h' := h) rfl ?_
                    refine wq_al (p' := 152) (n := 960) (ck_145 _ _ rfl) rfl (ly_k N.1.1 83 rfl) (by omega) ((congrFun (congrFun (ns_A N.1) 83) _).trans ((congrArg (A 83) (show Int.toNat ((((12) * (c : Int)) + (valv b t))) = 12 * c + Int.toNat (valv b t) by omega)).trans l1)) ?_
                    refine av_wp_sqF ck_145 1 (pc' := 154) (lv' := [some (.inr (.inr (.inl (some (77))))), some (.inl (c : Int)), some (.inl (k : Int)), some (.inl w), some (.inl hd), some (.inl (valv b t)), some (.inl (((12) * (c : Int)) + (valv b t))), some (.inl (1))]) (st' := [.inl hd, .inl a1]) (h' := h) rfl ?_
                    refine wq_k2 (p' := 157) (ck_145 _ _ rfl) rfl ⟨by omega, by omega⟩ ⟨by omega, by omega⟩ (fun c73 => ?_) (fun c74 => ?_)
                    · have c73 : a1 ≠ hd := c73
                      refine av_wp_sqF ck_145 7 (pc' := 214) (lv' := [some (.inr (.inr (.inl (some (77))))), some (.inl (c : Int)), some (.inl (k : Int)), some (.inl w), some (.inl hd), some (.inl (valv b t)), some (.inl (((12) * (c : Int)) + (valv b t))), some (.inl (0))]) (st' := [.inr (.inr (.inl (some (77))))]) (h' := h) rfl ?_
                      refine wq_cv (p' := 217) (av_qc (.invokevirtual 194) 131 0 0 8) 1 cd_131 [] (77) 8 [some (.inr (.inr (.inl (some (77)))))] (ck_145 _ _ rfl) rfl rfl pp_131 rfl rfl rfl (congrArg Prod.fst (ly_k N.1.1 77 rfl)) rfl rfl rfl rfl ?_
                      refine ct_131 N F (fun h75 N76 F77 => ?_)
                      show av_wp _ cd_145 217 [some (.inr (.inr (.inl (some (77))))), some (.inl (c : Int)), some (.inl (k : Int)), some (.inl w), some (.inl hd), some (.inl (valv b t)), some (.inl (((12) * (c : Int)) + (valv b t))), some (.inl (0))] [] h75 _
                      refine av_wp_sqF ck_145 2 (pc' := 226) (lv' := [some (.inr (.inr (.inl (some (77))))), some (.inl (c : Int)), some (.inl (k : Int)), some (.inl w), some (.inl hd), some (.inl (valv b t)), some (.inl (((12) * (c : Int)) + (valv b t))), some (.inl (0))]) (st' := [.inl (valv b t)]) (h' := h75) rfl ?_
                      refine av_wp_ret (v := some (.inl (valv b t))) (ck_145 _ _ rfl) rfl rfl ?_
                      have hh : hd = r (k * 21 + 1) := hr (by omega)
                      have z0 : ¬ ((0 ≤ valv b t ∧ valv b t < (k : Int)) ∧ fts r w (r (k * 21 + 1)) (Int.toNat (valv b t) * 21)) := by
                        rw [← hh]
                        unfold fts
                        rw [← r0, ← r1, ← r2]
                        clear hh rel hr r0 r1 r2 l0 l1 l2 gt2 gwr gw1 gw2
                        omega
                      have z1 : rsS b lim k w t r = (fal t, r) := by unfold rsS; rw [ev]; exact if_neg z0
                      exact hq _ h75 (by rw [z1]; exact N76) F77 (by intro z; rw [z1] at z; exact absurd z fal_ne) (by omega)
                    · have c74 : a1 = hd := c74
                      refine av_wp_sqF ck_145 7 (pc' := 172) (lv' := [some (.inr (.inr (.inl (some (77))))), some (.inl (c : Int)), some (.inl (k : Int)), some (.inl w), some (.inl hd), some (.inl (valv b t)), some (.inl (((12) * (c : Int)) + (valv b t))), some (.inl (1))]) (st' := [.inl (7), .inl w]) (h' := h) rfl ?_
                      refine wq_k2 (p' := 175) (ck_145 _ _ rfl) rfl ⟨by omega, by omega⟩ ⟨by omega, by omega⟩ (fun c78 => ?_) (fun c79 => ?_)
                      · have c78 : w ≠ (7) := c78
                        refine av_wp_sqF ck_145 3 (pc' := 221) (lv' := [some (.inr (.inr (.inl (some (77))))), some (.inl (c : Int)), some (.inl (k : Int)), some (.inl w), some (.inl hd), some (.inl (valv b t)), some (.inl (((12) * (c : Int)) + (valv b t))), some (.inl (1))]) (st' := [.inr (.inr (.inl (some (77))))]) (h' := h) rfl ?_
                        refine wq_cv (p' := 224) (av_qc (.invokevirtual 191) 130 0 0 8) 2 cd_130 [] (77) 8 [some (.inr (.inr (.inl (some (77))))), none] (ck_145 _ _ rfl) rfl rfl pp_130 rfl rfl rfl (congrArg Prod.fst (ly_k N.1.1 77 rfl)) rfl rfl rfl rfl ?_
                        refine ct_130t N F (fun h80 N81 F82 => ?_)
                        show av_wp _ cd_145 224 [some (.inr (.inr (.inl (some (77))))), some (.inl (c : Int)), some (.inl (k : Int)), some (.inl w), some (.inl hd), some (.inl (valv b t)), some (.inl (((12) * (c : Int)) + (valv b t))), some (.inl (1))] [] h80 _
                        refine av_wp_sqF ck_145 1 (pc' := 226) (lv' := [some (.inr (.inr (.inl (some (77))))), some (.inl (c : Int)), some (.inl (k : Int)), some (.inl w), some (.inl hd), some (.inl (valv b t)), some (.inl (((12) * (c : Int)) + (valv b t))), some (.inl (1))]) (st' := [.inl (valv b t)]) (h' := h80) rfl ?_
                        refine av_wp_ret (v := some (.inl (valv b t))) (ck_145 _ _ rfl) rfl rfl ?_
                        have hh : hd = r (k * 21 + 1) := hr (by omega)
                        have z0 : ((0 ≤ valv b t ∧ valv b t < (k : Int)) ∧ fts r w (r (k * 21 + 1)) (Int.toNat (valv b t) * 21)) := by
                          rw [← hh]
                          unfold fts
                          rw [← r0, ← r1, ← r2]
                          clear hh rel hr r0 r1 r2 l0 l1 l2 gt2 gwr gw1 gw2
                          omega
                        have z1 : rsS b lim k w t r = (adv b lim t, av_u1 r (k * 21 + 3) (valv b t)) := by unfold rsS; rw [ev]; exact if_pos z0
                        exact hq _ h80 (by rw [z1]; exact N81) F82 (fun _ => ev.symm) (by omega)
                      · have c79 : w = (7) := c79
                        exfalso; omega
                  · show av_wp _ cd_145 131 [some (.inr (.inr (.inl (some (77))))), some (.inl (c : Int)), some (.inl (k : Int)), some (.inl w), some (.inl hd), some (.inl (valv b t)), some (.inl (((12) * (c : Int)) + (valv b t))), some (.inl (1))] [.inl (0)] h _
                    refine av_wp_sqF ck_145 2 (pc' := 135) (lv' := [some (.inr (.inr (.inl (some (77))))), some (.inl (c : Int)), some (.inl (k : Int)), some (.inl w), some (.inl hd), some (.inl (valv b t)), some (.inl (((12) * (c : Int)) + (valv b t))), some (.inl (1))]) (st' := [.inr (.inr (.inl (some (77))))]) (h' := h) rfl ?_
                    refine wq_gr (p' := 138) (ck_145 _ _ rfl) rfl (congrArg Prod.fst (ly_k N.1.1 77 rfl)) rfl (ly_g N.1.1 77 4 82 rfl) ?_
                    refine av_wp_sqF ck_145 1 (pc' := 140) (lv' := [some (.inr (.inr (.inl (some (77))))), some (.inl (c : Int)), some (.inl (k : Int)), some (.inl w), some (.inl hd), some (.inl (valv b t)), some (.inl (((12) * (c : Int)) + (valv b t))), some (.inl (1))]) (st' := [.inl (((12) * (c : Int)) + (valv b t)), .inr (.inr (.inl (some (82))))]) (h' := h) rfl ?_
                    refine wq_al (p' := 141) (n := 960) (ck_145 _ _ rfl) rfl (ly_k N.1.1 82 rfl) (by omega) ((congrFun (congrFun (ns_A N.1) 82) _).trans ((congrArg (A 82) (show Int.toNat ((((12) * (c : Int)) + (valv b t))) = 12 * c + Int.toNat (valv b t) by omega)).trans l0)) ?_
                    refine av_wp_sqF ck_145 1 (pc' := 142) (lv' := [some (.inr (.inr (.inl (some (77))))), some (.inl (c : Int)), some (.inl (k : Int)), some (.inl w), some (.inl hd), some (.inl (valv b t)), some (.inl (((12) * (c : Int)) + (valv b t))), some (.inl (1))]) (st' := [.inl (2), .inl a0]) (h' := h) rfl ?_
                    refine wq_k2 (p' := 145) (ck_145 _ _ rfl) rfl ⟨by omega, by omega⟩ ⟨by omega, by omega⟩ (fun c83 => ?_) (fun c84 => ?_)
                    · have c83 : a0 ≠ (2) := c83
                      refine av_wp_sqF ck_145 7 (pc' := 214) (lv' := [some (.inr (.inr (.inl (some (77))))), some (.inl (c : Int)), some (.inl (k : Int)), some (.inl w), some (.inl hd), some (.inl (valv b t)), some (.inl (((12) * (c : Int)) + (valv b t))), some (.inl (0))]) (st' := [.inr (.inr (.inl (some (77))))]) (h' := h) rfl ?_
                      refine wq_cv (p' := 217) (av_qc (.invokevirtual 194) 131 0 0 8) 1 cd_131 [] (77) 8 [some (.inr (.inr (.inl (some (77)))))] (ck_145 _ _ rfl) rfl rfl pp_131 rfl rfl rfl (congrArg Prod.fst (ly_k N.1.1 77 rfl)) rfl rfl rfl rfl ?_
                      refine ct_131 N F (fun h85 N86 F87 => ?_)
                      show av_wp _ cd_145 217 [some (.inr (.inr (.inl (some (77))))), some (.inl (c : Int)), some (.inl (k : Int)), some (.inl w), some (.inl hd), some (.inl (valv b t)), some (.inl (((12) * (c : Int)) + (valv b t))), some (.inl (0))] [] h85 _
                      refine av_wp_sqF ck_145 2 (pc' := 226) (lv' := [some (.inr (.inr (.inl (some (77))))), some (.inl (c : Int)), some (.inl (k : Int)), some (.inl w), some (.inl hd), some (.inl (valv b t)), some (.inl (((12) * (c : Int)) + (valv b t))), some (.inl (0))]) (st' := [.inl (valv b t)]) (h' := h85) rfl ?_
                      refine av_wp_ret (v := some (.inl (valv b t))) (ck_145 _ _ rfl) rfl rfl ?_
                      have hh : hd = r (k * 21 + 1) := hr (by omega)
                      have z0 : ¬ ((0 ≤ valv b t ∧ valv b t < (k : Int)) ∧ fts r w (r (k * 21 + 1)) (Int.toNat (valv b t) * 21)) := by
                        rw [← hh]
                        unfold fts
                        rw [← r0, ← r1, ← r2]
                        clear hh rel hr r0 r1 r2 l0 l1 l2 gt2 gwr gw1 gw2
                        omega
                      have z1 : rsS b lim k w t r = (fal t, r) := by unfold rsS; rw [ev]; exact if_neg z0
                      exact hq _ h85 (by rw [z1]; exact N86) F87 (by intro z; rw [z1] at z; exact absurd z fal_ne) (by omega)
                    · have c84 : a0 = (2) := c84
                      refine av_wp_sqF ck_145 1 (pc' := 146) (lv' := [some (.inr (.inr (.inl (some (77))))), some (.inl (c : Int)), some (.inl (k : Int)), some (.inl w), some (.inl hd), some (.inl (valv b t)), some (.inl (((12) * (c : Int)) + (valv b t))), some (.inl (1))]) (st' := [.inr (.inr (.inl (some (77))))]) (h' := h) rfl ?_
                      refine wq_gr (p' := 149) (ck_145 _ _ rfl) rfl (congrArg Prod.fst (ly_k N.1.1 77 rfl)) rfl (ly_g N.1.1 77 5 83 rfl) ?_
                      refine av_wp_sqF ck_145 1 (pc' := 151) (lv' := [some (.inr (.inr (.inl (some (77))))), some (.inl (c : Int)), some (.inl (k : Int)), some (.inl w), some (.inl hd), some (.inl (valv b t)), some (.inl (((12) * (c : Int)) + (valv b t))), some (.inl (1))]) (st' := [.inl (((12) * (c : Int)) + (valv b t)), .inr (.inr (.inl (some (83))))]) (h' := h) rfl ?_
                      refine wq_al (p' := 152) (n := 960) (ck_145 _ _ rfl) rfl (ly_k N.1.1 83 rfl) (by omega) ((congrFun (congrFun (ns_A N.1) 83) _).trans ((congrArg (A 83) (show Int.toNat ((((12) * (c : Int)) + (valv b t))) = 12 * c + Int.toNat (valv b t) by omega)).trans l1)) ?_
                      refine av_wp_sqF ck_145 1 (pc' := 154) (lv' := [some (.inr (.inr (.inl (some (77))))), some (.inl (c : Int)), some (.inl (k : Int)), some (.inl w), some (.inl hd), some (.inl (valv b t)), some (.inl (((12) * (c : Int)) + (valv b t))), some (.inl (1))]) (st' := [.inl hd, .inl a1]) (h' := h) rfl ?_
                      refine wq_k2 (p' := 157) (ck_145 _ _ rfl) rfl ⟨by omega, by omega⟩ ⟨by omega, by omega⟩ (fun c88 => ?_) (fun c89 => ?_)
                      · have c88 : a1 ≠ hd := c88
                        refine av_wp_sqF ck_145 7 (pc' := 214) (lv' := [some (.inr (.inr (.inl (some (77))))), some (.inl (c : Int)), some (.inl (k : Int)), some (.inl w), some (.inl hd), some (.inl (valv b t)), some (.inl (((12) * (c : Int)) + (valv b t))), some (.inl (0))]) (st' := [.inr (.inr (.inl (some (77))))]) (h' := h) rfl ?_
                        refine wq_cv (p' := 217) (av_qc (.invokevirtual 194) 131 0 0 8) 1 cd_131 [] (77) 8 [some (.inr (.inr (.inl (some (77)))))] (ck_145 _ _ rfl) rfl rfl pp_131 rfl rfl rfl (congrArg Prod.fst (ly_k N.1.1 77 rfl)) rfl rfl rfl rfl ?_
                        refine ct_131 N F (fun h90 N91 F92 => ?_)
                        show av_wp _ cd_145 217 [some (.inr (.inr (.inl (some (77))))), some (.inl (c : Int)), some (.inl (k : Int)), some (.inl w), some (.inl hd), some (.inl (valv b t)), some (.inl (((12) * (c : Int)) + (valv b t))), some (.inl (0))] [] h90 _
                        refine av_wp_sqF ck_145 2 (pc' := 226) (lv' := [some (.inr (.inr (.inl (some (77))))), some (.inl (c : Int)), some (.inl (k : Int)), some (.inl w), some (.inl hd), some (.inl (valv b t)), some (.inl (((12) * (c : Int)) + (valv b t))), some (.inl (0))]) (st' := [.inl (valv b t)]) (h' := h90) rfl ?_
                        refine av_wp_ret (v := some (.inl (valv b t))) (ck_145 _ _ rfl) rfl rfl ?_
                        have hh : hd = r (k * 21 + 1) := hr (by omega)
                        have z0 : ¬ ((0 ≤ valv b t ∧ valv b t < (k : Int)) ∧ fts r w (r (k * 21 + 1)) (Int.toNat (valv b t) * 21)) := by
                          rw [← hh]
                          unfold fts
                          rw [← r0, ← r1, ← r2]
                          clear hh rel hr r0 r1 r2 l0 l1 l2 gt2 gwr gw1 gw2
                          omega
                        have z1 : rsS b lim k w t r = (fal t, r) := by unfold rsS; rw [ev]; exact if_neg z0
                        exact hq _ h90 (by rw [z1]; exact N91) F92 (by intro z; rw [z1] at z; exact absurd z fal_ne) (by omega)
                      · have c89 : a1 = hd := c89
                        refine av_wp_sqF ck_145 7 (pc' := 172) (lv' := [some (.inr (.inr (.inl (some (77))))), some (.inl (c : Int)), some (.inl (k : Int)), some (.inl w), some (.inl hd), some (.inl (valv b t)), some (.inl (((12) * (c : Int)) + (valv b t))), some (.inl (1))]) (st' := [.inl (7), .inl w]) (h' := h) rfl ?_
                        refine wq_k2 (p' := 175) (ck_145 _ _ rfl) rfl ⟨by omega, by omega⟩ ⟨by omega, by omega⟩ (fun c93 => ?_) (fun c94 => ?_)
                        · have c93 : w ≠ (7) := c93
                          refine av_wp_sqF ck_145 3 (pc' := 221) (lv' := [some (.inr (.inr (.inl (some (77))))), some (.inl (c : Int)), some (.inl (k : Int)), some (.inl w), some (.inl hd), some (.inl (valv b t)), some (.inl (((12) * (c : Int)) + (valv b t))), some (.inl (1))]) (st' := [.inr (.inr (.inl (some (77))))]) (h' := h) rfl ?_
                          refine wq_cv (p' := 224) (av_qc (.invokevirtual 191) 130 0 0 8) 2 cd_130 [] (77) 8 [some (.inr (.inr (.inl (some (77))))), none] (ck_145 _ _ rfl) rfl rfl pp_130 rfl rfl rfl (congrArg Prod.fst (ly_k N.1.1 77 rfl)) rfl rfl rfl rfl ?_
                          refine ct_130t N F (fun h95 N96 F97 => ?_)
                          show av_wp _ cd_145 224 [some (.inr (.inr (.inl (some (77))))), some (.inl (c : Int)), some (.inl (k : Int)), some (.inl w), some (.inl hd), some (.inl (valv b t)), some (.inl (((12) * (c : Int)) + (valv b t))), some (.inl (1))] [] h95 _
                          refine av_wp_sqF ck_145 1 (pc' := 226) (lv' := [some (.inr (.inr (.inl (some (77))))), some (.inl (c : Int)), some (.inl (k : Int)), some (.inl w), some (.inl hd), some (.inl (valv b t)), some (.inl (((12) * (c : Int)) + (valv b t))), some (.inl (1))]) (st' := [.inl (valv b t)]) (h' := h95) rfl ?_
                          refine av_wp_ret (v := some (.inl (valv b t))) (ck_145 _ _ rfl) rfl rfl ?_
                          have hh : hd = r (k * 21 + 1) := hr (by omega)
                          have z0 : ((0 ≤ valv b t ∧ valv b t < (k : Int)) ∧ fts r w (r (k * 21 + 1)) (Int.toNat (valv b t) * 21)) := by
                            rw [← hh]
                            unfold fts
                            rw [← r0, ← r1, ← r2]
                            clear hh rel hr r0 r1 r2 l0 l1 l2 gt2 gwr gw1 gw2
                            omega
                          have z1 : rsS b lim k w t r = (adv b lim t, av_u1 r (k * 21 + 3) (valv b t)) := by unfold rsS; rw [ev]; exact if_pos z0
                          exact hq _ h95 (by rw [z1]; exact N96) F97 (fun _ => ev.symm) (by omega)
                        · have c94 : w = (7) := c94
                          exfalso; omega
              · have c52 : w = (6) := c52
                refine av_wp_sqF ck_145 2 (pc' := 79) (lv' := [some (.inr (.inr (.inl (some (77))))), some (.inl (c : Int)), some (.inl (k : Int)), some (.inl w), some (.inl hd), some (.inl (valv b t)), some (.inl (((12) * (c : Int)) + (valv b t))), some (.inl (1))]) (st' := [.inr (.inr (.inl (some (77)))), .inr (.inr (.inl (some (77))))]) (h' := h) rfl ?_
                refine wq_gr (p' := 82) (ck_145 _ _ rfl) rfl (congrArg Prod.fst (ly_k N.1.1 77 rfl)) rfl (ly_g N.1.1 77 4 82 rfl) ?_
                refine av_wp_sqF ck_145 1 (pc' := 84) (lv' := [some (.inr (.inr (.inl (some (77))))), some (.inl (c : Int)), some (.inl (k : Int)), some (.inl w), some (.inl hd), some (.inl (valv b t)), some (.inl (((12) * (c : Int)) + (valv b t))), some (.inl (1))]) (st' := [.inl (((12) * (c : Int)) + (valv b t)), .inr (.inr (.inl (some (82)))), .inr (.inr (.inl (some (77))))]) (h' := h) rfl ?_
                refine wq_al (p' := 85) (n := 960) (ck_145 _ _ rfl) rfl (ly_k N.1.1 82 rfl) (by omega) ((congrFun (congrFun (ns_A N.1) 82) _).trans ((congrArg (A 82) (show Int.toNat ((((12) * (c : Int)) + (valv b t))) = 12 * c + Int.toNat (valv b t) by omega)).trans l0)) ?_
                refine wq_cv (p' := 88) (av_qc (.invokevirtual 257) 144 1 0 8) 2 cd_144 [.inl a0] (77) 8 [some (.inr (.inr (.inl (some (77))))), some (.inl a0)] (ck_145 _ _ rfl) rfl rfl pp_144 rfl rfl rfl (congrArg Prod.fst (ly_k N.1.1 77 rfl)) rfl rfl rfl rfl ?_
                refine ct_144 (a0) (by omega) (fun z98 => ?_) (fun z98 => ?_)
                · show av_wp _ cd_145 88 [some (.inr (.inr (.inl (some (77))))), some (.inl (c : Int)), some (.inl (k : Int)), some (.inl w), some (.inl hd), some (.inl (valv b t)), some (.inl (((12) * (c : Int)) + (valv b t))), some (.inl (1))] [.inl (1)] h _
                  refine av_wp_sqF ck_145 2 (pc' := 92) (lv' := [some (.inr (.inr (.inl (some (77))))), some (.inl (c : Int)), some (.inl (k : Int)), some (.inl w), some (.inl hd), some (.inl (valv b t)), some (.inl (((12) * (c : Int)) + (valv b t))), some (.inl (1))]) (st' := [.inr (.inr (.inl (some (77))))]) (h' := h) rfl ?_
                  refine wq_gr (p' := 95) (ck_145 _ _ rfl) rfl (congrArg Prod.fst (ly_k N.1.1 77 rfl)) rfl (ly_g N.1.1 77 6 84 rfl) ?_
                  refine av_wp_sqF ck_145 1 (pc' := 97) (lv' := [some (.inr (.inr (.inl (some (77))))), some (.inl (c : Int)), some (.inl (k : Int)), some (.inl w), some (.inl hd), some (.inl (valv b t)), some (.inl (((12) * (c : Int)) + (valv b t))), some (.inl (1))]) (st' := [.inl (((12) * (c : Int)) + (valv b t)), .inr (.inr (.inl (some (84))))]) (h' := h) rfl ?_
                  refine wq_al (p' := 98) (n := 960) (ck_145 _ _ rfl) rfl (ly_k N.1.1 84 rfl) (by omega) ((congrFun (congrFun (ns_A N.1) 84) _).trans ((congrArg (A 84) (show Int.toNat ((((12) * (c : Int)) + (valv b t))) = 12 * c + Int.toNat (valv b t) by omega)).trans l2)) ?_
                  refine av_wp_sqF ck_145 1 (pc' := 100) (lv' := [some (.inr (.inr (.inl (some (77))))), some (.inl (c : Int)), some (.inl (k : Int)), some (.inl w), some (.inl hd), some (.inl (valv b t)), some (.inl (((12) * (c : Int)) + (valv b t))), some (.inl (1))]) (st' := [.inl hd, .inl a2]) (h' := h) rfl ?_
                  refine wq_k2 (p' := 103) (ck_145 _ _ rfl) rfl ⟨by omega, by omega⟩ ⟨by omega, by omega⟩ (fun c99 => ?_) (fun c100 => ?_)
                  · have c99 : a2 ≠ hd := c99
                    refine av_wp_sqF ck_145 9 (pc' := 214) (lv' := [some (.inr (.inr (.inl (some (77))))), some (.inl (c : Int)), some (.inl (k : Int)), some (.inl w), some (.inl hd), some (.inl (valv b t)), some (.inl (((12) * (c : Int)) + (valv b t))), some (.inl (0))]) (st' := [.inr (.inr (.inl (some (77))))]) (h' := h) rfl ?_
                    refine wq_cv (p' := 217) (av_qc (.invokevirtual 194) 131 0 0 8) 1 cd_131 [] (77) 8 [some (.inr (.inr (.inl (some (77)))))] (ck_145 _ _ rfl) rfl rfl pp_131 rfl rfl rfl (congrArg Prod.fst (ly_k N.1.1 77 rfl)) rfl rfl rfl rfl ?_
                    refine ct_131 N F (fun h101 N102 F103 => ?_)
                    show av_wp _ cd_145 217 [some (.inr (.inr (.inl (some (77))))), some (.inl (c : Int)), some (.inl (k : Int)), some (.inl w), some (.inl hd), some (.inl (valv b t)), some (.inl (((12) * (c : Int)) + (valv b t))), some (.inl (0))] [] h101 _
                    refine av_wp_sqF ck_145 2 (pc' := 226) (lv' := [some (.inr (.inr (.inl (some (77))))), some (.inl (c : Int)), some (.inl (k : Int)), some (.inl w), some (.inl hd), some (.inl (valv b t)), some (.inl (((12) * (c : Int)) + (valv b t))), some (.inl (0))]) (st' := [.inl (valv b t)]) (h' := h101) rfl ?_
                    refine av_wp_ret (v := some (.inl (valv b t))) (ck_145 _ _ rfl) rfl rfl ?_
                    have hh : hd = r (k * 21 + 1) := hr (by omega)
                    have z0 : ¬ ((0 ≤ valv b t ∧ valv b t < (k : Int)) ∧ fts r w (r (k * 21 + 1)) (Int.toNat (valv b t) * 21)) := by
                      rw [← hh]
                      unfold fts
                      rw [← r0, ← r1, ← r2]
                      clear hh rel hr r0 r1 r2 l0 l1 l2 gt2 gwr gw1 gw2
                      omega
                    have z1 : rsS b lim k w t r = (fal t, r) := by unfold rsS; rw [ev]; exact if_neg z0
                    exact hq _ h101 (by rw [z1]; exact N102) F103 (by intro z; rw [z1] at z; exact absurd z fal_ne) (by omega)
                  · have c100 : a2 = hd := c100
                    refine av_wp_sqF ck_145 7 (pc' := 117) (lv' := [some (.inr (.inr (.inl (some (77))))), some (.inl (c : Int)), some (.inl (k : Int)), some (.inl w), some (.inl hd), some (.inl (valv b t)), some (.inl (((12) * (c : Int)) + (valv b t))), some (.inl (1))]) (st' := [.inl (5), .inl w]) (h' := h) rfl ?_
                    refine wq_k2 (p' := 120) (ck_145 _ _ rfl) rfl ⟨by omega, by omega⟩ ⟨by omega, by omega⟩ (fun c104 => ?_) (fun c105 => ?_)
                    · have c104 : w ≠ (5) := c104
                      refine av_wp_sqF ck_145 4 (pc' := 172) (lv' := [some (.inr (.inr (.inl (some (77))))), some (.inl (c : Int)), some (.inl (k : Int)), some (.inl w), some (.inl hd), some (.inl (valv b t)), some (.inl (((12) * (c : Int)) + (valv b t))), some (.inl (1))]) (st' := [.inl (7), .inl w]) (h' := h) rfl ?_
                      refine wq_k2 (p' := 175) (ck_145 _ _ rfl) rfl ⟨by omega, by omega⟩ ⟨by omega, by omega⟩ (fun c106 => ?_) (fun c107 => ?_)
                      · have c106 : w ≠ (7) := c106
                        refine av_wp_sqF ck_145 3 (pc' := 221) (lv' := [some (.inr (.inr (.inl (some (77))))), some (.inl (c : Int)), some (.inl (k : Int)), some (.inl w), some (.inl hd), some (.inl (valv b t)), some (.inl (((12) * (c : Int)) + (valv b t))), some (.inl (1))]) (st' := [.inr (.inr (.inl (some (77))))]) (h' := h) rfl ?_
                        refine wq_cv (p' := 224) (av_qc (.invokevirtual 191) 130 0 0 8) 2 cd_130 [] (77) 8 [some (.inr (.inr (.inl (some (77))))), none] (ck_145 _ _ rfl) rfl rfl pp_130 rfl rfl rfl (congrArg Prod.fst (ly_k N.1.1 77 rfl)) rfl rfl rfl rfl ?_
                        refine ct_130t N F (fun h108 N109 F110 => ?_)
                        show av_wp _ cd_145 224 [some (.inr (.inr (.inl (some (77))))), some (.inl (c : Int)), some (.inl (k : Int)), some (.inl w), some (.inl hd), some (.inl (valv b t)), some (.inl (((12) * (c : Int)) + (valv b t))), some (.inl (1))] [] h108 _
                        refine av_wp_sqF ck_145 1 (pc' := 226) (lv' := [some (.inr (.inr (.inl (some (77))))), some (.inl (c : Int)), some (.inl (k : Int)), some (.inl w), some (.inl hd), some (.inl (valv b t)), some (.inl (((12) * (c : Int)) + (valv b t))), some (.inl (1))]) (st' := [.inl (valv b t)]) (h' := h108) rfl ?_
                        refine av_wp_ret (v := some (.inl (valv b t))) (ck_145 _ _ rfl) rfl rfl ?_
                        have hh : hd = r (k * 21 + 1) := hr (by omega)
                        have z0 : ((0 ≤ valv b t ∧ valv b t < (k : Int)) ∧ fts r w (r (k * 21 + 1)) (Int.toNat (valv b t) * 21)) := by
                          rw [← hh]
                          unfold fts
                          rw [← r0, ← r1, ← r2]
                          clear hh rel hr r0 r1 r2 l0 l1 l2 gt2 gwr gw1 gw2
                          omega
                        have z1 : rsS b lim k w t r = (adv b lim t, av_u1 r (k * 21 + 3) (valv b t)) := by unfold rsS; rw [ev]; exact if_pos z0
                        exact hq _ h108 (by rw [z1]; exact N109) F110 (fun _ => ev.symm) (by omega)
                      · have c107 : w = (7) := c107
                        exfalso; omega
                    · have c105 : w = (5) := c105
                      exfalso; omega
                · show av_wp _ cd_145 88 [some (.inr (.inr (.inl (some (77))))), some (.inl (c : Int)), some (.inl (k : Int)), some (.inl w), some (.inl hd), some (.inl (valv b t)), some (.inl (((12) * (c : Int)) + (valv b t))), some (.inl (1))] [.inl (0)] h _
                  refine av_wp_sqF ck_145 10 (pc' := 214) (lv' := [some (.inr (.inr (.inl (some (77))))), some (.inl (c : Int)), some (.inl (k : Int)), some (.inl w), some (.inl hd), some (.inl (valv b t)), some (.inl (((12) * (c : Int)) + (valv b t))), some (.inl (0))]) (st' := [.inr (.inr (.inl (some (77))))]) (h' := h) rfl ?_
                  refine wq_cv (p' := 217) (av_qc (.invokevirtual 194) 131 0 0 8) 1 cd_131 [] (77) 8 [some (.inr (.inr (.inl (some (77)))))] (ck_145 _ _ rfl) rfl rfl pp_131 rfl rfl rfl (congrArg Prod.fst (ly_k N.1.1 77 rfl)) rfl rfl rfl rfl ?_
                  refine ct_131 N F (fun h111 N112 F113 => ?_)
                  show av_wp _ cd_145 217 [some (.inr (.inr (.inl (some (77))))), some (.inl (c : Int)), some (.inl (k : Int)), some (.inl w), some (.inl hd), some (.inl (valv b t)), some (.inl (((12) * (c : Int)) + (valv b t))), some (.inl (0))] [] h111 _
                  refine av_wp_sqF ck_145 2 (pc' := 226) (lv' := [some (.inr (.inr (.inl (some (77))))), some (.inl (c : Int)), some (.inl (k : Int)), some (.inl w), some (.inl hd), some (.inl (valv b t)), some (.inl (((12) * (c : Int)) + (valv b t))), some (.inl (0))]) (st' := [.inl (valv b t)]) (h' := h111) rfl ?_
                  refine av_wp_ret (v := some (.inl (valv b t))) (ck_145 _ _ rfl) rfl rfl ?_
                  have hh : hd = r (k * 21 + 1) := hr (by omega)
                  have z0 : ¬ ((0 ≤ valv b t ∧ valv b t < (k : Int)) ∧ fts r w (r (k * 21 + 1)) (Int.toNat (valv b t) * 21)) := by
                    rw [← hh]
                    unfold fts
                    rw [← r0, ← r1, ← r2]
                    clear hh rel hr r0 r1 r2 l0 l1 l2 gt2 gwr gw1 gw2
                    omega
                  have z1 : rsS b lim k w t r = (fal t, r) := by unfold rsS; rw [ev]; exact if_neg z0
                  exact hq _ h111 (by rw [z1]; exact N112) F113 (by intro z; rw [z1] at z; exact absurd z fal_ne) (by omega)
  · have c2 : (wrv t) ≠ (0) := c2
    refine av_wp_sqF ck_145 1 (pc' := 8) (lv' := [some (.inr (.inr (.inl (some (77))))), some (.inl (c : Int)), some (.inl (k : Int)), some (.inl w), some (.inl hd), none, none, none]) (st' := [.inl (-1)]) (h' := h) rfl ?_
    refine av_wp_ret (v := some (.inl (-1))) (ck_145 _ _ rfl) rfl rfl ?_
    have z1 := rsS_w (b := b) (lim := lim) (k := k) (kind := w) (r := r) (show t.2.2.2 ≠ -1 by omega)
    exact hq _ h (by rw [z1]; exact N) F (by intro z; rw [z1] at z; have z2 : t.2.2.2 = -1 := z; exfalso; omega) (by omega)

