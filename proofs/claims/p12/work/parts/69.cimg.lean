/-! IMAGES -/
theorem ly_shp {h : av_H} (L : LY h) : SHP h 3 := ⟨ly_k L 3 rfl, ly_g L 3 0 4 rfl, ly_g L 3 1 5 rfl, ly_g L 3 2 14 rfl, ly_k L 4 rfl, ly_k L 5 rfl, ly_k L 14 rfl, fun i hi => ⟨L.2.2.1 i hi, ly_l L hi⟩, fun i hi => ⟨L.2.2.2 i hi, ly_q L hi⟩⟩
theorem blk_K {h : av_H} {o p : Nat} : hK (blk h o p) = hK h := rfl
theorem blk_G {h : av_H} {o p : Nat} : hG (blk h o p) = hG h := rfl
theorem blk_F {h : av_H} {o p q : Nat} (k : Nat) (e : q ≠ o) : hF (blk h o p) q k = hF h q k := by
  show av_u2 (av_u2 (av_u2 h.2.2.2.2.1 o 3 _) o 4 _) o 5 _ q k = _
  rw [av_u2_ne e, av_u2_ne e, av_u2_ne e]
theorem blk_Fo {h : av_H} {o p : Nat} : hF (blk h o p) o 3 = hF h p 3 ∧ hF (blk h o p) o 4 = hF h p 4 ∧ hF (blk h o p) o 5 = hF h p 5 := by
  refine ⟨?_, ?_, hF_self⟩
  · exact (hF_oth (by decide)).trans ((hF_oth (by decide)).trans hF_self)
  · exact (hF_oth (by decide)).trans hF_self
theorem blk_R {h : av_H} {o p q : Nat} : hR (blk h o p) q = if q = o + 1 then (fun i => if i < 16 then hR h (p + 1) i else hR h (o + 1) i) else hR h q := rfl
theorem blk_A {h : av_H} {o p q : Nat} (e : q < o + 3 ∨ q = o + 11 ∨ o + 18 ≤ q) : hA (blk h o p) q = hA h q := by
  show bla (bla (hA h) o p 3 8) o p 12 6 q = _
  have e1 : bla (bla (hA h) o p 3 8) o p 12 6 q = bla (hA h) o p 3 8 q := if_neg (by omega)
  have e2 : bla (hA h) o p 3 8 q = hA h q := if_neg (by omega)
  rw [e1, e2]
theorem blk_A3 {h : av_H} {o p i : Nat} (hi : i < 8) (dj : o + 18 ≤ p ∨ p + 18 ≤ o) : hA (blk h o p) (o + 3 + i) = plr (hA h (o + 3 + i)) (hA h (p + 3 + i)) := by
  show bla (bla (hA h) o p 3 8) o p 12 6 (o + 3 + i) = _
  have e1 : bla (bla (hA h) o p 3 8) o p 12 6 (o + 3 + i) = bla (hA h) o p 3 8 (o + 3 + i) := if_neg (by omega)
  have e2 : bla (hA h) o p 3 8 (o + 3 + i) = plr (hA h (o + 3 + i)) (hA h (o + 3 + i - o + p)) := if_pos (by omega)
  rw [e1, e2, show o + 3 + i - o + p = p + 3 + i by omega]
theorem blk_A12 {h : av_H} {o p i : Nat} (hi : i < 6) (dj : o + 18 ≤ p ∨ p + 18 ≤ o) : hA (blk h o p) (o + 12 + i) = plr (hA h (o + 12 + i)) (hA h (p + 12 + i)) := by
  show bla (bla (hA h) o p 3 8) o p 12 6 (o + 12 + i) = _
  have e1 : bla (bla (hA h) o p 3 8) o p 12 6 (o + 12 + i) = plr (bla (hA h) o p 3 8 (o + 12 + i)) (bla (hA h) o p 3 8 (o + 12 + i - o + p)) := if_pos (by omega)
  have e2 : bla (hA h) o p 3 8 (o + 12 + i) = hA h (o + 12 + i) := if_neg (by omega)
  have e3 : bla (hA h) o p 3 8 (o + 12 + i - o + p) = hA h (o + 12 + i - o + p) := if_neg (by omega)
  rw [e1, e2, e3, show o + 12 + i - o + p = p + 12 + i by omega]

set_option maxRecDepth 100000 in
set_option maxHeartbeats 4000000 in
theorem ct_123 {h : av_H} (L : LY h) {m : Int} (hm : hF h 0 7 = m) (qm : 0 ≤ m ∧ m ≤ 4) (cw : ∀ i, i < 16 → ∀ q, hR h 4 i = some q → (hK h q).1 = 1) {Q : Option av_V → av_H → Prop} (hqA : m = 4 → Q (some (.inl (-1))) h) (hq : m < 4 → Q (some (.inl m)) (hwF (hwR (blk (nsh h) h.1 3) 21 (Int.toNat m) (some h.1)) 0 7 (m + 1))) : av_wp none cd_123 0 [some (.inr (.inr (.inl (some (0))))), none] [] h Q := by
  refine gd_of (fun hg => ?_)
  have l122 : 121 < h.1 := ly_lt hg L (by omega)
  refine av_wp_seq 1 (pc' := 1) (lv' := [some (.inr (.inr (.inl (some (0))))), none]) (st' := [.inr (.inr (.inl (some (0))))]) (h' := h) rfl ?_
  refine wq_gi (p' := 4) rfl rfl (congrArg Prod.fst (ly_k L 0 rfl)) rfl (hm) ?_
  refine av_wp_seq 1 (pc' := 5) (lv' := [some (.inr (.inr (.inl (some (0))))), none]) (st' := [.inl (4), .inl m]) (h' := h) rfl ?_
  refine wq_k2 (p' := 8) rfl rfl ⟨by omega, by omega⟩ ⟨by omega, by omega⟩ (fun c1 => ?_) (fun c2 => ?_)
  · have c1 : m < (4) := c1
    refine av_wp_seq 2 (pc' := 14) (lv' := [some (.inr (.inr (.inl (some (0))))), none]) (st' := [.inr (.inr (.inl (some h.1))), .inr (.inr (.inl (some h.1)))]) (h' := (av_newO 5 6 h)) rfl ?_
    refine wq_cv (p' := 17) (av_qc (.invokespecial 18) 68 0 1 5) 1 cd_68 [] (h.1) 5 [some (.inr (.inr (.inl (some h.1))))] rfl rfl rfl pp_68 rfl rfl rfl (congrArg Prod.fst (show hK (av_newO 5 6 h) h.1 = (5, 0) from if_pos rfl)) rfl rfl rfl rfl ?_
    refine ct_68 ?_
    show av_wp _ cd_123 17 [some (.inr (.inr (.inl (some (0))))), none] [.inr (.inr (.inl (some h.1)))] (nsh h) _
    refine av_wp_seq 3 (pc' := 20) (lv' := [some (.inr (.inr (.inl (some 0)))), some (.inr (.inr (.inl (some h.1))))]) (st' := [.inr (.inr (.inl (some 0))), .inr (.inr (.inl (some h.1)))]) (h' := nsh h) rfl ?_
    have al := nsh_al (g := h)
    have L2 : LY (nsh h) := LY_fb hg L (AL_fb al)
    refine wq_gr (p' := 23) (v := some 3) rfl rfl (congrArg Prod.fst (ly_k L2 0 rfl)) rfl (ly_g L2 0 1 3 rfl) ?_
    refine wq_cv (p' := 26) (av_qc (.invokevirtual 266) 77 1 0 5) 3 cd_77 [.inr (.inr (.inl (some 3)))] (h.1) 5 [some (.inr (.inr (.inl (some h.1)))), some (.inr (.inr (.inl (some 3)))), none] rfl rfl rfl pp_77 rfl rfl rfl (congrArg Prod.fst nsh_shp.1) rfl rfl rfl rfl ?_
    refine ct_77 nsh_shp (ly_shp L2) (by omega) (fun i hi q hq => ?_) ?_
    · have hq : hR h 4 i = some q := by rw [← (al.2.2 4 (by omega)).2.2.2.2]; exact hq
      have kq := cw i hi q hq
      rw [(al.2.2 q (hg q (by rw [show (h.2.2.1 q).1 = 1 from kq]; decide))).1]
      exact kq
    show av_wp _ cd_123 26 [some (.inr (.inr (.inl (some 0)))), some (.inr (.inr (.inl (some h.1))))] [] (blk (nsh h) h.1 3) _
    have L3 : LY (blk (nsh h) h.1 3) := ⟨L2.1, L2.2.1, fun i hi => by rw [blk_R, if_neg (by omega)]; exact L2.2.2.1 i hi, fun i hi => by rw [blk_R, if_neg (by omega)]; exact L2.2.2.2 i hi⟩
    have hm3 : hF (blk (nsh h) h.1 3) 0 7 = m := (blk_F 7 (by omega)).trans ((congrFun (al.2.2 0 (by omega)).2.2.1 7).trans hm)
    refine av_wp_seq 1 (pc' := 27) (lv' := [some (.inr (.inr (.inl (some (0))))), some (.inr (.inr (.inl (some (h.1)))))]) (st' := [.inr (.inr (.inl (some (0))))]) (h' := (blk (nsh h) h.1 3)) rfl ?_
    refine wq_gr (p' := 30) rfl rfl (congrArg Prod.fst (ly_k L3 0 rfl)) rfl (ly_g L3 0 2 21 rfl) ?_
    refine av_wp_seq 1 (pc' := 31) (lv' := [some (.inr (.inr (.inl (some (0))))), some (.inr (.inr (.inl (some (h.1)))))]) (st' := [.inr (.inr (.inl (some (0)))), .inr (.inr (.inl (some (21))))]) (h' := (blk (nsh h) h.1 3)) rfl ?_
    refine wq_gi (p' := 34) rfl rfl (congrArg Prod.fst (ly_k L3 0 rfl)) rfl (hm3) ?_
    refine av_wp_seq 1 (pc' := 35) (lv' := [some (.inr (.inr (.inl (some (0))))), some (.inr (.inr (.inl (some (h.1)))))]) (st' := [.inr (.inr (.inl (some (h.1)))), .inl m, .inr (.inr (.inl (some (21))))]) (h' := (blk (nsh h) h.1 3)) rfl ?_
    refine wq_rs (p' := 36) (n := 4) (k := 31) rfl rfl (ly_k L3 21 rfl) (Or.inr rfl) (by omega) (fun q hq => by cases hq; exact congrArg Prod.fst (show hK (nsh h) h.1 = (5, 0) from nsh_shp.1)) ?_
    refine av_wp_seq 2 (pc' := 38) (lv' := [some (.inr (.inr (.inl (some (0))))), some (.inr (.inr (.inl (some (h.1)))))]) (st' := [.inr (.inr (.inl (some (0)))), .inr (.inr (.inl (some (0))))]) (h' := (hwR (blk (nsh h) h.1 3) 21 (Int.toNat (m)) (some h.1))) rfl ?_
    refine wq_gi (p' := 41) rfl rfl (congrArg Prod.fst (ly_k L3 0 rfl)) rfl (hm3) ?_
    refine av_wp_seq 2 (pc' := 43) (lv' := [some (.inr (.inr (.inl (some (0))))), some (.inr (.inr (.inl (some (h.1)))))]) (st' := [.inl (m + (1)), .inr (.inr (.inl (some (0))))]) (h' := (hwR (blk (nsh h) h.1 3) 21 (Int.toNat (m)) (some h.1))) rfl ?_
    refine wq_pi (p' := 46) rfl rfl (congrArg Prod.fst (ly_k L3 0 rfl)) rfl ?_
    refine av_wp_seq 1 (pc' := 47) (lv' := [some (.inr (.inr (.inl (some (0))))), some (.inr (.inr (.inl (some (h.1)))))]) (st' := [.inr (.inr (.inl (some (0))))]) (h' := (hwF (hwR (blk (nsh h) h.1 3) 21 (Int.toNat (m)) (some h.1)) 0 7 (m + (1)))) rfl ?_
    refine wq_gi (p' := 50) rfl rfl (congrArg Prod.fst (ly_k L3 0 rfl)) rfl (rfl) ?_
    refine av_wp_seq 2 (pc' := 52) (lv' := [some (.inr (.inr (.inl (some (0))))), some (.inr (.inr (.inl (some (h.1)))))]) (st' := [.inl ((m + (1)) - (1))]) (h' := (hwF (hwR (blk (nsh h) h.1 3) 21 (Int.toNat (m)) (some h.1)) 0 7 (m + (1)))) rfl ?_
    refine av_wp_ret (v := some (.inl ((m + (1)) - (1)))) rfl rfl rfl ?_
    rw [show m + 1 - 1 = m by omega]
    exact hq (by omega)
  · have c2 : (4) ≤ m := c2
    refine av_wp_seq 1 (pc' := 9) (lv' := [some (.inr (.inr (.inl (some (0))))), none]) (st' := [.inl (-1)]) (h' := h) rfl ?_
    refine av_wp_ret (v := some (.inl (-1))) rfl rfl rfl ?_
    exact hqA (by omega)

set_option maxRecDepth 100000 in
set_option maxHeartbeats 4000000 in
theorem ct_124 {h : av_H} (L : LY h) {m : Int} (hm : hF h 0 7 = m) (qm : 0 ≤ m ∧ m ≤ 4) (k : Int) (qk : -2147483648 ≤ k ∧ k ≤ 2147483647) (im : ∀ i : Nat, i < 4 → (i : Int) < m → ∃ p, hR h 21 i = some p ∧ 122 ≤ p ∧ SHP h p) (cw : ∀ p k : Nat, k < 4 → (k : Int) < m → hR h 21 k = some p → ∀ i, i < 16 → ∀ q, hR h (p + 1) i = some q → (hK h q).1 = 1) {Q : Option av_V → av_H → Prop} (hqA : (k < 0 ∨ m ≤ k) → Q (some (.inl 0)) h) (hq : 0 ≤ k → k < m → ∀ p, hR h 21 k.toNat = some p → 122 ≤ p → SHP h p → Q (some (.inl 1)) (hfil (blk h 3 p) 27 0 144 (0))) : av_wp none cd_124 0 [some (.inr (.inr (.inl (some (0))))), some (.inl k)] [] h Q := by
  refine av_wp_seq 1 (pc' := 1) (lv' := [some (.inr (.inr (.inl (some (0))))), some (.inl k)]) (st' := [.inl k]) (h' := h) rfl ?_
  refine wq_k1 (p' := 4) rfl rfl ⟨by omega, by omega⟩ (fun c1 => ?_) (fun c2 => ?_)
  · have c1 : k < (0) := c1
    refine av_wp_seq 1 (pc' := 22) (lv' := [some (.inr (.inr (.inl (some (0))))), some (.inl k)]) (st' := [.inl (0)]) (h' := h) rfl ?_
    refine av_wp_ret (v := some (.inl (0))) rfl rfl rfl ?_
    exact hqA (by omega)
  · have c2 : (0) ≤ k := c2
    refine av_wp_seq 2 (pc' := 6) (lv' := [some (.inr (.inr (.inl (some (0))))), some (.inl k)]) (st' := [.inr (.inr (.inl (some (0)))), .inl k]) (h' := h) rfl ?_
    refine wq_gi (p' := 9) rfl rfl (congrArg Prod.fst (ly_k L 0 rfl)) rfl (hm) ?_
    refine wq_k2 (p' := 12) rfl rfl ⟨by omega, by omega⟩ ⟨by omega, by omega⟩ (fun c3 => ?_) (fun c4 => ?_)
    · have c3 : m ≤ k := c3
      refine av_wp_seq 1 (pc' := 22) (lv' := [some (.inr (.inr (.inl (some (0))))), some (.inl k)]) (st' := [.inl (0)]) (h' := h) rfl ?_
      refine av_wp_ret (v := some (.inl (0))) rfl rfl rfl ?_
      exact hqA (by omega)
    · have c4 : k < m := c4
      refine av_wp_seq 1 (pc' := 13) (lv' := [some (.inr (.inr (.inl (some (0))))), some (.inl k)]) (st' := [.inr (.inr (.inl (some (0))))]) (h' := h) rfl ?_
      refine wq_gr (p' := 16) rfl rfl (congrArg Prod.fst (ly_k L 0 rfl)) rfl (ly_g L 0 2 21 rfl) ?_
      refine av_wp_seq 1 (pc' := 17) (lv' := [some (.inr (.inr (.inl (some (0))))), some (.inl k)]) (st' := [.inl k, .inr (.inr (.inl (some (21))))]) (h' := h) rfl ?_
      obtain ⟨p, hp, hp2, hp3⟩ := im k.toNat (by omega) (by omega)
      refine wq_ar (p' := 18) (n := 4) (k := 31) (v := some p) rfl rfl (ly_k L 21 rfl) (Or.inr (Or.inl rfl)) (by omega) hp ?_
      refine av_wp_seq 2 (pc' := 24) (lv' := [some (.inr (.inr (.inl (some (0))))), some (.inl k)]) (st' := [.inr (.inr (.inl (some (0))))]) (h' := h) rfl ?_
      refine wq_gr (p' := 27) rfl rfl (congrArg Prod.fst (ly_k L 0 rfl)) rfl (ly_g L 0 1 3 rfl) ?_
      refine av_wp_seq 1 (pc' := 28) (lv' := [some (.inr (.inr (.inl (some (0))))), some (.inl k)]) (st' := [.inr (.inr (.inl (some (0)))), .inr (.inr (.inl (some (3))))]) (h' := h) rfl ?_
      refine wq_gr (p' := 31) rfl rfl (congrArg Prod.fst (ly_k L 0 rfl)) rfl (ly_g L 0 2 21 rfl) ?_
      refine av_wp_seq 1 (pc' := 32) (lv' := [some (.inr (.inr (.inl (some (0))))), some (.inl k)]) (st' := [.inl k, .inr (.inr (.inl (some (21)))), .inr (.inr (.inl (some (3))))]) (h' := h) rfl ?_
      refine wq_ar (p' := 33) (n := 4) (k := 31) (v := some p) rfl rfl (ly_k L 21 rfl) (Or.inr (Or.inl rfl)) (by omega) hp ?_
      refine wq_cv (p' := 36) (av_qc (.invokevirtual 266) 77 1 0 5) 3 cd_77 [.inr (.inr (.inl (some (p))))] (3) 5 [some (.inr (.inr (.inl (some (3))))), some (.inr (.inr (.inl (some (p))))), none] rfl rfl rfl pp_77 rfl rfl rfl (congrArg Prod.fst (ly_k L 3 rfl)) rfl rfl rfl rfl ?_
      refine ct_77 (ly_shp L) hp3 (by omega) (cw p k.toNat (by omega) (by omega) hp) ?_
      have L3 : LY (blk h 3 p) := ⟨L.1, L.2.1, fun i hi => by rw [blk_R, if_neg (by omega)]; exact L.2.2.1 i hi, fun i hi => by rw [blk_R, if_neg (by omega)]; exact L.2.2.2 i hi⟩
      show av_wp _ cd_124 36 [some (.inr (.inr (.inl (some (0))))), some (.inl k)] [] (blk h 3 p) _
      refine av_wp_seq 1 (pc' := 37) (lv' := [some (.inr (.inr (.inl (some (0))))), some (.inl k)]) (st' := [.inr (.inr (.inl (some (0))))]) (h' := (blk h 3 p)) rfl ?_
      refine wq_gr (p' := 40) rfl rfl (congrArg Prod.fst (ly_k L3 0 rfl)) rfl (ly_g L3 0 5 26 rfl) ?_
      refine wq_cv (p' := 43) (av_qc (.invokevirtual 104) 46 0 0 3) 1 cd_46 [] (26) 3 [some (.inr (.inr (.inl (some (26)))))] rfl rfl rfl pp_46 rfl rfl rfl (congrArg Prod.fst (ly_k L3 26 rfl)) rfl rfl rfl rfl ?_
      refine ct_46x (h := (blk h 3 p)) L3 ?_
      show av_wp _ cd_124 43 [some (.inr (.inr (.inl (some (0))))), some (.inl k)] [] (hfil (blk h 3 p) 27 0 144 (0)) _
      refine av_wp_seq 1 (pc' := 44) (lv' := [some (.inr (.inr (.inl (some (0))))), some (.inl k)]) (st' := [.inl (1)]) (h' := (hfil (blk h 3 p) 27 0 144 (0))) rfl ?_
      refine av_wp_ret (v := some (.inl (1))) rfl rfl rfl ?_
      exact hq (by omega) (by omega) p hp hp2 hp3
