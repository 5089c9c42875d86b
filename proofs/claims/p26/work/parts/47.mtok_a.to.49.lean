section
/-! THE REFERENCE READS, exactly -/
set_option maxRecDepth 100000 in
set_option maxHeartbeats 4000000 in
theorem ct_131 {g h : av_H} {b : Nat → Int} {lim : Nat} {t : TT} {x17 : Int} {A : Nat → Nat → Int} (N : MT b lim t x17 A h) (F : FD g h) {Q : Option av_V → av_H → Prop} (hq : ∀ h', MT b lim (fal t) x17 A h' → FD g h' → Q none h') : av_wp none cd_131 0 [some (.inr (.inr (.inl (some (77)))))] [] h Q := by
  have g2 := wr_f t
  have k77 := congrArg Prod.fst (ly_k N.1.1 77 rfl)
  refine av_wp_sqF ck_131 1 (pc' := 1) (lv' := [some (.inr (.inr (.inl (some (77)))))]) (st' := [.inr (.inr (.inl (some (77))))]) (h' := h) rfl ?_
  refine wq_gb (p' := 4) (ck_131 _ _ rfl) rfl k77 rfl (ns_25 N.1) ?_
  refine wq_k1 (p' := 7) (ck_131 _ _ rfl) rfl ⟨by omega, by omega⟩ (fun c1 => ?_) (fun c2 => ?_)
  · have c1 : wrv t = 0 := c1
    have ef : fal t = (t.1, t.2.1, t.2.2.1, (t.1 : Int)) := by unfold fal; rw [if_pos (by omega)]
    have ok := fal_ok N.2.1 N.2.2
    rw [ef] at ok hq
    refine av_wp_sqF ck_131 2 (pc' := 10) (lv' := [some (.inr (.inr (.inl (some (77)))))]) (st' := [.inl (1), .inr (.inr (.inl (some (77))))]) (h' := h) rfl ?_
    refine ns_p25 (p' := 13) rfl rfl N.1 F (by omega) (fun h1 N1 F1 => ?_)
    refine av_wp_sqF ck_131 2 (pc' := 15) (lv' := [some (.inr (.inr (.inl (some (77)))))]) (st' := [.inr (.inr (.inl (some (77)))), .inr (.inr (.inl (some (77))))]) (h' := h1) rfl ?_
    refine wq_gi (p' := 18) (ck_131 _ _ rfl) rfl (congrArg Prod.fst (ly_k N1.1 77 rfl)) rfl (ns_21 N1) ?_
    refine ns_p18 (p' := 21) rfl rfl N1 F1 (fun h2 N2 F2 => ?_)
    refine av_wp_ret (v := none) (ck_131 _ _ rfl) rfl rfl (hq h2 ⟨?_, ok⟩ F2)
    have e1 : wrv (t.1, t.2.1, t.2.2.1, (t.1 : Int)) = 1 := by unfold wrv; rw [if_neg (by show ¬ (t.1 : Int) = -1; omega)]
    rw [e1]
    exact N2
  · have c2 : wrv t ≠ 0 := c2
    have ef : fal t = t := by unfold fal; rw [if_neg (by omega)]
    rw [ef] at hq
    exact av_wp_ret (v := none) rfl rfl rfl (hq h N F)

set_option maxRecDepth 100000 in
set_option maxHeartbeats 4000000 in
theorem ct_130t {g h : av_H} {b : Nat → Int} {lim : Nat} {t : TT} {x17 : Int} {A : Nat → Nat → Int} (N : MT b lim t x17 A h) (F : FD g h) {Q : Option av_V → av_H → Prop} (hq : ∀ h', MT b lim (adv b lim t) x17 A h' → FD g h' → Q none h') : av_wp none cd_130 0 [some (.inr (.inr (.inl (some (77))))), none] [] h Q :=
  ct_130 N.1 F N.2.1 (fun h' N' F' => hq h' ⟨N', adv_ok N.2.1⟩ F')

set_option maxRecDepth 100000 in
set_option maxHeartbeats 4000000 in
theorem ct_132 {g h : av_H} {b : Nat → Int} {lim : Nat} {t : TT} {x17 : Int} {A : Nat → Nat → Int} (N : MT b lim t x17 A h) (F : FD g h) (w : Int) (qw : -9 ≤ w ∧ w ≤ 9000000000000000000) {Q : Option av_V → av_H → Prop} (hq1 : (t.2.2.2 = -1 ∧ t.2.2.1 = 1 ∧ txtv b t = w) → Q (some (.inl 1)) h) (hq0 : ¬ (t.2.2.2 = -1 ∧ t.2.2.1 = 1 ∧ txtv b t = w) → Q (some (.inl 0)) h) : av_wp none cd_132 0 [some (.inr (.inr (.inl (some (77))))), some (.inr (.inl w)), none] [] h Q := by
  have gw1 : t.1 ≤ 900 ∧ t.2.1 ≤ lim ∧ lim ≤ 900 := ⟨N.2.1.1, N.2.1.2.1, N.2.1.2.2.1⟩
  have gw2 : -1 ≤ t.2.2.2 ∧ t.2.2.2 ≤ 900 := N.2.1.2.2.2.2
  have gt := tok_f t N.2.1.2.2.2.1
  have gt1 := gt.1
  have gtr := gt.2.2.2.2
  clear gt
  have gwr := wr_f t
  have gtx := txtv_r N.2.2
  refine av_wp_sqF ck_132 1 (pc' := 1) (lv' := [some (.inr (.inr (.inl (some (77))))), some (.inr (.inl w)), none]) (st' := [.inr (.inr (.inl (some (77))))]) (h' := h) rfl ?_
  refine wq_gb (p' := 4) (ck_132 _ _ rfl) rfl (congrArg Prod.fst (ly_k N.1.1 77 rfl)) rfl (ns_25 N.1) ?_
  refine wq_k1 (p' := 7) (ck_132 _ _ rfl) rfl ⟨by omega, by omega⟩ (fun c1 => ?_) (fun c2 => ?_)
  · have c1 : (wrv t) ≠ (0) := c1
    refine av_wp_sqF ck_132 1 (pc' := 29) (lv' := [some (.inr (.inr (.inl (some (77))))), some (.inr (.inl w)), none]) (st' := [.inl (0)]) (h' := h) rfl ?_
    refine av_wp_ret (v := some (.inl (0))) (ck_132 _ _ rfl) rfl rfl ?_
    exact hq0 (by omega)
  · have c2 : (wrv t) = (0) := c2
    refine av_wp_sqF ck_132 1 (pc' := 8) (lv' := [some (.inr (.inr (.inl (some (77))))), some (.inr (.inl w)), none]) (st' := [.inr (.inr (.inl (some (77))))]) (h' := h) rfl ?_
    refine wq_gi (p' := 11) (ck_132 _ _ rfl) rfl (congrArg Prod.fst (ly_k N.1.1 77 rfl)) rfl (ns_22 N.1) ?_
    refine av_wp_sqF ck_132 1 (pc' := 12) (lv' := [some (.inr (.inr (.inl (some (77))))), some (.inr (.inl w)), none]) (st' := [.inl (1), .inl (tokv t)]) (h' := h) rfl ?_
    refine wq_k2 (p' := 15) (ck_132 _ _ rfl) rfl ⟨by omega, by omega⟩ ⟨by omega, by omega⟩ (fun c3 => ?_) (fun c4 => ?_)
    · have c3 : (tokv t) ≠ (1) := c3
      refine av_wp_sqF ck_132 1 (pc' := 29) (lv' := [some (.inr (.inr (.inl (some (77))))), some (.inr (.inl w)), none]) (st' := [.inl (0)]) (h' := h) rfl ?_
      refine av_wp_ret (v := some (.inl (0))) (ck_132 _ _ rfl) rfl rfl ?_
      exact hq0 (by omega)
    · have c4 : (tokv t) = (1) := c4
      refine av_wp_sqF ck_132 1 (pc' := 16) (lv' := [some (.inr (.inr (.inl (some (77))))), some (.inr (.inl w)), none]) (st' := [.inr (.inr (.inl (some (77))))]) (h' := h) rfl ?_
      refine wq_gl (p' := 19) (ck_132 _ _ rfl) rfl (congrArg Prod.fst (ly_k N.1.1 77 rfl)) rfl (ns_24 N.1) ?_
      refine av_wp_sqF ck_132 1 (pc' := 20) (lv' := [some (.inr (.inr (.inl (some (77))))), some (.inr (.inl w)), none]) (st' := [.inr (.inl w), .inr (.inl (txtv b t))]) (h' := h) rfl ?_
      refine av_wp_sqF ck_132 1 (pc' := 21) (lv' := [some (.inr (.inr (.inl (some (77))))), some (.inr (.inl w)), none]) (st' := [.inl (if av_wl w < av_wl (txtv b t) then 1 else if av_wl (txtv b t) = av_wl w then 0 else -1)]) (h' := h) rfl ?_
      have g6 := lcf (x := (txtv b t)) (y := w) (by omega) (by omega)
      generalize (if av_wl w < av_wl (txtv b t) then 1 else if av_wl (txtv b t) = av_wl w then 0 else -1) = v5 at g6 ⊢
      have g6r := g6.2.2
      replace g6 := g6.1
      refine wq_k1 (p' := 24) (ck_132 _ _ rfl) rfl ⟨by omega, by omega⟩ (fun c7 => ?_) (fun c8 => ?_)
      · have c7 : v5 ≠ (0) := c7
        have x9 : (txtv b t) ≠ w := fun z => c7 (g6.mpr z)
        clear c7 g6 g6r
        refine av_wp_sqF ck_132 1 (pc' := 29) (lv' := [some (.inr (.inr (.inl (some (77))))), some (.inr (.inl w)), none]) (st' := [.inl (0)]) (h' := h) rfl ?_
        refine av_wp_ret (v := some (.inl (0))) (ck_132 _ _ rfl) rfl rfl ?_
        exact hq0 (by omega)
      · have c8 : v5 = (0) := c8
        have x10 : (txtv b t) = w := g6.mp c8
        clear c8 g6 g6r
        refine av_wp_sqF ck_132 2 (pc' := 29) (lv' := [some (.inr (.inr (.inl (some (77))))), some (.inr (.inl w)), none]) (st' := [.inl (1)]) (h' := h) rfl ?_
        refine av_wp_ret (v := some (.inl (1))) (ck_132 _ _ rfl) rfl rfl ?_
        exact hq1 (by omega)

set_option maxRecDepth 100000 in
set_option maxHeartbeats 4000000 in
theorem ct_133 {g h : av_H} {b : Nat → Int} {lim : Nat} {t : TT} {x17 : Int} {A : Nat → Nat → Int} (N : MT b lim t x17 A h) (F : FD g h) (w : Int) (qw : -9 ≤ w ∧ w ≤ 9000000000000000000) {Q : Option av_V → av_H → Prop} (hq1 : (t.2.2.2 = -1 ∧ t.2.2.1 = 1 ∧ txtv b t = w) → ∀ h', MT b lim (adv b lim t) x17 A h' → FD g h' → Q none h') (hq0 : ¬ (t.2.2.2 = -1 ∧ t.2.2.1 = 1 ∧ txtv b t = w) → ∀ h', MT b lim (fal t) x17 A h' → FD g h' → Q none h') : av_wp none cd_133 0 [some (.inr (.inr (.inl (some (77))))), some (.inr (.inl w)), none] [] h Q := by
  have gw1 : t.1 ≤ 900 ∧ t.2.1 ≤ lim ∧ lim ≤ 900 := ⟨N.2.1.1, N.2.1.2.1, N.2.1.2.2.1⟩
  have gw2 : -1 ≤ t.2.2.2 ∧ t.2.2.2 ≤ 900 := N.2.1.2.2.2.2
  have gt := tok_f t N.2.1.2.2.2.1
  have gtr := gt.2.2.2.2
  clear gt
  refine av_wp_sqF ck_133 2 (pc' := 2) (lv' := [some (.inr (.inr (.inl (some (77))))), some (.inr (.inl w)), none]) (st' := [.inr (.inl w), .inr (.inr (.inl (some (77))))]) (h' := h) rfl ?_
  refine wq_cv (p' := 5) (av_qc (.invokevirtual 187) 132 1 0 8) 3 cd_132 [.inr (.inl w)] (77) 8 [some (.inr (.inr (.inl (some (77))))), some (.inr (.inl w)), none] (ck_133 _ _ rfl) rfl rfl pp_132 rfl rfl rfl (congrArg Prod.fst (ly_k N.1.1 77 rfl)) rfl rfl rfl rfl ?_
  refine ct_132 N F w (by omega) (fun z1 => ?_) (fun z1 => ?_)
  · show av_wp _ cd_133 5 [some (.inr (.inr (.inl (some (77))))), some (.inr (.inl w)), none] [.inl (1)] h _
    refine av_wp_sqF ck_133 2 (pc' := 9) (lv' := [some (.inr (.inr (.inl (some (77))))), some (.inr (.inl w)), none]) (st' := [.inr (.inr (.inl (some (77))))]) (h' := h) rfl ?_
    refine wq_cv (p' := 12) (av_qc (.invokevirtual 191) 130 0 0 8) 2 cd_130 [] (77) 8 [some (.inr (.inr (.inl (some (77))))), none] (ck_133 _ _ rfl) rfl rfl pp_130 rfl rfl rfl (congrArg Prod.fst (ly_k N.1.1 77 rfl)) rfl rfl rfl rfl ?_
    refine ct_130t N F (fun h2 N3 F4 => ?_)
    show av_wp _ cd_133 12 [some (.inr (.inr (.inl (some (77))))), some (.inr (.inl w)), none] [] h2 _
    refine av_wp_sqF ck_133 1 (pc' := 19) (lv' := [some (.inr (.inr (.inl (some (77))))), some (.inr (.inl w)), none]) (st' := []) (h' := h2) rfl ?_
    refine av_wp_ret (v := none) (ck_133 _ _ rfl) rfl rfl ?_
    exact hq1 z1 h2 N3 F4
  · show av_wp _ cd_133 5 [some (.inr (.inr (.inl (some (77))))), some (.inr (.inl w)), none] [.inl (0)] h _
    refine av_wp_sqF ck_133 2 (pc' := 16) (lv' := [some (.inr (.inr (.inl (some (77))))), some (.inr (.inl w)), none]) (st' := [.inr (.inr (.inl (some (77))))]) (h' := h) rfl ?_
    refine wq_cv (p' := 19) (av_qc (.invokevirtual 194) 131 0 0 8) 1 cd_131 [] (77) 8 [some (.inr (.inr (.inl (some (77)))))] (ck_133 _ _ rfl) rfl rfl pp_131 rfl rfl rfl (congrArg Prod.fst (ly_k N.1.1 77 rfl)) rfl rfl rfl rfl ?_
    refine ct_131 N F (fun h5 N6 F7 => ?_)
    show av_wp _ cd_133 19 [some (.inr (.inr (.inl (some (77))))), some (.inr (.inl w)), none] [] h5 _
    refine av_wp_ret (v := none) (ck_133 _ _ rfl) rfl rfl ?_
    exact hq0 z1 h5 N6 F7

set_option maxRecDepth 100000 in
set_option maxHeartbeats 4000000 in
theorem ct_134 {g h : av_H} {b : Nat → Int} {lim : Nat} {t : TT} {x17 : Int} {A : Nat → Nat → Int} (N : MT b lim t x17 A h) (F : FD g h) (x y : Int) (qx : 0 ≤ x ∧ x ≤ 2000) (qy : -1 ≤ y ∧ y ≤ 2147483647) {Q : Option av_V → av_H → Prop} (hq : ∀ (v : Int) h', MT b lim (nmt b lim t x y) x17 A h' → ((nmt b lim t x y).2.2.2 = -1 → v = nmv b t x y) → FD g h' → (0 ≤ v ∧ v ≤ 9999 ∧ (v = 0 ∨ (x ≤ v ∧ v ≤ y))) → Q (some (.inl v)) h') : av_wp none cd_134 0 [some (.inr (.inr (.inl (some (77))))), some (.inl x), some (.inl y), none] [] h Q := by
  have gw1 : t.1 ≤ 900 ∧ t.2.1 ≤ lim ∧ lim ≤ 900 := ⟨N.2.1.1, N.2.1.2.1, N.2.1.2.2.1⟩
  have gw2 : -1 ≤ t.2.2.2 ∧ t.2.2.2 ≤ 900 := N.2.1.2.2.2.2
  have gt := tok_f t N.2.1.2.2.2.1
  have gt2 := gt.2.1
  have gtr := gt.2.2.2.2
  clear gt
  have gwr := wr_f t
  have gvl := vl_f N.2.2
  have gv : t.2.2.1 = 2 → (t.2.1 : Int) - t.1 ≤ 4 → valv b t = dgv b t.1 (t.2.1 - t.1) ∧ 0 ≤ dgv b t.1 (t.2.1 - t.1) ∧ dgv b t.1 (t.2.1 - t.1) ≤ 9999 := fun h1 h2 => by
    have k := N.2.2
    have kk := k.1
    have h3 := dgc_dgv (b := b) (f := t.1) (t.2.1 - t.1) (by omega) (fun i hi => k.2.2 h1 (t.1 + i) (by omega) (by omega))
    have h4 : (10 : Int) ^ (t.2.1 - t.1) ≤ 10000 := by
      have hh : ∀ n, n < 5 → (10 : Int) ^ n ≤ 10000 := by decide
      exact hh _ (by omega)
    exact ⟨(show valv b t = dgc b t.1 (t.2.1 - t.1) from if_pos h1).trans h3.1, h3.2.1, by omega⟩
  have gq : -2147483648 ≤ valv b t ∧ valv b t ≤ 2147483647 := valv_r N.2.2
  refine av_wp_sqF ck_134 1 (pc' := 1) (lv' := [some (.inr (.inr (.inl (some (77))))), some (.inl x), some (.inl y), none]) (st' := [.inr (.inr (.inl (some (77))))]) (h' := h) rfl ?_
  refine wq_gi (p' := 4) (ck_134 _ _ rfl) rfl (congrArg Prod.fst (ly_k N.1.1 77 rfl)) rfl (ns_23 N.1) ?_
  refine av_wp_sqF ck_134 2 (pc' := 6) (lv' := [some (.inr (.inr (.inl (some (77))))), some (.inl x), some (.inl y), some (.inl (valv b t))]) (st' := [.inr (.inr (.inl (some (77))))]) (h' := h) rfl ?_
  refine wq_gb (p' := 9) (ck_134 _ _ rfl) rfl (congrArg Prod.fst (ly_k N.1.1 77 rfl)) rfl (ns_25 N.1) ?_
  refine wq_k1 (p' := 12) (ck_134 _ _ rfl) rfl ⟨by omega, by omega⟩ (fun c1 => ?_) (fun c2 => ?_)
  · have c1 : (wrv t) = (0) := c1
    refine av_wp_sqF ck_134 1 (pc' := 15) (lv' := [some (.inr (.inr (.inl (some (77))))), some (.inl x), some (.inl y), some (.inl (valv b t))]) (st' := [.inr (.inr (.inl (some (77))))]) (h' := h) rfl ?_
    refine wq_gi (p' := 18) (ck_134 _ _ rfl) rfl (congrArg Prod.fst (ly_k N.1.1 77 rfl)) rfl (ns_22 N.1) ?_
    refine av_wp_sqF ck_134 1 (pc' := 19) (lv' := [some (.inr (.inr (.inl (some (77))))), some (.inl x), some (.inl y), some (.inl (valv b t))]) (st' := [.inl (2), .inl (tokv t)]) (h' := h) rfl ?_
    refine wq_k2 (p' := 22) (ck_134 _ _ rfl) rfl ⟨by omega, by omega⟩ ⟨by omega, by omega⟩ (fun c3 => ?_) (fun c4 => ?_)
    · have c3 : (tokv t) ≠ (2) := c3
      refine av_wp_sqF ck_134 1 (pc' := 33) (lv' := [some (.inr (.inr (.inl (some (77))))), some (.inl x), some (.inl y), some (.inl (valv b t))]) (st' := [.inr (.inr (.inl (some (77))))]) (h' := h) rfl ?_
      refine wq_cv (p' := 36) (av_qc (.invokevirtual 194) 131 0 0 8) 1 cd_131 [] (77) 8 [some (.inr (.inr (.inl (some (77)))))] (ck_134 _ _ rfl) rfl rfl pp_131 rfl rfl rfl (congrArg Prod.fst (ly_k N.1.1 77 rfl)) rfl rfl rfl rfl ?_
      refine ct_131 N F (fun h5 N6 F7 => ?_)
      show av_wp _ cd_134 36 [some (.inr (.inr (.inl (some (77))))), some (.inl x), some (.inl y), some (.inl (valv b t))] [] h5 _
      refine av_wp_sqF ck_134 1 (pc' := 37) (lv' := [some (.inr (.inr (.inl (some (77))))), some (.inl x), some (.inl y), some (.inl (valv b t))]) (st' := [.inl (0)]) (h' := h5) rfl ?_
      refine av_wp_ret (v := some (.inl (0))) (ck_134 _ _ rfl) rfl rfl ?_
      have z1 : nmt b lim t x y = fal t := if_neg (by omega)
      have z3 : (fal t).2.2.2 ≠ -1 := by show (if t.2.2.2 = -1 then (t.1 : Int) else t.2.2.2) ≠ -1; split <;> omega
      exact hq _ h5 (by rw [z1]; exact N6) (by intro z; exfalso; rw [z1] at z; omega) F7 (by omega)
    · have c4 : (tokv t) = (2) := c4
      refine av_wp_sqF ck_134 2 (pc' := 24) (lv' := [some (.inr (.inr (.inl (some (77))))), some (.inl x), some (.inl y), some (.inl (valv b t))]) (st' := [.inl x, .inl (valv b t)]) (h' := h) rfl ?_
      refine wq_k2 (p' := 27) (ck_134 _ _ rfl) rfl ⟨by omega, by omega⟩ ⟨by omega, by omega⟩ (fun c8 => ?_) (fun c9 => ?_)
      · have c8 : (valv b t) < x := c8
        refine av_wp_sqF ck_134 1 (pc' := 33) (lv' := [some (.inr (.inr (.inl (some (77))))), some (.inl x), some (.inl y), some (.inl (valv b t))]) (st' := [.inr (.inr (.inl (some (77))))]) (h' := h) rfl ?_
        refine wq_cv (p' := 36) (av_qc (.invokevirtual 194) 131 0 0 8) 1 cd_131 [] (77) 8 [some (.inr (.inr (.inl (some (77)))))] (ck_134 _ _ rfl) rfl rfl pp_131 rfl rfl rfl (congrArg Prod.fst (ly_k N.1.1 77 rfl)) rfl rfl rfl rfl ?_
        refine ct_131 N F (fun h10 N11 F12 => ?_)
        show av_wp _ cd_134 36 [some (.inr (.inr (.inl (some (77))))), some (.inl x), some (.inl y), some (.inl (valv b t))] [] h10 _
        refine av_wp_sqF ck_134 1 (pc' := 37) (lv' := [some (.inr (.inr (.inl (some (77))))), some (.inl x), some (.inl y), some (.inl (valv b t))]) (st' := [.inl (0)]) (h' := h10) rfl ?_
        refine av_wp_ret (v := some (.inl (0))) (ck_134 _ _ rfl) rfl rfl ?_
        have z1 : nmt b lim t x y = fal t := if_neg (by omega)
        have z3 : (fal t).2.2.2 ≠ -1 := by show (if t.2.2.2 = -1 then (t.1 : Int) else t.2.2.2) ≠ -1; split <;> omega
        exact hq _ h10 (by rw [z1]; exact N11) (by intro z; exfalso; rw [z1] at z; omega) F12 (by omega)
      · have c9 : x ≤ (valv b t) := c9
        refine av_wp_sqF ck_134 2 (pc' := 29) (lv' := [some (.inr (.inr (.inl (some (77))))), some (.inl x), some (.inl y), some (.inl (valv b t))]) (st' := [.inl y, .inl (valv b t)]) (h' := h) rfl ?_
        refine wq_k2 (p' := 32) (ck_134 _ _ rfl) rfl ⟨by omega, by omega⟩ ⟨by omega, by omega⟩ (fun c13 => ?_) (fun c14 => ?_)
        · have c13 : (valv b t) ≤ y := c13
          refine av_wp_sqF ck_134 1 (pc' := 39) (lv' := [some (.inr (.inr (.inl (some (77))))), some (.inl x), some (.inl y), some (.inl (valv b t))]) (st' := [.inr (.inr (.inl (some (77))))]) (h' := h) rfl ?_
          refine wq_cv (p' := 42) (av_qc (.invokevirtual 191) 130 0 0 8) 2 cd_130 [] (77) 8 [some (.inr (.inr (.inl (some (77))))), none] (ck_134 _ _ rfl) rfl rfl pp_130 rfl rfl rfl (congrArg Prod.fst (ly_k N.1.1 77 rfl)) rfl rfl rfl rfl ?_
          refine ct_130t N F (fun h15 N16 F17 => ?_)
          show av_wp _ cd_134 42 [some (.inr (.inr (.inl (some (77))))), some (.inl x), some (.inl y), some (.inl (valv b t))] [] h15 _
          refine av_wp_sqF ck_134 1 (pc' := 43) (lv' := [some (.inr (.inr (.inl (some (77))))), some (.inl x), some (.inl y), some (.inl (valv b t))]) (st' := [.inl (valv b t)]) (h' := h15) rfl ?_
          refine av_wp_ret (v := some (.inl (valv b t))) (ck_134 _ _ rfl) rfl rfl ?_
          have z1 : nmt b lim t x y = adv b lim t := if_pos (by omega)
          have z2 : nmv b t x y = vlv b t := if_pos (by omega)
          exact hq _ h15 (by rw [z1]; exact N16) (by intro _; rw [z2]; omega) F17 (by omega)
        · have c14 : y < (valv b t) := c14
          refine av_wp_sqF ck_134 1 (pc' := 33) (lv' := [some (.inr (.inr (.inl (some (77))))), some (.inl x), some (.inl y), some (.inl (valv b t))]) (st' := [.inr (.inr (.inl (some (77))))]) (h' := h) rfl ?_
          refine wq_cv (p' := 36) (av_qc (.invokevirtual 194) 131 0 0 8) 1 cd_131 [] (77) 8 [some (.inr (.inr (.inl (some (77)))))] (ck_134 _ _ rfl) rfl rfl pp_131 rfl rfl rfl (congrArg Prod.fst (ly_k N.1.1 77 rfl)) rfl rfl rfl rfl ?_
          refine ct_131 N F (fun h18 N19 F20 => ?_)
          show av_wp _ cd_134 36 [some (.inr (.inr (.inl (some (77))))), some (.inl x), some (.inl y), some (.inl (valv b t))] [] h18 _
          refine av_wp_sqF ck_134 1 (pc' := 37) (lv' := [some (.inr (.inr (.inl (some (77))))), some (.inl x), some (.inl y), some (.inl (valv b t))]) (st' := [.inl (0)]) (h' := h18) rfl ?_
          refine av_wp_ret (v := some (.inl (0))) (ck_134 _ _ rfl) rfl rfl ?_
          have z1 : nmt b lim t x y = fal t := if_neg (by omega)
          have z3 : (fal t).2.2.2 ≠ -1 := by show (if t.2.2.2 = -1 then (t.1 : Int) else t.2.2.2) ≠ -1; split <;> omega
          exact hq _ h18 (by rw [z1]; exact N19) (by intro z; exfalso; rw [z1] at z; omega) F20 (by omega)
  · have c2 : (wrv t) ≠ (0) := c2
    refine av_wp_sqF ck_134 1 (pc' := 13) (lv' := [some (.inr (.inr (.inl (some (77))))), some (.inl x), some (.inl y), some (.inl (valv b t))]) (st' := [.inl (0)]) (h' := h) rfl ?_
    refine av_wp_ret (v := some (.inl (0))) (ck_134 _ _ rfl) rfl rfl ?_
    have z1 : nmt b lim t x y = fal t := if_neg (by omega)
    have z2 : fal t = t := by unfold fal; rw [if_neg (by omega)]
    exact hq _ h (by rw [z1, z2]; exact N) (by intro z; exfalso; rw [z1, z2] at z; omega) F (by omega)

set_option maxRecDepth 100000 in
set_option maxHeartbeats 4000000 in
theorem ct_135 {g h : av_H} {b : Nat → Int} {lim : Nat} {t : TT} {x17 : Int} {A : Nat → Nat → Int} (N : MT b lim t x17 A h) (F : FD g h)  {Q : Option av_V → av_H → Prop} (hq : ∀ h', MT b lim (sem b lim t) x17 A h' → FD g h' → Q none h') : av_wp none cd_135 0 [some (.inr (.inr (.inl (some (77)))))] [] h Q := by
  have gw1 : t.1 ≤ 900 ∧ t.2.1 ≤ lim ∧ lim ≤ 900 := ⟨N.2.1.1, N.2.1.2.1, N.2.1.2.2.1⟩
  have gw2 : -1 ≤ t.2.2.2 ∧ t.2.2.2 ≤ 900 := N.2.1.2.2.2.2
  have gt := tok_f t N.2.1.2.2.2.1
  have gt59 := gt.2.2.2.1
  have gtr := gt.2.2.2.2
  clear gt
  have gwr := wr_f t
  refine av_wp_sqF ck_135 1 (pc' := 1) (lv' := [some (.inr (.inr (.inl (some (77)))))]) (st' := [.inr (.inr (.inl (some (77))))]) (h' := h) rfl ?_
  refine wq_gb (p' := 4) (ck_135 _ _ rfl) rfl (congrArg Prod.fst (ly_k N.1.1 77 rfl)) rfl (ns_25 N.1) ?_
  refine wq_k1 (p' := 7) (ck_135 _ _ rfl) rfl ⟨by omega, by omega⟩ (fun c1 => ?_) (fun c2 => ?_)
  · have c1 : (wrv t) = (0) := c1
    refine av_wp_sqF ck_135 1 (pc' := 9) (lv' := [some (.inr (.inr (.inl (some (77)))))]) (st' := [.inr (.inr (.inl (some (77))))]) (h' := h) rfl ?_
    refine wq_gi (p' := 12) (ck_135 _ _ rfl) rfl (congrArg Prod.fst (ly_k N.1.1 77 rfl)) rfl (ns_22 N.1) ?_
    refine av_wp_sqF ck_135 1 (pc' := 14) (lv' := [some (.inr (.inr (.inl (some (77)))))]) (st' := [.inl (59), .inl (tokv t)]) (h' := h) rfl ?_
    refine wq_k2 (p' := 17) (ck_135 _ _ rfl) rfl ⟨by omega, by omega⟩ ⟨by omega, by omega⟩ (fun c3 => ?_) (fun c4 => ?_)
    · have c3 : (tokv t) ≠ (59) := c3
      refine av_wp_sqF ck_135 1 (pc' := 25) (lv' := [some (.inr (.inr (.inl (some (77)))))]) (st' := [.inr (.inr (.inl (some (77))))]) (h' := h) rfl ?_
      refine wq_cv (p' := 28) (av_qc (.invokevirtual 194) 131 0 0 8) 1 cd_131 [] (77) 8 [some (.inr (.inr (.inl (some (77)))))] (ck_135 _ _ rfl) rfl rfl pp_131 rfl rfl rfl (congrArg Prod.fst (ly_k N.1.1 77 rfl)) rfl rfl rfl rfl ?_
      refine ct_131 N F (fun h5 N6 F7 => ?_)
      show av_wp _ cd_135 28 [some (.inr (.inr (.inl (some (77)))))] [] h5 _
      refine av_wp_ret (v := none) (ck_135 _ _ rfl) rfl rfl ?_
      have z1 : sem b lim t = fal t := if_neg (by omega)
      exact hq h5 (by rw [z1]; exact N6) F7
    · have c4 : (tokv t) = (59) := c4
      refine av_wp_sqF ck_135 1 (pc' := 18) (lv' := [some (.inr (.inr (.inl (some (77)))))]) (st' := [.inr (.inr (.inl (some (77))))]) (h' := h) rfl ?_
      refine wq_cv (p' := 21) (av_qc (.invokevirtual 191) 130 0 0 8) 2 cd_130 [] (77) 8 [some (.inr (.inr (.inl (some (77))))), none] (ck_135 _ _ rfl) rfl rfl pp_130 rfl rfl rfl (congrArg Prod.fst (ly_k N.1.1 77 rfl)) rfl rfl rfl rfl ?_
      refine ct_130t N F (fun h8 N9 F10 => ?_)
      show av_wp _ cd_135 21 [some (.inr (.inr (.inl (some (77)))))] [] h8 _
      refine av_wp_sqF ck_135 1 (pc' := 28) (lv' := [some (.inr (.inr (.inl (some (77)))))]) (st' := []) (h' := h8) rfl ?_
      refine av_wp_ret (v := none) (ck_135 _ _ rfl) rfl rfl ?_
      have z1 : sem b lim t = adv b lim t := if_pos (by omega)
      exact hq h8 (by rw [z1]; exact N9) F10
  · have c2 : (wrv t) ≠ (0) := c2
    refine av_wp_ret (v := none) (ck_135 _ _ rfl) rfl rfl ?_
    have z1 : sem b lim t = fal t := if_neg (by omega)
    have z2 : fal t = t := by unfold fal; rw [if_neg (by omega)]
    exact hq h (by rw [z1, z2]; exact N) F

set_option maxRecDepth 100000 in
set_option maxHeartbeats 4000000 in
theorem ct_138 {g h : av_H} {b : Nat → Int} {lim : Nat} {t : TT} {x17 : Int} {A : Nat → Nat → Int} (N : MT b lim t x17 A h) (F : FD g h)  {Q : Option av_V → av_H → Prop} (hq : ∀ v : Int, ((pkv b t 2 = -1 ∧ v = -1) ∨ (pkv b t 2 = 0 ∧ v = 0) ∨ (pkv b t 2 = 1 ∧ v = 1) ∨ (pkv b t 2 = 2 ∧ v = 2) ∨ (pkv b t 2 = 3 ∧ v = 3) ∨ (pkv b t 2 = 4 ∧ v = 4)) → Q (some (.inl v)) h) : av_wp none cd_138 0 [some (.inr (.inr (.inl (some (77)))))] [] h Q := by
  have gw1 : t.1 ≤ 900 ∧ t.2.1 ≤ lim ∧ lim ≤ 900 := ⟨N.2.1.1, N.2.1.2.1, N.2.1.2.2.1⟩
  have gw2 : -1 ≤ t.2.2.2 ∧ t.2.2.2 ≤ 900 := N.2.1.2.2.2.2
  have gt := tok_f t N.2.1.2.2.2.1
  have gt1 := gt.1
  have gtr := gt.2.2.2.2
  clear gt
  have gwr := wr_f t
  have gtx := txtv_r N.2.2
  refine av_wp_sqF ck_138 1 (pc' := 1) (lv' := [some (.inr (.inr (.inl (some (77)))))]) (st' := [.inr (.inr (.inl (some (77))))]) (h' := h) rfl ?_
  refine wq_gb (p' := 4) (ck_138 _ _ rfl) rfl (congrArg Prod.fst (ly_k N.1.1 77 rfl)) rfl (ns_25 N.1) ?_
  refine wq_k1 (p' := 7) (ck_138 _ _ rfl) rfl ⟨by omega, by omega⟩ (fun c1 => ?_) (fun c2 => ?_)
  · have c1 : (wrv t) ≠ (0) := c1
    refine av_wp_sqF ck_138 1 (pc' := 16) (lv' := [some (.inr (.inr (.inl (some (77)))))]) (st' := [.inl (-1)]) (h' := h) rfl ?_
    refine av_wp_ret (v := some (.inl (-1))) (ck_138 _ _ rfl) rfl rfl ?_
    have z3 : pkv b t 2 = -1 := if_neg (by omega)
    exact hq _ (Or.inl ⟨z3, rfl⟩)
  · have c2 : (wrv t) = (0) := c2
    refine av_wp_sqF ck_138 1 (pc' := 8) (lv' := [some (.inr (.inr (.inl (some (77)))))]) (st' := [.inr (.inr (.inl (some (77))))]) (h' := h) rfl ?_
    refine wq_gi (p' := 11) (ck_138 _ _ rfl) rfl (congrArg Prod.fst (ly_k N.1.1 77 rfl)) rfl (ns_22 N.1) ?_
    refine av_wp_sqF ck_138 1 (pc' := 12) (lv' := [some (.inr (.inr (.inl (some (77)))))]) (st' := [.inl (1), .inl (tokv t)]) (h' := h) rfl ?_
    refine wq_k2 (p' := 15) (ck_138 _ _ rfl) rfl ⟨by omega, by omega⟩ ⟨by omega, by omega⟩ (fun c3 => ?_) (fun c4 => ?_)
    · have c3 : (tokv t) = (1) := c3
      refine av_wp_sqF ck_138 1 (pc' := 18) (lv' := [some (.inr (.inr (.inl (some (77)))))]) (st' := [.inr (.inr (.inl (some (77))))]) (h' := h) rfl ?_
      refine wq_gl (p' := 21) (ck_138 _ _ rfl) rfl (congrArg Prod.fst (ly_k N.1.1 77 rfl)) rfl (ns_24 N.1) ?_
      refine av_wp_sqF ck_138 1 (pc' := 24) (lv' := [some (.inr (.inr (.inl (some (77)))))]) (st' := [.inr (.inl (8863997)), .inr (.inl (txtv b t))]) (h' := h) rfl ?_
      refine av_wp_sqF ck_138 1 (pc' := 25) (lv' := [some (.inr (.inr (.inl (some (77)))))]) (st' := [.inl (if av_wl (8863997) < av_wl (txtv b t) then 1 else if av_wl (txtv b t) = av_wl (8863997) then 0 else -1)]) (h' := h) rfl ?_
      have g6 := lcf (x := (txtv b t)) (y := (8863997)) (by omega) (by omega)
      generalize (if av_wl (8863997) < av_wl (txtv b t) then 1 else if av_wl (txtv b t) = av_wl (8863997) then 0 else -1) = v5 at g6 ⊢
      have g6r := g6.2.2
      replace g6 := g6.1
      refine wq_k1 (p' := 28) (ck_138 _ _ rfl) rfl ⟨by omega, by omega⟩ (fun c7 => ?_) (fun c8 => ?_)
      · have c7 : v5 ≠ (0) := c7
        have x9 : (txtv b t) ≠ (8863997) := fun z => c7 (g6.mpr z)
        clear c7 g6 g6r
        refine av_wp_sqF ck_138 1 (pc' := 31) (lv' := [some (.inr (.inr (.inl (some (77)))))]) (st' := [.inr (.inr (.inl (some (77))))]) (h' := h) rfl ?_
        refine wq_gl (p' := 34) (ck_138 _ _ rfl) rfl (congrArg Prod.fst (ly_k N.1.1 77 rfl)) rfl (ns_24 N.1) ?_
        refine av_wp_sqF ck_138 1 (pc' := 37) (lv' := [some (.inr (.inr (.inl (some (77)))))]) (st' := [.inr (.inl (271277)), .inr (.inl (txtv b t))]) (h' := h) rfl ?_
        refine av_wp_sqF ck_138 1 (pc' := 38) (lv' := [some (.inr (.inr (.inl (some (77)))))]) (st' := [.inl (if av_wl (271277) < av_wl (txtv b t) then 1 else if av_wl (txtv b t) = av_wl (271277) then 0 else -1)]) (h' := h) rfl ?_
        have g11 := lcf (x := (txtv b t)) (y := (271277)) (by omega) (by omega)
        generalize (if av_wl (271277) < av_wl (txtv b t) then 1 else if av_wl (txtv b t) = av_wl (271277) then 0 else -1) = v10 at g11 ⊢
        have g11r := g11.2.2
        replace g11 := g11.1
        refine wq_k1 (p' := 41) (ck_138 _ _ rfl) rfl ⟨by omega, by omega⟩ (fun c12 => ?_) (fun c13 => ?_)
        · have c12 : v10 ≠ (0) := c12
          have x14 : (txtv b t) ≠ (271277) := fun z => c12 (g11.mpr z)
          clear c12 g11 g11r
          refine av_wp_sqF ck_138 1 (pc' := 44) (lv' := [some (.inr (.inr (.inl (some (77)))))]) (st' := [.inr (.inr (.inl (some (77))))]) (h' := h) rfl ?_
          refine wq_gl (p' := 47) (ck_138 _ _ rfl) rfl (congrArg Prod.fst (ly_k N.1.1 77 rfl)) rfl (ns_24 N.1) ?_
          refine av_wp_sqF ck_138 1 (pc' := 50) (lv' := [some (.inr (.inr (.inl (some (77)))))]) (st' := [.inr (.inl (2968)), .inr (.inl (txtv b t))]) (h' := h) rfl ?_
          refine av_wp_sqF ck_138 1 (pc' := 51) (lv' := [some (.inr (.inr (.inl (some (77)))))]) (st' := [.inl (if av_wl (2968) < av_wl (txtv b t) then 1 else if av_wl (txtv b t) = av_wl (2968) then 0 else -1)]) (h' := h) rfl ?_
          have g16 := lcf (x := (txtv b t)) (y := (2968)) (by omega) (by omega)
          generalize (if av_wl (2968) < av_wl (txtv b t) then 1 else if av_wl (txtv b t) = av_wl (2968) then 0 else -1) = v15 at g16 ⊢
          have g16r := g16.2.2
          replace g16 := g16.1
          refine wq_k1 (p' := 54) (ck_138 _ _ rfl) rfl ⟨by omega, by omega⟩ (fun c17 => ?_) (fun c18 => ?_)
          · have c17 : v15 ≠ (0) := c17
            have x19 : (txtv b t) ≠ (2968) := fun z => c17 (g16.mpr z)
            clear c17 g16 g16r
            refine av_wp_sqF ck_138 1 (pc' := 57) (lv' := [some (.inr (.inr (.inl (some (77)))))]) (st' := [.inr (.inr (.inl (some (77))))]) (h' := h) rfl ?_
            refine wq_gl (p' := 60) (ck_138 _ _ rfl) rfl (congrArg Prod.fst (ly_k N.1.1 77 rfl)) rfl (ns_24 N.1) ?_
            refine av_wp_sqF ck_138 1 (pc' := 63) (lv' := [some (.inr (.inr (.inl (some (77)))))]) (st' := [.inr (.inl (326369)), .inr (.inl (txtv b t))]) (h' := h) rfl ?_
            refine av_wp_sqF ck_138 1 (pc' := 64) (lv' := [some (.inr (.inr (.inl (some (77)))))]) (st' := [.inl (if av_wl (326369) < av_wl (txtv b t) then 1 else if av_wl (txtv b t) = av_wl (326369) then 0 else -1)]) (h' := h) rfl ?_
            have g21 := lcf (x := (txtv b t)) (y := (326369)) (by omega) (by omega)
            generalize (if av_wl (326369) < av_wl (txtv b t) then 1 else if av_wl (txtv b t) = av_wl (326369) then 0 else -1) = v20 at g21 ⊢
            have g21r := g21.2.2
            replace g21 := g21.1
            refine wq_k1 (p' := 67) (ck_138 _ _ rfl) rfl ⟨by omega, by omega⟩ (fun c22 => ?_) (fun c23 => ?_)
            · have c22 : v20 ≠ (0) := c22
              have x24 : (txtv b t) ≠ (326369) := fun z => c22 (g21.mpr z)
              clear c22 g21 g21r
              refine av_wp_sqF ck_138 1 (pc' := 70) (lv' := [some (.inr (.inr (.inl (some (77)))))]) (st' := [.inr (.inr (.inl (some (77))))]) (h' := h) rfl ?_
              refine wq_gl (p' := 73) (ck_138 _ _ rfl) rfl (congrArg Prod.fst (ly_k N.1.1 77 rfl)) rfl (ns_24 N.1) ?_
              refine av_wp_sqF ck_138 1 (pc' := 76) (lv' := [some (.inr (.inr (.inl (some (77)))))]) (st' := [.inr (.inl (1905383)), .inr (.inl (txtv b t))]) (h' := h) rfl ?_
              refine av_wp_sqF ck_138 1 (pc' := 77) (lv' := [some (.inr (.inr (.inl (some (77)))))]) (st' := [.inl (if av_wl (1905383) < av_wl (txtv b t) then 1 else if av_wl (txtv b t) = av_wl (1905383) then 0 else -1)]) (h' := h) rfl ?_
              have g26 := lcf (x := (txtv b t)) (y := (1905383)) (by omega) (by omega)
              generalize (if av_wl (1905383) < av_wl (txtv b t) then 1 else if av_wl (txtv b t) = av_wl (1905383) then 0 else -1) = v25 at g26 ⊢
              have g26r := g26.2.2
              replace g26 := g26.1
              refine wq_k1 (p' := 80) (ck_138 _ _ rfl) rfl ⟨by omega, by omega⟩ (fun c27 => ?_) (fun c28 => ?_)
              · have c27 : v25 ≠ (0) := c27
                have x29 : (txtv b t) ≠ (1905383) := fun z => c27 (g26.mpr z)
                clear c27 g26 g26r
                refine av_wp_sqF ck_138 1 (pc' := 83) (lv' := [some (.inr (.inr (.inl (some (77)))))]) (st' := [.inl (-1)]) (h' := h) rfl ?_
                refine av_wp_ret (v := some (.inl (-1))) (ck_138 _ _ rfl) rfl rfl ?_
                have z2 : t.2.2.2 = -1 ∧ t.2.2.1 = 1 := by clear gtx; omega
                have z3 : pkv b t 2 = pkf b t.1 t.2.1 (av_lit 2) 0 t.1 true := if_pos z2
                have z1 : txtv b t = txt b t.1 (t.2.1 - t.1) := if_pos z2.2
                rw [ltw_2 N.2.2.1 (N.2.2.2.1 z2.2), ← z1] at z3
                rw [if_neg x9, if_neg x14, if_neg x19, if_neg x24, if_neg x29] at z3
                exact hq _ (Or.inl ⟨z3, rfl⟩)
              · have c28 : v25 = (0) := c28
                have x30 : (txtv b t) = (1905383) := g26.mp c28
                clear c28 g26 g26r
                refine av_wp_sqF ck_138 1 (pc' := 81) (lv' := [some (.inr (.inr (.inl (some (77)))))]) (st' := [.inl (4)]) (h' := h) rfl ?_
                refine av_wp_ret (v := some (.inl (4))) (ck_138 _ _ rfl) rfl rfl ?_
                have z2 : t.2.2.2 = -1 ∧ t.2.2.1 = 1 := by clear gtx; omega
                have z3 : pkv b t 2 = pkf b t.1 t.2.1 (av_lit 2) 0 t.1 true := if_pos z2
                have z1 : txtv b t = txt b t.1 (t.2.1 - t.1) := if_pos z2.2
                rw [ltw_2 N.2.2.1 (N.2.2.2.1 z2.2), ← z1] at z3
                rw [if_neg x9, if_neg x14, if_neg x19, if_neg x24, if_pos x30] at z3
                exact hq _ (Or.inr (Or.inr (Or.inr (Or.inr (Or.inr (⟨z3, rfl⟩))))))
            · have c23 : v20 = (0) := c23
              have x31 : (txtv b t) = (326369) := g21.mp c23
              clear c23 g21 g21r
              refine av_wp_sqF ck_138 1 (pc' := 68) (lv' := [some (.inr (.inr (.inl (some (77)))))]) (st' := [.inl (3)]) (h' := h) rfl ?_
              refine av_wp_ret (v := some (.inl (3))) (ck_138 _ _ rfl) rfl rfl ?_
              have z2 : t.2.2.2 = -1 ∧ t.2.2.1 = 1 := by clear gtx; omega
              have z3 : pkv b t 2 = pkf b t.1 t.2.1 (av_lit 2) 0 t.1 true := if_pos z2
              have z1 : txtv b t = txt b t.1 (t.2.1 - t.1) := if_pos z2.2
              rw [ltw_2 N.2.2.1 (N.2.2.2.1 z2.2), ← z1] at z3
              rw [if_neg x9, if_neg x14, if_neg x19, if_pos x31] at z3
              exact hq _ (Or.inr (Or.inr (Or.inr (Or.inr (Or.inl ⟨z3, rfl⟩)))))
          · have c18 : v15 = (0) := c18
            have x32 : (txtv b t) = (2968) := g16.mp c18
            clear c18 g16 g16r
            refine av_wp_sqF ck_138 1 (pc' := 55) (lv' := [some (.inr (.inr (.inl (some (77)))))]) (st' := [.inl (2)]) (h' := h) rfl ?_
            refine av_wp_ret (v := some (.inl (2))) (ck_138 _ _ rfl) rfl rfl ?_
            have z2 : t.2.2.2 = -1 ∧ t.2.2.1 = 1 := by clear gtx; omega
            have z3 : pkv b t 2 = pkf b t.1 t.2.1 (av_lit 2) 0 t.1 true := if_pos z2
            have z1 : txtv b t = txt b t.1 (t.2.1 - t.1) := if_pos z2.2
            rw [ltw_2 N.2.2.1 (N.2.2.2.1 z2.2), ← z1] at z3
            rw [if_neg x9, if_neg x14, if_pos x32] at z3
            exact hq _ (Or.inr (Or.inr (Or.inr (Or.inl ⟨z3, rfl⟩))))
        · have c13 : v10 = (0) := c13
          have x33 : (txtv b t) = (271277) := g11.mp c13
          clear c13 g11 g11r
          refine av_wp_sqF ck_138 1 (pc' := 42) (lv' := [some (.inr (.inr (.inl (some (77)))))]) (st' := [.inl (1)]) (h' := h) rfl ?_
          refine av_wp_ret (v := some (.inl (1))) (ck_138 _ _ rfl) rfl rfl ?_
          have z2 : t.2.2.2 = -1 ∧ t.2.2.1 = 1 := by clear gtx; omega
          have z3 : pkv b t 2 = pkf b t.1 t.2.1 (av_lit 2) 0 t.1 true := if_pos z2
          have z1 : txtv b t = txt b t.1 (t.2.1 - t.1) := if_pos z2.2
          rw [ltw_2 N.2.2.1 (N.2.2.2.1 z2.2), ← z1] at z3
          rw [if_neg x9, if_pos x33] at z3
          exact hq _ (Or.inr (Or.inr (Or.inl ⟨z3, rfl⟩)))
      · have c8 : v5 = (0) := c8
        have x34 : (txtv b t) = (8863997) := g6.mp c8
        clear c8 g6 g6r
        refine av_wp_sqF ck_138 1 (pc' := 29) (lv' := [some (.inr (.inr (.inl (some (77)))))]) (st' := [.inl (0)]) (h' := h) rfl ?_
        refine av_wp_ret (v := some (.inl (0))) (ck_138 _ _ rfl) rfl rfl ?_
        have z2 : t.2.2.2 = -1 ∧ t.2.2.1 = 1 := by clear gtx; omega
        have z3 : pkv b t 2 = pkf b t.1 t.2.1 (av_lit 2) 0 t.1 true := if_pos z2
        have z1 : txtv b t = txt b t.1 (t.2.1 - t.1) := if_pos z2.2
        rw [ltw_2 N.2.2.1 (N.2.2.2.1 z2.2), ← z1] at z3
        rw [if_pos x34] at z3
        exact hq _ (Or.inr (Or.inl ⟨z3, rfl⟩))
    · have c4 : (tokv t) ≠ (1) := c4
      refine av_wp_sqF ck_138 1 (pc' := 16) (lv' := [some (.inr (.inr (.inl (some (77)))))]) (st' := [.inl (-1)]) (h' := h) rfl ?_
      refine av_wp_ret (v := some (.inl (-1))) (ck_138 _ _ rfl) rfl rfl ?_
      have z3 : pkv b t 2 = -1 := if_neg (by omega)
      exact hq _ (Or.inl ⟨z3, rfl⟩)

set_option maxRecDepth 100000 in
set_option maxHeartbeats 4000000 in
theorem ct_139 {g h : av_H} {b : Nat → Int} {lim : Nat} {t : TT} {x17 : Int} {A : Nat → Nat → Int} (N : MT b lim t x17 A h) (F : FD g h)  {Q : Option av_V → av_H → Prop} (hq : ∀ v : Int, ((pkv b t 0 = -1 ∧ v = -1) ∨ (pkv b t 0 = 0 ∧ v = 0) ∨ (pkv b t 0 = 1 ∧ v = 1) ∨ (pkv b t 0 = 2 ∧ v = 2) ∨ (pkv b t 0 = 3 ∧ v = 4) ∨ (pkv b t 0 = 4 ∧ v = 5) ∨ (pkv b t 0 = 5 ∧ v = 6) ∨ (pkv b t 0 = 6 ∧ v = 7)) → Q (some (.inl v)) h) : av_wp none cd_139 0 [some (.inr (.inr (.inl (some (77)))))] [] h Q := by
  have gw1 : t.1 ≤ 900 ∧ t.2.1 ≤ lim ∧ lim ≤ 900 := ⟨N.2.1.1, N.2.1.2.1, N.2.1.2.2.1⟩
  have gw2 : -1 ≤ t.2.2.2 ∧ t.2.2.2 ≤ 900 := N.2.1.2.2.2.2
  have gt := tok_f t N.2.1.2.2.2.1
  have gt1 := gt.1
  have gtr := gt.2.2.2.2
  clear gt
  have gwr := wr_f t
  have gtx := txtv_r N.2.2
  refine av_wp_sqF ck_139 1 (pc' := 1) (lv' := [some (.inr (.inr (.inl (some (77)))))]) (st' := [.inr (.inr (.inl (some (77))))]) (h' := h) rfl ?_
  refine wq_gb (p' := 4) (ck_139 _ _ rfl) rfl (congrArg Prod.fst (ly_k N.1.1 77 rfl)) rfl (ns_25 N.1) ?_
  refine wq_k1 (p' := 7) (ck_139 _ _ rfl) rfl ⟨by omega, by omega⟩ (fun c1 => ?_) (fun c2 => ?_)
  · have c1 : (wrv t) ≠ (0) := c1
    refine av_wp_sqF ck_139 1 (pc' := 16) (lv' := [some (.inr (.inr (.inl (some (77)))))]) (st' := [.inl (-1)]) (h' := h) rfl ?_
    refine av_wp_ret (v := some (.inl (-1))) (ck_139 _ _ rfl) rfl rfl ?_
    have z3 : pkv b t 0 = -1 := if_neg (by omega)
    exact hq _ (Or.inl ⟨z3, rfl⟩)
  · have c2 : (wrv t) = (0) := c2
    refine av_wp_sqF ck_139 1 (pc' := 8) (lv' := [some (.inr (.inr (.inl (some (77)))))]) (st' := [.inr (.inr (.inl (some (77))))]) (h' := h) rfl ?_
    refine wq_gi (p' := 11) (ck_139 _ _ rfl) rfl (congrArg Prod.fst (ly_k N.1.1 77 rfl)) rfl (ns_22 N.1) ?_
    refine av_wp_sqF ck_139 1 (pc' := 12) (lv' := [some (.inr (.inr (.inl (some (77)))))]) (st' := [.inl (1), .inl (tokv t)]) (h' := h) rfl ?_
    refine wq_k2 (p' := 15) (ck_139 _ _ rfl) rfl ⟨by omega, by omega⟩ ⟨by omega, by omega⟩ (fun c3 => ?_) (fun c4 => ?_)
    · have c3 : (tokv t) = (1) := c3
      refine av_wp_sqF ck_139 1 (pc' := 18) (lv' := [some (.inr (.inr (.inl (some (77)))))]) (st' := [.inr (.inr (.inl (some (77))))]) (h' := h) rfl ?_
      refine wq_gl (p' := 21) (ck_139 _ _ rfl) rfl (congrArg Prod.fst (ly_k N.1.1 77 rfl)) rfl (ns_24 N.1) ?_
      refine av_wp_sqF ck_139 1 (pc' := 24) (lv' := [some (.inr (.inr (.inl (some (77)))))]) (st' := [.inr (.inl (8094240)), .inr (.inl (txtv b t))]) (h' := h) rfl ?_
      refine av_wp_sqF ck_139 1 (pc' := 25) (lv' := [some (.inr (.inr (.inl (some (77)))))]) (st' := [.inl (if av_wl (8094240) < av_wl (txtv b t) then 1 else if av_wl (txtv b t) = av_wl (8094240) then 0 else -1)]) (h' := h) rfl ?_
      have g6 := lcf (x := (txtv b t)) (y := (8094240)) (by omega) (by omega)
      generalize (if av_wl (8094240) < av_wl (txtv b t) then 1 else if av_wl (txtv b t) = av_wl (8094240) then 0 else -1) = v5 at g6 ⊢
      have g6r := g6.2.2
      replace g6 := g6.1
      refine wq_k1 (p' := 28) (ck_139 _ _ rfl) rfl ⟨by omega, by omega⟩ (fun c7 => ?_) (fun c8 => ?_)
      · have c7 : v5 ≠ (0) := c7
        have x9 : (txtv b t) ≠ (8094240) := fun z => c7 (g6.mpr z)
        clear c7 g6 g6r
        refine av_wp_sqF ck_139 1 (pc' := 31) (lv' := [some (.inr (.inr (.inl (some (77)))))]) (st' := [.inr (.inr (.inl (some (77))))]) (h' := h) rfl ?_
        refine wq_gl (p' := 34) (ck_139 _ _ rfl) rfl (congrArg Prod.fst (ly_k N.1.1 77 rfl)) rfl (ns_24 N.1) ?_
        refine av_wp_sqF ck_139 1 (pc' := 37) (lv' := [some (.inr (.inr (.inl (some (77)))))]) (st' := [.inr (.inl (1253)), .inr (.inl (txtv b t))]) (h' := h) rfl ?_
        refine av_wp_sqF ck_139 1 (pc' := 38) (lv' := [some (.inr (.inr (.inl (some (77)))))]) (st' := [.inl (if av_wl (1253) < av_wl (txtv b t) then 1 else if av_wl (txtv b t) = av_wl (1253) then 0 else -1)]) (h' := h) rfl ?_
        have g11 := lcf (x := (txtv b t)) (y := (1253)) (by omega) (by omega)
        generalize (if av_wl (1253) < av_wl (txtv b t) then 1 else if av_wl (txtv b t) = av_wl (1253) then 0 else -1) = v10 at g11 ⊢
        have g11r := g11.2.2
        replace g11 := g11.1
        refine wq_k1 (p' := 41) (ck_139 _ _ rfl) rfl ⟨by omega, by omega⟩ (fun c12 => ?_) (fun c13 => ?_)
        · have c12 : v10 ≠ (0) := c12
          have x14 : (txtv b t) ≠ (1253) := fun z => c12 (g11.mpr z)
          clear c12 g11 g11r
          refine av_wp_sqF ck_139 1 (pc' := 44) (lv' := [some (.inr (.inr (.inl (some (77)))))]) (st' := [.inr (.inr (.inl (some (77))))]) (h' := h) rfl ?_
          refine wq_gl (p' := 47) (ck_139 _ _ rfl) rfl (congrArg Prod.fst (ly_k N.1.1 77 rfl)) rfl (ns_24 N.1) ?_
          refine av_wp_sqF ck_139 1 (pc' := 50) (lv' := [some (.inr (.inr (.inl (some (77)))))]) (st' := [.inr (.inl (18379)), .inr (.inl (txtv b t))]) (h' := h) rfl ?_
          refine av_wp_sqF ck_139 1 (pc' := 51) (lv' := [some (.inr (.inr (.inl (some (77)))))]) (st' := [.inl (if av_wl (18379) < av_wl (txtv b t) then 1 else if av_wl (txtv b t) = av_wl (18379) then 0 else -1)]) (h' := h) rfl ?_
          have g16 := lcf (x := (txtv b t)) (y := (18379)) (by omega) (by omega)
          generalize (if av_wl (18379) < av_wl (txtv b t) then 1 else if av_wl (txtv b t) = av_wl (18379) then 0 else -1) = v15 at g16 ⊢
          have g16r := g16.2.2
          replace g16 := g16.1
          refine wq_k1 (p' := 54) (ck_139 _ _ rfl) rfl ⟨by omega, by omega⟩ (fun c17 => ?_) (fun c18 => ?_)
          · have c17 : v15 ≠ (0) := c17
            have x19 : (txtv b t) ≠ (18379) := fun z => c17 (g16.mpr z)
            clear c17 g16 g16r
            refine av_wp_sqF ck_139 1 (pc' := 57) (lv' := [some (.inr (.inr (.inl (some (77)))))]) (st' := [.inr (.inr (.inl (some (77))))]) (h' := h) rfl ?_
            refine wq_gl (p' := 60) (ck_139 _ _ rfl) rfl (congrArg Prod.fst (ly_k N.1.1 77 rfl)) rfl (ns_24 N.1) ?_
            refine av_wp_sqF ck_139 1 (pc' := 63) (lv' := [some (.inr (.inr (.inl (some (77)))))]) (st' := [.inr (.inl (393)), .inr (.inl (txtv b t))]) (h' := h) rfl ?_
            refine av_wp_sqF ck_139 1 (pc' := 64) (lv' := [some (.inr (.inr (.inl (some (77)))))]) (st' := [.inl (if av_wl (393) < av_wl (txtv b t) then 1 else if av_wl (txtv b t) = av_wl (393) then 0 else -1)]) (h' := h) rfl ?_
            have g21 := lcf (x := (txtv b t)) (y := (393)) (by omega) (by omega)
            generalize (if av_wl (393) < av_wl (txtv b t) then 1 else if av_wl (txtv b t) = av_wl (393) then 0 else -1) = v20 at g21 ⊢
            have g21r := g21.2.2
            replace g21 := g21.1
            refine wq_k1 (p' := 67) (ck_139 _ _ rfl) rfl ⟨by omega, by omega⟩ (fun c22 => ?_) (fun c23 => ?_)
            · have c22 : v20 ≠ (0) := c22
              have x24 : (txtv b t) ≠ (393) := fun z => c22 (g21.mpr z)
              clear c22 g21 g21r
              refine av_wp_sqF ck_139 1 (pc' := 70) (lv' := [some (.inr (.inr (.inl (some (77)))))]) (st' := [.inr (.inr (.inl (some (77))))]) (h' := h) rfl ?_
              refine wq_gl (p' := 73) (ck_139 _ _ rfl) rfl (congrArg Prod.fst (ly_k N.1.1 77 rfl)) rfl (ns_24 N.1) ?_
              refine av_wp_sqF ck_139 1 (pc' := 76) (lv' := [some (.inr (.inr (.inl (some (77)))))]) (st' := [.inr (.inl (40187)), .inr (.inl (txtv b t))]) (h' := h) rfl ?_
              refine av_wp_sqF ck_139 1 (pc' := 77) (lv' := [some (.inr (.inr (.inl (some (77)))))]) (st' := [.inl (if av_wl (40187) < av_wl (txtv b t) then 1 else if av_wl (txtv b t) = av_wl (40187) then 0 else -1)]) (h' := h) rfl ?_
              have g26 := lcf (x := (txtv b t)) (y := (40187)) (by omega) (by omega)
              generalize (if av_wl (40187) < av_wl (txtv b t) then 1 else if av_wl (txtv b t) = av_wl (40187) then 0 else -1) = v25 at g26 ⊢
              have g26r := g26.2.2
              replace g26 := g26.1
              refine wq_k1 (p' := 80) (ck_139 _ _ rfl) rfl ⟨by omega, by omega⟩ (fun c27 => ?_) (fun c28 => ?_)
              · have c27 : v25 ≠ (0) := c27
                have x29 : (txtv b t) ≠ (40187) := fun z => c27 (g26.mpr z)
                clear c27 g26 g26r
                refine av_wp_sqF ck_139 1 (pc' := 83) (lv' := [some (.inr (.inr (.inl (some (77)))))]) (st' := [.inr (.inr (.inl (some (77))))]) (h' := h) rfl ?_
                refine wq_gl (p' := 86) (ck_139 _ _ rfl) rfl (congrArg Prod.fst (ly_k N.1.1 77 rfl)) rfl (ns_24 N.1) ?_
                refine av_wp_sqF ck_139 1 (pc' := 89) (lv' := [some (.inr (.inr (.inl (some (77)))))]) (st' := [.inr (.inl (82516)), .inr (.inl (txtv b t))]) (h' := h) rfl ?_
                refine av_wp_sqF ck_139 1 (pc' := 90) (lv' := [some (.inr (.inr (.inl (some (77)))))]) (st' := [.inl (if av_wl (82516) < av_wl (txtv b t) then 1 else if av_wl (txtv b t) = av_wl (82516) then 0 else -1)]) (h' := h) rfl ?_
                have g31 := lcf (x := (txtv b t)) (y := (82516)) (by omega) (by omega)
                generalize (if av_wl (82516) < av_wl (txtv b t) then 1 else if av_wl (txtv b t) = av_wl (82516) then 0 else -1) = v30 at g31 ⊢
                have g31r := g31.2.2
                replace g31 := g31.1
                refine wq_k1 (p' := 93) (ck_139 _ _ rfl) rfl ⟨by omega, by omega⟩ (fun c32 => ?_) (fun c33 => ?_)
                · have c32 : v30 ≠ (0) := c32
                  have x34 : (txtv b t) ≠ (82516) := fun z => c32 (g31.mpr z)
                  clear c32 g31 g31r
                  refine av_wp_sqF ck_139 1 (pc' := 97) (lv' := [some (.inr (.inr (.inl (some (77)))))]) (st' := [.inr (.inr (.inl (some (77))))]) (h' := h) rfl ?_
                  refine wq_gl (p' := 100) (ck_139 _ _ rfl) rfl (congrArg Prod.fst (ly_k N.1.1 77 rfl)) rfl (ns_24 N.1) ?_
                  refine av_wp_sqF ck_139 1 (pc' := 103) (lv' := [some (.inr (.inr (.inl (some (77)))))]) (st' := [.inr (.inl (378004)), .inr (.inl (txtv b t))]) (h' := h) rfl ?_
                  refine av_wp_sqF ck_139 1 (pc' := 104) (lv' := [some (.inr (.inr (.inl (some (77)))))]) (st' := [.inl (if av_wl (378004) < av_wl (txtv b t) then 1 else if av_wl (txtv b t) = av_wl (378004) then 0 else -1)]) (h' := h) rfl ?_
                  have g36 := lcf (x := (txtv b t)) (y := (378004)) (by omega) (by omega)
                  generalize (if av_wl (378004) < av_wl (txtv b t) then 1 else if av_wl (txtv b t) = av_wl (378004) then 0 else -1) = v35 at g36 ⊢
                  have g36r := g36.2.2
                  replace g36 := g36.1
                  refine wq_k1 (p' := 107) (ck_139 _ _ rfl) rfl ⟨by omega, by omega⟩ (fun c37 => ?_) (fun c38 => ?_)
                  · have c37 : v35 ≠ (0) := c37
                    have x39 : (txtv b t) ≠ (378004) := fun z => c37 (g36.mpr z)
                    clear c37 g36 g36r
                    refine av_wp_sqF ck_139 1 (pc' := 111) (lv' := [some (.inr (.inr (.inl (some (77)))))]) (st' := [.inl (-1)]) (h' := h) rfl ?_
                    refine av_wp_ret (v := some (.inl (-1))) (ck_139 _ _ rfl) rfl rfl ?_
                    have z2 : t.2.2.2 = -1 ∧ t.2.2.1 = 1 := by clear gtx; omega
                    have z3 : pkv b t 0 = pkf b t.1 t.2.1 (av_lit 0) 0 t.1 true := if_pos z2
                    have z1 : txtv b t = txt b t.1 (t.2.1 - t.1) := if_pos z2.2
                    rw [ltw_0 N.2.2.1 (N.2.2.2.1 z2.2), ← z1] at z3
                    rw [if_neg x9, if_neg x14, if_neg x19, if_neg x24, if_neg x29, if_neg x34, if_neg x39] at z3
                    exact hq _ (Or.inl ⟨z3, rfl⟩)
                  · have c38 : v35 = (0) := c38
                    have x40 : (txtv b t) = (378004) := g36.mp c38
                    clear c38 g36 g36r
                    refine av_wp_sqF ck_139 1 (pc' := 109) (lv' := [some (.inr (.inr (.inl (some (77)))))]) (st' := [.inl (7)]) (h' := h) rfl ?_
                    refine av_wp_ret (v := some (.inl (7))) (ck_139 _ _ rfl) rfl rfl ?_
                    have z2 : t.2.2.2 = -1 ∧ t.2.2.1 = 1 := by clear gtx; omega
                    have z3 : pkv b t 0 = pkf b t.1 t.2.1 (av_lit 0) 0 t.1 true := if_pos z2
                    have z1 : txtv b t = txt b t.1 (t.2.1 - t.1) := if_pos z2.2
                    rw [ltw_0 N.2.2.1 (N.2.2.2.1 z2.2), ← z1] at z3
                    rw [if_neg x9, if_neg x14, if_neg x19, if_neg x24, if_neg x29, if_neg x34, if_pos x40] at z3
                    exact hq _ (Or.inr (Or.inr (Or.inr (Or.inr (Or.inr (Or.inr (Or.inr (⟨z3, rfl⟩))))))))
                · have c33 : v30 = (0) := c33
                  have x41 : (txtv b t) = (82516) := g31.mp c33
                  clear c33 g31 g31r
                  refine av_wp_sqF ck_139 1 (pc' := 95) (lv' := [some (.inr (.inr (.inl (some (77)))))]) (st' := [.inl (6)]) (h' := h) rfl ?_
                  refine av_wp_ret (v := some (.inl (6))) (ck_139 _ _ rfl) rfl rfl ?_
                  have z2 : t.2.2.2 = -1 ∧ t.2.2.1 = 1 := by clear gtx; omega
                  have z3 : pkv b t 0 = pkf b t.1 t.2.1 (av_lit 0) 0 t.1 true := if_pos z2
                  have z1 : txtv b t = txt b t.1 (t.2.1 - t.1) := if_pos z2.2
                  rw [ltw_0 N.2.2.1 (N.2.2.2.1 z2.2), ← z1] at z3
                  rw [if_neg x9, if_neg x14, if_neg x19, if_neg x24, if_neg x29, if_pos x41] at z3
                  exact hq _ (Or.inr (Or.inr (Or.inr (Or.inr (Or.inr (Or.inr (Or.inl ⟨z3, rfl⟩)))))))
              · have c28 : v25 = (0) := c28
                have x42 : (txtv b t) = (40187) := g26.mp c28
                clear c28 g26 g26r
                refine av_wp_sqF ck_139 1 (pc' := 81) (lv' := [some (.inr (.inr (.inl (some (77)))))]) (st' := [.inl (5)]) (h' := h) rfl ?_
                refine av_wp_ret (v := some (.inl (5))) (ck_139 _ _ rfl) rfl rfl ?_
                have z2 : t.2.2.2 = -1 ∧ t.2.2.1 = 1 := by clear gtx; omega
                have z3 : pkv b t 0 = pkf b t.1 t.2.1 (av_lit 0) 0 t.1 true := if_pos z2
                have z1 : txtv b t = txt b t.1 (t.2.1 - t.1) := if_pos z2.2
                rw [ltw_0 N.2.2.1 (N.2.2.2.1 z2.2), ← z1] at z3
                rw [if_neg x9, if_neg x14, if_neg x19, if_neg x24, if_pos x42] at z3
                exact hq _ (Or.inr (Or.inr (Or.inr (Or.inr (Or.inr (Or.inl ⟨z3, rfl⟩))))))
            · have c23 : v20 = (0) := c23
              have x43 : (txtv b t) = (393) := g21.mp c23
              clear c23 g21 g21r
              refine av_wp_sqF ck_139 1 (pc' := 68) (lv' := [some (.inr (.inr (.inl (some (77)))))]) (st' := [.inl (4)]) (h' := h) rfl ?_
              refine av_wp_ret (v := some (.inl (4))) (ck_139 _ _ rfl) rfl rfl ?_
              have z2 : t.2.2.2 = -1 ∧ t.2.2.1 = 1 := by clear gtx; omega
              have z3 : pkv b t 0 = pkf b t.1 t.2.1 (av_lit 0) 0 t.1 true := if_pos z2
              have z1 : txtv b t = txt b t.1 (t.2.1 - t.1) := if_pos z2.2
              rw [ltw_0 N.2.2.1 (N.2.2.2.1 z2.2), ← z1] at z3
              rw [if_neg x9, if_neg x14, if_neg x19, if_pos x43] at z3
              exact hq _ (Or.inr (Or.inr (Or.inr (Or.inr (Or.inl ⟨z3, rfl⟩)))))
          · have c18 : v15 = (0) := c18
            have x44 : (txtv b t) = (18379) := g16.mp c18
            clear c18 g16 g16r
            refine av_wp_sqF ck_139 1 (pc' := 55) (lv' := [some (.inr (.inr (.inl (some (77)))))]) (st' := [.inl (2)]) (h' := h) rfl ?_
            refine av_wp_ret (v := some (.inl (2))) (ck_139 _ _ rfl) rfl rfl ?_
            have z2 : t.2.2.2 = -1 ∧ t.2.2.1 = 1 := by clear gtx; omega
            have z3 : pkv b t 0 = pkf b t.1 t.2.1 (av_lit 0) 0 t.1 true := if_pos z2
            have z1 : txtv b t = txt b t.1 (t.2.1 - t.1) := if_pos z2.2
            rw [ltw_0 N.2.2.1 (N.2.2.2.1 z2.2), ← z1] at z3
            rw [if_neg x9, if_neg x14, if_pos x44] at z3
            exact hq _ (Or.inr (Or.inr (Or.inr (Or.inl ⟨z3, rfl⟩))))
        · have c13 : v10 = (0) := c13
          have x45 : (txtv b t) = (1253) := g11.mp c13
          clear c13 g11 g11r
          refine av_wp_sqF ck_139 1 (pc' := 42) (lv' := [some (.inr (.inr (.inl (some (77)))))]) (st' := [.inl (1)]) (h' := h) rfl ?_
          refine av_wp_ret (v := some (.inl (1))) (ck_139 _ _ rfl) rfl rfl ?_
          have z2 : t.2.2.2 = -1 ∧ t.2.2.1 = 1 := by clear gtx; omega
          have z3 : pkv b t 0 = pkf b t.1 t.2.1 (av_lit 0) 0 t.1 true := if_pos z2
          have z1 : txtv b t = txt b t.1 (t.2.1 - t.1) := if_pos z2.2
          rw [ltw_0 N.2.2.1 (N.2.2.2.1 z2.2), ← z1] at z3
          rw [if_neg x9, if_pos x45] at z3
          exact hq _ (Or.inr (Or.inr (Or.inl ⟨z3, rfl⟩)))
      · have c8 : v5 = (0) := c8
        have x46 : (txtv b t) = (8094240) := g6.mp c8
        clear c8 g6 g6r
        refine av_wp_sqF ck_139 1 (pc' := 29) (lv' := [some (.inr (.inr (.inl (some (77)))))]) (st' := [.inl (0)]) (h' := h) rfl ?_
        refine av_wp_ret (v := some (.inl (0))) (ck_139 _ _ rfl) rfl rfl ?_
        have z2 : t.2.2.2 = -1 ∧ t.2.2.1 = 1 := by clear gtx; omega
        have z3 : pkv b t 0 = pkf b t.1 t.2.1 (av_lit 0) 0 t.1 true := if_pos z2
        have z1 : txtv b t = txt b t.1 (t.2.1 - t.1) := if_pos z2.2
        rw [ltw_0 N.2.2.1 (N.2.2.2.1 z2.2), ← z1] at z3
        rw [if_pos x46] at z3
        exact hq _ (Or.inr (Or.inl ⟨z3, rfl⟩))
    · have c4 : (tokv t) ≠ (1) := c4
      refine av_wp_sqF ck_139 1 (pc' := 16) (lv' := [some (.inr (.inr (.inl (some (77)))))]) (st' := [.inl (-1)]) (h' := h) rfl ?_
      refine av_wp_ret (v := some (.inl (-1))) (ck_139 _ _ rfl) rfl rfl ?_
      have z3 : pkv b t 0 = -1 := if_neg (by omega)
      exact hq _ (Or.inl ⟨z3, rfl⟩)

set_option maxRecDepth 100000 in
set_option maxHeartbeats 4000000 in
theorem ct_140 {g h : av_H} {b : Nat → Int} {lim : Nat} {t : TT} {x17 : Int} {A : Nat → Nat → Int} (N : MT b lim t x17 A h) (F : FD g h)  {Q : Option av_V → av_H → Prop} (hq : ∀ v : Int, ((pkv b t 6 = -1 ∧ v = -1) ∨ (pkv b t 6 = 0 ∧ v = 0) ∨ (pkv b t 6 = 1 ∧ v = 1) ∨ (pkv b t 6 = 2 ∧ v = 2) ∨ (pkv b t 6 = 3 ∧ v = 3)) → Q (some (.inl v)) h) : av_wp none cd_140 0 [some (.inr (.inr (.inl (some (77)))))] [] h Q := by
  have gw1 : t.1 ≤ 900 ∧ t.2.1 ≤ lim ∧ lim ≤ 900 := ⟨N.2.1.1, N.2.1.2.1, N.2.1.2.2.1⟩
  have gw2 : -1 ≤ t.2.2.2 ∧ t.2.2.2 ≤ 900 := N.2.1.2.2.2.2
  have gt := tok_f t N.2.1.2.2.2.1
  have gt1 := gt.1
  have gtr := gt.2.2.2.2
  clear gt
  have gwr := wr_f t
  have gtx := txtv_r N.2.2
  refine av_wp_sqF ck_140 1 (pc' := 1) (lv' := [some (.inr (.inr (.inl (some (77)))))]) (st' := [.inr (.inr (.inl (some (77))))]) (h' := h) rfl ?_
  refine wq_gb (p' := 4) (ck_140 _ _ rfl) rfl (congrArg Prod.fst (ly_k N.1.1 77 rfl)) rfl (ns_25 N.1) ?_
  refine wq_k1 (p' := 7) (ck_140 _ _ rfl) rfl ⟨by omega, by omega⟩ (fun c1 => ?_) (fun c2 => ?_)
  · have c1 : (wrv t) ≠ (0) := c1
    refine av_wp_sqF ck_140 1 (pc' := 16) (lv' := [some (.inr (.inr (.inl (some (77)))))]) (st' := [.inl (-1)]) (h' := h) rfl ?_
    refine av_wp_ret (v := some (.inl (-1))) (ck_140 _ _ rfl) rfl rfl ?_
    have z3 : pkv b t 6 = -1 := if_neg (by omega)
    exact hq _ (Or.inl ⟨z3, rfl⟩)
  · have c2 : (wrv t) = (0) := c2
    refine av_wp_sqF ck_140 1 (pc' := 8) (lv' := [some (.inr (.inr (.inl (some (77)))))]) (st' := [.inr (.inr (.inl (some (77))))]) (h' := h) rfl ?_
    refine wq_gi (p' := 11) (ck_140 _ _ rfl) rfl (congrArg Prod.fst (ly_k N.1.1 77 rfl)) rfl (ns_22 N.1) ?_
    refine av_wp_sqF ck_140 1 (pc' := 12) (lv' := [some (.inr (.inr (.inl (some (77)))))]) (st' := [.inl (1), .inl (tokv t)]) (h' := h) rfl ?_
    refine wq_k2 (p' := 15) (ck_140 _ _ rfl) rfl ⟨by omega, by omega⟩ ⟨by omega, by omega⟩ (fun c3 => ?_) (fun c4 => ?_)
    · have c3 : (tokv t) = (1) := c3
      refine av_wp_sqF ck_140 1 (pc' := 18) (lv' := [some (.inr (.inr (.inl (some (77)))))]) (st' := [.inr (.inr (.inl (some (77))))]) (h' := h) rfl ?_
      refine wq_gl (p' := 21) (ck_140 _ _ rfl) rfl (congrArg Prod.fst (ly_k N.1.1 77 rfl)) rfl (ns_24 N.1) ?_
      refine av_wp_sqF ck_140 1 (pc' := 24) (lv' := [some (.inr (.inr (.inl (some (77)))))]) (st' := [.inr (.inl (326396)), .inr (.inl (txtv b t))]) (h' := h) rfl ?_
      refine av_wp_sqF ck_140 1 (pc' := 25) (lv' := [some (.inr (.inr (.inl (some (77)))))]) (st' := [.inl (if av_wl (326396) < av_wl (txtv b t) then 1 else if av_wl (txtv b t) = av_wl (326396) then 0 else -1)]) (h' := h) rfl ?_
      have g6 := lcf (x := (txtv b t)) (y := (326396)) (by omega) (by omega)
      generalize (if av_wl (326396) < av_wl (txtv b t) then 1 else if av_wl (txtv b t) = av_wl (326396) then 0 else -1) = v5 at g6 ⊢
      have g6r := g6.2.2
      replace g6 := g6.1
      refine wq_k1 (p' := 28) (ck_140 _ _ rfl) rfl ⟨by omega, by omega⟩ (fun c7 => ?_) (fun c8 => ?_)
      · have c7 : v5 ≠ (0) := c7
        have x9 : (txtv b t) ≠ (326396) := fun z => c7 (g6.mpr z)
        clear c7 g6 g6r
        refine av_wp_sqF ck_140 1 (pc' := 31) (lv' := [some (.inr (.inr (.inl (some (77)))))]) (st' := [.inr (.inr (.inl (some (77))))]) (h' := h) rfl ?_
        refine wq_gl (p' := 34) (ck_140 _ _ rfl) rfl (congrArg Prod.fst (ly_k N.1.1 77 rfl)) rfl (ns_24 N.1) ?_
        refine av_wp_sqF ck_140 1 (pc' := 37) (lv' := [some (.inr (.inr (.inl (some (77)))))]) (st' := [.inr (.inl (459761)), .inr (.inl (txtv b t))]) (h' := h) rfl ?_
        refine av_wp_sqF ck_140 1 (pc' := 38) (lv' := [some (.inr (.inr (.inl (some (77)))))]) (st' := [.inl (if av_wl (459761) < av_wl (txtv b t) then 1 else if av_wl (txtv b t) = av_wl (459761) then 0 else -1)]) (h' := h) rfl ?_
        have g11 := lcf (x := (txtv b t)) (y := (459761)) (by omega) (by omega)
        generalize (if av_wl (459761) < av_wl (txtv b t) then 1 else if av_wl (txtv b t) = av_wl (459761) then 0 else -1) = v10 at g11 ⊢
        have g11r := g11.2.2
        replace g11 := g11.1
        refine wq_k1 (p' := 41) (ck_140 _ _ rfl) rfl ⟨by omega, by omega⟩ (fun c12 => ?_) (fun c13 => ?_)
        · have c12 : v10 ≠ (0) := c12
          have x14 : (txtv b t) ≠ (459761) := fun z => c12 (g11.mpr z)
          clear c12 g11 g11r
          refine av_wp_sqF ck_140 1 (pc' := 44) (lv' := [some (.inr (.inr (.inl (some (77)))))]) (st' := [.inr (.inr (.inl (some (77))))]) (h' := h) rfl ?_
          refine wq_gl (p' := 47) (ck_140 _ _ rfl) rfl (congrArg Prod.fst (ly_k N.1.1 77 rfl)) rfl (ns_24 N.1) ?_
          refine av_wp_sqF ck_140 1 (pc' := 50) (lv' := [some (.inr (.inr (.inl (some (77)))))]) (st' := [.inr (.inl (7219835)), .inr (.inl (txtv b t))]) (h' := h) rfl ?_
          refine av_wp_sqF ck_140 1 (pc' := 51) (lv' := [some (.inr (.inr (.inl (some (77)))))]) (st' := [.inl (if av_wl (7219835) < av_wl (txtv b t) then 1 else if av_wl (txtv b t) = av_wl (7219835) then 0 else -1)]) (h' := h) rfl ?_
          have g16 := lcf (x := (txtv b t)) (y := (7219835)) (by omega) (by omega)
          generalize (if av_wl (7219835) < av_wl (txtv b t) then 1 else if av_wl (txtv b t) = av_wl (7219835) then 0 else -1) = v15 at g16 ⊢
          have g16r := g16.2.2
          replace g16 := g16.1
          refine wq_k1 (p' := 54) (ck_140 _ _ rfl) rfl ⟨by omega, by omega⟩ (fun c17 => ?_) (fun c18 => ?_)
          · have c17 : v15 ≠ (0) := c17
            have x19 : (txtv b t) ≠ (7219835) := fun z => c17 (g16.mpr z)
            clear c17 g16 g16r
            refine av_wp_sqF ck_140 1 (pc' := 57) (lv' := [some (.inr (.inr (.inl (some (77)))))]) (st' := [.inr (.inr (.inl (some (77))))]) (h' := h) rfl ?_
            refine wq_gl (p' := 60) (ck_140 _ _ rfl) rfl (congrArg Prod.fst (ly_k N.1.1 77 rfl)) rfl (ns_24 N.1) ?_
            refine av_wp_sqF ck_140 1 (pc' := 63) (lv' := [some (.inr (.inr (.inl (some (77)))))]) (st' := [.inr (.inl (82516)), .inr (.inl (txtv b t))]) (h' := h) rfl ?_
            refine av_wp_sqF ck_140 1 (pc' := 64) (lv' := [some (.inr (.inr (.inl (some (77)))))]) (st' := [.inl (if av_wl (82516) < av_wl (txtv b t) then 1 else if av_wl (txtv b t) = av_wl (82516) then 0 else -1)]) (h' := h) rfl ?_
            have g21 := lcf (x := (txtv b t)) (y := (82516)) (by omega) (by omega)
            generalize (if av_wl (82516) < av_wl (txtv b t) then 1 else if av_wl (txtv b t) = av_wl (82516) then 0 else -1) = v20 at g21 ⊢
            have g21r := g21.2.2
            replace g21 := g21.1
            refine wq_k1 (p' := 67) (ck_140 _ _ rfl) rfl ⟨by omega, by omega⟩ (fun c22 => ?_) (fun c23 => ?_)
            · have c22 : v20 ≠ (0) := c22
              have x24 : (txtv b t) ≠ (82516) := fun z => c22 (g21.mpr z)
              clear c22 g21 g21r
              refine av_wp_sqF ck_140 1 (pc' := 70) (lv' := [some (.inr (.inr (.inl (some (77)))))]) (st' := [.inl (-1)]) (h' := h) rfl ?_
              refine av_wp_ret (v := some (.inl (-1))) (ck_140 _ _ rfl) rfl rfl ?_
              have z2 : t.2.2.2 = -1 ∧ t.2.2.1 = 1 := by clear gtx; omega
              have z3 : pkv b t 6 = pkf b t.1 t.2.1 (av_lit 6) 0 t.1 true := if_pos z2
              have z1 : txtv b t = txt b t.1 (t.2.1 - t.1) := if_pos z2.2
              rw [ltw_6 N.2.2.1 (N.2.2.2.1 z2.2), ← z1] at z3
              rw [if_neg x9, if_neg x14, if_neg x19, if_neg x24] at z3
              exact hq _ (Or.inl ⟨z3, rfl⟩)
            · have c23 : v20 = (0) := c23
              have x25 : (txtv b t) = (82516) := g21.mp c23
              clear c23 g21 g21r
              refine av_wp_sqF ck_140 1 (pc' := 68) (lv' := [some (.inr (.inr (.inl (some (77)))))]) (st' := [.inl (3)]) (h' := h) rfl ?_
              refine av_wp_ret (v := some (.inl (3))) (ck_140 _ _ rfl) rfl rfl ?_
              have z2 : t.2.2.2 = -1 ∧ t.2.2.1 = 1 := by clear gtx; omega
              have z3 : pkv b t 6 = pkf b t.1 t.2.1 (av_lit 6) 0 t.1 true := if_pos z2
              have z1 : txtv b t = txt b t.1 (t.2.1 - t.1) := if_pos z2.2
              rw [ltw_6 N.2.2.1 (N.2.2.2.1 z2.2), ← z1] at z3
              rw [if_neg x9, if_neg x14, if_neg x19, if_pos x25] at z3
              exact hq _ (Or.inr (Or.inr (Or.inr (Or.inr (⟨z3, rfl⟩)))))
          · have c18 : v15 = (0) := c18
            have x26 : (txtv b t) = (7219835) := g16.mp c18
            clear c18 g16 g16r
            refine av_wp_sqF ck_140 1 (pc' := 55) (lv' := [some (.inr (.inr (.inl (some (77)))))]) (st' := [.inl (2)]) (h' := h) rfl ?_
            refine av_wp_ret (v := some (.inl (2))) (ck_140 _ _ rfl) rfl rfl ?_
            have z2 : t.2.2.2 = -1 ∧ t.2.2.1 = 1 := by clear gtx; omega
            have z3 : pkv b t 6 = pkf b t.1 t.2.1 (av_lit 6) 0 t.1 true := if_pos z2
            have z1 : txtv b t = txt b t.1 (t.2.1 - t.1) := if_pos z2.2
            rw [ltw_6 N.2.2.1 (N.2.2.2.1 z2.2), ← z1] at z3
            rw [if_neg x9, if_neg x14, if_pos x26] at z3
            exact hq _ (Or.inr (Or.inr (Or.inr (Or.inl ⟨z3, rfl⟩))))
        · have c13 : v10 = (0) := c13
          have x27 : (txtv b t) = (459761) := g11.mp c13
          clear c13 g11 g11r
          refine av_wp_sqF ck_140 1 (pc' := 42) (lv' := [some (.inr (.inr (.inl (some (77)))))]) (st' := [.inl (1)]) (h' := h) rfl ?_
          refine av_wp_ret (v := some (.inl (1))) (ck_140 _ _ rfl) rfl rfl ?_
          have z2 : t.2.2.2 = -1 ∧ t.2.2.1 = 1 := by clear gtx; omega
          have z3 : pkv b t 6 = pkf b t.1 t.2.1 (av_lit 6) 0 t.1 true := if_pos z2
          have z1 : txtv b t = txt b t.1 (t.2.1 - t.1) := if_pos z2.2
          rw [ltw_6 N.2.2.1 (N.2.2.2.1 z2.2), ← z1] at z3
          rw [if_neg x9, if_pos x27] at z3
          exact hq _ (Or.inr (Or.inr (Or.inl ⟨z3, rfl⟩)))
      · have c8 : v5 = (0) := c8
        have x28 : (txtv b t) = (326396) := g6.mp c8
        clear c8 g6 g6r
        refine av_wp_sqF ck_140 1 (pc' := 29) (lv' := [some (.inr (.inr (.inl (some (77)))))]) (st' := [.inl (0)]) (h' := h) rfl ?_
        refine av_wp_ret (v := some (.inl (0))) (ck_140 _ _ rfl) rfl rfl ?_
        have z2 : t.2.2.2 = -1 ∧ t.2.2.1 = 1 := by clear gtx; omega
        have z3 : pkv b t 6 = pkf b t.1 t.2.1 (av_lit 6) 0 t.1 true := if_pos z2
        have z1 : txtv b t = txt b t.1 (t.2.1 - t.1) := if_pos z2.2
        rw [ltw_6 N.2.2.1 (N.2.2.2.1 z2.2), ← z1] at z3
        rw [if_pos x28] at z3
        exact hq _ (Or.inr (Or.inl ⟨z3, rfl⟩))
    · have c4 : (tokv t) ≠ (1) := c4
      refine av_wp_sqF ck_140 1 (pc' := 16) (lv' := [some (.inr (.inr (.inl (some (77)))))]) (st' := [.inl (-1)]) (h' := h) rfl ?_
      refine av_wp_ret (v := some (.inl (-1))) (ck_140 _ _ rfl) rfl rfl ?_
      have z3 : pkv b t 6 = -1 := if_neg (by omega)
      exact hq _ (Or.inl ⟨z3, rfl⟩)
end
section
set_option maxRecDepth 100000 in
set_option maxHeartbeats 4000000 in
theorem ct_137 {g h : av_H} {b : Nat → Int} {lim : Nat} {t : TT} {x17 : Int} {A : Nat → Nat → Int} (N : MT b lim t x17 A h) (F : FD g h) (y : Int) (qy : -2147483648 ≤ y ∧ y ≤ 2147483647) {Q : Option av_V → av_H → Prop} (hq0 : (pkv b t 1 = -1 ∨ pkv b t 1 = y) → ∀ h', MT b lim (fal t) x17 A h' → FD g h' → Q (some (.inl 0)) h') (hq1 : ∀ v : Int, v = pkv b t 1 → pkv b t 1 ≠ -1 → pkv b t 1 ≠ y → ∀ h', MT b lim (adv b lim t) x17 A h' → FD g h' → Q (some (.inl v)) h') : av_wp none cd_137 0 [some (.inr (.inr (.inl (some (77))))), some (.inl y), none] [] h Q := by
  have gw1 : t.1 ≤ 900 ∧ t.2.1 ≤ lim ∧ lim ≤ 900 := ⟨N.2.1.1, N.2.1.2.1, N.2.1.2.2.1⟩
  have gw2 : -1 ≤ t.2.2.2 ∧ t.2.2.2 ≤ 900 := N.2.1.2.2.2.2
  have gt := tok_f t N.2.1.2.2.2.1
  have gt1 := gt.1
  have gtr := gt.2.2.2.2
  clear gt
  have gwr := wr_f t
  have gtx := txtv_r N.2.2
  have gp : ((t.2.2.2 = -1 ∧ t.2.2.1 = 1) ∧ ((pkv b t 1 = 0 ∧ txtv b t = 1) ∨ (pkv b t 1 = 1 ∧ txtv b t = 2) ∨ (pkv b t 1 = 2 ∧ txtv b t = 3) ∨ (pkv b t 1 = -1 ∧ (txtv b t < 1 ∨ 3 < txtv b t)))) ∨ (¬ (t.2.2.2 = -1 ∧ t.2.2.1 = 1) ∧ pkv b t 1 = -1) := by
    by_cases z2 : t.2.2.2 = -1 ∧ t.2.2.1 = 1
    · left
      have z3 : pkv b t 1 = pkf b t.1 t.2.1 (av_lit 1) 0 t.1 true := if_pos z2
      have z1 : txtv b t = txt b t.1 (t.2.1 - t.1) := if_pos z2.2
      rw [ltw_1 N.2.2.1 (N.2.2.2.1 z2.2), ← z1] at z3
      refine ⟨z2, ?_⟩
      clear gt1 gwr gw1 gw2 z1 z2
      (repeat' split at z3) <;> omega
    · exact Or.inr ⟨z2, if_neg z2⟩
  refine av_wp_sqF ck_137 1 (pc' := 1) (lv' := [some (.inr (.inr (.inl (some (77))))), some (.inl y), none]) (st' := [.inr (.inr (.inl (some (77))))]) (h' := h) rfl ?_
  refine wq_gb (p' := 4) (ck_137 _ _ rfl) rfl (congrArg Prod.fst (ly_k N.1.1 77 rfl)) rfl (ns_25 N.1) ?_
  refine wq_k1 (p' := 7) (ck_137 _ _ rfl) rfl ⟨by omega, by omega⟩ (fun c1 => ?_) (fun c2 => ?_)
  · have c1 : (wrv t) = (0) := c1
    refine av_wp_sqF ck_137 1 (pc' := 10) (lv' := [some (.inr (.inr (.inl (some (77))))), some (.inl y), none]) (st' := [.inr (.inr (.inl (some (77))))]) (h' := h) rfl ?_
    refine wq_gi (p' := 13) (ck_137 _ _ rfl) rfl (congrArg Prod.fst (ly_k N.1.1 77 rfl)) rfl (ns_22 N.1) ?_
    refine av_wp_sqF ck_137 1 (pc' := 14) (lv' := [some (.inr (.inr (.inl (some (77))))), some (.inl y), none]) (st' := [.inl (1), .inl (tokv t)]) (h' := h) rfl ?_
    refine wq_k2 (p' := 17) (ck_137 _ _ rfl) rfl ⟨by omega, by omega⟩ ⟨by omega, by omega⟩ (fun c3 => ?_) (fun c4 => ?_)
    · have c3 : (tokv t) ≠ (1) := c3
      refine av_wp_sqF ck_137 5 (pc' := 59) (lv' := [some (.inr (.inr (.inl (some (77))))), some (.inl y), some (.inl (-1))]) (st' := [.inr (.inr (.inl (some (77))))]) (h' := h) rfl ?_
      refine wq_cv (p' := 62) (av_qc (.invokevirtual 194) 131 0 0 8) 1 cd_131 [] (77) 8 [some (.inr (.inr (.inl (some (77)))))] (ck_137 _ _ rfl) rfl rfl pp_131 rfl rfl rfl (congrArg Prod.fst (ly_k N.1.1 77 rfl)) rfl rfl rfl rfl ?_
      refine ct_131 N F (fun h5 N6 F7 => ?_)
      show av_wp _ cd_137 62 [some (.inr (.inr (.inl (some (77))))), some (.inl y), some (.inl (-1))] [] h5 _
      refine av_wp_sqF ck_137 1 (pc' := 63) (lv' := [some (.inr (.inr (.inl (some (77))))), some (.inl y), some (.inl (-1))]) (st' := [.inl (0)]) (h' := h5) rfl ?_
      refine av_wp_ret (v := some (.inl (0))) (ck_137 _ _ rfl) rfl rfl ?_
      exact hq0 (by omega) h5 N6 F7
    · have c4 : (tokv t) = (1) := c4
      refine av_wp_sqF ck_137 1 (pc' := 18) (lv' := [some (.inr (.inr (.inl (some (77))))), some (.inl y), none]) (st' := [.inr (.inr (.inl (some (77))))]) (h' := h) rfl ?_
      refine wq_gl (p' := 21) (ck_137 _ _ rfl) rfl (congrArg Prod.fst (ly_k N.1.1 77 rfl)) rfl (ns_24 N.1) ?_
      refine av_wp_sqF ck_137 1 (pc' := 22) (lv' := [some (.inr (.inr (.inl (some (77))))), some (.inl y), none]) (st' := [.inr (.inl (1)), .inr (.inl (txtv b t))]) (h' := h) rfl ?_
      refine av_wp_sqF ck_137 1 (pc' := 23) (lv' := [some (.inr (.inr (.inl (some (77))))), some (.inl y), none]) (st' := [.inl (if av_wl (1) < av_wl (txtv b t) then 1 else if av_wl (txtv b t) = av_wl (1) then 0 else -1)]) (h' := h) rfl ?_
      have g9 := lcf (x := (txtv b t)) (y := (1)) (by omega) (by omega)
      generalize (if av_wl (1) < av_wl (txtv b t) then 1 else if av_wl (txtv b t) = av_wl (1) then 0 else -1) = v8 at g9 ⊢
      have g9r := g9.2.2
      replace g9 := g9.2.1
      refine wq_k1 (p' := 26) (ck_137 _ _ rfl) rfl ⟨by omega, by omega⟩ (fun c10 => ?_) (fun c11 => ?_)
      · have c10 : v8 < (0) := c10
        refine av_wp_sqF ck_137 5 (pc' := 59) (lv' := [some (.inr (.inr (.inl (some (77))))), some (.inl y), some (.inl (-1))]) (st' := [.inr (.inr (.inl (some (77))))]) (h' := h) rfl ?_
        refine wq_cv (p' := 62) (av_qc (.invokevirtual 194) 131 0 0 8) 1 cd_131 [] (77) 8 [some (.inr (.inr (.inl (some (77)))))] (ck_137 _ _ rfl) rfl rfl pp_131 rfl rfl rfl (congrArg Prod.fst (ly_k N.1.1 77 rfl)) rfl rfl rfl rfl ?_
        refine ct_131 N F (fun h12 N13 F14 => ?_)
        show av_wp _ cd_137 62 [some (.inr (.inr (.inl (some (77))))), some (.inl y), some (.inl (-1))] [] h12 _
        refine av_wp_sqF ck_137 1 (pc' := 63) (lv' := [some (.inr (.inr (.inl (some (77))))), some (.inl y), some (.inl (-1))]) (st' := [.inl (0)]) (h' := h12) rfl ?_
        refine av_wp_ret (v := some (.inl (0))) (ck_137 _ _ rfl) rfl rfl ?_
        exact hq0 (by omega) h12 N13 F14
      · have c11 : (0) ≤ v8 := c11
        refine av_wp_sqF ck_137 1 (pc' := 27) (lv' := [some (.inr (.inr (.inl (some (77))))), some (.inl y), none]) (st' := [.inr (.inr (.inl (some (77))))]) (h' := h) rfl ?_
        refine wq_gl (p' := 30) (ck_137 _ _ rfl) rfl (congrArg Prod.fst (ly_k N.1.1 77 rfl)) rfl (ns_24 N.1) ?_
        refine av_wp_sqF ck_137 1 (pc' := 33) (lv' := [some (.inr (.inr (.inl (some (77))))), some (.inl y), none]) (st' := [.inr (.inl (3)), .inr (.inl (txtv b t))]) (h' := h) rfl ?_
        refine av_wp_sqF ck_137 1 (pc' := 34) (lv' := [some (.inr (.inr (.inl (some (77))))), some (.inl y), none]) (st' := [.inl (if av_wl (3) < av_wl (txtv b t) then 1 else if av_wl (txtv b t) = av_wl (3) then 0 else -1)]) (h' := h) rfl ?_
        have g16 := lcf (x := (txtv b t)) (y := (3)) (by omega) (by omega)
        generalize (if av_wl (3) < av_wl (txtv b t) then 1 else if av_wl (txtv b t) = av_wl (3) then 0 else -1) = v15 at g16 ⊢
        refine wq_k1 (p' := 37) (ck_137 _ _ rfl) rfl ⟨by omega, by omega⟩ (fun c17 => ?_) (fun c18 => ?_)
        · have c17 : (0) < v15 := c17
          refine av_wp_sqF ck_137 5 (pc' := 59) (lv' := [some (.inr (.inr (.inl (some (77))))), some (.inl y), some (.inl (-1))]) (st' := [.inr (.inr (.inl (some (77))))]) (h' := h) rfl ?_
          refine wq_cv (p' := 62) (av_qc (.invokevirtual 194) 131 0 0 8) 1 cd_131 [] (77) 8 [some (.inr (.inr (.inl (some (77)))))] (ck_137 _ _ rfl) rfl rfl pp_131 rfl rfl rfl (congrArg Prod.fst (ly_k N.1.1 77 rfl)) rfl rfl rfl rfl ?_
          refine ct_131 N F (fun h19 N20 F21 => ?_)
          show av_wp _ cd_137 62 [some (.inr (.inr (.inl (some (77))))), some (.inl y), some (.inl (-1))] [] h19 _
          refine av_wp_sqF ck_137 1 (pc' := 63) (lv' := [some (.inr (.inr (.inl (some (77))))), some (.inl y), some (.inl (-1))]) (st' := [.inl (0)]) (h' := h19) rfl ?_
          refine av_wp_ret (v := some (.inl (0))) (ck_137 _ _ rfl) rfl rfl ?_
          exact hq0 (by omega) h19 N20 F21
        · have c18 : v15 ≤ (0) := c18
          refine av_wp_sqF ck_137 1 (pc' := 38) (lv' := [some (.inr (.inr (.inl (some (77))))), some (.inl y), none]) (st' := [.inr (.inr (.inl (some (77))))]) (h' := h) rfl ?_
          refine wq_gl (p' := 41) (ck_137 _ _ rfl) rfl (congrArg Prod.fst (ly_k N.1.1 77 rfl)) rfl (ns_24 N.1) ?_
          refine av_wp_sqF ck_137 6 (pc' := 50) (lv' := [some (.inr (.inr (.inl (some (77))))), some (.inl y), some (.inl ((txtv b t) - (1)))]) (st' := [.inl ((txtv b t) - (1))]) (h' := h) rfl ?_
          refine wq_k1 (p' := 53) (ck_137 _ _ rfl) rfl ⟨by omega, by omega⟩ (fun c22 => ?_) (fun c23 => ?_)
          · have c22 : ((txtv b t) - (1)) < (0) := c22
            exfalso; omega
          · have c23 : (0) ≤ ((txtv b t) - (1)) := c23
            refine av_wp_sqF ck_137 2 (pc' := 55) (lv' := [some (.inr (.inr (.inl (some (77))))), some (.inl y), some (.inl ((txtv b t) - (1)))]) (st' := [.inl y, .inl ((txtv b t) - (1))]) (h' := h) rfl ?_
            refine wq_k2 (p' := 58) (ck_137 _ _ rfl) rfl ⟨by omega, by omega⟩ ⟨by omega, by omega⟩ (fun c24 => ?_) (fun c25 => ?_)
            · have c24 : ((txtv b t) - (1)) ≠ y := c24
              refine av_wp_sqF ck_137 1 (pc' := 65) (lv' := [some (.inr (.inr (.inl (some (77))))), some (.inl y), some (.inl ((txtv b t) - (1)))]) (st' := [.inr (.inr (.inl (some (77))))]) (h' := h) rfl ?_
              refine wq_cv (p' := 68) (av_qc (.invokevirtual 191) 130 0 0 8) 2 cd_130 [] (77) 8 [some (.inr (.inr (.inl (some (77))))), none] (ck_137 _ _ rfl) rfl rfl pp_130 rfl rfl rfl (congrArg Prod.fst (ly_k N.1.1 77 rfl)) rfl rfl rfl rfl ?_
              refine ct_130t N F (fun h26 N27 F28 => ?_)
              show av_wp _ cd_137 68 [some (.inr (.inr (.inl (some (77))))), some (.inl y), some (.inl ((txtv b t) - (1)))] [] h26 _
              refine av_wp_sqF ck_137 1 (pc' := 69) (lv' := [some (.inr (.inr (.inl (some (77))))), some (.inl y), some (.inl ((txtv b t) - (1)))]) (st' := [.inl ((txtv b t) - (1))]) (h' := h26) rfl ?_
              refine av_wp_ret (v := some (.inl ((txtv b t) - (1)))) (ck_137 _ _ rfl) rfl rfl ?_
              exact hq1 _ (by omega) (by omega) (by omega) h26 N27 F28
            · have c25 : ((txtv b t) - (1)) = y := c25
              refine av_wp_sqF ck_137 1 (pc' := 59) (lv' := [some (.inr (.inr (.inl (some (77))))), some (.inl y), some (.inl ((txtv b t) - (1)))]) (st' := [.inr (.inr (.inl (some (77))))]) (h' := h) rfl ?_
              refine wq_cv (p' := 62) (av_qc (.invokevirtual 194) 131 0 0 8) 1 cd_131 [] (77) 8 [some (.inr (.inr (.inl (some (77)))))] (ck_137 _ _ rfl) rfl rfl pp_131 rfl rfl rfl (congrArg Prod.fst (ly_k N.1.1 77 rfl)) rfl rfl rfl rfl ?_
              refine ct_131 N F (fun h29 N30 F31 => ?_)
              show av_wp _ cd_137 62 [some (.inr (.inr (.inl (some (77))))), some (.inl y), some (.inl ((txtv b t) - (1)))] [] h29 _
              refine av_wp_sqF ck_137 1 (pc' := 63) (lv' := [some (.inr (.inr (.inl (some (77))))), some (.inl y), some (.inl ((txtv b t) - (1)))]) (st' := [.inl (0)]) (h' := h29) rfl ?_
              refine av_wp_ret (v := some (.inl (0))) (ck_137 _ _ rfl) rfl rfl ?_
              exact hq0 (by omega) h29 N30 F31
  · have c2 : (wrv t) ≠ (0) := c2
    refine av_wp_sqF ck_137 1 (pc' := 8) (lv' := [some (.inr (.inr (.inl (some (77))))), some (.inl y), none]) (st' := [.inl (0)]) (h' := h) rfl ?_
    refine av_wp_ret (v := some (.inl (0))) (ck_137 _ _ rfl) rfl rfl ?_
    have z2 : fal t = t := by unfold fal; rw [if_neg (by omega)]
    exact hq0 (by omega) h (by rw [z2]; exact N) F
end
section
/-! THE CLASS BEGINS TO READ -/
set_option maxRecDepth 100000 in
set_option maxHeartbeats 4000000 in
theorem ct_80 {h : av_H} (L : LY h) {len : Int} (hl : hF h 1 1 = len) (ql : 0 ≤ len ∧ len ≤ 900) (n : Int) (qn : -2147483648 ≤ n ∧ n ≤ 2147483647) {Q : Option av_V → av_H → Prop} (hq : ∀ v : Int, ((v = 1 ∧ 0 ≤ n ∧ n ≤ len) ∨ (v = 0 ∧ (n < 0 ∨ len < n))) → Q (some (.inl v)) h) : av_wp none cd_80 0 [some (.inr (.inr (.inl (some (1))))), some (.inl n)] [] h Q := by
  refine av_wp_sqF ck_80 1 (pc' := 1) (lv' := [some (.inr (.inr (.inl (some (1))))), some (.inl n)]) (st' := [.inl n]) (h' := h) rfl ?_
  refine wq_k1 (p' := 4) (ck_80 _ _ rfl) rfl ⟨by omega, by omega⟩ (fun c1 => ?_) (fun c2 => ?_)
  · have c1 : n < 0 := c1
    refine av_wp_sqF ck_80 1 (pc' := 17) (lv' := [some (.inr (.inr (.inl (some (1))))), some (.inl n)]) (st' := [.inl (0)]) (h' := h) rfl ?_
    exact av_wp_ret (v := some (.inl (0))) rfl rfl rfl (hq _ (by omega))
  · have c2 : 0 ≤ n := c2
    refine av_wp_sqF ck_80 2 (pc' := 6) (lv' := [some (.inr (.inr (.inl (some (1))))), some (.inl n)]) (st' := [.inr (.inr (.inl (some (1)))), .inl n]) (h' := h) rfl ?_
    refine wq_gi (p' := 9) (ck_80 _ _ rfl) rfl (congrArg Prod.fst (ly_k L 1 rfl)) rfl hl ?_
    refine wq_k2 (p' := 12) (ck_80 _ _ rfl) rfl ⟨by omega, by omega⟩ ⟨by omega, by omega⟩ (fun c3 => ?_) (fun c4 => ?_)
    · have c3 : len < n := c3
      refine av_wp_sqF ck_80 1 (pc' := 17) (lv' := [some (.inr (.inr (.inl (some (1))))), some (.inl n)]) (st' := [.inl (0)]) (h' := h) rfl ?_
      exact av_wp_ret (v := some (.inl (0))) rfl rfl rfl (hq _ (by omega))
    · have c4 : n ≤ len := c4
      refine av_wp_sqF ck_80 2 (pc' := 17) (lv' := [some (.inr (.inr (.inl (some (1))))), some (.inl n)]) (st' := [.inl (1)]) (h' := h) rfl ?_
      exact av_wp_ret (v := some (.inl (1))) rfl rfl rfl (hq _ (by omega))
set_option maxRecDepth 100000 in
set_option maxHeartbeats 4000000 in
theorem ct_81 {g h : av_H} {b r d : Nat → Int} {lim : Nat} {t : TT} (C : CT b lim t r d h) (F : FT g h) {len : Int} (hl : hF h 1 1 = len) (ql : 0 ≤ len ∧ len ≤ 900) (n : Int) (qn : 0 ≤ n ∧ n ≤ len) {Q : Option av_V → av_H → Prop} (hq : ∀ h', CT b n.toNat (adv b n.toNat (0, 0, 0, -1)) r d h' → FT g h' → Q none h') : av_wp none cd_81 0 [some (.inr (.inr (.inl (some (1))))), some (.inl n)] [] h Q := by
  have w := ct_wf C
  refine av_wp_sqF ck_81 3 (pc' := 3) (lv' := [some (.inr (.inr (.inl (some (1))))), some (.inl n)]) (st' := [.inl n, .inr (.inr (.inl (some (1)))), .inr (.inr (.inl (some (1))))]) (h' := h) rfl ?_
  refine wq_cv (p' := 6) (av_qc (.invokevirtual 34) 80 1 0 6) 2 cd_80 [.inl n] (1) 6 [some (.inr (.inr (.inl (some (1))))), some (.inl n)] (ck_81 _ _ rfl) rfl rfl pp_80 rfl rfl rfl (congrArg Prod.fst (ly_k C.1 1 rfl)) rfl rfl rfl rfl ?_
  refine ct_80 C.1 hl ql n (by omega) (fun v pv => ?_)
  show av_wp _ cd_81 6 [some (.inr (.inr (.inl (some (1))))), some (.inl n)] [.inl v, .inr (.inr (.inl (some (1))))] h _
  refine wq_k1 (p' := 9) (ck_81 _ _ rfl) rfl ⟨by omega, by omega⟩ (fun c1 => ?_) (fun _ => ?_)
  · have c1 : v = 0 := c1
    omega
  refine av_wp_sqF ck_81 2 (pc' := 14) (lv' := [some (.inr (.inr (.inl (some (1))))), some (.inl n)]) (st' := [.inl n, .inr (.inr (.inl (some (1))))]) (h' := h) rfl ?_
  refine wq_pi (p' := 17) (ck_81 _ _ rfl) rfl (congrArg Prod.fst (ly_k C.1 1 rfl)) rfl ?_
  refine av_wp_sqF ck_81 2 (pc' := 19) (lv' := [some (.inr (.inr (.inl (some (1))))), some (.inl n)]) (st' := [.inl (0), .inr (.inr (.inl (some (1))))]) (h' := hwF h 1 2 n) rfl ?_
  refine wq_pi (p' := 22) (ck_81 _ _ rfl) rfl (congrArg Prod.fst (ly_k C.1 1 rfl)) rfl ?_
  refine av_wp_sqF ck_81 2 (pc' := 24) (lv' := [some (.inr (.inr (.inl (some (1))))), some (.inl n)]) (st' := [.inl (-1), .inr (.inr (.inl (some (1))))]) (h' := hwF (hwF h 1 2 n) 1 4 (0)) rfl ?_
  refine wq_pi (p' := 27) (ck_81 _ _ rfl) rfl (congrArg Prod.fst (ly_k C.1 1 rfl)) rfl ?_
  have C1 : CT b n.toNat (t.1, 0, t.2.2.1, -1) r d (hwF (hwF (hwF h 1 2 n) 1 4 (0)) 1 6 (-1)) := by
    refine ⟨C.1, C.2.1, C.2.2.1, ?_, ?_, ?_, ?_, ?_, (show hA h 23 = r from ct_r C), (show hA h 25 = d from ct_d C), ⟨w.1, Nat.zero_le _, by omega, w.2.2.2.1, by show (-1 : Int) ≤ -1 ∧ (-1 : Int) ≤ 900; omega⟩, ct_rv C, ct_dv C⟩
    · exact (hF_oth (by decide)).trans ((hF_oth (by decide)).trans (hF_self.trans (by omega)))
    · exact (hF_oth (by decide)).trans ((hF_oth (by decide)).trans ((hF_oth (by decide)).trans (show hF h 1 3 = (t.1 : Int) from ct_f C)))
    · exact (hF_oth (by decide)).trans hF_self
    · exact (hF_oth (by decide)).trans ((hF_oth (by decide)).trans ((hF_oth (by decide)).trans (show hF h 1 5 = t.2.2.1 from ct_s C)))
    · exact hF_self
  have F1 : FT g (hwF (hwF (hwF h 1 2 n) 1 4 (0)) 1 6 (-1)) := FT_wF (FT_wF (FT_wF F rfl) rfl) rfl
  generalize hwF (hwF (hwF h 1 2 n) 1 4 (0)) 1 6 (-1) = h1 at C1 F1 ⊢
  refine av_wp_sqF ck_81 1 (pc' := 28) (lv' := [some (.inr (.inr (.inl (some (1))))), some (.inl n)]) (st' := [.inr (.inr (.inl (some (1))))]) (h' := h1) rfl ?_
  refine wq_cv (p' := 31) (av_qc (.invokevirtual 38) 82 0 0 6) 2 cd_82 [] (1) 6 [some (.inr (.inr (.inl (some (1))))), none] (ck_81 _ _ rfl) rfl rfl pp_82 rfl rfl rfl (congrArg Prod.fst (ly_k C1.1 1 rfl)) rfl rfl rfl rfl ?_
  refine ct_82 C1 F1 (fun h2 C2 F2 => ?_)
  show av_wp _ cd_81 31 [some (.inr (.inr (.inl (some (1))))), some (.inl n)] [] h2 _
  exact av_wp_ret (v := none) rfl rfl rfl (hq h2 C2 F2)
end
section
/-! WHAT IS FAULTED STAYS; ONE WORD BY ITS NUMBER; A SAYING'S ROW IN THE REFERENCE -/
theorem fal_id {t : TT} (h : t.2.2.2 ≠ -1) : fal t = t := by
  unfold fal
  rw [if_neg h]
theorem fal_ne {t : TT} : (fal t).2.2.2 ≠ -1 := by
  show (if t.2.2.2 = -1 then (t.1 : Int) else t.2.2.2) ≠ -1
  split <;> omega
section
variable {b : Nat → Int} {lim : Nat} {t : TT} {row : Nat} {r : Nat → Int}
theorem pkv_w {n : Nat} (h : t.2.2.2 ≠ -1) : pkv b t n = -1 := if_neg (fun z => h z.1)
theorem vlv_w (h : t.2.2.2 ≠ -1) : vlv b t = -1 := if_neg (fun z => h z.1)
theorem cho_w {n : Nat} (h : t.2.2.2 ≠ -1) : cho b lim t n = t := by
  unfold cho
  rw [if_pos (pkv_w h), fal_id h]
theorem nmt_w {lo hi : Int} (h : t.2.2.2 ≠ -1) : nmt b lim t lo hi = t := by
  unfold nmt
  rw [if_neg (fun z => z.1 (vlv_w h)), fal_id h]
theorem sem_w (h : t.2.2.2 ≠ -1) : sem b lim t = t := by
  unfold sem
  rw [if_neg (fun z => h z.1), fal_id h]
theorem rsW_w {n : Nat} (h : t.2.2.2 ≠ -1) : rsW b lim row n t r = (t, r) := by
  cases n with
  | zero => rfl
  | succ n =>
    unfold rsW
    rw [if_pos (pkv_w h)]
theorem rsO_w (h : t.2.2.2 ≠ -1) : (rsO b lim row t r).1 = t := by
  unfold rsO
  split
  · show cho b lim (fal t) 1 = t
    rw [fal_id h, cho_w h]
  · exact cho_w h
theorem rsS_w {k : Nat} {kind : Int} (h : t.2.2.2 ≠ -1) : rsS b lim k kind t r = (t, r) := by
  unfold rsS
  rw [if_neg (fun z => by have z1 := z.1.1; rw [vlv_w h] at z1; omega), fal_id h]
theorem rsP_w {i : Nat} {most : Int} (h : t.2.2.2 ≠ -1) : (rsP b lim row i most t r).1 = t := by
  unfold rsP
  rw [nmt_w h]
  unfold rsP1
  rw [if_pos (pkv_w h)]
theorem rsT_w {ah : Int} (h : t.2.2.2 ≠ -1) : (rsT b lim row ah t r).1 = t := by
  unfold rsT
  rw [rsW_w h]
  unfold rsT1
  rw [if_pos (show pkv b (t, r).1 3 = -1 from pkv_w h)]
  unfold rsT2
  rw [if_pos (show pkv b (t, r).1 4 = -1 from pkv_w h)]
theorem rsB_w (h : t.2.2.2 ≠ -1) : (rsB b lim row t r).1 = t := by
  unfold rsB
  rw [if_pos (pkv_w h), fal_id h, rsW_w h]
theorem rsM1_w {x : TT × (Nat → Int)} (h : x.1.2.2.2 ≠ -1) : rsM1 b lim row x = x := if_pos (pkv_w h)
theorem rsM2_w {x : TT × (Nat → Int)} (h : x.1.2.2.2 ≠ -1) : rsM2 b lim row x = x := if_pos (pkv_w h)
theorem rsM3_w {x : TT × (Nat → Int)} (h : x.1.2.2.2 ≠ -1) : (rsM3 b lim row x).1 = x.1 := by
  have e : (rsP b lim row 1 999 (cho b lim x.1 9) x.2).1 = x.1 := by
    rw [cho_w h]
    exact rsP_w h
  unfold rsM3
  rw [rsM1_w (by rw [e]; exact h), rsM2_w (by rw [e]; exact h), e]
theorem rsM0_f (e : pkv b t 6 = -1) : (rsM0 b lim row t r).1 = fal t := by
  unfold rsM0
  have e1 : cho b lim t 6 = fal t := if_pos e
  rw [e1, cho_w fal_ne]
  exact rsP_w fal_ne
theorem rsM_f (e : pkv b t 6 = -1) : (rsM b lim row t r).1 = fal t := by
  unfold rsM
  rw [if_pos (by omega), rsM3_w (by rw [rsM0_f e]; exact fal_ne), rsM0_f e]
theorem rsM_w (h : t.2.2.2 ≠ -1) : (rsM b lim row t r).1 = t := by
  rw [rsM_f (pkv_w h), fal_id h]
/-- no word of a saying: the fault is at once -/
theorem rsy_f {k : Nat} {ah : Int} (e : pkv b t 0 = -1) : (rsy b lim k ah t r).1 = fal t := by
  have e0 : cho b lim t 0 = fal t := if_pos e
  have e1 : (rs1 b lim k t r).1 = fal t := by
    unfold rs1
    rw [e0]
    exact cho_w fal_ne
  have ek : rsK b t = -1 := by
    unfold rsK
    rw [if_pos (by omega), e]
  unfold rsy
  rw [ek]
  obtain ⟨⟨t1, r1⟩, h1⟩ : ∃ x, rs1 b lim k t r = x := ⟨_, rfl⟩
  rw [h1] at e1 ⊢
  have e1 : t1 = fal t := e1
  subst e1
  unfold rs2
  rw [if_neg (by omega), rsS_w fal_ne]
  unfold rs3
  rw [if_neg (by omega)]
  unfold rs4
  rw [if_neg (by omega)]
  show sem b lim (rsM b lim (k * 21) (fal t) r1).1 = fal t
  rw [rsM_w fal_ne, sem_w fal_ne]
/-- what stands without fault had none before -/
theorem nmt_o {lo hi : Int} (h : (nmt b lim t lo hi).2.2.2 = -1) : t.2.2.2 = -1 ∧ vlv b t ≠ -1 ∧ lo ≤ vlv b t ∧ vlv b t ≤ hi ∧ nmv b t lo hi = vlv b t ∧ nmt b lim t lo hi = adv b lim t := by
  by_cases e : vlv b t ≠ -1 ∧ lo ≤ vlv b t ∧ vlv b t ≤ hi
  · have e1 : nmt b lim t lo hi = adv b lim t := if_pos e
    have e2 : nmv b t lo hi = vlv b t := if_pos e
    rw [e1] at h
    exact ⟨h, e.1, e.2.1, e.2.2, e2, e1⟩
  · have e1 : nmt b lim t lo hi = fal t := if_neg e
    rw [e1] at h
    exact absurd h fal_ne
theorem cho_o {n : Nat} (h : (cho b lim t n).2.2.2 = -1) : t.2.2.2 = -1 ∧ pkv b t n ≠ -1 ∧ cho b lim t n = adv b lim t := by
  by_cases e : pkv b t n = -1
  · rw [show cho b lim t n = fal t from if_pos e] at h
    exact absurd h fal_ne
  · rw [show cho b lim t n = adv b lim t from if_neg e] at h ⊢
    exact ⟨h, e, rfl⟩
theorem sem_o (h : (sem b lim t).2.2.2 = -1) : t.2.2.2 = -1 := by
  by_cases e : t.2.2.2 = -1 ∧ t.2.2.1 = 3
  · exact e.1
  · rw [show sem b lim t = fal t from if_neg e] at h
    exact absurd h fal_ne
/-- one word by its number -/
theorem pk1 {n : Nat} {w : Int} (k : TKW b t) (e : ∀ {f p : Nat}, f ≤ p → (∀ j, f ≤ j → j < p → 97 ≤ b j ∧ b j ≤ 122) → pkf b f p (av_lit n) 0 f true = (if txt b f (p - f) = w then 0 else -1)) : ((t.2.2.2 = -1 ∧ t.2.2.1 = 1 ∧ txtv b t = w) → ¬ pkv b t n = -1) ∧ (¬ (t.2.2.2 = -1 ∧ t.2.2.1 = 1 ∧ txtv b t = w) → pkv b t n = -1) := by
  constructor
  · intro h
    have z3 : pkv b t n = pkf b t.1 t.2.1 (av_lit n) 0 t.1 true := if_pos ⟨h.1, h.2.1⟩
    have z1 : txtv b t = txt b t.1 (t.2.1 - t.1) := if_pos h.2.1
    rw [e k.1 (k.2.1 h.2.1), ← z1, if_pos h.2.2] at z3
    omega
  · intro h
    by_cases h2 : t.2.2.2 = -1 ∧ t.2.2.1 = 1
    · have z3 : pkv b t n = pkf b t.1 t.2.1 (av_lit n) 0 t.1 true := if_pos h2
      have z1 : txtv b t = txt b t.1 (t.2.1 - t.1) := if_pos h2.2
      rw [e k.1 (k.2.1 h2.2), ← z1, if_neg (fun z => h ⟨h2.1, h2.2, z⟩)] at z3
      exact z3
    · exact if_neg h2
theorem adv_gt (h : (adv b lim t).2.2.1 ≠ 0) (w : t.2.1 ≤ lim) : t.2.1 < (adv b lim t).2.1 := by
  have e1 := edn_le (b := b) (s := 4) (lim - t.2.1) t.2.1 rfl w
  generalize hk : edn b lim 4 t.2.1 = k at e1
  by_cases hl : k < lim
  · by_cases h12 : so (b k) = 1 ∨ so (b k) = 2
    · have e2 := edn_le (b := b) (s := so (b k)) (lim - (k + 1)) (k + 1) rfl (by omega)
      have ea : adv b lim t = (k, edn b lim (so (b k)) (k + 1), so (b k), t.2.2.2) := by simp only [adv, hk, if_pos hl, if_pos h12]
      rw [ea]
      show t.2.1 < edn b lim (so (b k)) (k + 1)
      omega
    · have ea : adv b lim t = (k, k + 1, so (b k), t.2.2.2) := by simp only [adv, hk, if_pos hl, if_neg h12]
      rw [ea]
      show t.2.1 < k + 1
      omega
  · have ea : adv b lim t = (k, k, 0, t.2.2.2) := by simp only [adv, hk, if_neg hl]
    rw [ea] at h
    exact absurd rfl h
theorem pkv_s {n : Nat} (h : pkv b t n ≠ -1) : t.2.2.2 = -1 ∧ t.2.2.1 = 1 := by
  by_cases e : t.2.2.2 = -1 ∧ t.2.2.1 = 1
  · exact e
  · exact absurd (if_neg e) h
end
section
variable {g h : av_H} {b : Nat → Int} {lim : Nat} {t : TT} {x17 : Int} {A : Nat → Nat → Int}
theorem ct_132p (N : MT b lim t x17 A h) (F : FD g h) (w : Int) (qw : -9 ≤ w ∧ w ≤ 9000000000000000000) (n : Nat) (e : ∀ {f p : Nat}, f ≤ p → (∀ j, f ≤ j → j < p → 97 ≤ b j ∧ b j ≤ 122) → pkf b f p (av_lit n) 0 f true = (if txt b f (p - f) = w then 0 else -1)) {Q : Option av_V → av_H → Prop} (hq1 : ¬ pkv b t n = -1 → Q (some (.inl 1)) h) (hq0 : pkv b t n = -1 → Q (some (.inl 0)) h) : av_wp none cd_132 0 [some (.inr (.inr (.inl (some (77))))), some (.inr (.inl w)), none] [] h Q :=
  ct_132 N F w qw (fun z => hq1 ((pk1 N.2.2 e).1 z)) (fun z => hq0 ((pk1 N.2.2 e).2 z))
theorem ct_133p (N : MT b lim t x17 A h) (F : FD g h) (w : Int) (qw : -9 ≤ w ∧ w ≤ 9000000000000000000) (n : Nat) (e : ∀ {f p : Nat}, f ≤ p → (∀ j, f ≤ j → j < p → 97 ≤ b j ∧ b j ≤ 122) → pkf b f p (av_lit n) 0 f true = (if txt b f (p - f) = w then 0 else -1)) {Q : Option av_V → av_H → Prop} (hq : ∀ h', MT b lim (cho b lim t n) x17 A h' → FD g h' → Q none h') : av_wp none cd_133 0 [some (.inr (.inr (.inl (some (77))))), some (.inr (.inl w)), none] [] h Q :=
  ct_133 N F w qw (fun z h' N' F' => hq h' (by rw [show cho b lim t n = adv b lim t from if_neg ((pk1 N.2.2 e).1 z)]; exact N') F') (fun z h' N' F' => hq h' (by rw [show cho b lim t n = fal t from if_pos ((pk1 N.2.2 e).2 z)]; exact N') F')
/-- a hand, unlike y -/
def hnd (b : Nat → Int) (lim : Nat) (t : TT) (y : Int) : TT := if pkv b t 1 = -1 ∨ pkv b t 1 = y then fal t else adv b lim t
theorem hnd_o {y : Int} (h : (hnd b lim t y).2.2.2 = -1) : t.2.2.2 = -1 ∧ pkv b t 1 ≠ -1 ∧ pkv b t 1 ≠ y ∧ hnd b lim t y = adv b lim t := by
  by_cases e : pkv b t 1 = -1 ∨ pkv b t 1 = y
  · rw [show hnd b lim t y = fal t from if_pos e] at h
    exact absurd h fal_ne
  · rw [show hnd b lim t y = adv b lim t from if_neg e] at h ⊢
    exact ⟨h, fun z => e (Or.inl z), fun z => e (Or.inr z), rfl⟩
theorem ct_137p (N : MT b lim t x17 A h) (F : FD g h) (y : Int) (qy : -2147483648 ≤ y ∧ y ≤ 2147483647) {Q : Option av_V → av_H → Prop} (hq : ∀ (v : Int) h', (0 ≤ v ∧ v ≤ 2) → ((hnd b lim t y).2.2.2 = -1 → v = pkv b t 1) → MT b lim (hnd b lim t y) x17 A h' → FD g h' → Q (some (.inl v)) h') : av_wp none cd_137 0 [some (.inr (.inr (.inl (some (77))))), some (.inl y), none] [] h Q := by
  refine ct_137 N F y qy (fun z h' N' F' => ?_) (fun v e1 e2 e3 h' N' F' => ?_)
  · have e : hnd b lim t y = fal t := if_pos z
    refine hq 0 h' (by omega) (fun z2 => ?_) (by rw [e]; exact N') F'
    rw [e] at z2
    exact absurd z2 fal_ne
  · have e : hnd b lim t y = adv b lim t := if_neg (by omega)
    have g1 := pkv_le (b := b) (t := t) 1 2 rfl
    exact hq v h' (by omega) (fun _ => e1) (by rw [e]; exact N') F'
end
/-! a saying's row: which array, which place -/
def vq (o : Nat) : Nat := [82, 83, 84, 85, 86, 87, 88, 91, 91, 91, 90, 90, 90, 90, 90, 92, 92, 92, 89].getD o 0
def vm (o : Nat) : Nat := [1, 1, 1, 1, 1, 1, 1, 3, 3, 3, 5, 5, 5, 5, 5, 3, 3, 3, 1].getD o 0
def vo (o : Nat) : Nat := [0, 0, 0, 0, 0, 0, 0, 0, 1, 2, 0, 1, 2, 3, 4, 0, 1, 2, 0].getD o 0
def vk (i o : Nat) : Nat := vm o * i + vo o
theorem vq_inj : ∀ o, o < 19 → ∀ q, q < 19 → o ≠ q → vq o ≠ vq q ∨ (vm o = vm q ∧ vo o ≠ vo q) := by decide +kernel
theorem vq_in : ∀ o, o < 19 → 82 ≤ vq o ∧ vq o ≤ 92 := by decide
theorem vq_len : ∀ o, o < 19 → (c_K (vq o)).1 = 20 ∧ (c_K (vq o)).2 = 960 * vm o ∧ 1 ≤ vm o ∧ vo o < vm o ∧ vm o ≤ 5 := by decide +kernel
theorem vqk_ne {i o q : Nat} (ho : o < 19) (hq : q < 19) (e : o ≠ q) : ¬ (vq o = vq q ∧ vk i o = vk i q) := by
  intro z
  rcases vq_inj o ho q hq e with h | h
  · exact h z.1
  · have := z.2
    unfold vk at this
    rw [h.1] at this
    omega
/-- another saying's row is another place -/
theorem vk_row {i k o q : Nat} (ho : o < 19) (hq : q < 19) (e : i ≠ k) : ¬ (vq o = vq q ∧ vk i o = vk k q) := by
  intro z
  have l1 := vq_len o ho
  have l2 := vq_len q hq
  have em : vm o = vm q := by
    have h1 := l1.2.1
    have h2 := l2.2.1
    rw [z.1] at h1
    omega
  have := z.2
  unfold vk at this
  rw [← em] at this l2
  have h3 : vm o = 1 ∨ vm o = 2 ∨ vm o = 3 ∨ vm o = 4 ∨ vm o = 5 := by omega
  rcases h3 with h | h | h | h | h <;> rw [h] at this l1 l2 <;> omega
def BN (A : Nat → Nat → Int) : Prop := ∀ a, 82 ≤ a → a ≤ 92 → ∀ j, mlo a ≤ A a j ∧ A a j ≤ mhi a
def FRW (i : Nat) (A0 A : Nat → Nat → Int) : Prop := ∀ a j, (∀ o, o < 19 → ¬ (vq o = a ∧ vk i o = j)) → A a j = A0 a j
theorem FRW_row {i k o : Nat} {A0 A : Nat → Nat → Int} (f : FRW i A0 A) (ho : o < 19) (e : i ≠ k) : A (vq o) (vk k o) = A0 (vq o) (vk k o) := f _ _ (fun _ hq => vk_row hq ho e)
def MR (b : Nat → Int) (lim : Nat) (t : TT) (x17 : Int) (A0 : Nat → Nat → Int) (i : Nat) (R : Nat → Int) (h : av_H) : Prop := MT b lim t x17 (hA h) h ∧ (∀ o, o < 19 → hA h (vq o) (vk i o) = R o) ∧ BN (hA h) ∧ FRW i A0 (hA h)
section
variable {g h : av_H} {b : Nat → Int} {lim : Nat} {t t' : TT} {x17 : Int} {A0 : Nat → Nat → Int} {i : Nat} {R : Nat → Int}
theorem mr_tok {h' : av_H} (M : MR b lim t x17 A0 i R h) (N : MT b lim t' x17 (hA h) h') : MR b lim t' x17 A0 i R h' := by
  have e : hA h' = hA h := ns_A N.1
  refine ⟨by rw [e]; exact N, ?_, ?_, ?_⟩
  · rw [e]; exact M.2.1
  · rw [e]; exact M.2.2.1
  · rw [e]; exact M.2.2.2
theorem mr_L (M : MR b lim t x17 A0 i R h) : LY h := M.1.1.1
theorem mr_ld (M : MR b lim t x17 A0 i R h) (o : Nat) (ho : o < 19) {a : Nat} (ea : vq o = a) {x : Int} (ex : x = (vk i o : Int)) : hA h a (Int.toNat x) = R o := by
  subst ex
  rw [← ea]
  exact M.2.1 o ho
theorem FD_wA {a j : Nat} {v : Int} (F : FD g h) (e : rdA a = true) : FD g (hwA h a j v) := ⟨F.1, F.2.1, F.2.2.1, F.2.2.2.1, F.2.2.2.2.1, F.2.2.2.2.2.1, fun k hk => by
  have hne : k ≠ a := fun z => by rw [z, e] at hk; cases hk
  rw [hA_ne hne]
  exact F.2.2.2.2.2.2 k hk⟩
theorem rdA_in {a : Nat} (h1 : 82 ≤ a) (h2 : a ≤ 93) : rdA a = true := by
  simp only [rdA, Bool.and_eq_true]
  exact ⟨Nat.ble_eq_true_of_le h1, Nat.ble_eq_true_of_le h2⟩
theorem mt_wA {a j : Nat} {v : Int} {A : Nat → Nat → Int} (N : MT b lim t x17 A h) (ha : a ≠ 94) : MT b lim t x17 (hA (hwA h a j v)) (hwA h a j v) := by
  obtain ⟨⟨n1, n2, n3, n4, n5, n6⟩, w⟩ := N
  exact ⟨⟨n1, (hA_ne (Ne.symm ha)).trans n2, n3, n4, rfl, n6⟩, w⟩
theorem hA_wA {a j q k : Nat} {v : Int} : hA (hwA h a j v) q k = if q = a ∧ k = j then v else hA h q k := rfl
theorem mr_wA {v : Int} (M : MR b lim t x17 A0 i R h) (o : Nat) (ho : o < 19) (hv : mlo (vq o) ≤ v ∧ v ≤ mhi (vq o)) : MR b lim t x17 A0 i (av_u1 R o v) (hwA h (vq o) (vk i o) v) := by
  have hr := vq_in o ho
  refine ⟨mt_wA M.1 (by omega), fun q hq => ?_, fun a h1 h2 j => ?_, fun a j hj => ?_⟩
  · rw [hA_wA]
    by_cases e : q = o
    · subst e
      rw [if_pos ⟨rfl, rfl⟩]
      exact (if_pos rfl).symm
    · rw [if_neg (vqk_ne hq ho e)]
      exact (M.2.1 q hq).trans (if_neg e).symm
  · rw [hA_wA]
    split
    · next z => rw [z.1]; exact hv
    · exact M.2.2.1 a h1 h2 j
  · rw [hA_wA, if_neg (fun z => hj o ho ⟨z.1.symm, z.2.symm⟩)]
    exact M.2.2.2 a j hj
end
section
variable {sc : av_Sr} {cd : List (Nat × av_E)} {Q : Option av_V → av_H → Prop} {pc p' : Nat} {lv : av_L} {r' : List av_V} {g h : av_H} {b : Nat → Int} {lim : Nat} {t : TT} {x17 : Int} {A0 : Nat → Nat → Int} {i : Nat} {R : Nat → Int}
theorem mr_as {v x : Int} (hx : cd.lookup pc = some (av_q (.iastore))) (hp : pc + 1 = p') (M : MR b lim t x17 A0 i R h) (F : FD g h) (hi : i < 960) (o : Nat) (ho : o < 19) (ex : x = (vk i o : Int)) {a : Nat} (ea : vq o = a) (hv : mlo a ≤ v ∧ v ≤ mhi a) (hw : ∀ h', MR b lim t x17 A0 i (av_u1 R o v) h' → FD g h' → av_wp sc cd p' lv r' h' Q) : av_wp sc cd pc lv (.inl v :: .inl x :: .inr (.inr (.inl (some a))) :: r') h Q := by
  subst ea
  subst ex
  have l1 := vq_len o ho
  have l2 := vq_in o ho
  have hk : hK h (vq o) = (20, 960 * vm o) := by
    rw [ly_k M.1.1.1 (vq o) (Nat.ble_eq_true_of_le (by omega)), ← l1.1, ← l1.2.1]
  have hb : vk i o < 960 * vm o := by
    unfold vk
    have h3 : vm o = 1 ∨ vm o = 2 ∨ vm o = 3 ∨ vm o = 4 ∨ vm o = 5 := by omega
    rcases h3 with h | h | h | h | h <;> rw [h] at l1 ⊢ <;> omega
  exact wq_as (n := 960 * vm o) hx hp hk (by omega) (hw _ (mr_wA M o ho hv) (FD_wA F (rdA_in (by omega) (by omega))))
end
/-! the two rows of a saying are the same: up to which span (s), with its way (w = 1) or without -/
def RX (s w : Nat) (t : TT) (R r : Nat → Int) (row : Nat) : Prop := t.2.2.2 = -1 → (∀ o, o < 15 → o ≠ 4 → R o = r (row + o)) ∧ (∀ j, j < 3 → (r (row + 15 + j) = 0 ∧ R (15 + j) = R (7 + j)) ∨ (j < s ∧ 1 ≤ r (row + 15 + j) ∧ r (row + 15 + j) ≤ 16 ∧ R (15 + j) = R (7 + j) + r (row + 15 + j) - 1)) ∧ ((r (row + 18) = 0 ∧ R 18 = 0) ∨ (r (row + 18) = 2 ∧ R 18 = 1)) ∧ r (row + 19) = 0 ∧ (w = 1 → R 4 = r (row + 4))
section
variable {s w : Nat} {t t' : TT} {R r : Nat → Int} {row : Nat}
theorem rx_t (X : RX s w t R r row) (e : t'.2.2.2 = -1 → t.2.2.2 = -1) : RX s w t' R r row := fun z => X (e z)
theorem rx_f (e : t.2.2.2 ≠ -1) : RX s w t R r row := fun z => absurd z e
theorem rx_s {s' : Nat} (X : RX s w t R r row) (e : s ≤ s') : RX s' w t R r row := fun z => by
  obtain ⟨x1, x2, x3⟩ := X z
  refine ⟨x1, fun j hj => ?_, x3⟩
  rcases x2 j hj with h | h
  · exact Or.inl h
  · exact Or.inr ⟨by omega, h.2⟩
theorem u1_eq {f : Nat → Int} {i : Nat} {v : Int} : av_u1 f i v i = v := if_pos rfl
theorem u1_ne {f : Nat → Int} {i j : Nat} {v : Int} (e : j ≠ i) : av_u1 f i v j = f j := if_neg e
/-- a plain cell -/
theorem rx_u {o j : Nat} {v v' : Int} (X : RX s w t R r row) (ho : o < 15 ∧ o ≠ 4 ∧ (o < 7 ∨ 10 ≤ o)) (ej : j = row + o) (e : t.2.2.2 = -1 → v = v') : RX s w t (av_u1 R o v) (av_u1 r j v') row := fun z => by
  subst ej
  obtain ⟨x1, x2, x3, x4, x5⟩ := X z
  refine ⟨fun q h1 h2 => ?_, fun j hj => ?_, ?_, ?_, fun hw => ?_⟩
  · by_cases eq : q = o
    · subst eq; rw [u1_eq, u1_eq]; exact e z
    · rw [u1_ne eq, u1_ne (by omega)]; exact x1 q h1 h2
  · rw [u1_ne (by omega), u1_ne (by omega), u1_ne (by omega)]; exact x2 j hj
  · rw [u1_ne (by omega), u1_ne (by omega)]; exact x3
  · rw [u1_ne (by omega)]; exact x4
  · rw [u1_ne (by omega), u1_ne (by omega)]; exact x5 hw
/-- its way -/
theorem rx_way {v v' : Int} (X : RX s w t R r row) (e : t.2.2.2 = -1 → v = v') : RX s 1 t (av_u1 R 4 v) (av_u1 r (row + 4) v') row := fun z => by
  obtain ⟨x1, x2, x3, x4, x5⟩ := X z
  refine ⟨fun q h1 h2 => ?_, fun j hj => ?_, ?_, ?_, fun hw => ?_⟩
  · rw [u1_ne h2, u1_ne (by omega)]; exact x1 q h1 h2
  · rw [u1_ne (by omega), u1_ne (by omega), u1_ne (by omega)]; exact x2 j hj
  · rw [u1_ne (by omega), u1_ne (by omega)]; exact x3
  · rw [u1_ne (by omega)]; exact x4
  · rw [u1_eq, u1_eq]; exact e z
/-- a span's first, then its last -/
theorem rx_lo {i : Nat} {v v' : Int} (X : RX s w t R r row) (hi : i < 3) (hs : s ≤ i) (e : t.2.2.2 = -1 → v = v') : RX i w t (av_u1 (av_u1 R (7 + i) v) (15 + i) v) (av_u1 r (row + 7 + i) v') row := fun z => by
  obtain ⟨x1, x2, x3, x4, x5⟩ := X z
  refine ⟨fun q h1 h2 => ?_, fun j hj => ?_, ?_, ?_, fun hw => ?_⟩
  · rw [u1_ne (by omega)]
    by_cases eq : q = 7 + i
    · subst eq; rw [u1_eq, show row + (7 + i) = row + 7 + i by omega, u1_eq]; exact e z
    · rw [u1_ne eq, u1_ne (by omega)]; exact x1 q h1 h2
  · rw [u1_ne (i := row + 7 + i) (by omega)]
    by_cases eq : j = i
    · subst eq
      rw [u1_eq, u1_ne (by omega), u1_eq]
      rcases x2 j hj with h | h
      · exact Or.inl ⟨h.1, rfl⟩
      · omega
    · rw [u1_ne (by omega), u1_ne (by omega), u1_ne (by omega), u1_ne (by omega)]
      rcases x2 j hj with h | h
      · exact Or.inl h
      · exact Or.inr ⟨by omega, h.2⟩
  · rw [u1_ne (by omega), u1_ne (by omega), u1_ne (by omega)]; exact x3
  · rw [u1_ne (by omega)]; exact x4
  · rw [u1_ne (by omega), u1_ne (by omega), u1_ne (by omega)]; exact x5 hw
theorem rx_hi {i : Nat} {v v' f : Int} (X : RX i w t R r row) (hi : i < 3) (ef : R (7 + i) = f) (e : t.2.2.2 = -1 → v = v' ∧ f ≤ v' ∧ v' ≤ f + 15) {f' : Int} (ef' : t.2.2.2 = -1 → f' = f) : RX (i + 1) w t (av_u1 R (15 + i) v) (av_u1 r (row + 15 + i) (v' - f' + 1)) row := fun z => by
  obtain ⟨x1, x2, x3, x4, x5⟩ := X z
  refine ⟨fun q h1 h2 => ?_, fun j hj => ?_, ?_, ?_, fun hw => ?_⟩
  · rw [u1_ne (by omega), u1_ne (by omega)]; exact x1 q h1 h2
  · rw [u1_ne (i := 15 + i) (j := 7 + j) (by omega)]
    by_cases eq : j = i
    · subst eq
      rw [u1_eq, u1_eq, ef]
      have e1 := e z
      have e2 := ef' z
      exact Or.inr ⟨by omega, by omega, by omega, by omega⟩
    · rw [u1_ne (by omega), u1_ne (by omega)]
      rcases x2 j hj with h | h
      · exact Or.inl h
      · exact Or.inr ⟨by omega, h.2⟩
  · rw [u1_ne (by omega), u1_ne (by omega)]; exact x3
  · rw [u1_ne (by omega)]; exact x4
  · rw [u1_ne (by omega), u1_ne (by omega)]; exact x5 hw
/-- that it may be lost -/
theorem rx_ls (X : RX s w t R r row) : RX s w t (av_u1 R 18 1) (av_u1 r (row + 18) 2) row := fun z => by
  obtain ⟨x1, x2, x3, x4, x5⟩ := X z
  refine ⟨fun q h1 h2 => ?_, fun j hj => ?_, ?_, ?_, fun hw => ?_⟩
  · rw [u1_ne (by omega), u1_ne (by omega)]; exact x1 q h1 h2
  · rw [u1_ne (by omega), u1_ne (by omega), u1_ne (by omega)]; exact x2 j hj
  · rw [u1_eq, u1_eq]; exact Or.inr ⟨rfl, rfl⟩
  · rw [u1_ne (by omega)]; exact x4
  · rw [u1_ne (by omega), u1_ne (by omega)]; exact x5 hw
theorem rs0_v {k o : Nat} (ho : o < 21) : rs0 k r (k * 21 + o) = if (7 ≤ o ∧ o < 10) ∨ 15 ≤ o then 0 else -1 := by
  unfold rs0 ufil
  split
  · rw [if_pos (by omega)]
  · split
    · rw [if_pos (by omega)]
    · rw [if_pos (by omega), if_neg (by omega)]
theorem rs0_n {k j : Nat} (hj : j < k * 21 ∨ k * 21 + 21 ≤ j) : rs0 k r j = r j := by
  unfold rs0 ufil
  rw [if_neg (by omega), if_neg (by omega), if_neg (by omega)]
/-- a new row -/
theorem rx_0 {k : Nat} {wv v v' : Int} (e0 : R 0 = wv) (e1 : R 1 = v) (e2 : R 2 = -1) (e3 : R 3 = -1) (e5 : R 5 = -1) (e6 : R 6 = -1) (e7 : R 7 = 0 ∧ R 8 = 0 ∧ R 9 = 0) (e10 : R 10 = -1 ∧ R 11 = -1 ∧ R 12 = -1 ∧ R 13 = -1 ∧ R 14 = -1) (e15 : R 15 = 0 ∧ R 16 = 0 ∧ R 17 = 0) (e18 : R 18 = 0) (e : t.2.2.2 = -1 → v = v') : RX 0 0 t R (av_u1 (av_u1 (rs0 k r) (k * 21) wv) (k * 21 + 1) v') (k * 21) := fun z => by
  refine ⟨fun o h1 h2 => ?_, fun j hj => ?_, ?_, ?_, fun hw => absurd hw (by decide)⟩
  · by_cases q1 : o = 1
    · subst q1; rw [u1_eq, e1]; exact e z
    · rw [u1_ne (by omega)]
      by_cases q0 : o = 0
      · subst q0; rw [show k * 21 + 0 = k * 21 from rfl, u1_eq]; exact e0
      · rw [u1_ne (by omega), rs0_v (by omega)]
        rcases (show o = 2 ∨ o = 3 ∨ o = 5 ∨ o = 6 ∨ o = 7 ∨ o = 8 ∨ o = 9 ∨ o = 10 ∨ o = 11 ∨ o = 12 ∨ o = 13 ∨ o = 14 by omega) with q | q | q | q | q | q | q | q | q | q | q | q <;> subst q <;> simp [e2, e3, e5, e6, e7, e10]
  · rw [u1_ne (by omega), u1_ne (by omega), show k * 21 + 15 + j = k * 21 + (15 + j) by omega, rs0_v (by omega), if_pos (by omega)]
    left
    refine ⟨rfl, ?_⟩
    rcases (show j = 0 ∨ j = 1 ∨ j = 2 by omega) with q | q | q <;> subst q <;> simp [e7, e15]
  · rw [u1_ne (by omega), u1_ne (by omega), rs0_v (by omega), if_pos (by omega)]
    exact Or.inl ⟨rfl, e18⟩
  · rw [u1_ne (by omega), u1_ne (by omega), rs0_v (by omega), if_pos (by omega)]
end
section
variable {s w : Nat} {b : Nat → Int} {lim : Nat} {t : TT} {R r : Nat → Int} {row : Nat}
theorem hnd_1 : hnd b lim t (-1) = cho b lim t 1 := by
  unfold hnd cho
  by_cases e : pkv b t 1 = -1
  · rw [if_pos (Or.inl e), if_pos e]
  · rw [if_neg (by omega), if_neg e]
theorem hnd_O {y : Int} (e : t.2.2.2 = -1 → y = r (row + 1)) : hnd b lim t y = (rsO b lim row t r).1 := by
  by_cases h : t.2.2.2 = -1
  · rw [e h]
    unfold hnd rsO
    by_cases e1 : pkv b t 1 = r (row + 1)
    · rw [if_pos (Or.inr e1), if_pos e1]
      exact (cho_w fal_ne).symm
    · rw [if_neg e1]
      show (if pkv b t 1 = -1 ∨ pkv b t 1 = r (row + 1) then fal t else adv b lim t) = cho b lim t 1
      unfold cho
      by_cases e2 : pkv b t 1 = -1
      · rw [if_pos (Or.inl e2), if_pos e2]
      · rw [if_neg (by omega), if_neg e2]
  · rw [rsO_w h, show hnd b lim t y = fal t from if_pos (Or.inl (pkv_w h)), fal_id h]
theorem rx_O {y v : Int} (X : RX s w t R r row) (e : t.2.2.2 = -1 → y = r (row + 1)) (ev : (hnd b lim t y).2.2.2 = -1 → v = pkv b t 1) : RX s w (rsO b lim row t r).1 (av_u1 R 2 v) (rsO b lim row t r).2 row := by
  intro z
  rw [← hnd_O e] at z
  have z1 := hnd_o z
  have e1 : rsO b lim row t r = (cho b lim t 1, av_u1 r (row + 2) (pkv b t 1)) := if_neg (by rw [← e z1.1]; exact z1.2.2.1)
  rw [e1]
  exact rx_u (X := X) (o := 2) (by omega) rfl (fun _ => ev z) z1.1
theorem rx_S {k : Nat} {kind v : Int} (X : RX s w t R r (k * 21)) (ev : (rsS b lim k kind t r).1.2.2.2 = -1 → v = vlv b t) : RX s w (rsS b lim k kind t r).1 (av_u1 R 3 v) (rsS b lim k kind t r).2 (k * 21) := by
  intro z
  have ez := ev z
  by_cases c : (0 ≤ vlv b t ∧ vlv b t < k) ∧ fts r kind (r (k * 21 + 1)) ((vlv b t).toNat * 21)
  · have e1 : rsS b lim k kind t r = (adv b lim t, av_u1 r (k * 21 + 3) (vlv b t)) := if_pos c
    rw [e1] at z ⊢
    exact rx_u (X := X) (o := 3) (by omega) rfl (fun _ => ez) z
  · have e1 : rsS b lim k kind t r = (fal t, r) := if_neg c
    rw [e1] at z
    exact absurd z fal_ne
theorem rsW_e {n : Nat} (e : pkv b t 2 = -1) : rsW b lim row n t r = (t, r) := by
  cases n with
  | zero => rfl
  | succ n =>
    unfold rsW
    rw [if_pos e]
theorem rsW_g {n : Nat} (e : ¬ pkv b t 2 = -1) : rsW b lim row (n + 1) t r = rsW b lim row n (nmt b lim (adv b lim t) 0 999) (av_u1 r (row + 10 + (pkv b t 2).toNat) (nmv b (adv b lim t) 0 999)) := by
  conv => lhs; unfold rsW
  rw [if_neg e]
theorem pkv_p (k : TKW b t) (h : pkv b t 2 ≠ -1) : t.1 < t.2.1 := by
  have z2 := pkv_s h
  have z3 : pkv b t 2 = pkf b t.1 t.2.1 (av_lit 2) 0 t.1 true := if_pos z2
  have k1 := k.1
  by_cases e : t.1 < t.2.1
  · exact e
  · rw [ltw_2 k.1 (k.2.1 z2.2), show t.2.1 - t.1 = 0 by omega] at z3
    exact absurd z3 h
theorem vlv_s (h : vlv b t ≠ -1) : t.2.2.2 = -1 ∧ t.2.2.1 = 2 := by
  by_cases e : t.2.2.2 = -1 ∧ t.2.2.1 = 2 ∧ (t.2.1 : Int) - t.1 ≤ 4
  · exact ⟨e.1, e.2.1⟩
  · exact absurd (if_neg e) h
/-- how far the words have come -/
theorem rsW_m {n : Nat} (w0 : WF lim t) (hn : lim - t.2.1 < n + 1) (h : pkv b t 2 ≠ -1) (h2 : pkv b (nmt b lim (adv b lim t) 0 999) 2 ≠ -1) : lim - (nmt b lim (adv b lim t) 0 999).2.1 < n := by
  have s1 := pkv_s h2
  obtain ⟨o1, o2, o3, o4, o5, o6⟩ := nmt_o s1.1
  have s2 := vlv_s o2
  have a1 := adv_gt (b := b) (lim := lim) (t := t) (by rw [s2.2]; decide) w0.2.1
  have w1 := (adv_ok (b := b) w0).1
  rw [o6] at s1 ⊢
  have a2 := adv_gt (b := b) (lim := lim) (t := adv b lim t) (by rw [s1.2]; decide) w1.2.1
  have w2 := (adv_ok (b := b) w1).1.2.1
  omega
theorem vk90 {i w : Nat} (h : w < 5) : vk i (10 + w) = 5 * i + w ∧ vq (10 + w) = 90 := by
  rcases (show w = 0 ∨ w = 1 ∨ w = 2 ∨ w = 3 ∨ w = 4 by omega) with e | e | e | e | e <;> subst e <;> exact ⟨rfl, rfl⟩
theorem vk91 {i w : Nat} (h : w < 3) : vk i (7 + w) = 3 * i + w ∧ vq (7 + w) = 91 := by
  rcases (show w = 0 ∨ w = 1 ∨ w = 2 by omega) with e | e | e <;> subst e <;> exact ⟨rfl, rfl⟩
theorem vk92 {i w : Nat} (h : w < 3) : vk i (15 + w) = 3 * i + w ∧ vq (15 + w) = 92 := by
  rcases (show w = 0 ∨ w = 1 ∨ w = 2 by omega) with e | e | e <;> subst e <;> exact ⟨rfl, rfl⟩
theorem mr_0 {x17 : Int} {i : Nat} {h : av_H} (N : MT b lim t x17 (hA h) h) (B : BN (hA h)) : MR b lim t x17 (hA h) i (fun o => hA h (vq o) (vk i o)) h := ⟨N, fun _ _ => rfl, B, fun _ _ _ => rfl⟩
end
theorem vq_1 : ∀ o, o < 19 → vq o ≤ 89 → vm o = 1 ∧ vo o = 0 := by decide
theorem frw_a {A0 A : Nat → Nat → Int} {i j a : Nat} (f : FRW i A0 A) (ha : a ≤ 89) (e : j ≠ i) : A a j = A0 a j := f a j (fun o ho z => by
  have h1 := vq_1 o ho (by rw [z.1]; exact ha)
  have h2 := z.2
  unfold vk at h2
  rw [h1.1, h1.2] at h2
  omega)
theorem rsS_fr {b : Nat → Int} {lim k j : Nat} {kind : Int} {t : TT} {r : Nat → Int} (e : j ≠ k * 21 + 3) : (rsS b lim k kind t r).2 j = r j := by
  unfold rsS
  split
  · exact u1_ne e
  · rfl
theorem rsS_o {b : Nat → Int} {lim k : Nat} {kind : Int} {t : TT} {r : Nat → Int} (e : (rsS b lim k kind t r).1.2.2.2 = -1) : t.2.2.2 = -1 ∧ 0 ≤ vlv b t ∧ vlv b t < k ∧ rsS b lim k kind t r = (adv b lim t, av_u1 r (k * 21 + 3) (vlv b t)) := by
  by_cases c : (0 ≤ vlv b t ∧ vlv b t < k) ∧ fts r kind (r (k * 21 + 1)) ((vlv b t).toNat * 21)
  · have e1 : rsS b lim k kind t r = (adv b lim t, av_u1 r (k * 21 + 3) (vlv b t)) := if_pos c
    rw [e1] at e
    exact ⟨e, c.1.1, c.1.2, e1⟩
  · have e1 : rsS b lim k kind t r = (fal t, r) := if_neg c
    rw [e1] at e
    exact absurd e fal_ne
end
