/-! THE REFERENCE READS, exactly -/
set_option maxRecDepth 100000 in
set_option maxHeartbeats 4000000 in
theorem ct_131 {g h : av_H} {b : Nat → Int} {lim : Nat} {t : TT} {x17 : Int} {A : Nat → Nat → Int} (N : MT b lim t x17 A h) (F : FD g h) {Q : Option av_V → av_H → Prop} (hq : ∀ h', MT b lim (fal t) x17 A h' → FD g h' → Q none h') : av_wp none cd_131 0 [some (.inr (.inr (.inl (some (77)))))] [] h Q := by
  have g2 := wr_f t
  have k77 := congrArg Prod.fst (ly_k N.1.1 77 rfl)
  refine av_wp_seq 1 (pc' := 1) (lv' := [some (.inr (.inr (.inl (some (77)))))]) (st' := [.inr (.inr (.inl (some (77))))]) (h' := h) rfl ?_
  refine wq_gb (p' := 4) rfl rfl k77 rfl (ns_25 N.1) ?_
  refine wq_k1 (p' := 7) rfl rfl ⟨by omega, by omega⟩ (fun c1 => ?_) (fun c2 => ?_)
  · have c1 : wrv t = 0 := c1
    have ef : fal t = (t.1, t.2.1, t.2.2.1, (t.1 : Int)) := by unfold fal; rw [if_pos (by omega)]
    have ok := fal_ok N.2.1 N.2.2
    rw [ef] at ok hq
    refine av_wp_seq 2 (pc' := 10) (lv' := [some (.inr (.inr (.inl (some (77)))))]) (st' := [.inl (1), .inr (.inr (.inl (some (77))))]) (h' := h) rfl ?_
    refine ns_p25 (p' := 13) rfl rfl N.1 F (by omega) (fun h1 N1 F1 => ?_)
    refine av_wp_seq 2 (pc' := 15) (lv' := [some (.inr (.inr (.inl (some (77)))))]) (st' := [.inr (.inr (.inl (some (77)))), .inr (.inr (.inl (some (77))))]) (h' := h1) rfl ?_
    refine wq_gi (p' := 18) rfl rfl (congrArg Prod.fst (ly_k N1.1 77 rfl)) rfl (ns_21 N1) ?_
    refine ns_p18 (p' := 21) rfl rfl N1 F1 (fun h2 N2 F2 => ?_)
    refine av_wp_ret (v := none) rfl rfl rfl (hq h2 ⟨?_, ok⟩ F2)
    have e1 : wrv (t.1, t.2.1, t.2.2.1, (t.1 : Int)) = 1 := by unfold wrv; rw [if_neg (by show ¬ (t.1 : Int) = -1; omega)]
    rw [e1]
    exact N2
  · have c2 : wrv t ≠ 0 := c2
    have ef : fal t = t := by unfold fal; rw [if_neg (by omega)]
    rw [ef] at hq
    exact av_wp_ret (v := none) rfl rfl rfl (hq h N F)

set_option maxRecDepth 100000 in
set_option maxHeartbeats 4000000 in
theorem ct_130t {g h : av_H} {b : Nat → Int} {lim : Nat} {t : TT} {x17 : Int} {A : Nat → Nat → Int} (N : MT b lim t x17 A h) (F : FD g h) {Q : Option av_V → av_H → Prop} (hq : ∀ h', MT b lim (adv b lim t) x17 A h' → FD g h' → Q none h') : av_wp none cd_130 0 [some (.inr (.inr (.inl (some (77))))), none] [] h Q :=
  ct_130 N.1 F N.2.1 (fun h' N' F' => hq h' ⟨N', adv_ok N.2.1⟩ F')

set_option maxRecDepth 100000 in
set_option maxHeartbeats 4000000 in
theorem ct_132 {g h : av_H} {b : Nat → Int} {lim : Nat} {t : TT} {x17 : Int} {A : Nat → Nat → Int} (N : MT b lim t x17 A h) (F : FD g h) (w : Int) (qw : -9 ≤ w ∧ w ≤ 9000000000000000000) {Q : Option av_V → av_H → Prop} (hq1 : (t.2.2.2 = -1 ∧ t.2.2.1 = 1 ∧ txtv b t = w) → Q (some (.inl 1)) h) (hq0 : ¬ (t.2.2.2 = -1 ∧ t.2.2.1 = 1 ∧ txtv b t = w) → Q (some (.inl 0)) h) : av_wp none cd_132 0 [some (.inr (.inr (.inl (some (77))))), some (.inr (.inl w)), none] [] h Q := by
  have gw1 : t.1 ≤ 900 ∧ t.2.1 ≤ lim ∧ lim ≤ 900 := ⟨N.2.1.1, N.2.1.2.1, N.2.1.2.2.1⟩
  have gw2 : -1 ≤ t.2.2.2 ∧ t.2.2.2 ≤ 900 := N.2.1.2.2.2.2
  have gt := tok_f t N.2.1.2.2.2.1
  have gt1 := gt.1
  have gtr := gt.2.2.2.2
  clear gt
  have gwr := wr_f t
  have gtx := txtv_r N.2.2
  refine av_wp_seq 1 (pc' := 1) (lv' := [some (.inr (.inr (.inl (some (77))))), some (.inr (.inl w)), none]) (st' := [.inr (.inr (.inl (some (77))))]) (h' := h) rfl ?_
  refine wq_gb (p' := 4) rfl rfl (congrArg Prod.fst (ly_k N.1.1 77 rfl)) rfl (ns_25 N.1) ?_
  refine wq_k1 (p' := 7) rfl rfl ⟨by omega, by omega⟩ (fun c1 => ?_) (fun c2 => ?_)
  · have c1 : (wrv t) ≠ (0) := c1
    refine av_wp_seq 1 (pc' := 29) (lv' := [some (.inr (.inr (.inl (some (77))))), some (.inr (.inl w)), none]) (st' := [.inl (0)]) (h' := h) rfl ?_
    refine av_wp_ret (v := some (.inl (0))) rfl rfl rfl ?_
    exact hq0 (by omega)
  · have c2 : (wrv t) = (0) := c2
    refine av_wp_seq 1 (pc' := 8) (lv' := [some (.inr (.inr (.inl (some (77))))), some (.inr (.inl w)), none]) (st' := [.inr (.inr (.inl (some (77))))]) (h' := h) rfl ?_
    refine wq_gi (p' := 11) rfl rfl (congrArg Prod.fst (ly_k N.1.1 77 rfl)) rfl (ns_22 N.1) ?_
    refine av_wp_seq 1 (pc' := 12) (lv' := [some (.inr (.inr (.inl (some (77))))), some (.inr (.inl w)), none]) (st' := [.inl (1), .inl (tokv t)]) (h' := h) rfl ?_
    refine wq_k2 (p' := 15) rfl rfl ⟨by omega, by omega⟩ ⟨by omega, by omega⟩ (fun c3 => ?_) (fun c4 => ?_)
    · have c3 : (tokv t) ≠ (1) := c3
      refine av_wp_seq 1 (pc' := 29) (lv' := [some (.inr (.inr (.inl (some (77))))), some (.inr (.inl w)), none]) (st' := [.inl (0)]) (h' := h) rfl ?_
      refine av_wp_ret (v := some (.inl (0))) rfl rfl rfl ?_
      exact hq0 (by omega)
    · have c4 : (tokv t) = (1) := c4
      refine av_wp_seq 1 (pc' := 16) (lv' := [some (.inr (.inr (.inl (some (77))))), some (.inr (.inl w)), none]) (st' := [.inr (.inr (.inl (some (77))))]) (h' := h) rfl ?_
      refine wq_gl (p' := 19) rfl rfl (congrArg Prod.fst (ly_k N.1.1 77 rfl)) rfl (ns_24 N.1) ?_
      refine av_wp_seq 1 (pc' := 20) (lv' := [some (.inr (.inr (.inl (some (77))))), some (.inr (.inl w)), none]) (st' := [.inr (.inl w), .inr (.inl (txtv b t))]) (h' := h) rfl ?_
      refine av_wp_seq 1 (pc' := 21) (lv' := [some (.inr (.inr (.inl (some (77))))), some (.inr (.inl w)), none]) (st' := [.inl (if av_wl w < av_wl (txtv b t) then 1 else if av_wl (txtv b t) = av_wl w then 0 else -1)]) (h' := h) rfl ?_
      have g6 := lcf (x := (txtv b t)) (y := w) (by omega) (by omega)
      generalize (if av_wl w < av_wl (txtv b t) then 1 else if av_wl (txtv b t) = av_wl w then 0 else -1) = v5 at g6 ⊢
      have g6r := g6.2.2
      replace g6 := g6.1
      refine wq_k1 (p' := 24) rfl rfl ⟨by omega, by omega⟩ (fun c7 => ?_) (fun c8 => ?_)
      · have c7 : v5 ≠ (0) := c7
        have x9 : (txtv b t) ≠ w := fun z => c7 (g6.mpr z)
        clear c7 g6 g6r
        refine av_wp_seq 1 (pc' := 29) (lv' := [some (.inr (.inr (.inl (some (77))))), some (.inr (.inl w)), none]) (st' := [.inl (0)]) (h' := h) rfl ?_
        refine av_wp_ret (v := some (.inl (0))) rfl rfl rfl ?_
        exact hq0 (by omega)
      · have c8 : v5 = (0) := c8
        have x10 : (txtv b t) = w := g6.mp c8
        clear c8 g6 g6r
        refine av_wp_seq 2 (pc' := 29) (lv' := [some (.inr (.inr (.inl (some (77))))), some (.inr (.inl w)), none]) (st' := [.inl (1)]) (h' := h) rfl ?_
        refine av_wp_ret (v := some (.inl (1))) rfl rfl rfl ?_
        exact hq1 (by omega)

set_option maxRecDepth 100000 in
set_option maxHeartbeats 4000000 in
theorem ct_133 {g h : av_H} {b : Nat → Int} {lim : Nat} {t : TT} {x17 : Int} {A : Nat → Nat → Int} (N : MT b lim t x17 A h) (F : FD g h) (w : Int) (qw : -9 ≤ w ∧ w ≤ 9000000000000000000) {Q : Option av_V → av_H → Prop} (hq1 : (t.2.2.2 = -1 ∧ t.2.2.1 = 1 ∧ txtv b t = w) → ∀ h', MT b lim (adv b lim t) x17 A h' → FD g h' → Q none h') (hq0 : ¬ (t.2.2.2 = -1 ∧ t.2.2.1 = 1 ∧ txtv b t = w) → ∀ h', MT b lim (fal t) x17 A h' → FD g h' → Q none h') : av_wp none cd_133 0 [some (.inr (.inr (.inl (some (77))))), some (.inr (.inl w)), none] [] h Q := by
  have gw1 : t.1 ≤ 900 ∧ t.2.1 ≤ lim ∧ lim ≤ 900 := ⟨N.2.1.1, N.2.1.2.1, N.2.1.2.2.1⟩
  have gw2 : -1 ≤ t.2.2.2 ∧ t.2.2.2 ≤ 900 := N.2.1.2.2.2.2
  have gt := tok_f t N.2.1.2.2.2.1
  have gtr := gt.2.2.2.2
  clear gt
  refine av_wp_seq 2 (pc' := 2) (lv' := [some (.inr (.inr (.inl (some (77))))), some (.inr (.inl w)), none]) (st' := [.inr (.inl w), .inr (.inr (.inl (some (77))))]) (h' := h) rfl ?_
  refine wq_cv (p' := 5) (av_qc (.invokevirtual 187) 132 1 0 8) 3 cd_132 [.inr (.inl w)] (77) 8 [some (.inr (.inr (.inl (some (77))))), some (.inr (.inl w)), none] rfl rfl rfl pp_132 rfl rfl rfl (congrArg Prod.fst (ly_k N.1.1 77 rfl)) rfl rfl rfl rfl ?_
  refine ct_132 N F w (by omega) (fun z1 => ?_) (fun z1 => ?_)
  · show av_wp _ cd_133 5 [some (.inr (.inr (.inl (some (77))))), some (.inr (.inl w)), none] [.inl (1)] h _
    refine av_wp_seq 2 (pc' := 9) (lv' := [some (.inr (.inr (.inl (some (77))))), some (.inr (.inl w)), none]) (st' := [.inr (.inr (.inl (some (77))))]) (h' := h) rfl ?_
    refine wq_cv (p' := 12) (av_qc (.invokevirtual 191) 130 0 0 8) 2 cd_130 [] (77) 8 [some (.inr (.inr (.inl (some (77))))), none] rfl rfl rfl pp_130 rfl rfl rfl (congrArg Prod.fst (ly_k N.1.1 77 rfl)) rfl rfl rfl rfl ?_
    refine ct_130t N F (fun h2 N3 F4 => ?_)
    show av_wp _ cd_133 12 [some (.inr (.inr (.inl (some (77))))), some (.inr (.inl w)), none] [] h2 _
    refine av_wp_seq 1 (pc' := 19) (lv' := [some (.inr (.inr (.inl (some (77))))), some (.inr (.inl w)), none]) (st' := []) (h' := h2) rfl ?_
    refine av_wp_ret (v := none) rfl rfl rfl ?_
    exact hq1 z1 h2 N3 F4
  · show av_wp _ cd_133 5 [some (.inr (.inr (.inl (some (77))))), some (.inr (.inl w)), none] [.inl (0)] h _
    refine av_wp_seq 2 (pc' := 16) (lv' := [some (.inr (.inr (.inl (some (77))))), some (.inr (.inl w)), none]) (st' := [.inr (.inr (.inl (some (77))))]) (h' := h) rfl ?_
    refine wq_cv (p' := 19) (av_qc (.invokevirtual 194) 131 0 0 8) 1 cd_131 [] (77) 8 [some (.inr (.inr (.inl (some (77)))))] rfl rfl rfl pp_131 rfl rfl rfl (congrArg Prod.fst (ly_k N.1.1 77 rfl)) rfl rfl rfl rfl ?_
    refine ct_131 N F (fun h5 N6 F7 => ?_)
    show av_wp _ cd_133 19 [some (.inr (.inr (.inl (some (77))))), some (.inr (.inl w)), none] [] h5 _
    refine av_wp_ret (v := none) rfl rfl rfl ?_
    exact hq0 z1 h5 N6 F7

set_option maxRecDepth 100000 in
set_option maxHeartbeats 4000000 in
theorem ct_134 {g h : av_H} {b : Nat → Int} {lim : Nat} {t : TT} {x17 : Int} {A : Nat → Nat → Int} (N : MT b lim t x17 A h) (F : FD g h) (x y : Int) (qx : 0 ≤ x ∧ x ≤ 2000) (qy : -1 ≤ y ∧ y ≤ 2147483647) {Q : Option av_V → av_H → Prop} (hq : ∀ (v : Int) h', MT b lim (nmt b lim t x y) x17 A h' → ((nmt b lim t x y).2.2.2 = -1 → v = nmv b t x y) → FD g h' → (0 ≤ v ∧ v ≤ 9999 ∧ (v = 0 ∨ (x ≤ v ∧ v ≤ y))) → Q (some (.inl v)) h') : av_wp none cd_134 0 [some (.inr (.inr (.inl (some (77))))), some (.inl x), some (.inl y), none] [] h Q := by
  have gw1 : t.1 ≤ 900 ∧ t.2.1 ≤ lim ∧ lim ≤ 900 := ⟨N.2.1.1, N.2.1.2.1, N.2.1.2.2.1⟩
  have gw2 : -1 ≤ t.2.2.2 ∧ t.2.2.2 ≤ 900 := N.2.1.2.2.2.2
  have gt := tok_f t N.2.1.2.2.2.1
  have gt2 := gt.2.1
  have gtr := gt.2.2.2.2
  clear gt
  have gwr := wr_f t
  have gvl := vl_f N.2.2
  have gv : t.2.2.1 = 2 → (t.2.1 : Int) - t.1 ≤ 4 → valv b t = dgv b t.1 (t.2.1 - t.1) ∧ 0 ≤ dgv b t.1 (t.2.1 - t.1) ∧ dgv b t.1 (t.2.1 - t.1) ≤ 9999 := fun h1 h2 => by
    have k := N.2.2
    have kk := k.1
    have h3 := dgc_dgv (b := b) (f := t.1) (t.2.1 - t.1) (by omega) (fun i hi => k.2.2 h1 (t.1 + i) (by omega) (by omega))
    have h4 : (10 : Int) ^ (t.2.1 - t.1) ≤ 10000 := by
      have hh : ∀ n, n < 5 → (10 : Int) ^ n ≤ 10000 := by decide
      exact hh _ (by omega)
    exact ⟨(show valv b t = dgc b t.1 (t.2.1 - t.1) from if_pos h1).trans h3.1, h3.2.1, by omega⟩
  have gq : -2147483648 ≤ valv b t ∧ valv b t ≤ 2147483647 := valv_r N.2.2
  refine av_wp_seq 1 (pc' := 1) (lv' := [some (.inr (.inr (.inl (some (77))))), some (.inl x), some (.inl y), none]) (st' := [.inr (.inr (.inl (some (77))))]) (h' := h) rfl ?_
  refine wq_gi (p' := 4) rfl rfl (congrArg Prod.fst (ly_k N.1.1 77 rfl)) rfl (ns_23 N.1) ?_
  refine av_wp_seq 2 (pc' := 6) (lv' := [some (.inr (.inr (.inl (some (77))))), some (.inl x), some (.inl y), some (.inl (valv b t))]) (st' := [.inr (.inr (.inl (some (77))))]) (h' := h) rfl ?_
  refine wq_gb (p' := 9) rfl rfl (congrArg Prod.fst (ly_k N.1.1 77 rfl)) rfl (ns_25 N.1) ?_
  refine wq_k1 (p' := 12) rfl rfl ⟨by omega, by omega⟩ (fun c1 => ?_) (fun c2 => ?_)
  · have c1 : (wrv t) = (0) := c1
    refine av_wp_seq 1 (pc' := 15) (lv' := [some (.inr (.inr (.inl (some (77))))), some (.inl x), some (.inl y), some (.inl (valv b t))]) (st' := [.inr (.inr (.inl (some (77))))]) (h' := h) rfl ?_
    refine wq_gi (p' := 18) rfl rfl (congrArg Prod.fst (ly_k N.1.1 77 rfl)) rfl (ns_22 N.1) ?_
    refine av_wp_seq 1 (pc' := 19) (lv' := [some (.inr (.inr (.inl (some (77))))), some (.inl x), some (.inl y), some (.inl (valv b t))]) (st' := [.inl (2), .inl (tokv t)]) (h' := h) rfl ?_
    refine wq_k2 (p' := 22) rfl rfl ⟨by omega, by omega⟩ ⟨by omega, by omega⟩ (fun c3 => ?_) (fun c4 => ?_)
    · have c3 : (tokv t) ≠ (2) := c3
      refine av_wp_seq 1 (pc' := 33) (lv' := [some (.inr (.inr (.inl (some (77))))), some (.inl x), some (.inl y), some (.inl (valv b t))]) (st' := [.inr (.inr (.inl (some (77))))]) (h' := h) rfl ?_
      refine wq_cv (p' := 36) (av_qc (.invokevirtual 194) 131 0 0 8) 1 cd_131 [] (77) 8 [some (.inr (.inr (.inl (some (77)))))] rfl rfl rfl pp_131 rfl rfl rfl (congrArg Prod.fst (ly_k N.1.1 77 rfl)) rfl rfl rfl rfl ?_
      refine ct_131 N F (fun h5 N6 F7 => ?_)
      show av_wp _ cd_134 36 [some (.inr (.inr (.inl (some (77))))), some (.inl x), some (.inl y), some (.inl (valv b t))] [] h5 _
      refine av_wp_seq 1 (pc' := 37) (lv' := [some (.inr (.inr (.inl (some (77))))), some (.inl x), some (.inl y), some (.inl (valv b t))]) (st' := [.inl (0)]) (h' := h5) rfl ?_
      refine av_wp_ret (v := some (.inl (0))) rfl rfl rfl ?_
      have z1 : nmt b lim t x y = fal t := if_neg (by omega)
      have z3 : (fal t).2.2.2 ≠ -1 := by show (if t.2.2.2 = -1 then (t.1 : Int) else t.2.2.2) ≠ -1; split <;> omega
      exact hq _ h5 (by rw [z1]; exact N6) (by intro z; exfalso; rw [z1] at z; omega) F7 (by omega)
    · have c4 : (tokv t) = (2) := c4
      refine av_wp_seq 2 (pc' := 24) (lv' := [some (.inr (.inr (.inl (some (77))))), some (.inl x), some (.inl y), some (.inl (valv b t))]) (st' := [.inl x, .inl (valv b t)]) (h' := h) rfl ?_
      refine wq_k2 (p' := 27) rfl rfl ⟨by omega, by omega⟩ ⟨by omega, by omega⟩ (fun c8 => ?_) (fun c9 => ?_)
      · have c8 : (valv b t) < x := c8
        refine av_wp_seq 1 (pc' := 33) (lv' := [some (.inr (.inr (.inl (some (77))))), some (.inl x), some (.inl y), some (.inl (valv b t))]) (st' := [.inr (.inr (.inl (some (77))))]) (h' := h) rfl ?_
        refine wq_cv (p' := 36) (av_qc (.invokevirtual 194) 131 0 0 8) 1 cd_131 [] (77) 8 [some (.inr (.inr (.inl (some (77)))))] rfl rfl rfl pp_131 rfl rfl rfl (congrArg Prod.fst (ly_k N.1.1 77 rfl)) rfl rfl rfl rfl ?_
        refine ct_131 N F (fun h10 N11 F12 => ?_)
        show av_wp _ cd_134 36 [some (.inr (.inr (.inl (some (77))))), some (.inl x), some (.inl y), some (.inl (valv b t))] [] h10 _
        refine av_wp_seq 1 (pc' := 37) (lv' := [some (.inr (.inr (.inl (some (77))))), some (.inl x), some (.inl y), some (.inl (valv b t))]) (st' := [.inl (0)]) (h' := h10) rfl ?_
        refine av_wp_ret (v := some (.inl (0))) rfl rfl rfl ?_
        have z1 : nmt b lim t x y = fal t := if_neg (by omega)
        have z3 : (fal t).2.2.2 ≠ -1 := by show (if t.2.2.2 = -1 then (t.1 : Int) else t.2.2.2) ≠ -1; split <;> omega
        exact hq _ h10 (by rw [z1]; exact N11) (by intro z; exfalso; rw [z1] at z; omega) F12 (by omega)
      · have c9 : x ≤ (valv b t) := c9
        refine av_wp_seq 2 (pc' := 29) (lv' := [some (.inr (.inr (.inl (some (77))))), some (.inl x), some (.inl y), some (.inl (valv b t))]) (st' := [.inl y, .inl (valv b t)]) (h' := h) rfl ?_
        refine wq_k2 (p' := 32) rfl rfl ⟨by omega, by omega⟩ ⟨by omega, by omega⟩ (fun c13 => ?_) (fun c14 => ?_)
        · have c13 : (valv b t) ≤ y := c13
          refine av_wp_seq 1 (pc' := 39) (lv' := [some (.inr (.inr (.inl (some (77))))), some (.inl x), some (.inl y), some (.inl (valv b t))]) (st' := [.inr (.inr (.inl (some (77))))]) (h' := h) rfl ?_
          refine wq_cv (p' := 42) (av_qc (.invokevirtual 191) 130 0 0 8) 2 cd_130 [] (77) 8 [some (.inr (.inr (.inl (some (77))))), none] rfl rfl rfl pp_130 rfl rfl rfl (congrArg Prod.fst (ly_k N.1.1 77 rfl)) rfl rfl rfl rfl ?_
          refine ct_130t N F (fun h15 N16 F17 => ?_)
          show av_wp _ cd_134 42 [some (.inr (.inr (.inl (some (77))))), some (.inl x), some (.inl y), some (.inl (valv b t))] [] h15 _
          refine av_wp_seq 1 (pc' := 43) (lv' := [some (.inr (.inr (.inl (some (77))))), some (.inl x), some (.inl y), some (.inl (valv b t))]) (st' := [.inl (valv b t)]) (h' := h15) rfl ?_
          refine av_wp_ret (v := some (.inl (valv b t))) rfl rfl rfl ?_
          have z1 : nmt b lim t x y = adv b lim t := if_pos (by omega)
          have z2 : nmv b t x y = vlv b t := if_pos (by omega)
          exact hq _ h15 (by rw [z1]; exact N16) (by intro _; rw [z2]; omega) F17 (by omega)
        · have c14 : y < (valv b t) := c14
          refine av_wp_seq 1 (pc' := 33) (lv' := [some (.inr (.inr (.inl (some (77))))), some (.inl x), some (.inl y), some (.inl (valv b t))]) (st' := [.inr (.inr (.inl (some (77))))]) (h' := h) rfl ?_
          refine wq_cv (p' := 36) (av_qc (.invokevirtual 194) 131 0 0 8) 1 cd_131 [] (77) 8 [some (.inr (.inr (.inl (some (77)))))] rfl rfl rfl pp_131 rfl rfl rfl (congrArg Prod.fst (ly_k N.1.1 77 rfl)) rfl rfl rfl rfl ?_
          refine ct_131 N F (fun h18 N19 F20 => ?_)
          show av_wp _ cd_134 36 [some (.inr (.inr (.inl (some (77))))), some (.inl x), some (.inl y), some (.inl (valv b t))] [] h18 _
          refine av_wp_seq 1 (pc' := 37) (lv' := [some (.inr (.inr (.inl (some (77))))), some (.inl x), some (.inl y), some (.inl (valv b t))]) (st' := [.inl (0)]) (h' := h18) rfl ?_
          refine av_wp_ret (v := some (.inl (0))) rfl rfl rfl ?_
          have z1 : nmt b lim t x y = fal t := if_neg (by omega)
          have z3 : (fal t).2.2.2 ≠ -1 := by show (if t.2.2.2 = -1 then (t.1 : Int) else t.2.2.2) ≠ -1; split <;> omega
          exact hq _ h18 (by rw [z1]; exact N19) (by intro z; exfalso; rw [z1] at z; omega) F20 (by omega)
  · have c2 : (wrv t) ≠ (0) := c2
    refine av_wp_seq 1 (pc' := 13) (lv' := [some (.inr (.inr (.inl (some (77))))), some (.inl x), some (.inl y), some (.inl (valv b t))]) (st' := [.inl (0)]) (h' := h) rfl ?_
    refine av_wp_ret (v := some (.inl (0))) rfl rfl rfl ?_
    have z1 : nmt b lim t x y = fal t := if_neg (by omega)
    have z2 : fal t = t := by unfold fal; rw [if_neg (by omega)]
    exact hq _ h (by rw [z1, z2]; exact N) (by intro z; exfalso; rw [z1, z2] at z; omega) F (by omega)

set_option maxRecDepth 100000 in
set_option maxHeartbeats 4000000 in
theorem ct_135 {g h : av_H} {b : Nat → Int} {lim : Nat} {t : TT} {x17 : Int} {A : Nat → Nat → Int} (N : MT b lim t x17 A h) (F : FD g h)  {Q : Option av_V → av_H → Prop} (hq : ∀ h', MT b lim (sem b lim t) x17 A h' → FD g h' → Q none h') : av_wp none cd_135 0 [some (.inr (.inr (.inl (some (77)))))] [] h Q := by
  have gw1 : t.1 ≤ 900 ∧ t.2.1 ≤ lim ∧ lim ≤ 900 := ⟨N.2.1.1, N.2.1.2.1, N.2.1.2.2.1⟩
  have gw2 : -1 ≤ t.2.2.2 ∧ t.2.2.2 ≤ 900 := N.2.1.2.2.2.2
  have gt := tok_f t N.2.1.2.2.2.1
  have gt59 := gt.2.2.2.1
  have gtr := gt.2.2.2.2
  clear gt
  have gwr := wr_f t
  refine av_wp_seq 1 (pc' := 1) (lv' := [some (.inr (.inr (.inl (some (77)))))]) (st' := [.inr (.inr (.inl (some (77))))]) (h' := h) rfl ?_
  refine wq_gb (p' := 4) rfl rfl (congrArg Prod.fst (ly_k N.1.1 77 rfl)) rfl (ns_25 N.1) ?_
  refine wq_k1 (p' := 7) rfl rfl ⟨by omega, by omega⟩ (fun c1 => ?_) (fun c2 => ?_)
  · have c1 : (wrv t) = (0) := c1
    refine av_wp_seq 1 (pc' := 9) (lv' := [some (.inr (.inr (.inl (some (77)))))]) (st' := [.inr (.inr (.inl (some (77))))]) (h' := h) rfl ?_
    refine wq_gi (p' := 12) rfl rfl (congrArg Prod.fst (ly_k N.1.1 77 rfl)) rfl (ns_22 N.1) ?_
    refine av_wp_seq 1 (pc' := 14) (lv' := [some (.inr (.inr (.inl (some (77)))))]) (st' := [.inl (59), .inl (tokv t)]) (h' := h) rfl ?_
    refine wq_k2 (p' := 17) rfl rfl ⟨by omega, by omega⟩ ⟨by omega, by omega⟩ (fun c3 => ?_) (fun c4 => ?_)
    · have c3 : (tokv t) ≠ (59) := c3
      refine av_wp_seq 1 (pc' := 25) (lv' := [some (.inr (.inr (.inl (some (77)))))]) (st' := [.inr (.inr (.inl (some (77))))]) (h' := h) rfl ?_
      refine wq_cv (p' := 28) (av_qc (.invokevirtual 194) 131 0 0 8) 1 cd_131 [] (77) 8 [some (.inr (.inr (.inl (some (77)))))] rfl rfl rfl pp_131 rfl rfl rfl (congrArg Prod.fst (ly_k N.1.1 77 rfl)) rfl rfl rfl rfl ?_
      refine ct_131 N F (fun h5 N6 F7 => ?_)
      show av_wp _ cd_135 28 [some (.inr (.inr (.inl (some (77)))))] [] h5 _
      refine av_wp_ret (v := none) rfl rfl rfl ?_
      have z1 : sem b lim t = fal t := if_neg (by omega)
      exact hq h5 (by rw [z1]; exact N6) F7
    · have c4 : (tokv t) = (59) := c4
      refine av_wp_seq 1 (pc' := 18) (lv' := [some (.inr (.inr (.inl (some (77)))))]) (st' := [.inr (.inr (.inl (some (77))))]) (h' := h) rfl ?_
      refine wq_cv (p' := 21) (av_qc (.invokevirtual 191) 130 0 0 8) 2 cd_130 [] (77) 8 [some (.inr (.inr (.inl (some (77))))), none] rfl rfl rfl pp_130 rfl rfl rfl (congrArg Prod.fst (ly_k N.1.1 77 rfl)) rfl rfl rfl rfl ?_
      refine ct_130t N F (fun h8 N9 F10 => ?_)
      show av_wp _ cd_135 21 [some (.inr (.inr (.inl (some (77)))))] [] h8 _
      refine av_wp_seq 1 (pc' := 28) (lv' := [some (.inr (.inr (.inl (some (77)))))]) (st' := []) (h' := h8) rfl ?_
      refine av_wp_ret (v := none) rfl rfl rfl ?_
      have z1 : sem b lim t = adv b lim t := if_pos (by omega)
      exact hq h8 (by rw [z1]; exact N9) F10
  · have c2 : (wrv t) ≠ (0) := c2
    refine av_wp_ret (v := none) rfl rfl rfl ?_
    have z1 : sem b lim t = fal t := if_neg (by omega)
    have z2 : fal t = t := by unfold fal; rw [if_neg (by omega)]
    exact hq h (by rw [z1, z2]; exact N) F

set_option maxRecDepth 100000 in
set_option maxHeartbeats 4000000 in
theorem ct_138 {g h : av_H} {b : Nat → Int} {lim : Nat} {t : TT} {x17 : Int} {A : Nat → Nat → Int} (N : MT b lim t x17 A h) (F : FD g h)  {Q : Option av_V → av_H → Prop} (hq : ∀ v : Int, ((pkv b t 2 = -1 ∧ v = -1) ∨ (pkv b t 2 = 0 ∧ v = 0) ∨ (pkv b t 2 = 1 ∧ v = 1) ∨ (pkv b t 2 = 2 ∧ v = 2) ∨ (pkv b t 2 = 3 ∧ v = 3) ∨ (pkv b t 2 = 4 ∧ v = 4)) → Q (some (.inl v)) h) : av_wp none cd_138 0 [some (.inr (.inr (.inl (some (77)))))] [] h Q := by
  have gw1 : t.1 ≤ 900 ∧ t.2.1 ≤ lim ∧ lim ≤ 900 := ⟨N.2.1.1, N.2.1.2.1, N.2.1.2.2.1⟩
  have gw2 : -1 ≤ t.2.2.2 ∧ t.2.2.2 ≤ 900 := N.2.1.2.2.2.2
  have gt := tok_f t N.2.1.2.2.2.1
  have gt1 := gt.1
  have gtr := gt.2.2.2.2
  clear gt
  have gwr := wr_f t
  have gtx := txtv_r N.2.2
  refine av_wp_seq 1 (pc' := 1) (lv' := [some (.inr (.inr (.inl (some (77)))))]) (st' := [.inr (.inr (.inl (some (77))))]) (h' := h) rfl ?_
  refine wq_gb (p' := 4) rfl rfl (congrArg Prod.fst (ly_k N.1.1 77 rfl)) rfl (ns_25 N.1) ?_
  refine wq_k1 (p' := 7) rfl rfl ⟨by omega, by omega⟩ (fun c1 => ?_) (fun c2 => ?_)
  · have c1 : (wrv t) ≠ (0) := c1
    refine av_wp_seq 1 (pc' := 16) (lv' := [some (.inr (.inr (.inl (some (77)))))]) (st' := [.inl (-1)]) (h' := h) rfl ?_
    refine av_wp_ret (v := some (.inl (-1))) rfl rfl rfl ?_
    have z3 : pkv b t 2 = -1 := if_neg (by omega)
    exact hq _ (Or.inl ⟨z3, rfl⟩)
  · have c2 : (wrv t) = (0) := c2
    refine av_wp_seq 1 (pc' := 8) (lv' := [some (.inr (.inr (.inl (some (77)))))]) (st' := [.inr (.inr (.inl (some (77))))]) (h' := h) rfl ?_
    refine wq_gi (p' := 11) rfl rfl (congrArg Prod.fst (ly_k N.1.1 77 rfl)) rfl (ns_22 N.1) ?_
    refine av_wp_seq 1 (pc' := 12) (lv' := [some (.inr (.inr (.inl (some (77)))))]) (st' := [.inl (1), .inl (tokv t)]) (h' := h) rfl ?_
    refine wq_k2 (p' := 15) rfl rfl ⟨by omega, by omega⟩ ⟨by omega, by omega⟩ (fun c3 => ?_) (fun c4 => ?_)
    · have c3 : (tokv t) = (1) := c3
      refine av_wp_seq 1 (pc' := 18) (lv' := [some (.inr (.inr (.inl (some (77)))))]) (st' := [.inr (.inr (.inl (some (77))))]) (h' := h) rfl ?_
      refine wq_gl (p' := 21) rfl rfl (congrArg Prod.fst (ly_k N.1.1 77 rfl)) rfl (ns_24 N.1) ?_
      refine av_wp_seq 1 (pc' := 24) (lv' := [some (.inr (.inr (.inl (some (77)))))]) (st' := [.inr (.inl (8863997)), .inr (.inl (txtv b t))]) (h' := h) rfl ?_
      refine av_wp_seq 1 (pc' := 25) (lv' := [some (.inr (.inr (.inl (some (77)))))]) (st' := [.inl (if av_wl (8863997) < av_wl (txtv b t) then 1 else if av_wl (txtv b t) = av_wl (8863997) then 0 else -1)]) (h' := h) rfl ?_
      have g6 := lcf (x := (txtv b t)) (y := (8863997)) (by omega) (by omega)
      generalize (if av_wl (8863997) < av_wl (txtv b t) then 1 else if av_wl (txtv b t) = av_wl (8863997) then 0 else -1) = v5 at g6 ⊢
      have g6r := g6.2.2
      replace g6 := g6.1
      refine wq_k1 (p' := 28) rfl rfl ⟨by omega, by omega⟩ (fun c7 => ?_) (fun c8 => ?_)
      · have c7 : v5 ≠ (0) := c7
        have x9 : (txtv b t) ≠ (8863997) := fun z => c7 (g6.mpr z)
        clear c7 g6 g6r
        refine av_wp_seq 1 (pc' := 31) (lv' := [some (.inr (.inr (.inl (some (77)))))]) (st' := [.inr (.inr (.inl (some (77))))]) (h' := h) rfl ?_
        refine wq_gl (p' := 34) rfl rfl (congrArg Prod.fst (ly_k N.1.1 77 rfl)) rfl (ns_24 N.1) ?_
        refine av_wp_seq 1 (pc' := 37) (lv' := [some (.inr (.inr (.inl (some (77)))))]) (st' := [.inr (.inl (271277)), .inr (.inl (txtv b t))]) (h' := h) rfl ?_
        refine av_wp_seq 1 (pc' := 38) (lv' := [some (.inr (.inr (.inl (some (77)))))]) (st' := [.inl (if av_wl (271277) < av_wl (txtv b t) then 1 else if av_wl (txtv b t) = av_wl (271277) then 0 else -1)]) (h' := h) rfl ?_
        have g11 := lcf (x := (txtv b t)) (y := (271277)) (by omega) (by omega)
        generalize (if av_wl (271277) < av_wl (txtv b t) then 1 else if av_wl (txtv b t) = av_wl (271277) then 0 else -1) = v10 at g11 ⊢
        have g11r := g11.2.2
        replace g11 := g11.1
        refine wq_k1 (p' := 41) rfl rfl ⟨by omega, by omega⟩ (fun c12 => ?_) (fun c13 => ?_)
        · have c12 : v10 ≠ (0) := c12
          have x14 : (txtv b t) ≠ (271277) := fun z => c12 (g11.mpr z)
          clear c12 g11 g11r
          refine av_wp_seq 1 (pc' := 44) (lv' := [some (.inr (.inr (.inl (some (77)))))]) (st' := [.inr (.inr (.inl (some (77))))]) (h' := h) rfl ?_
          refine wq_gl (p' := 47) rfl rfl (congrArg Prod.fst (ly_k N.1.1 77 rfl)) rfl (ns_24 N.1) ?_
          refine av_wp_seq 1 (pc' := 50) (lv' := [some (.inr (.inr (.inl (some (77)))))]) (st' := [.inr (.inl (2968)), .inr (.inl (txtv b t))]) (h' := h) rfl ?_
          refine av_wp_seq 1 (pc' := 51) (lv' := [some (.inr (.inr (.inl (some (77)))))]) (st' := [.inl (if av_wl (2968) < av_wl (txtv b t) then 1 else if av_wl (txtv b t) = av_wl (2968) then 0 else -1)]) (h' := h) rfl ?_
          have g16 := lcf (x := (txtv b t)) (y := (2968)) (by omega) (by omega)
          generalize (if av_wl (2968) < av_wl (txtv b t) then 1 else if av_wl (txtv b t) = av_wl (2968) then 0 else -1) = v15 at g16 ⊢
          have g16r := g16.2.2
          replace g16 := g16.1
          refine wq_k1 (p' := 54) rfl rfl ⟨by omega, by omega⟩ (fun c17 => ?_) (fun c18 => ?_)
          · have c17 : v15 ≠ (0) := c17
            have x19 : (txtv b t) ≠ (2968) := fun z => c17 (g16.mpr z)
            clear c17 g16 g16r
            refine av_wp_seq 1 (pc' := 57) (lv' := [some (.inr (.inr (.inl (some (77)))))]) (st' := [.inr (.inr (.inl (some (77))))]) (h' := h) rfl ?_
            refine wq_gl (p' := 60) rfl rfl (congrArg Prod.fst (ly_k N.1.1 77 rfl)) rfl (ns_24 N.1) ?_
            refine av_wp_seq 1 (pc' := 63) (lv' := [some (.inr (.inr (.inl (some (77)))))]) (st' := [.inr (.inl (326369)), .inr (.inl (txtv b t))]) (h' := h) rfl ?_
            refine av_wp_seq 1 (pc' := 64) (lv' := [some (.inr (.inr (.inl (some (77)))))]) (st' := [.inl (if av_wl (326369) < av_wl (txtv b t) then 1 else if av_wl (txtv b t) = av_wl (326369) then 0 else -1)]) (h' := h) rfl ?_
            have g21 := lcf (x := (txtv b t)) (y := (326369)) (by omega) (by omega)
            generalize (if av_wl (326369) < av_wl (txtv b t) then 1 else if av_wl (txtv b t) = av_wl (326369) then 0 else -1) = v20 at g21 ⊢
            have g21r := g21.2.2
            replace g21 := g21.1
            refine wq_k1 (p' := 67) rfl rfl ⟨by omega, by omega⟩ (fun c22 => ?_) (fun c23 => ?_)
            · have c22 : v20 ≠ (0) := c22
              have x24 : (txtv b t) ≠ (326369) := fun z => c22 (g21.mpr z)
              clear c22 g21 g21r
              refine av_wp_seq 1 (pc' := 70) (lv' := [some (.inr (.inr (.inl (some (77)))))]) (st' := [.inr (.inr (.inl (some (77))))]) (h' := h) rfl ?_
              refine wq_gl (p' := 73) rfl rfl (congrArg Prod.fst (ly_k N.1.1 77 rfl)) rfl (ns_24 N.1) ?_
              refine av_wp_seq 1 (pc' := 76) (lv' := [some (.inr (.inr (.inl (some (77)))))]) (st' := [.inr (.inl (1905383)), .inr (.inl (txtv b t))]) (h' := h) rfl ?_
              refine av_wp_seq 1 (pc' := 77) (lv' := [some (.inr (.inr (.inl (some (77)))))]) (st' := [.inl (if av_wl (1905383) < av_wl (txtv b t) then 1 else if av_wl (txtv b t) = av_wl (1905383) then 0 else -1)]) (h' := h) rfl ?_
              have g26 := lcf (x := (txtv b t)) (y := (1905383)) (by omega) (by omega)
              generalize (if av_wl (1905383) < av_wl (txtv b t) then 1 else if av_wl (txtv b t) = av_wl (1905383) then 0 else -1) = v25 at g26 ⊢
              have g26r := g26.2.2
              replace g26 := g26.1
              refine wq_k1 (p' := 80) rfl rfl ⟨by omega, by omega⟩ (fun c27 => ?_) (fun c28 => ?_)
              · have c27 : v25 ≠ (0) := c27
                have x29 : (txtv b t) ≠ (1905383) := fun z => c27 (g26.mpr z)
                clear c27 g26 g26r
                refine av_wp_seq 1 (pc' := 83) (lv' := [some (.inr (.inr (.inl (some (77)))))]) (st' := [.inl (-1)]) (h' := h) rfl ?_
                refine av_wp_ret (v := some (.inl (-1))) rfl rfl rfl ?_
                have z2 : t.2.2.2 = -1 ∧ t.2.2.1 = 1 := by clear gtx; omega
                have z3 : pkv b t 2 = pkf b t.1 t.2.1 (av_lit 2) 0 t.1 true := if_pos z2
                have z1 : txtv b t = txt b t.1 (t.2.1 - t.1) := if_pos z2.2
                rw [ltw_2 N.2.2.1 (N.2.2.2.1 z2.2), ← z1] at z3
                rw [if_neg x9, if_neg x14, if_neg x19, if_neg x24, if_neg x29] at z3
                exact hq _ (Or.inl ⟨z3, rfl⟩)
              · have c28 : v25 = (0) := c28
                have x30 : (txtv b t) = (1905383) := g26.mp c28
                clear c28 g26 g26r
                refine av_wp_seq 1 (pc' := 81) (lv' := [some (.inr (.inr (.inl (some (77)))))]) (st' := [.inl (4)]) (h' := h) rfl ?_
                refine av_wp_ret (v := some (.inl (4))) rfl rfl rfl ?_
                have z2 : t.2.2.2 = -1 ∧ t.2.2.1 = 1 := by clear gtx; omega
                have z3 : pkv b t 2 = pkf b t.1 t.2.1 (av_lit 2) 0 t.1 true := if_pos z2
                have z1 : txtv b t = txt b t.1 (t.2.1 - t.1) := if_pos z2.2
                rw [ltw_2 N.2.2.1 (N.2.2.2.1 z2.2), ← z1] at z3
                rw [if_neg x9, if_neg x14, if_neg x19, if_neg x24, if_pos x30] at z3
                exact hq _ (Or.inr (Or.inr (Or.inr (Or.inr (Or.inr (⟨z3, rfl⟩))))))
            · have c23 : v20 = (0) := c23
              have x31 : (txtv b t) = (326369) := g21.mp c23
              clear c23 g21 g21r
              refine av_wp_seq 1 (pc' := 68) (lv' := [some (.inr (.inr (.inl (some (77)))))]) (st' := [.inl (3)]) (h' := h) rfl ?_
              refine av_wp_ret (v := some (.inl (3))) rfl rfl rfl ?_
              have z2 : t.2.2.2 = -1 ∧ t.2.2.1 = 1 := by clear gtx; omega
              have z3 : pkv b t 2 = pkf b t.1 t.2.1 (av_lit 2) 0 t.1 true := if_pos z2
              have z1 : txtv b t = txt b t.1 (t.2.1 - t.1) := if_pos z2.2
              rw [ltw_2 N.2.2.1 (N.2.2.2.1 z2.2), ← z1] at z3
              rw [if_neg x9, if_neg x14, if_neg x19, if_pos x31] at z3
              exact hq _ (Or.inr (Or.inr (Or.inr (Or.inr (Or.inl ⟨z3, rfl⟩)))))
          · have c18 : v15 = (0) := c18
            have x32 : (txtv b t) = (2968) := g16.mp c18
            clear c18 g16 g16r
            refine av_wp_seq 1 (pc' := 55) (lv' := [some (.inr (.inr (.inl (some (77)))))]) (st' := [.inl (2)]) (h' := h) rfl ?_
            refine av_wp_ret (v := some (.inl (2))) rfl rfl rfl ?_
            have z2 : t.2.2.2 = -1 ∧ t.2.2.1 = 1 := by clear gtx; omega
            have z3 : pkv b t 2 = pkf b t.1 t.2.1 (av_lit 2) 0 t.1 true := if_pos z2
            have z1 : txtv b t = txt b t.1 (t.2.1 - t.1) := if_pos z2.2
            rw [ltw_2 N.2.2.1 (N.2.2.2.1 z2.2), ← z1] at z3
            rw [if_neg x9, if_neg x14, if_pos x32] at z3
            exact hq _ (Or.inr (Or.inr (Or.inr (Or.inl ⟨z3, rfl⟩))))
        · have c13 : v10 = (0) := c13
          have x33 : (txtv b t) = (271277) := g11.mp c13
          clear c13 g11 g11r
          refine av_wp_seq 1 (pc' := 42) (lv' := [some (.inr (.inr (.inl (some (77)))))]) (st' := [.inl (1)]) (h' := h) rfl ?_
          refine av_wp_ret (v := some (.inl (1))) rfl rfl rfl ?_
          have z2 : t.2.2.2 = -1 ∧ t.2.2.1 = 1 := by clear gtx; omega
          have z3 : pkv b t 2 = pkf b t.1 t.2.1 (av_lit 2) 0 t.1 true := if_pos z2
          have z1 : txtv b t = txt b t.1 (t.2.1 - t.1) := if_pos z2.2
          rw [ltw_2 N.2.2.1 (N.2.2.2.1 z2.2), ← z1] at z3
          rw [if_neg x9, if_pos x33] at z3
          exact hq _ (Or.inr (Or.inr (Or.inl ⟨z3, rfl⟩)))
      · have c8 : v5 = (0) := c8
        have x34 : (txtv b t) = (8863997) := g6.mp c8
        clear c8 g6 g6r
        refine av_wp_seq 1 (pc' := 29) (lv' := [some (.inr (.inr (.inl (some (77)))))]) (st' := [.inl (0)]) (h' := h) rfl ?_
        refine av_wp_ret (v := some (.inl (0))) rfl rfl rfl ?_
        have z2 : t.2.2.2 = -1 ∧ t.2.2.1 = 1 := by clear gtx; omega
        have z3 : pkv b t 2 = pkf b t.1 t.2.1 (av_lit 2) 0 t.1 true := if_pos z2
        have z1 : txtv b t = txt b t.1 (t.2.1 - t.1) := if_pos z2.2
        rw [ltw_2 N.2.2.1 (N.2.2.2.1 z2.2), ← z1] at z3
        rw [if_pos x34] at z3
        exact hq _ (Or.inr (Or.inl ⟨z3, rfl⟩))
    · have c4 : (tokv t) ≠ (1) := c4
      refine av_wp_seq 1 (pc' := 16) (lv' := [some (.inr (.inr (.inl (some (77)))))]) (st' := [.inl (-1)]) (h' := h) rfl ?_
      refine av_wp_ret (v := some (.inl (-1))) rfl rfl rfl ?_
      have z3 : pkv b t 2 = -1 := if_neg (by omega)
      exact hq _ (Or.inl ⟨z3, rfl⟩)

set_option maxRecDepth 100000 in
set_option maxHeartbeats 4000000 in
theorem ct_139 {g h : av_H} {b : Nat → Int} {lim : Nat} {t : TT} {x17 : Int} {A : Nat → Nat → Int} (N : MT b lim t x17 A h) (F : FD g h)  {Q : Option av_V → av_H → Prop} (hq : ∀ v : Int, ((pkv b t 0 = -1 ∧ v = -1) ∨ (pkv b t 0 = 0 ∧ v = 0) ∨ (pkv b t 0 = 1 ∧ v = 1) ∨ (pkv b t 0 = 2 ∧ v = 2) ∨ (pkv b t 0 = 3 ∧ v = 4) ∨ (pkv b t 0 = 4 ∧ v = 5) ∨ (pkv b t 0 = 5 ∧ v = 6) ∨ (pkv b t 0 = 6 ∧ v = 7)) → Q (some (.inl v)) h) : av_wp none cd_139 0 [some (.inr (.inr (.inl (some (77)))))] [] h Q := by
  have gw1 : t.1 ≤ 900 ∧ t.2.1 ≤ lim ∧ lim ≤ 900 := ⟨N.2.1.1, N.2.1.2.1, N.2.1.2.2.1⟩
  have gw2 : -1 ≤ t.2.2.2 ∧ t.2.2.2 ≤ 900 := N.2.1.2.2.2.2
  have gt := tok_f t N.2.1.2.2.2.1
  have gt1 := gt.1
  have gtr := gt.2.2.2.2
  clear gt
  have gwr := wr_f t
  have gtx := txtv_r N.2.2
  refine av_wp_seq 1 (pc' := 1) (lv' := [some (.inr (.inr (.inl (some (77)))))]) (st' := [.inr (.inr (.inl (some (77))))]) (h' := h) rfl ?_
  refine wq_gb (p' := 4) rfl rfl (congrArg Prod.fst (ly_k N.1.1 77 rfl)) rfl (ns_25 N.1) ?_
  refine wq_k1 (p' := 7) rfl rfl ⟨by omega, by omega⟩ (fun c1 => ?_) (fun c2 => ?_)
  · have c1 : (wrv t) ≠ (0) := c1
    refine av_wp_seq 1 (pc' := 16) (lv' := [some (.inr (.inr (.inl (some (77)))))]) (st' := [.inl (-1)]) (h' := h) rfl ?_
    refine av_wp_ret (v := some (.inl (-1))) rfl rfl rfl ?_
    have z3 : pkv b t 0 = -1 := if_neg (by omega)
    exact hq _ (Or.inl ⟨z3, rfl⟩)
  · have c2 : (wrv t) = (0) := c2
    refine av_wp_seq 1 (pc' := 8) (lv' := [some (.inr (.inr (.inl (some (77)))))]) (st' := [.inr (.inr (.inl (some (77))))]) (h' := h) rfl ?_
    refine wq_gi (p' := 11) rfl rfl (congrArg Prod.fst (ly_k N.1.1 77 rfl)) rfl (ns_22 N.1) ?_
    refine av_wp_seq 1 (pc' := 12) (lv' := [some (.inr (.inr (.inl (some (77)))))]) (st' := [.inl (1), .inl (tokv t)]) (h' := h) rfl ?_
    refine wq_k2 (p' := 15) rfl rfl ⟨by omega, by omega⟩ ⟨by omega, by omega⟩ (fun c3 => ?_) (fun c4 => ?_)
    · have c3 : (tokv t) = (1) := c3
      refine av_wp_seq 1 (pc' := 18) (lv' := [some (.inr (.inr (.inl (some (77)))))]) (st' := [.inr (.inr (.inl (some (77))))]) (h' := h) rfl ?_
      refine wq_gl (p' := 21) rfl rfl (congrArg Prod.fst (ly_k N.1.1 77 rfl)) rfl (ns_24 N.1) ?_
      refine av_wp_seq 1 (pc' := 24) (lv' := [some (.inr (.inr (.inl (some (77)))))]) (st' := [.inr (.inl (8094240)), .inr (.inl (txtv b t))]) (h' := h) rfl ?_
      refine av_wp_seq 1 (pc' := 25) (lv' := [some (.inr (.inr (.inl (some (77)))))]) (st' := [.inl (if av_wl (8094240) < av_wl (txtv b t) then 1 else if av_wl (txtv b t) = av_wl (8094240) then 0 else -1)]) (h' := h) rfl ?_
      have g6 := lcf (x := (txtv b t)) (y := (8094240)) (by omega) (by omega)
      generalize (if av_wl (8094240) < av_wl (txtv b t) then 1 else if av_wl (txtv b t) = av_wl (8094240) then 0 else -1) = v5 at g6 ⊢
      have g6r := g6.2.2
      replace g6 := g6.1
      refine wq_k1 (p' := 28) rfl rfl ⟨by omega, by omega⟩ (fun c7 => ?_) (fun c8 => ?_)
      · have c7 : v5 ≠ (0) := c7
        have x9 : (txtv b t) ≠ (8094240) := fun z => c7 (g6.mpr z)
        clear c7 g6 g6r
        refine av_wp_seq 1 (pc' := 31) (lv' := [some (.inr (.inr (.inl (some (77)))))]) (st' := [.inr (.inr (.inl (some (77))))]) (h' := h) rfl ?_
        refine wq_gl (p' := 34) rfl rfl (congrArg Prod.fst (ly_k N.1.1 77 rfl)) rfl (ns_24 N.1) ?_
        refine av_wp_seq 1 (pc' := 37) (lv' := [some (.inr (.inr (.inl (some (77)))))]) (st' := [.inr (.inl (1253)), .inr (.inl (txtv b t))]) (h' := h) rfl ?_
        refine av_wp_seq 1 (pc' := 38) (lv' := [some (.inr (.inr (.inl (some (77)))))]) (st' := [.inl (if av_wl (1253) < av_wl (txtv b t) then 1 else if av_wl (txtv b t) = av_wl (1253) then 0 else -1)]) (h' := h) rfl ?_
        have g11 := lcf (x := (txtv b t)) (y := (1253)) (by omega) (by omega)
        generalize (if av_wl (1253) < av_wl (txtv b t) then 1 else if av_wl (txtv b t) = av_wl (1253) then 0 else -1) = v10 at g11 ⊢
        have g11r := g11.2.2
        replace g11 := g11.1
        refine wq_k1 (p' := 41) rfl rfl ⟨by omega, by omega⟩ (fun c12 => ?_) (fun c13 => ?_)
        · have c12 : v10 ≠ (0) := c12
          have x14 : (txtv b t) ≠ (1253) := fun z => c12 (g11.mpr z)
          clear c12 g11 g11r
          refine av_wp_seq 1 (pc' := 44) (lv' := [some (.inr (.inr (.inl (some (77)))))]) (st' := [.inr (.inr (.inl (some (77))))]) (h' := h) rfl ?_
          refine wq_gl (p' := 47) rfl rfl (congrArg Prod.fst (ly_k N.1.1 77 rfl)) rfl (ns_24 N.1) ?_
          refine av_wp_seq 1 (pc' := 50) (lv' := [some (.inr (.inr (.inl (some (77)))))]) (st' := [.inr (.inl (18379)), .inr (.inl (txtv b t))]) (h' := h) rfl ?_
          refine av_wp_seq 1 (pc' := 51) (lv' := [some (.inr (.inr (.inl (some (77)))))]) (st' := [.inl (if av_wl (18379) < av_wl (txtv b t) then 1 else if av_wl (txtv b t) = av_wl (18379) then 0 else -1)]) (h' := h) rfl ?_
          have g16 := lcf (x := (txtv b t)) (y := (18379)) (by omega) (by omega)
          generalize (if av_wl (18379) < av_wl (txtv b t) then 1 else if av_wl (txtv b t) = av_wl (18379) then 0 else -1) = v15 at g16 ⊢
          have g16r := g16.2.2
          replace g16 := g16.1
          refine wq_k1 (p' := 54) rfl rfl ⟨by omega, by omega⟩ (fun c17 => ?_) (fun c18 => ?_)
          · have c17 : v15 ≠ (0) := c17
            have x19 : (txtv b t) ≠ (18379) := fun z => c17 (g16.mpr z)
            clear c17 g16 g16r
            refine av_wp_seq 1 (pc' := 57) (lv' := [some (.inr (.inr (.inl (some (77)))))]) (st' := [.inr (.inr (.inl (some (77))))]) (h' := h) rfl ?_
            refine wq_gl (p' := 60) rfl rfl (congrArg Prod.fst (ly_k N.1.1 77 rfl)) rfl (ns_24 N.1) ?_
            refine av_wp_seq 1 (pc' := 63) (lv' := [some (.inr (.inr (.inl (some (77)))))]) (st' := [.inr (.inl (393)), .inr (.inl (txtv b t))]) (h' := h) rfl ?_
            refine av_wp_seq 1 (pc' := 64) (lv' := [some (.inr (.inr (.inl (some (77)))))]) (st' := [.inl (if av_wl (393) < av_wl (txtv b t) then 1 else if av_wl (txtv b t) = av_wl (393) then 0 else -1)]) (h' := h) rfl ?_
            have g21 := lcf (x := (txtv b t)) (y := (393)) (by omega) (by omega)
            generalize (if av_wl (393) < av_wl (txtv b t) then 1 else if av_wl (txtv b t) = av_wl (393) then 0 else -1) = v20 at g21 ⊢
            have g21r := g21.2.2
            replace g21 := g21.1
            refine wq_k1 (p' := 67) rfl rfl ⟨by omega, by omega⟩ (fun c22 => ?_) (fun c23 => ?_)
            · have c22 : v20 ≠ (0) := c22
              have x24 : (txtv b t) ≠ (393) := fun z => c22 (g21.mpr z)
              clear c22 g21 g21r
              refine av_wp_seq 1 (pc' := 70) (lv' := [some (.inr (.inr (.inl (some (77)))))]) (st' := [.inr (.inr (.inl (some (77))))]) (h' := h) rfl ?_
              refine wq_gl (p' := 73) rfl rfl (congrArg Prod.fst (ly_k N.1.1 77 rfl)) rfl (ns_24 N.1) ?_
              refine av_wp_seq 1 (pc' := 76) (lv' := [some (.inr (.inr (.inl (some (77)))))]) (st' := [.inr (.inl (40187)), .inr (.inl (txtv b t))]) (h' := h) rfl ?_
              refine av_wp_seq 1 (pc' := 77) (lv' := [some (.inr (.inr (.inl (some (77)))))]) (st' := [.inl (if av_wl (40187) < av_wl (txtv b t) then 1 else if av_wl (txtv b t) = av_wl (40187) then 0 else -1)]) (h' := h) rfl ?_
              have g26 := lcf (x := (txtv b t)) (y := (40187)) (by omega) (by omega)
              generalize (if av_wl (40187) < av_wl (txtv b t) then 1 else if av_wl (txtv b t) = av_wl (40187) then 0 else -1) = v25 at g26 ⊢
              have g26r := g26.2.2
              replace g26 := g26.1
              refine wq_k1 (p' := 80) rfl rfl ⟨by omega, by omega⟩ (fun c27 => ?_) (fun c28 => ?_)
              · have c27 : v25 ≠ (0) := c27
                have x29 : (txtv b t) ≠ (40187) := fun z => c27 (g26.mpr z)
                clear c27 g26 g26r
                refine av_wp_seq 1 (pc' := 83) (lv' := [some (.inr (.inr (.inl (some (77)))))]) (st' := [.inr (.inr (.inl (some (77))))]) (h' := h) rfl ?_
                refine wq_gl (p' := 86) rfl rfl (congrArg Prod.fst (ly_k N.1.1 77 rfl)) rfl (ns_24 N.1) ?_
                refine av_wp_seq 1 (pc' := 89) (lv' := [some (.inr (.inr (.inl (some (77)))))]) (st' := [.inr (.inl (82516)), .inr (.inl (txtv b t))]) (h' := h) rfl ?_
                refine av_wp_seq 1 (pc' := 90) (lv' := [some (.inr (.inr (.inl (some (77)))))]) (st' := [.inl (if av_wl (82516) < av_wl (txtv b t) then 1 else if av_wl (txtv b t) = av_wl (82516) then 0 else -1)]) (h' := h) rfl ?_
                have g31 := lcf (x := (txtv b t)) (y := (82516)) (by omega) (by omega)
                generalize (if av_wl (82516) < av_wl (txtv b t) then 1 else if av_wl (txtv b t) = av_wl (82516) then 0 else -1) = v30 at g31 ⊢
                have g31r := g31.2.2
                replace g31 := g31.1
                refine wq_k1 (p' := 93) rfl rfl ⟨by omega, by omega⟩ (fun c32 => ?_) (fun c33 => ?_)
                · have c32 : v30 ≠ (0) := c32
                  have x34 : (txtv b t) ≠ (82516) := fun z => c32 (g31.mpr z)
                  clear c32 g31 g31r
                  refine av_wp_seq 1 (pc' := 97) (lv' := [some (.inr (.inr (.inl (some (77)))))]) (st' := [.inr (.inr (.inl (some (77))))]) (h' := h) rfl ?_
                  refine wq_gl (p' := 100) rfl rfl (congrArg Prod.fst (ly_k N.1.1 77 rfl)) rfl (ns_24 N.1) ?_
                  refine av_wp_seq 1 (pc' := 103) (lv' := [some (.inr (.inr (.inl (some (77)))))]) (st' := [.inr (.inl (378004)), .inr (.inl (txtv b t))]) (h' := h) rfl ?_
                  refine av_wp_seq 1 (pc' := 104) (lv' := [some (.inr (.inr (.inl (some (77)))))]) (st' := [.inl (if av_wl (378004) < av_wl (txtv b t) then 1 else if av_wl (txtv b t) = av_wl (378004) then 0 else -1)]) (h' := h) rfl ?_
                  have g36 := lcf (x := (txtv b t)) (y := (378004)) (by omega) (by omega)
                  generalize (if av_wl (378004) < av_wl (txtv b t) then 1 else if av_wl (txtv b t) = av_wl (378004) then 0 else -1) = v35 at g36 ⊢
                  have g36r := g36.2.2
                  replace g36 := g36.1
                  refine wq_k1 (p' := 107) rfl rfl ⟨by omega, by omega⟩ (fun c37 => ?_) (fun c38 => ?_)
                  · have c37 : v35 ≠ (0) := c37
                    have x39 : (txtv b t) ≠ (378004) := fun z => c37 (g36.mpr z)
                    clear c37 g36 g36r
                    refine av_wp_seq 1 (pc' := 111) (lv' := [some (.inr (.inr (.inl (some (77)))))]) (st' := [.inl (-1)]) (h' := h) rfl ?_
                    refine av_wp_ret (v := some (.inl (-1))) rfl rfl rfl ?_
                    have z2 : t.2.2.2 = -1 ∧ t.2.2.1 = 1 := by clear gtx; omega
                    have z3 : pkv b t 0 = pkf b t.1 t.2.1 (av_lit 0) 0 t.1 true := if_pos z2
                    have z1 : txtv b t = txt b t.1 (t.2.1 - t.1) := if_pos z2.2
                    rw [ltw_0 N.2.2.1 (N.2.2.2.1 z2.2), ← z1] at z3
                    rw [if_neg x9, if_neg x14, if_neg x19, if_neg x24, if_neg x29, if_neg x34, if_neg x39] at z3
                    exact hq _ (Or.inl ⟨z3, rfl⟩)
                  · have c38 : v35 = (0) := c38
                    have x40 : (txtv b t) = (378004) := g36.mp c38
                    clear c38 g36 g36r
                    refine av_wp_seq 1 (pc' := 109) (lv' := [some (.inr (.inr (.inl (some (77)))))]) (st' := [.inl (7)]) (h' := h) rfl ?_
                    refine av_wp_ret (v := some (.inl (7))) rfl rfl rfl ?_
                    have z2 : t.2.2.2 = -1 ∧ t.2.2.1 = 1 := by clear gtx; omega
                    have z3 : pkv b t 0 = pkf b t.1 t.2.1 (av_lit 0) 0 t.1 true := if_pos z2
                    have z1 : txtv b t = txt b t.1 (t.2.1 - t.1) := if_pos z2.2
                    rw [ltw_0 N.2.2.1 (N.2.2.2.1 z2.2), ← z1] at z3
                    rw [if_neg x9, if_neg x14, if_neg x19, if_neg x24, if_neg x29, if_neg x34, if_pos x40] at z3
                    exact hq _ (Or.inr (Or.inr (Or.inr (Or.inr (Or.inr (Or.inr (Or.inr (⟨z3, rfl⟩))))))))
                · have c33 : v30 = (0) := c33
                  have x41 : (txtv b t) = (82516) := g31.mp c33
                  clear c33 g31 g31r
                  refine av_wp_seq 1 (pc' := 95) (lv' := [some (.inr (.inr (.inl (some (77)))))]) (st' := [.inl (6)]) (h' := h) rfl ?_
                  refine av_wp_ret (v := some (.inl (6))) rfl rfl rfl ?_
                  have z2 : t.2.2.2 = -1 ∧ t.2.2.1 = 1 := by clear gtx; omega
                  have z3 : pkv b t 0 = pkf b t.1 t.2.1 (av_lit 0) 0 t.1 true := if_pos z2
                  have z1 : txtv b t = txt b t.1 (t.2.1 - t.1) := if_pos z2.2
                  rw [ltw_0 N.2.2.1 (N.2.2.2.1 z2.2), ← z1] at z3
                  rw [if_neg x9, if_neg x14, if_neg x19, if_neg x24, if_neg x29, if_pos x41] at z3
                  exact hq _ (Or.inr (Or.inr (Or.inr (Or.inr (Or.inr (Or.inr (Or.inl ⟨z3, rfl⟩)))))))
              · have c28 : v25 = (0) := c28
                have x42 : (txtv b t) = (40187) := g26.mp c28
                clear c28 g26 g26r
                refine av_wp_seq 1 (pc' := 81) (lv' := [some (.inr (.inr (.inl (some (77)))))]) (st' := [.inl (5)]) (h' := h) rfl ?_
                refine av_wp_ret (v := some (.inl (5))) rfl rfl rfl ?_
                have z2 : t.2.2.2 = -1 ∧ t.2.2.1 = 1 := by clear gtx; omega
                have z3 : pkv b t 0 = pkf b t.1 t.2.1 (av_lit 0) 0 t.1 true := if_pos z2
                have z1 : txtv b t = txt b t.1 (t.2.1 - t.1) := if_pos z2.2
                rw [ltw_0 N.2.2.1 (N.2.2.2.1 z2.2), ← z1] at z3
                rw [if_neg x9, if_neg x14, if_neg x19, if_neg x24, if_pos x42] at z3
                exact hq _ (Or.inr (Or.inr (Or.inr (Or.inr (Or.inr (Or.inl ⟨z3, rfl⟩))))))
            · have c23 : v20 = (0) := c23
              have x43 : (txtv b t) = (393) := g21.mp c23
              clear c23 g21 g21r
              refine av_wp_seq 1 (pc' := 68) (lv' := [some (.inr (.inr (.inl (some (77)))))]) (st' := [.inl (4)]) (h' := h) rfl ?_
              refine av_wp_ret (v := some (.inl (4))) rfl rfl rfl ?_
              have z2 : t.2.2.2 = -1 ∧ t.2.2.1 = 1 := by clear gtx; omega
              have z3 : pkv b t 0 = pkf b t.1 t.2.1 (av_lit 0) 0 t.1 true := if_pos z2
              have z1 : txtv b t = txt b t.1 (t.2.1 - t.1) := if_pos z2.2
              rw [ltw_0 N.2.2.1 (N.2.2.2.1 z2.2), ← z1] at z3
              rw [if_neg x9, if_neg x14, if_neg x19, if_pos x43] at z3
              exact hq _ (Or.inr (Or.inr (Or.inr (Or.inr (Or.inl ⟨z3, rfl⟩)))))
          · have c18 : v15 = (0) := c18
            have x44 : (txtv b t) = (18379) := g16.mp c18
            clear c18 g16 g16r
            refine av_wp_seq 1 (pc' := 55) (lv' := [some (.inr (.inr (.inl (some (77)))))]) (st' := [.inl (2)]) (h' := h) rfl ?_
            refine av_wp_ret (v := some (.inl (2))) rfl rfl rfl ?_
            have z2 : t.2.2.2 = -1 ∧ t.2.2.1 = 1 := by clear gtx; omega
            have z3 : pkv b t 0 = pkf b t.1 t.2.1 (av_lit 0) 0 t.1 true := if_pos z2
            have z1 : txtv b t = txt b t.1 (t.2.1 - t.1) := if_pos z2.2
            rw [ltw_0 N.2.2.1 (N.2.2.2.1 z2.2), ← z1] at z3
            rw [if_neg x9, if_neg x14, if_pos x44] at z3
            exact hq _ (Or.inr (Or.inr (Or.inr (Or.inl ⟨z3, rfl⟩))))
        · have c13 : v10 = (0) := c13
          have x45 : (txtv b t) = (1253) := g11.mp c13
          clear c13 g11 g11r
          refine av_wp_seq 1 (pc' := 42) (lv' := [some (.inr (.inr (.inl (some (77)))))]) (st' := [.inl (1)]) (h' := h) rfl ?_
          refine av_wp_ret (v := some (.inl (1))) rfl rfl rfl ?_
          have z2 : t.2.2.2 = -1 ∧ t.2.2.1 = 1 := by clear gtx; omega
          have z3 : pkv b t 0 = pkf b t.1 t.2.1 (av_lit 0) 0 t.1 true := if_pos z2
          have z1 : txtv b t = txt b t.1 (t.2.1 - t.1) := if_pos z2.2
          rw [ltw_0 N.2.2.1 (N.2.2.2.1 z2.2), ← z1] at z3
          rw [if_neg x9, if_pos x45] at z3
          exact hq _ (Or.inr (Or.inr (Or.inl ⟨z3, rfl⟩)))
      · have c8 : v5 = (0) := c8
        have x46 : (txtv b t) = (8094240) := g6.mp c8
        clear c8 g6 g6r
        refine av_wp_seq 1 (pc' := 29) (lv' := [some (.inr (.inr (.inl (some (77)))))]) (st' := [.inl (0)]) (h' := h) rfl ?_
        refine av_wp_ret (v := some (.inl (0))) rfl rfl rfl ?_
        have z2 : t.2.2.2 = -1 ∧ t.2.2.1 = 1 := by clear gtx; omega
        have z3 : pkv b t 0 = pkf b t.1 t.2.1 (av_lit 0) 0 t.1 true := if_pos z2
        have z1 : txtv b t = txt b t.1 (t.2.1 - t.1) := if_pos z2.2
        rw [ltw_0 N.2.2.1 (N.2.2.2.1 z2.2), ← z1] at z3
        rw [if_pos x46] at z3
        exact hq _ (Or.inr (Or.inl ⟨z3, rfl⟩))
    · have c4 : (tokv t) ≠ (1) := c4
      refine av_wp_seq 1 (pc' := 16) (lv' := [some (.inr (.inr (.inl (some (77)))))]) (st' := [.inl (-1)]) (h' := h) rfl ?_
      refine av_wp_ret (v := some (.inl (-1))) rfl rfl rfl ?_
      have z3 : pkv b t 0 = -1 := if_neg (by omega)
      exact hq _ (Or.inl ⟨z3, rfl⟩)

set_option maxRecDepth 100000 in
set_option maxHeartbeats 4000000 in
theorem ct_140 {g h : av_H} {b : Nat → Int} {lim : Nat} {t : TT} {x17 : Int} {A : Nat → Nat → Int} (N : MT b lim t x17 A h) (F : FD g h)  {Q : Option av_V → av_H → Prop} (hq : ∀ v : Int, ((pkv b t 6 = -1 ∧ v = -1) ∨ (pkv b t 6 = 0 ∧ v = 0) ∨ (pkv b t 6 = 1 ∧ v = 1) ∨ (pkv b t 6 = 2 ∧ v = 2) ∨ (pkv b t 6 = 3 ∧ v = 3)) → Q (some (.inl v)) h) : av_wp none cd_140 0 [some (.inr (.inr (.inl (some (77)))))] [] h Q := by
  have gw1 : t.1 ≤ 900 ∧ t.2.1 ≤ lim ∧ lim ≤ 900 := ⟨N.2.1.1, N.2.1.2.1, N.2.1.2.2.1⟩
  have gw2 : -1 ≤ t.2.2.2 ∧ t.2.2.2 ≤ 900 := N.2.1.2.2.2.2
  have gt := tok_f t N.2.1.2.2.2.1
  have gt1 := gt.1
  have gtr := gt.2.2.2.2
  clear gt
  have gwr := wr_f t
  have gtx := txtv_r N.2.2
  refine av_wp_seq 1 (pc' := 1) (lv' := [some (.inr (.inr (.inl (some (77)))))]) (st' := [.inr (.inr (.inl (some (77))))]) (h' := h) rfl ?_
  refine wq_gb (p' := 4) rfl rfl (congrArg Prod.fst (ly_k N.1.1 77 rfl)) rfl (ns_25 N.1) ?_
  refine wq_k1 (p' := 7) rfl rfl ⟨by omega, by omega⟩ (fun c1 => ?_) (fun c2 => ?_)
  · have c1 : (wrv t) ≠ (0) := c1
    refine av_wp_seq 1 (pc' := 16) (lv' := [some (.inr (.inr (.inl (some (77)))))]) (st' := [.inl (-1)]) (h' := h) rfl ?_
    refine av_wp_ret (v := some (.inl (-1))) rfl rfl rfl ?_
    have z3 : pkv b t 6 = -1 := if_neg (by omega)
    exact hq _ (Or.inl ⟨z3, rfl⟩)
  · have c2 : (wrv t) = (0) := c2
    refine av_wp_seq 1 (pc' := 8) (lv' := [some (.inr (.inr (.inl (some (77)))))]) (st' := [.inr (.inr (.inl (some (77))))]) (h' := h) rfl ?_
    refine wq_gi (p' := 11) rfl rfl (congrArg Prod.fst (ly_k N.1.1 77 rfl)) rfl (ns_22 N.1) ?_
    refine av_wp_seq 1 (pc' := 12) (lv' := [some (.inr (.inr (.inl (some (77)))))]) (st' := [.inl (1), .inl (tokv t)]) (h' := h) rfl ?_
    refine wq_k2 (p' := 15) rfl rfl ⟨by omega, by omega⟩ ⟨by omega, by omega⟩ (fun c3 => ?_) (fun c4 => ?_)
    · have c3 : (tokv t) = (1) := c3
      refine av_wp_seq 1 (pc' := 18) (lv' := [some (.inr (.inr (.inl (some (77)))))]) (st' := [.inr (.inr (.inl (some (77))))]) (h' := h) rfl ?_
      refine wq_gl (p' := 21) rfl rfl (congrArg Prod.fst (ly_k N.1.1 77 rfl)) rfl (ns_24 N.1) ?_
      refine av_wp_seq 1 (pc' := 24) (lv' := [some (.inr (.inr (.inl (some (77)))))]) (st' := [.inr (.inl (326396)), .inr (.inl (txtv b t))]) (h' := h) rfl ?_
      refine av_wp_seq 1 (pc' := 25) (lv' := [some (.inr (.inr (.inl (some (77)))))]) (st' := [.inl (if av_wl (326396) < av_wl (txtv b t) then 1 else if av_wl (txtv b t) = av_wl (326396) then 0 else -1)]) (h' := h) rfl ?_
      have g6 := lcf (x := (txtv b t)) (y := (326396)) (by omega) (by omega)
      generalize (if av_wl (326396) < av_wl (txtv b t) then 1 else if av_wl (txtv b t) = av_wl (326396) then 0 else -1) = v5 at g6 ⊢
      have g6r := g6.2.2
      replace g6 := g6.1
      refine wq_k1 (p' := 28) rfl rfl ⟨by omega, by omega⟩ (fun c7 => ?_) (fun c8 => ?_)
      · have c7 : v5 ≠ (0) := c7
        have x9 : (txtv b t) ≠ (326396) := fun z => c7 (g6.mpr z)
        clear c7 g6 g6r
        refine av_wp_seq 1 (pc' := 31) (lv' := [some (.inr (.inr (.inl (some (77)))))]) (st' := [.inr (.inr (.inl (some (77))))]) (h' := h) rfl ?_
        refine wq_gl (p' := 34) rfl rfl (congrArg Prod.fst (ly_k N.1.1 77 rfl)) rfl (ns_24 N.1) ?_
        refine av_wp_seq 1 (pc' := 37) (lv' := [some (.inr (.inr (.inl (some (77)))))]) (st' := [.inr (.inl (459761)), .inr (.inl (txtv b t))]) (h' := h) rfl ?_
        refine av_wp_seq 1 (pc' := 38) (lv' := [some (.inr (.inr (.inl (some (77)))))]) (st' := [.inl (if av_wl (459761) < av_wl (txtv b t) then 1 else if av_wl (txtv b t) = av_wl (459761) then 0 else -1)]) (h' := h) rfl ?_
        have g11 := lcf (x := (txtv b t)) (y := (459761)) (by omega) (by omega)
        generalize (if av_wl (459761) < av_wl (txtv b t) then 1 else if av_wl (txtv b t) = av_wl (459761) then 0 else -1) = v10 at g11 ⊢
        have g11r := g11.2.2
        replace g11 := g11.1
        refine wq_k1 (p' := 41) rfl rfl ⟨by omega, by omega⟩ (fun c12 => ?_) (fun c13 => ?_)
        · have c12 : v10 ≠ (0) := c12
          have x14 : (txtv b t) ≠ (459761) := fun z => c12 (g11.mpr z)
          clear c12 g11 g11r
          refine av_wp_seq 1 (pc' := 44) (lv' := [some (.inr (.inr (.inl (some (77)))))]) (st' := [.inr (.inr (.inl (some (77))))]) (h' := h) rfl ?_
          refine wq_gl (p' := 47) rfl rfl (congrArg Prod.fst (ly_k N.1.1 77 rfl)) rfl (ns_24 N.1) ?_
          refine av_wp_seq 1 (pc' := 50) (lv' := [some (.inr (.inr (.inl (some (77)))))]) (st' := [.inr (.inl (7219835)), .inr (.inl (txtv b t))]) (h' := h) rfl ?_
          refine av_wp_seq 1 (pc' := 51) (lv' := [some (.inr (.inr (.inl (some (77)))))]) (st' := [.inl (if av_wl (7219835) < av_wl (txtv b t) then 1 else if av_wl (txtv b t) = av_wl (7219835) then 0 else -1)]) (h' := h) rfl ?_
          have g16 := lcf (x := (txtv b t)) (y := (7219835)) (by omega) (by omega)
          generalize (if av_wl (7219835) < av_wl (txtv b t) then 1 else if av_wl (txtv b t) = av_wl (7219835) then 0 else -1) = v15 at g16 ⊢
          have g16r := g16.2.2
          replace g16 := g16.1
          refine wq_k1 (p' := 54) rfl rfl ⟨by omega, by omega⟩ (fun c17 => ?_) (fun c18 => ?_)
          · have c17 : v15 ≠ (0) := c17
            have x19 : (txtv b t) ≠ (7219835) := fun z => c17 (g16.mpr z)
            clear c17 g16 g16r
            refine av_wp_seq 1 (pc' := 57) (lv' := [some (.inr (.inr (.inl (some (77)))))]) (st' := [.inr (.inr (.inl (some (77))))]) (h' := h) rfl ?_
            refine wq_gl (p' := 60) rfl rfl (congrArg Prod.fst (ly_k N.1.1 77 rfl)) rfl (ns_24 N.1) ?_
            refine av_wp_seq 1 (pc' := 63) (lv' := [some (.inr (.inr (.inl (some (77)))))]) (st' := [.inr (.inl (82516)), .inr (.inl (txtv b t))]) (h' := h) rfl ?_
            refine av_wp_seq 1 (pc' := 64) (lv' := [some (.inr (.inr (.inl (some (77)))))]) (st' := [.inl (if av_wl (82516) < av_wl (txtv b t) then 1 else if av_wl (txtv b t) = av_wl (82516) then 0 else -1)]) (h' := h) rfl ?_
            have g21 := lcf (x := (txtv b t)) (y := (82516)) (by omega) (by omega)
            generalize (if av_wl (82516) < av_wl (txtv b t) then 1 else if av_wl (txtv b t) = av_wl (82516) then 0 else -1) = v20 at g21 ⊢
            have g21r := g21.2.2
            replace g21 := g21.1
            refine wq_k1 (p' := 67) rfl rfl ⟨by omega, by omega⟩ (fun c22 => ?_) (fun c23 => ?_)
            · have c22 : v20 ≠ (0) := c22
              have x24 : (txtv b t) ≠ (82516) := fun z => c22 (g21.mpr z)
              clear c22 g21 g21r
              refine av_wp_seq 1 (pc' := 70) (lv' := [some (.inr (.inr (.inl (some (77)))))]) (st' := [.inl (-1)]) (h' := h) rfl ?_
              refine av_wp_ret (v := some (.inl (-1))) rfl rfl rfl ?_
              have z2 : t.2.2.2 = -1 ∧ t.2.2.1 = 1 := by clear gtx; omega
              have z3 : pkv b t 6 = pkf b t.1 t.2.1 (av_lit 6) 0 t.1 true := if_pos z2
              have z1 : txtv b t = txt b t.1 (t.2.1 - t.1) := if_pos z2.2
              rw [ltw_6 N.2.2.1 (N.2.2.2.1 z2.2), ← z1] at z3
              rw [if_neg x9, if_neg x14, if_neg x19, if_neg x24] at z3
              exact hq _ (Or.inl ⟨z3, rfl⟩)
            · have c23 : v20 = (0) := c23
              have x25 : (txtv b t) = (82516) := g21.mp c23
              clear c23 g21 g21r
              refine av_wp_seq 1 (pc' := 68) (lv' := [some (.inr (.inr (.inl (some (77)))))]) (st' := [.inl (3)]) (h' := h) rfl ?_
              refine av_wp_ret (v := some (.inl (3))) rfl rfl rfl ?_
              have z2 : t.2.2.2 = -1 ∧ t.2.2.1 = 1 := by clear gtx; omega
              have z3 : pkv b t 6 = pkf b t.1 t.2.1 (av_lit 6) 0 t.1 true := if_pos z2
              have z1 : txtv b t = txt b t.1 (t.2.1 - t.1) := if_pos z2.2
              rw [ltw_6 N.2.2.1 (N.2.2.2.1 z2.2), ← z1] at z3
              rw [if_neg x9, if_neg x14, if_neg x19, if_pos x25] at z3
              exact hq _ (Or.inr (Or.inr (Or.inr (Or.inr (⟨z3, rfl⟩)))))
          · have c18 : v15 = (0) := c18
            have x26 : (txtv b t) = (7219835) := g16.mp c18
            clear c18 g16 g16r
            refine av_wp_seq 1 (pc' := 55) (lv' := [some (.inr (.inr (.inl (some (77)))))]) (st' := [.inl (2)]) (h' := h) rfl ?_
            refine av_wp_ret (v := some (.inl (2))) rfl rfl rfl ?_
            have z2 : t.2.2.2 = -1 ∧ t.2.2.1 = 1 := by clear gtx; omega
            have z3 : pkv b t 6 = pkf b t.1 t.2.1 (av_lit 6) 0 t.1 true := if_pos z2
            have z1 : txtv b t = txt b t.1 (t.2.1 - t.1) := if_pos z2.2
            rw [ltw_6 N.2.2.1 (N.2.2.2.1 z2.2), ← z1] at z3
            rw [if_neg x9, if_neg x14, if_pos x26] at z3
            exact hq _ (Or.inr (Or.inr (Or.inr (Or.inl ⟨z3, rfl⟩))))
        · have c13 : v10 = (0) := c13
          have x27 : (txtv b t) = (459761) := g11.mp c13
          clear c13 g11 g11r
          refine av_wp_seq 1 (pc' := 42) (lv' := [some (.inr (.inr (.inl (some (77)))))]) (st' := [.inl (1)]) (h' := h) rfl ?_
          refine av_wp_ret (v := some (.inl (1))) rfl rfl rfl ?_
          have z2 : t.2.2.2 = -1 ∧ t.2.2.1 = 1 := by clear gtx; omega
          have z3 : pkv b t 6 = pkf b t.1 t.2.1 (av_lit 6) 0 t.1 true := if_pos z2
          have z1 : txtv b t = txt b t.1 (t.2.1 - t.1) := if_pos z2.2
          rw [ltw_6 N.2.2.1 (N.2.2.2.1 z2.2), ← z1] at z3
          rw [if_neg x9, if_pos x27] at z3
          exact hq _ (Or.inr (Or.inr (Or.inl ⟨z3, rfl⟩)))
      · have c8 : v5 = (0) := c8
        have x28 : (txtv b t) = (326396) := g6.mp c8
        clear c8 g6 g6r
        refine av_wp_seq 1 (pc' := 29) (lv' := [some (.inr (.inr (.inl (some (77)))))]) (st' := [.inl (0)]) (h' := h) rfl ?_
        refine av_wp_ret (v := some (.inl (0))) rfl rfl rfl ?_
        have z2 : t.2.2.2 = -1 ∧ t.2.2.1 = 1 := by clear gtx; omega
        have z3 : pkv b t 6 = pkf b t.1 t.2.1 (av_lit 6) 0 t.1 true := if_pos z2
        have z1 : txtv b t = txt b t.1 (t.2.1 - t.1) := if_pos z2.2
        rw [ltw_6 N.2.2.1 (N.2.2.2.1 z2.2), ← z1] at z3
        rw [if_pos x28] at z3
        exact hq _ (Or.inr (Or.inl ⟨z3, rfl⟩))
    · have c4 : (tokv t) ≠ (1) := c4
      refine av_wp_seq 1 (pc' := 16) (lv' := [some (.inr (.inr (.inl (some (77)))))]) (st' := [.inl (-1)]) (h' := h) rfl ?_
      refine av_wp_ret (v := some (.inl (-1))) rfl rfl rfl ?_
      have z3 : pkv b t 6 = -1 := if_neg (by omega)
      exact hq _ (Or.inl ⟨z3, rfl⟩)

