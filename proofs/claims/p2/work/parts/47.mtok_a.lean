/-! THE REFERENCE READS, exactly -/
set_option maxRecDepth 100000 in
set_option maxHeartbeats 4000000 in
theorem ct_131 {g h : av_H} {b : Nat → Int} {lim : Nat} {t : TT} {x17 : Int} {A : Nat → Nat → Int} (N : MT b lim t x17 A h) (F : FD g h) {Q : Option av_V → av_H → Prop} (hq : ∀ h', MT b lim (fal t) x17 A h' → FD g h' → Q none h') : av_wp none cd_131 0 [some (.inr (.inr (.inl (some (77)))))] [] h Q := by
  have g2 := wr_f t
  have k77 := congrArg Prod.fst (ly_k N.1.1 77 rfl)
  refine av_wp_seq 1 (pc' := 1) (lv' := [some (.inr (.inr (.inl (some (77)))))]) (st' := [.inr (.inr (.inl (some (77))))]) (h' := h) rfl ?_
  refine wq_gb (p' := 4) rfl rfl k77 rfl (ns_25 N.1) ?_
  refine wq_k1 (p' := 7) rfl rfl ⟨by omega, by omega⟩ (fun c1 => ?_) (fun c2 => ?_)
  · have c1 : wrv t = 0 := c1
    have ef : fal t = (t.1, t.2.1, t.2.2.1, (t.1 : Int)) := by unfold fal; rw [if_pos (by omega)]
    have ok := fal_ok N.2.1 N.2.2
    rw [ef] at ok hq
    refine av_wp_seq 2 (pc' := 10) (lv' := [some (.inr (.inr (.inl (some (77)))))]) (st' := [.inl (1), .inr (.inr (.inl (some (77))))]) (h' := h) rfl ?_
    refine ns_p25 (p' := 13) rfl rfl N.1 F (by omega) (fun h1 N1 F1 => ?_)
    refine av_wp_seq 2 (pc' := 15) (lv' := [some (.inr (.inr (.inl (some (77)))))]) (st' := [.inr (.inr (.inl (some (77)))), .inr (.inr (.inl (some (77))))]) (h' := h1) rfl ?_
    refine wq_gi (p' := 18) rfl rfl (congrArg Prod.fst (ly_k N1.1 77 rfl)) rfl (ns_21 N1) ?_
    refine ns_p18 (p' := 21) rfl rfl N1 F1 (fun h2 N2 F2 => ?_)
    refine av_wp_ret (v := none) rfl rfl rfl (hq h2 ⟨?_, ok⟩ F2)
    have e1 : wrv (t.1, t.2.1, t.2.2.1, (t.1 : Int)) = 1 := by unfold wrv; rw [if_neg (by show ¬ (t.1 : Int) = -1; omega)]
    rw [e1]
    exact N2
  · have c2 : wrv t ≠ 0 := c2
    have ef : fal t = t := by unfold fal; rw [if_neg (by omega)]
    rw [ef] at hq
    exact av_wp_ret (v := none) rfl rfl rfl (hq h N F)

set_option maxRecDepth 100000 in
set_option maxHeartbeats 4000000 in
theorem ct_130t {g h : av_H} {b : Nat → Int} {lim : Nat} {t : TT} {x17 : Int} {A : Nat → Nat → Int} (N : MT b lim t x17 A h) (F : FD g h) {Q : Option av_V → av_H → Prop} (hq : ∀ h', MT b lim (adv b lim t) x17 A h' → FD g h' → Q none h') : av_wp none cd_130 0 [some (.inr (.inr (.inl (some (77))))), none] [] h Q :=
  ct_130 N.1 F N.2.1 (fun h' N' F' => hq h' ⟨N', adv_ok N.2.1⟩ F')

set_option maxRecDepth 100000 in
set_option maxHeartbeats 4000000 in
theorem ct_132 {g h : av_H} {b : Nat → Int} {lim : Nat} {t : TT} {x17 : Int} {A : Nat → Nat → Int} (N : MT b lim t x17 A h) (F : FD g h) (w : Int) (qw : -1 ≤ w ∧ w ≤ 9000000000000000000) {Q : Option av_V → av_H → Prop} (hq1 : (t.2.2.2 = -1 ∧ t.2.2.1 = 1 ∧ txtv b t = w) → Q (some (.inl 1)) h) (hq0 : ¬ (t.2.2.2 = -1 ∧ t.2.2.1 = 1 ∧ txtv b t = w) → Q (some (.inl 0)) h) : av_wp none cd_132 0 [some (.inr (.inr (.inl (some (77))))), some (.inr (.inl w)), none] [] h Q := by
  have gw1 : t.1 ≤ lim ∧ t.2.1 ≤ lim ∧ lim ≤ 900 := ⟨N.2.1.1, N.2.1.2.1, N.2.1.2.2.1⟩
  have gw2 : -1 ≤ t.2.2.2 ∧ t.2.2.2 ≤ 900 := N.2.1.2.2.2.2
  have gt := tok_f t N.2.1.2.2.2.1
  have gt1 := gt.1
  have gtr := gt.2.2.2.2
  clear gt
  have gwr := wr_f t
  have gtx := txtv_r N.2.2
  refine av_wp_seq 1 (pc' := 1) (lv' := [some (.inr (.inr (.inl (some (77))))), some (.inr (.inl w)), none]) (st' := [.inr (.inr (.inl (some (77))))]) (h' := h) rfl ?_
  refine wq_gb (p' := 4) rfl rfl (congrArg Prod.fst (ly_k N.1.1 77 rfl)) rfl (ns_25 N.1) ?_
  refine wq_k1 (p' := 7) rfl rfl ⟨by omega, by omega⟩ (fun c1 => ?_) (fun c2 => ?_)
  · have c1 : (wrv t) ≠ (0) := c1
    refine av_wp_seq 1 (pc' := 29) (lv' := [some (.inr (.inr (.inl (some (77))))), some (.inr (.inl w)), none]) (st' := [.inl (0)]) (h' := h) rfl ?_
    refine av_wp_ret (v := some (.inl (0))) rfl rfl rfl ?_
    exact hq0 (by omega)
  · have c2 : (wrv t) = (0) := c2
    refine av_wp_seq 1 (pc' := 8) (lv' := [some (.inr (.inr (.inl (some (77))))), some (.inr (.inl w)), none]) (st' := [.inr (.inr (.inl (some (77))))]) (h' := h) rfl ?_
    refine wq_gi (p' := 11) rfl rfl (congrArg Prod.fst (ly_k N.1.1 77 rfl)) rfl (ns_22 N.1) ?_
    refine av_wp_seq 1 (pc' := 12) (lv' := [some (.inr (.inr (.inl (some (77))))), some (.inr (.inl w)), none]) (st' := [.inl (1), .inl (tokv t)]) (h' := h) rfl ?_
    refine wq_k2 (p' := 15) rfl rfl ⟨by omega, by omega⟩ ⟨by omega, by omega⟩ (fun c3 => ?_) (fun c4 => ?_)
    · have c3 : (tokv t) ≠ (1) := c3
      refine av_wp_seq 1 (pc' := 29) (lv' := [some (.inr (.inr (.inl (some (77))))), some (.inr (.inl w)), none]) (st' := [.inl (0)]) (h' := h) rfl ?_
      refine av_wp_ret (v := some (.inl (0))) rfl rfl rfl ?_
      exact hq0 (by omega)
    · have c4 : (tokv t) = (1) := c4
      refine av_wp_seq 1 (pc' := 16) (lv' := [some (.inr (.inr (.inl (some (77))))), some (.inr (.inl w)), none]) (st' := [.inr (.inr (.inl (some (77))))]) (h' := h) rfl ?_
      refine wq_gl (p' := 19) rfl rfl (congrArg Prod.fst (ly_k N.1.1 77 rfl)) rfl (ns_24 N.1) ?_
      refine av_wp_seq 1 (pc' := 20) (lv' := [some (.inr (.inr (.inl (some (77))))), some (.inr (.inl w)), none]) (st' := [.inr (.inl w), .inr (.inl (txtv b t))]) (h' := h) rfl ?_
      refine av_wp_seq 1 (pc' := 21) (lv' := [some (.inr (.inr (.inl (some (77))))), some (.inr (.inl w)), none]) (st' := [.inl (if av_wl w < av_wl (txtv b t) then 1 else if av_wl (txtv b t) = av_wl w then 0 else -1)]) (h' := h) rfl ?_
      have g6 := lcf (x := (txtv b t)) (y := w) (by omega) (by omega)
      generalize (if av_wl w < av_wl (txtv b t) then 1 else if av_wl (txtv b t) = av_wl w then 0 else -1) = v5 at g6 ⊢
      refine wq_k1 (p' := 24) rfl rfl ⟨by omega, by omega⟩ (fun c7 => ?_) (fun c8 => ?_)
      · have c7 : v5 ≠ (0) := c7
        refine av_wp_seq 1 (pc' := 29) (lv' := [some (.inr (.inr (.inl (some (77))))), some (.inr (.inl w)), none]) (st' := [.inl (0)]) (h' := h) rfl ?_
        refine av_wp_ret (v := some (.inl (0))) rfl rfl rfl ?_
        exact hq0 (by omega)
      · have c8 : v5 = (0) := c8
        refine av_wp_seq 2 (pc' := 29) (lv' := [some (.inr (.inr (.inl (some (77))))), some (.inr (.inl w)), none]) (st' := [.inl (1)]) (h' := h) rfl ?_
        refine av_wp_ret (v := some (.inl (1))) rfl rfl rfl ?_
        exact hq1 (by omega)

set_option maxRecDepth 100000 in
set_option maxHeartbeats 4000000 in
theorem ct_133 {g h : av_H} {b : Nat → Int} {lim : Nat} {t : TT} {x17 : Int} {A : Nat → Nat → Int} (N : MT b lim t x17 A h) (F : FD g h) (w : Int) (qw : -1 ≤ w ∧ w ≤ 9000000000000000000) {Q : Option av_V → av_H → Prop} (hq1 : (t.2.2.2 = -1 ∧ t.2.2.1 = 1 ∧ txtv b t = w) → ∀ h', MT b lim (adv b lim t) x17 A h' → FD g h' → Q none h') (hq0 : ¬ (t.2.2.2 = -1 ∧ t.2.2.1 = 1 ∧ txtv b t = w) → ∀ h', MT b lim (fal t) x17 A h' → FD g h' → Q none h') : av_wp none cd_133 0 [some (.inr (.inr (.inl (some (77))))), some (.inr (.inl w)), none] [] h Q := by
  have gw1 : t.1 ≤ lim ∧ t.2.1 ≤ lim ∧ lim ≤ 900 := ⟨N.2.1.1, N.2.1.2.1, N.2.1.2.2.1⟩
  have gw2 : -1 ≤ t.2.2.2 ∧ t.2.2.2 ≤ 900 := N.2.1.2.2.2.2
  have gt := tok_f t N.2.1.2.2.2.1
  have gtr := gt.2.2.2.2
  clear gt
  refine av_wp_seq 2 (pc' := 2) (lv' := [some (.inr (.inr (.inl (some (77))))), some (.inr (.inl w)), none]) (st' := [.inr (.inl w), .inr (.inr (.inl (some (77))))]) (h' := h) rfl ?_
  refine wq_cv (p' := 5) (av_qc (.invokevirtual 187) 132 1 0 8) 3 cd_132 [.inr (.inl w)] (77) 8 [some (.inr (.inr (.inl (some (77))))), some (.inr (.inl w)), none] rfl rfl rfl pp_132 rfl rfl rfl (congrArg Prod.fst (ly_k N.1.1 77 rfl)) rfl rfl rfl rfl ?_
  refine ct_132 N F w (by omega) (fun z1 => ?_) (fun z1 => ?_)
  · show av_wp _ cd_133 5 [some (.inr (.inr (.inl (some (77))))), some (.inr (.inl w)), none] [.inl (1)] h _
    refine av_wp_seq 2 (pc' := 9) (lv' := [some (.inr (.inr (.inl (some (77))))), some (.inr (.inl w)), none]) (st' := [.inr (.inr (.inl (some (77))))]) (h' := h) rfl ?_
    refine wq_cv (p' := 12) (av_qc (.invokevirtual 191) 130 0 0 8) 2 cd_130 [] (77) 8 [some (.inr (.inr (.inl (some (77))))), none] rfl rfl rfl pp_130 rfl rfl rfl (congrArg Prod.fst (ly_k N.1.1 77 rfl)) rfl rfl rfl rfl ?_
    refine ct_130t N F (fun h2 N3 F4 => ?_)
    show av_wp _ cd_133 12 [some (.inr (.inr (.inl (some (77))))), some (.inr (.inl w)), none] [] h2 _
    refine av_wp_seq 1 (pc' := 19) (lv' := [some (.inr (.inr (.inl (some (77))))), some (.inr (.inl w)), none]) (st' := []) (h' := h2) rfl ?_
    refine av_wp_ret (v := none) rfl rfl rfl ?_
    exact hq1 z1 h2 N3 F4
  · show av_wp _ cd_133 5 [some (.inr (.inr (.inl (some (77))))), some (.inr (.inl w)), none] [.inl (0)] h _
    refine av_wp_seq 2 (pc' := 16) (lv' := [some (.inr (.inr (.inl (some (77))))), some (.inr (.inl w)), none]) (st' := [.inr (.inr (.inl (some (77))))]) (h' := h) rfl ?_
    refine wq_cv (p' := 19) (av_qc (.invokevirtual 194) 131 0 0 8) 1 cd_131 [] (77) 8 [some (.inr (.inr (.inl (some (77)))))] rfl rfl rfl pp_131 rfl rfl rfl (congrArg Prod.fst (ly_k N.1.1 77 rfl)) rfl rfl rfl rfl ?_
    refine ct_131 N F (fun h5 N6 F7 => ?_)
    show av_wp _ cd_133 19 [some (.inr (.inr (.inl (some (77))))), some (.inr (.inl w)), none] [] h5 _
    refine av_wp_ret (v := none) rfl rfl rfl ?_
    exact hq0 z1 h5 N6 F7

set_option maxRecDepth 100000 in
set_option maxHeartbeats 4000000 in
theorem ct_134 {g h : av_H} {b : Nat → Int} {lim : Nat} {t : TT} {x17 : Int} {A : Nat → Nat → Int} (N : MT b lim t x17 A h) (F : FD g h) (x y : Int) (qx : 0 ≤ x ∧ x ≤ 2000) (qy : -1 ≤ y ∧ y ≤ 2147483647) {Q : Option av_V → av_H → Prop} (hq : ∀ (v : Int) h', MT b lim (nmt b lim t x y) x17 A h' → ((nmt b lim t x y).2.2.2 = -1 → v = nmv b t x y) → FD g h' → (0 ≤ v ∧ v ≤ 9999 ∧ (v = 0 ∨ (x ≤ v ∧ v ≤ y))) → Q (some (.inl v)) h') : av_wp none cd_134 0 [some (.inr (.inr (.inl (some (77))))), some (.inl x), some (.inl y), none] [] h Q := by
  have gw1 : t.1 ≤ lim ∧ t.2.1 ≤ lim ∧ lim ≤ 900 := ⟨N.2.1.1, N.2.1.2.1, N.2.1.2.2.1⟩
  have gw2 : -1 ≤ t.2.2.2 ∧ t.2.2.2 ≤ 900 := N.2.1.2.2.2.2
  have gt := tok_f t N.2.1.2.2.2.1
  have gt2 := gt.2.1
  have gtr := gt.2.2.2.2
  clear gt
  have gwr := wr_f t
  have gvl := vl_f N.2.2
  have gv : t.2.2.1 = 2 → (t.2.1 : Int) - t.1 ≤ 4 → valv b t = dgv b t.1 (t.2.1 - t.1) ∧ 0 ≤ dgv b t.1 (t.2.1 - t.1) ∧ dgv b t.1 (t.2.1 - t.1) ≤ 9999 := fun h1 h2 => by
    have k := N.2.2
    have kk := k.1
    have h3 := dgc_dgv (b := b) (f := t.1) (t.2.1 - t.1) (by omega) (fun i hi => k.2.2 h1 (t.1 + i) (by omega) (by omega))
    have h4 : (10 : Int) ^ (t.2.1 - t.1) ≤ 10000 := by
      have hh : ∀ n, n < 5 → (10 : Int) ^ n ≤ 10000 := by decide
      exact hh _ (by omega)
    exact ⟨(show valv b t = dgc b t.1 (t.2.1 - t.1) from if_pos h1).trans h3.1, h3.2.1, by omega⟩
  have gq : -2147483648 ≤ valv b t ∧ valv b t ≤ 2147483647 := valv_r N.2.2
  refine av_wp_seq 1 (pc' := 1) (lv' := [some (.inr (.inr (.inl (some (77))))), some (.inl x), some (.inl y), none]) (st' := [.inr (.inr (.inl (some (77))))]) (h' := h) rfl ?_
  refine wq_gi (p' := 4) rfl rfl (congrArg Prod.fst (ly_k N.1.1 77 rfl)) rfl (ns_23 N.1) ?_
  refine av_wp_seq 2 (pc' := 6) (lv' := [some (.inr (.inr (.inl (some (77))))), some (.inl x), some (.inl y), some (.inl (valv b t))]) (st' := [.inr (.inr (.inl (some (77))))]) (h' := h) rfl ?_
  refine wq_gb (p' := 9) rfl rfl (congrArg Prod.fst (ly_k N.1.1 77 rfl)) rfl (ns_25 N.1) ?_
  refine wq_k1 (p' := 12) rfl rfl ⟨by omega, by omega⟩ (fun c1 => ?_) (fun c2 => ?_)
  · have c1 : (wrv t) = (0) := c1
    refine av_wp_seq 1 (pc' := 15) (lv' := [some (.inr (.inr (.inl (some (77))))), some (.inl x), some (.inl y), some (.inl (valv b t))]) (st' := [.inr (.inr (.inl (some (77))))]) (h' := h) rfl ?_
    refine wq_gi (p' := 18) rfl rfl (congrArg Prod.fst (ly_k N.1.1 77 rfl)) rfl (ns_22 N.1) ?_
    refine av_wp_seq 1 (pc' := 19) (lv' := [some (.inr (.inr (.inl (some (77))))), some (.inl x), some (.inl y), some (.inl (valv b t))]) (st' := [.inl (2), .inl (tokv t)]) (h' := h) rfl ?_
    refine wq_k2 (p' := 22) rfl rfl ⟨by omega, by omega⟩ ⟨by omega, by omega⟩ (fun c3 => ?_) (fun c4 => ?_)
    · have c3 : (tokv t) ≠ (2) := c3
      refine av_wp_seq 1 (pc' := 33) (lv' := [some (.inr (.inr (.inl (some (77))))), some (.inl x), some (.inl y), some (.inl (valv b t))]) (st' := [.inr (.inr (.inl (some (77))))]) (h' := h) rfl ?_
      refine wq_cv (p' := 36) (av_qc (.invokevirtual 194) 131 0 0 8) 1 cd_131 [] (77) 8 [some (.inr (.inr (.inl (some (77)))))] rfl rfl rfl pp_131 rfl rfl rfl (congrArg Prod.fst (ly_k N.1.1 77 rfl)) rfl rfl rfl rfl ?_
      refine ct_131 N F (fun h5 N6 F7 => ?_)
      show av_wp _ cd_134 36 [some (.inr (.inr (.inl (some (77))))), some (.inl x), some (.inl y), some (.inl (valv b t))] [] h5 _
      refine av_wp_seq 1 (pc' := 37) (lv' := [some (.inr (.inr (.inl (some (77))))), some (.inl x), some (.inl y), some (.inl (valv b t))]) (st' := [.inl (0)]) (h' := h5) rfl ?_
      refine av_wp_ret (v := some (.inl (0))) rfl rfl rfl ?_
      have z1 : nmt b lim t x y = fal t := if_neg (by omega)
      have z3 : (fal t).2.2.2 ≠ -1 := by show (if t.2.2.2 = -1 then (t.1 : Int) else t.2.2.2) ≠ -1; split <;> omega
      exact hq _ h5 (by rw [z1]; exact N6) (by intro z; exfalso; rw [z1] at z; omega) F7 (by omega)
    · have c4 : (tokv t) = (2) := c4
      refine av_wp_seq 2 (pc' := 24) (lv' := [some (.inr (.inr (.inl (some (77))))), some (.inl x), some (.inl y), some (.inl (valv b t))]) (st' := [.inl x, .inl (valv b t)]) (h' := h) rfl ?_
      refine wq_k2 (p' := 27) rfl rfl ⟨by omega, by omega⟩ ⟨by omega, by omega⟩ (fun c8 => ?_) (fun c9 => ?_)
      · have c8 : (valv b t) < x := c8
        refine av_wp_seq 1 (pc' := 33) (lv' := [some (.inr (.inr (.inl (some (77))))), some (.inl x), some (.inl y), some (.inl (valv b t))]) (st' := [.inr (.inr (.inl (some (77))))]) (h' := h) rfl ?_
        refine wq_cv (p' := 36) (av_qc (.invokevirtual 194) 131 0 0 8) 1 cd_131 [] (77) 8 [some (.inr (.inr (.inl (some (77)))))] rfl rfl rfl pp_131 rfl rfl rfl (congrArg Prod.fst (ly_k N.1.1 77 rfl)) rfl rfl rfl rfl ?_
        refine ct_131 N F (fun h10 N11 F12 => ?_)
        show av_wp _ cd_134 36 [some (.inr (.inr (.inl (some (77))))), some (.inl x), some (.inl y), some (.inl (valv b t))] [] h10 _
        refine av_wp_seq 1 (pc' := 37) (lv' := [some (.inr (.inr (.inl (some (77))))), some (.inl x), some (.inl y), some (.inl (valv b t))]) (st' := [.inl (0)]) (h' := h10) rfl ?_
        refine av_wp_ret (v := some (.inl (0))) rfl rfl rfl ?_
        have z1 : nmt b lim t x y = fal t := if_neg (by omega)
        have z3 : (fal t).2.2.2 ≠ -1 := by show (if t.2.2.2 = -1 then (t.1 : Int) else t.2.2.2) ≠ -1; split <;> omega
        exact hq _ h10 (by rw [z1]; exact N11) (by intro z; exfalso; rw [z1] at z; omega) F12 (by omega)
      · have c9 : x ≤ (valv b t) := c9
        refine av_wp_seq 2 (pc' := 29) (lv' := [some (.inr (.inr (.inl (some (77))))), some (.inl x), some (.inl y), some (.inl (valv b t))]) (st' := [.inl y, .inl (valv b t)]) (h' := h) rfl ?_
        refine wq_k2 (p' := 32) rfl rfl ⟨by omega, by omega⟩ ⟨by omega, by omega⟩ (fun c13 => ?_) (fun c14 => ?_)
        · have c13 : (valv b t) ≤ y := c13
          refine av_wp_seq 1 (pc' := 39) (lv' := [some (.inr (.inr (.inl (some (77))))), some (.inl x), some (.inl y), some (.inl (valv b t))]) (st' := [.inr (.inr (.inl (some (77))))]) (h' := h) rfl ?_
          refine wq_cv (p' := 42) (av_qc (.invokevirtual 191) 130 0 0 8) 2 cd_130 [] (77) 8 [some (.inr (.inr (.inl (some (77))))), none] rfl rfl rfl pp_130 rfl rfl rfl (congrArg Prod.fst (ly_k N.1.1 77 rfl)) rfl rfl rfl rfl ?_
          refine ct_130t N F (fun h15 N16 F17 => ?_)
          show av_wp _ cd_134 42 [some (.inr (.inr (.inl (some (77))))), some (.inl x), some (.inl y), some (.inl (valv b t))] [] h15 _
          refine av_wp_seq 1 (pc' := 43) (lv' := [some (.inr (.inr (.inl (some (77))))), some (.inl x), some (.inl y), some (.inl (valv b t))]) (st' := [.inl (valv b t)]) (h' := h15) rfl ?_
          refine av_wp_ret (v := some (.inl (valv b t))) rfl rfl rfl ?_
          have z1 : nmt b lim t x y = adv b lim t := if_pos (by omega)
          have z2 : nmv b t x y = vlv b t := if_pos (by omega)
          exact hq _ h15 (by rw [z1]; exact N16) (by intro _; rw [z2]; omega) F17 (by omega)
        · have c14 : y < (valv b t) := c14
          refine av_wp_seq 1 (pc' := 33) (lv' := [some (.inr (.inr (.inl (some (77))))), some (.inl x), some (.inl y), some (.inl (valv b t))]) (st' := [.inr (.inr (.inl (some (77))))]) (h' := h) rfl ?_
          refine wq_cv (p' := 36) (av_qc (.invokevirtual 194) 131 0 0 8) 1 cd_131 [] (77) 8 [some (.inr (.inr (.inl (some (77)))))] rfl rfl rfl pp_131 rfl rfl rfl (congrArg Prod.fst (ly_k N.1.1 77 rfl)) rfl rfl rfl rfl ?_
          refine ct_131 N F (fun h18 N19 F20 => ?_)
          show av_wp _ cd_134 36 [some (.inr (.inr (.inl (some (77))))), some (.inl x), some (.inl y), some (.inl (valv b t))] [] h18 _
          refine av_wp_seq 1 (pc' := 37) (lv' := [some (.inr (.inr (.inl (some (77))))), some (.inl x), some (.inl y), some (.inl (valv b t))]) (st' := [.inl (0)]) (h' := h18) rfl ?_
          refine av_wp_ret (v := some (.inl (0))) rfl rfl rfl ?_
          have z1 : nmt b lim t x y = fal t := if_neg (by omega)
          have z3 : (fal t).2.2.2 ≠ -1 := by show (if t.2.2.2 = -1 then (t.1 : Int) else t.2.2.2) ≠ -1; split <;> omega
          exact hq _ h18 (by rw [z1]; exact N19) (by intro z; exfalso; rw [z1] at z; omega) F20 (by omega)
  · have c2 : (wrv t) ≠ (0) := c2
    refine av_wp_seq 1 (pc' := 13) (lv' := [some (.inr (.inr (.inl (some (77))))), some (.inl x), some (.inl y), some (.inl (valv b t))]) (st' := [.inl (0)]) (h' := h) rfl ?_
    refine av_wp_ret (v := some (.inl (0))) rfl rfl rfl ?_
    have z1 : nmt b lim t x y = fal t := if_neg (by omega)
    have z2 : fal t = t := by unfold fal; rw [if_neg (by omega)]
    exact hq _ h (by rw [z1, z2]; exact N) (by intro z; exfalso; rw [z1, z2] at z; omega) F (by omega)

set_option maxRecDepth 100000 in
set_option maxHeartbeats 4000000 in
theorem ct_135 {g h : av_H} {b : Nat → Int} {lim : Nat} {t : TT} {x17 : Int} {A : Nat → Nat → Int} (N : MT b lim t x17 A h) (F : FD g h)  {Q : Option av_V → av_H → Prop} (hq : ∀ h', MT b lim (sem b lim t) x17 A h' → FD g h' → Q none h') : av_wp none cd_135 0 [some (.inr (.inr (.inl (some (77)))))] [] h Q := by
  have gw1 : t.1 ≤ lim ∧ t.2.1 ≤ lim ∧ lim ≤ 900 := ⟨N.2.1.1, N.2.1.2.1, N.2.1.2.2.1⟩
  have gw2 : -1 ≤ t.2.2.2 ∧ t.2.2.2 ≤ 900 := N.2.1.2.2.2.2
  have gt := tok_f t N.2.1.2.2.2.1
  have gt59 := gt.2.2.2.1
  have gtr := gt.2.2.2.2
  clear gt
  have gwr := wr_f t
  refine av_wp_seq 1 (pc' := 1) (lv' := [some (.inr (.inr (.inl (some (77)))))]) (st' := [.inr (.inr (.inl (some (77))))]) (h' := h) rfl ?_
  refine wq_gb (p' := 4) rfl rfl (congrArg Prod.fst (ly_k N.1.1 77 rfl)) rfl (ns_25 N.1) ?_
  refine wq_k1 (p' := 7) rfl rfl ⟨by omega, by omega⟩ (fun c1 => ?_) (fun c2 => ?_)
  · have c1 : (wrv t) = (0) := c1
    refine av_wp_seq 1 (pc' := 9) (lv' := [some (.inr (.inr (.inl (some (77)))))]) (st' := [.inr (.inr (.inl (some (77))))]) (h' := h) rfl ?_
    refine wq_gi (p' := 12) rfl rfl (congrArg Prod.fst (ly_k N.1.1 77 rfl)) rfl (ns_22 N.1) ?_
    refine av_wp_seq 1 (pc' := 14) (lv' := [some (.inr (.inr (.inl (some (77)))))]) (st' := [.inl (59), .inl (tokv t)]) (h' := h) rfl ?_
    refine wq_k2 (p' := 17) rfl rfl ⟨by omega, by omega⟩ ⟨by omega, by omega⟩ (fun c3 => ?_) (fun c4 => ?_)
    · have c3 : (tokv t) ≠ (59) := c3
      refine av_wp_seq 1 (pc' := 25) (lv' := [some (.inr (.inr (.inl (some (77)))))]) (st' := [.inr (.inr (.inl (some (77))))]) (h' := h) rfl ?_
      refine wq_cv (p' := 28) (av_qc (.invokevirtual 194) 131 0 0 8) 1 cd_131 [] (77) 8 [some (.inr (.inr (.inl (some (77)))))] rfl rfl rfl pp_131 rfl rfl rfl (congrArg Prod.fst (ly_k N.1.1 77 rfl)) rfl rfl rfl rfl ?_
      refine ct_131 N F (fun h5 N6 F7 => ?_)
      show av_wp _ cd_135 28 [some (.inr (.inr (.inl (some (77)))))] [] h5 _
      refine av_wp_ret (v := none) rfl rfl rfl ?_
      have z1 : sem b lim t = fal t := if_neg (by omega)
      exact hq h5 (by rw [z1]; exact N6) F7
    · have c4 : (tokv t) = (59) := c4
      refine av_wp_seq 1 (pc' := 18) (lv' := [some (.inr (.inr (.inl (some (77)))))]) (st' := [.inr (.inr (.inl (some (77))))]) (h' := h) rfl ?_
      refine wq_cv (p' := 21) (av_qc (.invokevirtual 191) 130 0 0 8) 2 cd_130 [] (77) 8 [some (.inr (.inr (.inl (some (77))))), none] rfl rfl rfl pp_130 rfl rfl rfl (congrArg Prod.fst (ly_k N.1.1 77 rfl)) rfl rfl rfl rfl ?_
      refine ct_130t N F (fun h8 N9 F10 => ?_)
      show av_wp _ cd_135 21 [some (.inr (.inr (.inl (some (77)))))] [] h8 _
      refine av_wp_seq 1 (pc' := 28) (lv' := [some (.inr (.inr (.inl (some (77)))))]) (st' := []) (h' := h8) rfl ?_
      refine av_wp_ret (v := none) rfl rfl rfl ?_
      have z1 : sem b lim t = adv b lim t := if_pos (by omega)
      exact hq h8 (by rw [z1]; exact N9) F10
  · have c2 : (wrv t) ≠ (0) := c2
    refine av_wp_ret (v := none) rfl rfl rfl ?_
    have z1 : sem b lim t = fal t := if_neg (by omega)
    have z2 : fal t = t := by unfold fal; rw [if_neg (by omega)]
    exact hq h (by rw [z1, z2]; exact N) F

