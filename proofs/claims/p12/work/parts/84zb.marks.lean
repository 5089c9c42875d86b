/-! THE COURT MARKS WHAT IS NEEDED, exactly -/
set_option maxRecDepth 100000 in
set_option maxHeartbeats 4000000 in
theorem cz_69 {h : av_H} {U : Nat → Nat → Int} {S : Nat → Nat} {n : Int} {sr nd : Nat → Int} (C : CJ U S n sr nd h) (k : Int) (qk : -2147483648 ≤ k ∧ k ≤ 2147483647) {Q : Option av_V → av_H → Prop} (hq0 : (k < 0 ∨ n ≤ k) → Q (some (.inr (.inr (.inl none)))) h) (hq1 : 0 ≤ k → k < n → ∀ t c, CO h t c (S (Int.toNat k)) (cbv (U (Int.toNat k)) (S (Int.toNat k))) → hA h c = U (Int.toNat k) → Q (some (.inr (.inr (.inl (some t))))) h) : av_wp none cd_69 0 [some (.inr (.inr (.inl (some (3))))), some (.inl k)] [] h Q := by
  have F := FJ_rf h
  have nr := C.2.1.2.1
  refine av_wp_seq 1 (pc' := 1) (lv' := [some (.inr (.inr (.inl (some (3))))), some (.inl k)]) (st' := [.inl k]) (h' := h) rfl ?_
  refine wq_k1 (p' := 4) rfl rfl ⟨by omega, by omega⟩ (fun c1 => ?_) (fun c2 => ?_)
  · have c1 : k < (0) := c1
    refine av_wp_seq 1 (pc' := 22) (lv' := [some (.inr (.inr (.inl (some (3))))), some (.inl k)]) (st' := [.inr (.inr (.inl none))]) (h' := h) rfl ?_
    refine av_wp_ret (v := some (.inr (.inr (.inl none)))) rfl rfl rfl ?_
    exact hq0 (by omega)
  · have c2 : (0) ≤ k := c2
    refine av_wp_seq 2 (pc' := 6) (lv' := [some (.inr (.inr (.inl (some (3))))), some (.inl k)]) (st' := [.inr (.inr (.inl (some (3)))), .inl k]) (h' := h) rfl ?_
    obtain ⟨v3, e4⟩ : ∃ v, hF h 3 3 = v := ⟨_, rfl⟩
    have g5 := ic_cc C.1
    rw [e4] at g5
    have u6 : v3 = n := e4.symm.trans C.2.1.1
    refine wq_gi (p' := 9) rfl rfl (congrArg Prod.fst (ly_k C.1.1 3 rfl)) rfl (e4) ?_
    refine wq_k2 (p' := 12) rfl rfl ⟨by omega, by omega⟩ ⟨by omega, by omega⟩ (fun c7 => ?_) (fun c8 => ?_)
    · have c7 : v3 ≤ k := c7
      refine av_wp_seq 1 (pc' := 22) (lv' := [some (.inr (.inr (.inl (some (3))))), some (.inl k)]) (st' := [.inr (.inr (.inl none))]) (h' := h) rfl ?_
      refine av_wp_ret (v := some (.inr (.inr (.inl none)))) rfl rfl rfl ?_
      exact hq0 (by omega)
    · have c8 : k < v3 := c8
      refine av_wp_seq 1 (pc' := 13) (lv' := [some (.inr (.inr (.inl (some (3))))), some (.inl k)]) (st' := [.inr (.inr (.inl (some (3))))]) (h' := h) rfl ?_
      refine wq_gr (p' := 16) rfl rfl (congrArg Prod.fst (ly_k C.1.1 3 rfl)) rfl (ly_g C.1.1 3 0 4 rfl) ?_
      refine av_wp_seq 1 (pc' := 17) (lv' := [some (.inr (.inr (.inl (some (3))))), some (.inl k)]) (st' := [.inl k, .inr (.inr (.inl (some (4))))]) (h' := h) rfl ?_
      obtain ⟨t9, c10, y11, y12, y13⟩ := C.2.1.2.2 (Int.toNat (k)) (by omega)
      refine wq_ar (p' := 18) (n := 16) (k := 30) rfl rfl (ly_k C.1.1 4 rfl) (by omega) (by omega) y11 ?_
      refine av_wp_seq 1 (pc' := 22) (lv' := [some (.inr (.inr (.inl (some (3))))), some (.inl k)]) (st' := [.inr (.inr (.inl (some (t9))))]) (h' := h) rfl ?_
      refine av_wp_ret (v := some (.inr (.inr (.inl (some (t9)))))) rfl rfl rfl ?_
      exact hq1 (by omega) (by omega) _ _ y12 y13

set_option maxRecDepth 100000 in
set_option maxHeartbeats 4000000 in
theorem cx_54 {h : av_H} {U : Nat → Nat → Int} {S : Nat → Nat} {n : Int} {sr nd : Nat → Int} (C : CJ U S n sr nd h) {t c s : Nat} {cb : Int} (o : CO h t c s cb) {u : Nat → Int} (hu : hA h c = u) (nb : ∀ j, j < 16 → 0 ≤ nd j ∧ nd j ≤ 1) {Q : Option av_V → av_H → Prop} (hq : ∀ (v : Int) h' nd', CJ U S n sr nd' h' → FJ h h' → MGI u nd s nd' → ((v = 0 ∧ (∀ k : Nat, k < s → u (21 * k + 6) < 0 ∨ 16 ≤ u (21 * k + 6))) ∨ v = 1) → Q (some (.inl v)) h') : av_wp none cd_54 0 [some (.inr (.inr (.inl (some (26))))), some (.inr (.inr (.inl (some (t))))), none, none, none] [] h Q := by
  have F := FJ_rf h
  have nr := C.2.1.2.1
  have s12 := co_s12 o
  refine av_wp_seq 4 (pc' := 4) (lv' := [some (.inr (.inr (.inl (some (26))))), some (.inr (.inr (.inl (some (t))))), some (.inl (0)), some (.inl (0)), none]) (st' := []) (h' := h) rfl ?_
  have L10 : ∀ (m9 : Nat) (k1 : Int) (k2 : Int) (a3 : Option av_V) (h4 : av_H) (n7 : Nat → Int), av_lg a3 = false → ((k1 = 0 ∧ (∀ k : Nat, k < Int.toNat k2 → u (21 * k + 6) < 0 ∨ 16 ≤ u (21 * k + 6))) ∨ k1 = 1) → k2 ≤ (s : Int) → (0 ≤ k2 ∧ k2 ≤ 12) → (0 ≤ k1 ∧ k1 ≤ 1) → CJ U S n sr n7 h4 → FJ h h4 → MGI u nd (Int.toNat k2) n7 → ((s : Int) - k2).toNat = m9 → av_wp none cd_54 4 [some (.inr (.inr (.inl (some (26))))), some (.inr (.inr (.inl (some (t))))), some (.inl k1), some (.inl k2), a3] [] h4 Q := by
    intro m9
    induction m9 using Nat.strongRecOn with
    | _ m9 I11 =>
      intro k1 k2 a3 h4 n7 g13 g14 g15 g16 g17 C5 F6 X8 e12
      have la3 := g13
      refine av_wp_seq 2 (pc' := 6) (lv' := [some (.inr (.inr (.inl (some (26))))), some (.inr (.inr (.inl (some (t))))), some (.inl k1), some (.inl k2), a3]) (st' := [.inr (.inr (.inl (some (t)))), .inl k2]) (h' := h4) rfl ?_
      refine wq_gi (p' := 9) rfl rfl (congrArg Prod.fst (co_kt (CO_fr C.1.1 o F6.1))) rfl (co_s (CO_fr C.1.1 o F6.1)) ?_
      refine wq_k2 (p' := 12) rfl rfl ⟨by omega, by omega⟩ ⟨by omega, by omega⟩ (fun c18 => ?_) (fun c19 => ?_)
      · have c18 : (s : Int) ≤ k2 := c18
        refine av_wp_seq 1 (pc' := 50) (lv' := [some (.inr (.inr (.inl (some (26))))), some (.inr (.inr (.inl (some (t))))), some (.inl k1), some (.inl k2), a3]) (st' := [.inl k1]) (h' := h4) rfl ?_
        refine wq_rb rfl (by omega) ?_
        have z20 : Int.toNat k2 = s := by omega
        rw [z20] at X8 g14
        exact hq _ h4 _ C5 F6 X8 g14
      · have c19 : k2 < (s : Int) := c19
        refine av_wp_seq 3 (pc' := 16) (lv' := [some (.inr (.inr (.inl (some (26))))), some (.inr (.inr (.inl (some (t))))), some (.inl k1), some (.inl k2), a3]) (st' := [.inl (6), .inl k2, .inr (.inr (.inl (some (t))))]) (h' := h4) rfl ?_
        refine wq_cv (p' := 19) (av_qc (.invokevirtual 119) 29 2 0 1) 3 cd_29 [.inl (6), .inl k2] (t) 1 [some (.inr (.inr (.inl (some (t))))), some (.inl k2), some (.inl (6))] rfl rfl rfl pp_29 rfl rfl rfl (congrArg Prod.fst (co_kt (CO_fr C.1.1 o F6.1))) rfl rfl rfl rfl ?_
        obtain ⟨v21, e22⟩ : ∃ v, u (21 * Int.toNat (k2) + 6) = v := ⟨_, rfl⟩
        have g23 := co_v (CO_fr C.1.1 o F6.1) (21 * Int.toNat (k2) + 6)
        rw [((F6.1.2.2.2.2.2.2 c (sA_cells o.2.2.2.2.2.2.2.1)).trans hu), e22] at g23
        refine xc_29 (CO_fr C.1.1 o F6.1) (k2) (by omega) 6 (by omega) rfl ((congrFun ((F6.1.2.2.2.2.2.2 c (sA_cells o.2.2.2.2.2.2.2.1)).trans hu) _).trans e22) ?_
        show av_wp _ cd_54 19 [some (.inr (.inr (.inl (some (26))))), some (.inr (.inr (.inl (some (t))))), some (.inl k1), some (.inl k2), a3] [.inl v21] h4 _
        refine av_wp_seq 2 (pc' := 23) (lv' := [some (.inr (.inr (.inl (some (26))))), some (.inr (.inr (.inl (some (t))))), some (.inl k1), some (.inl k2), some (.inl v21)]) (st' := [.inl v21]) (h' := h4) rfl ?_
        refine wq_k1 (p' := 26) rfl rfl ⟨by omega, by omega⟩ (fun c24 => ?_) (fun c25 => ?_)
        · have c24 : v21 < (0) := c24
          refine av_wp_seq 2 (pc' := 4) (lv' := [some (.inr (.inr (.inl (some (26))))), some (.inr (.inr (.inl (some (t))))), some (.inl k1), some (.inl (k2 + (1))), some (.inl v21)]) (st' := []) (h' := h4) rfl ?_
          exact I11 _ (by omega) (k1) ((k2 + (1))) (some (.inl v21)) h4 n7 rfl (g14.elim (fun z => Or.inl ⟨z.1, fun k hk => if c : k = Int.toNat k2 then (by subst c; rw [e22]; omega) else z.2 k (by omega)⟩) Or.inr) (by omega) (by omega) (by omega) C5 F6 (by rw [show Int.toNat (k2 + (1)) = Int.toNat k2 + 1 by omega]; exact MGI_n X8 e22 (by omega)) rfl
        · have c25 : (0) ≤ v21 := c25
          refine av_wp_seq 2 (pc' := 30) (lv' := [some (.inr (.inr (.inl (some (26))))), some (.inr (.inr (.inl (some (t))))), some (.inl k1), some (.inl k2), some (.inl v21)]) (st' := [.inl (16), .inl v21]) (h' := h4) rfl ?_
          refine wq_k2 (p' := 33) rfl rfl ⟨by omega, by omega⟩ ⟨by omega, by omega⟩ (fun c26 => ?_) (fun c27 => ?_)
          · have c26 : (16) ≤ v21 := c26
            refine av_wp_seq 2 (pc' := 4) (lv' := [some (.inr (.inr (.inl (some (26))))), some (.inr (.inr (.inl (some (t))))), some (.inl k1), some (.inl (k2 + (1))), some (.inl v21)]) (st' := []) (h' := h4) rfl ?_
            exact I11 _ (by omega) (k1) ((k2 + (1))) (some (.inl v21)) h4 n7 rfl (g14.elim (fun z => Or.inl ⟨z.1, fun k hk => if c : k = Int.toNat k2 then (by subst c; rw [e22]; omega) else z.2 k (by omega)⟩) Or.inr) (by omega) (by omega) (by omega) C5 F6 (by rw [show Int.toNat (k2 + (1)) = Int.toNat k2 + 1 by omega]; exact MGI_n X8 e22 (by omega)) rfl
          · have c27 : v21 < (16) := c27
            refine av_wp_seq 1 (pc' := 34) (lv' := [some (.inr (.inr (.inl (some (26))))), some (.inr (.inr (.inl (some (t))))), some (.inl k1), some (.inl k2), some (.inl v21)]) (st' := [.inr (.inr (.inl (some (26))))]) (h' := h4) rfl ?_
            refine wq_gr (p' := 37) rfl rfl (congrArg Prod.fst (ly_k C5.1.1 26 rfl)) rfl (ly_g C5.1.1 26 5 28 rfl) ?_
            refine av_wp_seq 2 (pc' := 40) (lv' := [some (.inr (.inr (.inl (some (26))))), some (.inr (.inr (.inl (some (t))))), some (.inl k1), some (.inl k2), some (.inl v21)]) (st' := [.inl (1), .inl v21, .inr (.inr (.inl (some (28))))]) (h' := h4) rfl ?_
            refine xj_28 (p' := 41) rfl rfl C5 F6 (by omega) (by omega) (fun h28 C29 F30 => ?_)
            refine av_wp_seq 4 (pc' := 4) (lv' := [some (.inr (.inr (.inl (some (26))))), some (.inr (.inr (.inl (some (t))))), some (.inl (1)), some (.inl (k2 + (1))), some (.inl v21)]) (st' := []) (h' := h28) rfl ?_
            exact I11 _ (by omega) ((1)) ((k2 + (1))) (some (.inl v21)) h28 (av_u1 n7 (Int.toNat (v21)) (1)) rfl (Or.inr rfl) (by omega) (by omega) (by omega) C29 F30 (by rw [show Int.toNat (k2 + (1)) = Int.toNat k2 + 1 by omega]; exact MGI_s X8 e22 (by omega)) rfl
  exact L10 _ ((0)) ((0)) (none) h nd rfl (Or.inl ⟨rfl, fun k hk => by omega⟩) (by omega) (by omega) (by omega) C F (MGI_0 nb) rfl

set_option maxRecDepth 100000 in
set_option maxHeartbeats 4000000 in
theorem cx_53 {h : av_H} {U : Nat → Nat → Int} {S : Nat → Nat} {n : Int} {sr nd : Nat → Int} (C : CJ U S n sr nd h) {t c s : Nat} {cb : Int} (o : CO h t c s cb) {u : Nat → Int} (hu : hA h c = u) (m : Int) (qm : 0 ≤ m ∧ m ≤ 15) (mn : m ≤ n) (WF : ∀ i : Nat, (i : Int) < n → CWF (U i) (S i) i) {Q : Option av_V → av_H → Prop} (hq : ∀ (v : Int) h' nd', CJ U S n sr nd' h' → FJ h h' → ((v = 0 ∧ (∀ k : Nat, k < s → u (21 * k + 6) < 0 ∨ 16 ≤ u (21 * k + 6))) ∨ (v = 1 ∧ NDI U S u s (Int.toNat m) (-1) nd')) → Q (some (.inl v)) h') : av_wp none cd_53 0 [some (.inr (.inr (.inl (some (26))))), some (.inr (.inr (.inl (some (t))))), some (.inl m), none, none, none] [] h Q := by
  have F := FJ_rf h
  have nr := C.2.1.2.1
  have s12 := co_s12 o
  refine av_wp_seq 2 (pc' := 2) (lv' := [some (.inr (.inr (.inl (some (26))))), some (.inr (.inr (.inl (some (t))))), some (.inl m), some (.inl (0)), none, none]) (st' := []) (h' := h) rfl ?_
  have L8 : ∀ (m7 : Nat) (k1 : Int) (h2 : av_H) (n5 : Nat → Int), (0 ≤ k1 ∧ k1 ≤ 16) → CJ U S n sr n5 h2 → FJ h h2 → FI 16 (fun _ => 0) nd k1 n5 → (16 - k1).toNat = m7 → av_wp none cd_53 2 [some (.inr (.inr (.inl (some (26))))), some (.inr (.inr (.inl (some (t))))), some (.inl m), some (.inl k1), none, none] [] h2 Q := by
    intro m7
    induction m7 using Nat.strongRecOn with
    | _ m7 I9 =>
      intro k1 h2 n5 g11 C3 F4 X6 e10
      refine av_wp_seq 2 (pc' := 5) (lv' := [some (.inr (.inr (.inl (some (26))))), some (.inr (.inr (.inl (some (t))))), some (.inl m), some (.inl k1), none, none]) (st' := [.inl (16), .inl k1]) (h' := h2) rfl ?_
      refine wq_k2 (p' := 8) rfl rfl ⟨by omega, by omega⟩ ⟨by omega, by omega⟩ (fun c12 => ?_) (fun c13 => ?_)
      · have c12 : (16) ≤ k1 := c12
        have Y14 := FI_e X6 (by omega)
        refine av_wp_seq 2 (pc' := 23) (lv' := [some (.inr (.inr (.inl (some (26))))), some (.inr (.inr (.inl (some (t))))), some (.inl m), some (.inl k1), none, none]) (st' := [.inr (.inr (.inl (some (t)))), .inr (.inr (.inl (some (26))))]) (h' := h2) rfl ?_
        refine wq_cv (p' := 26) (av_qc (.invokevirtual 112) 54 1 0 3) 5 cd_54 [.inr (.inr (.inl (some (t))))] (26) 3 [some (.inr (.inr (.inl (some (26))))), some (.inr (.inr (.inl (some (t))))), none, none, none] rfl rfl rfl pp_54 rfl rfl rfl (congrArg Prod.fst (ly_k C3.1.1 26 rfl)) rfl rfl rfl rfl ?_
        refine cx_54 C3 (CO_fr C.1.1 o F4.1) ((F4.1.2.2.2.2.2.2 c (sA_cells o.2.2.2.2.2.2.2.1)).trans hu) (fun j hj => by rw [Y14 j hj]; decide) (fun v15 h16 n17 C18 F19 M20 p21 => ?_)
        have F22 := FJ_tr F4 F19
        show av_wp _ cd_53 26 [some (.inr (.inr (.inl (some (26))))), some (.inr (.inr (.inl (some (t))))), some (.inl m), some (.inl k1), none, none] [.inl v15] h16 _
        refine av_wp_seq 5 (pc' := 32) (lv' := [some (.inr (.inr (.inl (some (26))))), some (.inr (.inr (.inl (some (t))))), some (.inl m), some (.inl v15), some (.inl (m - (1))), none]) (st' := []) (h' := h16) rfl ?_
        have L31 : ∀ (m30 : Nat) (k23 : Int) (a24 : Option av_V) (h25 : av_H) (n28 : Nat → Int), av_lg a24 = false → k23 < m → (-1 ≤ k23 ∧ k23 ≤ 15) → CJ U S n sr n28 h25 → FJ h h25 → ((v15 = 0 ∧ (∀ k : Nat, k < s → u (21 * k + 6) < 0 ∨ 16 ≤ u (21 * k + 6))) ∨ (v15 = 1 ∧ NDI U S u s (Int.toNat m) k23 n28)) → (k23 + 1).toNat = m30 → av_wp none cd_53 32 [some (.inr (.inr (.inl (some (26))))), some (.inr (.inr (.inl (some (t))))), some (.inl m), some (.inl v15), some (.inl k23), a24] [] h25 Q := by
          intro m30
          induction m30 using Nat.strongRecOn with
          | _ m30 I32 =>
            intro k23 a24 h25 n28 g34 g35 g36 C26 F27 X29 e33
            have la24 := g34
            refine av_wp_seq 1 (pc' := 33) (lv' := [some (.inr (.inr (.inl (some (26))))), some (.inr (.inr (.inl (some (t))))), some (.inl m), some (.inl v15), some (.inl k23), a24]) (st' := [.inl v15]) (h' := h25) rfl ?_
            refine wq_k1 (p' := 36) rfl rfl ⟨by omega, by omega⟩ (fun c37 => ?_) (fun c38 => ?_)
            · have c37 : v15 = (0) := c37
              refine av_wp_seq 1 (pc' := 81) (lv' := [some (.inr (.inr (.inl (some (26))))), some (.inr (.inr (.inl (some (t))))), some (.inl m), some (.inl v15), some (.inl k23), a24]) (st' := [.inl v15]) (h' := h25) rfl ?_
              refine wq_rb rfl (by omega) ?_
              exact hq _ h25 _ C26 F27 (X29.elim Or.inl (fun z => Or.inr ⟨z.1, NDI_m z.2 (by omega)⟩))
            · have c38 : v15 ≠ (0) := c38
              refine av_wp_seq 1 (pc' := 38) (lv' := [some (.inr (.inr (.inl (some (26))))), some (.inr (.inr (.inl (some (t))))), some (.inl m), some (.inl v15), some (.inl k23), a24]) (st' := [.inl k23]) (h' := h25) rfl ?_
              refine wq_k1 (p' := 41) rfl rfl ⟨by omega, by omega⟩ (fun c39 => ?_) (fun c40 => ?_)
              · have c39 : k23 < (0) := c39
                refine av_wp_seq 1 (pc' := 81) (lv' := [some (.inr (.inr (.inl (some (26))))), some (.inr (.inr (.inl (some (t))))), some (.inl m), some (.inl v15), some (.inl k23), a24]) (st' := [.inl v15]) (h' := h25) rfl ?_
                refine wq_rb rfl (by omega) ?_
                exact hq _ h25 _ C26 F27 (X29.elim Or.inl (fun z => Or.inr ⟨z.1, NDI_m z.2 (by omega)⟩))
              · have c40 : (0) ≤ k23 := c40
                have N41 : ∀ j, j < 16 → 0 ≤ n28 j ∧ n28 j ≤ 1 := X29.elim (fun z => by omega) (fun z => z.2.1)
                refine av_wp_seq 1 (pc' := 42) (lv' := [some (.inr (.inr (.inl (some (26))))), some (.inr (.inr (.inl (some (t))))), some (.inl m), some (.inl v15), some (.inl k23), a24]) (st' := [.inr (.inr (.inl (some (26))))]) (h' := h25) rfl ?_
                refine wq_gr (p' := 45) rfl rfl (congrArg Prod.fst (ly_k C26.1.1 26 rfl)) rfl (ly_g C26.1.1 26 0 3 rfl) ?_
                refine av_wp_seq 1 (pc' := 47) (lv' := [some (.inr (.inr (.inl (some (26))))), some (.inr (.inr (.inl (some (t))))), some (.inl m), some (.inl v15), some (.inl k23), a24]) (st' := [.inl k23, .inr (.inr (.inl (some (3))))]) (h' := h25) rfl ?_
                refine wq_cv (p' := 50) (av_qc (.invokevirtual 76) 69 1 0 5) 2 cd_69 [.inl k23] (3) 5 [some (.inr (.inr (.inl (some (3))))), some (.inl k23)] rfl rfl rfl pp_69 rfl rfl rfl (congrArg Prod.fst (ly_k C26.1.1 3 rfl)) rfl rfl rfl rfl ?_
                refine cz_69 C26 (k23) (by omega) (fun z42 => ?_) (fun z42 z43 t44 c45 y46 y47 => ?_)
                · show av_wp _ cd_53 50 [some (.inr (.inr (.inl (some (26))))), some (.inr (.inr (.inl (some (t))))), some (.inl m), some (.inl v15), some (.inl k23), a24] [.inr (.inr (.inl none))] h25 _
                  refine av_wp_seq 5 (pc' := 32) (lv' := [some (.inr (.inr (.inl (some (26))))), some (.inr (.inr (.inl (some (t))))), some (.inl m), some (.inl v15), some (.inl (k23 + (-1))), some (.inr (.inr (.inl none)))]) (st' := []) (h' := h25) rfl ?_
                  exact I32 _ (by omega) ((k23 + (-1))) (some (.inr (.inr (.inl none)))) h25 n28 rfl (by omega) (by omega) C26 F27 (by omega) rfl
                · have g48 := co_s12 y46
                  have g49 := co_cbr y46
                  show av_wp _ cd_53 50 [some (.inr (.inr (.inl (some (26))))), some (.inr (.inr (.inl (some (t))))), some (.inl m), some (.inl v15), some (.inl k23), a24] [.inr (.inr (.inl (some (t44))))] h25 _
                  refine av_wp_seq 4 (pc' := 58) (lv' := [some (.inr (.inr (.inl (some (26))))), some (.inr (.inr (.inl (some (t))))), some (.inl m), some (.inl v15), some (.inl k23), some (.inr (.inr (.inl (some (t44)))))]) (st' := [.inr (.inr (.inl (some (26))))]) (h' := h25) rfl ?_
                  refine wq_gr (p' := 61) rfl rfl (congrArg Prod.fst (ly_k C26.1.1 26 rfl)) rfl (ly_g C26.1.1 26 5 28 rfl) ?_
                  refine av_wp_seq 1 (pc' := 63) (lv' := [some (.inr (.inr (.inl (some (26))))), some (.inr (.inr (.inl (some (t))))), some (.inl m), some (.inl v15), some (.inl k23), some (.inr (.inr (.inl (some (t44)))))]) (st' := [.inl k23, .inr (.inr (.inl (some (28))))]) (h' := h25) rfl ?_
                  obtain ⟨v50, e51⟩ : ∃ v, n28 (Int.toNat (k23)) = v := ⟨_, rfl⟩
                  have g52 := N41 (Int.toNat (k23)) (by omega)
                  rw [e51] at g52
                  refine wq_bl (p' := 64) (n := 16) rfl rfl ((Or.inr (ly_k C26.1.1 28 rfl))) (by omega) ((congrFun C26.2.2.2 _).trans e51) ?_
                  refine wq_k1 (p' := 67) rfl rfl ⟨by omega, by omega⟩ (fun c53 => ?_) (fun c54 => ?_)
                  · have c53 : v50 = (0) := c53
                    refine av_wp_seq 2 (pc' := 32) (lv' := [some (.inr (.inr (.inl (some (26))))), some (.inr (.inr (.inl (some (t))))), some (.inl m), some (.inl v15), some (.inl (k23 + (-1))), some (.inr (.inr (.inl (some (t44)))))]) (st' := []) (h' := h25) rfl ?_
                    exact I32 _ (by omega) ((k23 + (-1))) (some (.inr (.inr (.inl (some (t44)))))) h25 n28 rfl (by omega) (by omega) C26 F27 (X29.elim Or.inl (fun z => Or.inr ⟨z.1, NDI_n z.2 (by omega) (by rw [e51]; omega)⟩)) rfl
                  · have c54 : v50 ≠ (0) := c54
                    refine av_wp_seq 2 (pc' := 70) (lv' := [some (.inr (.inr (.inl (some (26))))), some (.inr (.inr (.inl (some (t))))), some (.inl m), some (.inl v15), some (.inl k23), some (.inr (.inr (.inl (some (t44)))))]) (st' := [.inr (.inr (.inl (some (t44)))), .inr (.inr (.inl (some (26))))]) (h' := h25) rfl ?_
                    refine wq_cv (p' := 73) (av_qc (.invokevirtual 112) 54 1 0 3) 5 cd_54 [.inr (.inr (.inl (some (t44))))] (26) 3 [some (.inr (.inr (.inl (some (26))))), some (.inr (.inr (.inl (some (t44))))), none, none, none] rfl rfl rfl pp_54 rfl rfl rfl (congrArg Prod.fst (ly_k C26.1.1 26 rfl)) rfl rfl rfl rfl ?_
                    refine cx_54 C26 y46 y47 N41 (fun v55 h56 n57 C58 F59 M60 p61 => ?_)
                    have F62 := FJ_tr F27 F59
                    show av_wp _ cd_53 73 [some (.inr (.inr (.inl (some (26))))), some (.inr (.inr (.inl (some (t))))), some (.inl m), some (.inl v15), some (.inl k23), some (.inr (.inr (.inl (some (t44)))))] [.inl v55] h56 _
                    refine av_wp_seq 3 (pc' := 32) (lv' := [some (.inr (.inr (.inl (some (26))))), some (.inr (.inr (.inl (some (t))))), some (.inl m), some (.inl v15), some (.inl (k23 + (-1))), some (.inr (.inr (.inl (some (t44)))))]) (st' := []) (h' := h56) rfl ?_
                    exact I32 _ (by omega) ((k23 + (-1))) (some (.inr (.inr (.inl (some (t44)))))) h56 n57 rfl (by omega) (by omega) C58 F62 (X29.elim (fun z => by omega) (fun z => Or.inr ⟨z.1, NDI_s z.2 (by omega) (by omega) (by have w := WF (Int.toNat k23) (by omega); intro k hk; have := (w.2.2.1 k hk).2; omega) M60⟩)) rfl
        exact L31 _ ((m - (1))) (none) h16 n17 rfl (by omega) (by omega) C18 F22 (p21.elim Or.inl (fun z => Or.inr ⟨z, by have y := NDI_0 (U := U) (S := S) (m := Int.toNat m) M20; rw [show ((Int.toNat m : Nat) : Int) = m by omega] at y; exact y⟩)) rfl
      · have c13 : k1 < (16) := c13
        refine av_wp_seq 1 (pc' := 9) (lv' := [some (.inr (.inr (.inl (some (26))))), some (.inr (.inr (.inl (some (t))))), some (.inl m), some (.inl k1), none, none]) (st' := [.inr (.inr (.inl (some (26))))]) (h' := h2) rfl ?_
        refine wq_gr (p' := 12) rfl rfl (congrArg Prod.fst (ly_k C3.1.1 26 rfl)) rfl (ly_g C3.1.1 26 5 28 rfl) ?_
        refine av_wp_seq 2 (pc' := 14) (lv' := [some (.inr (.inr (.inl (some (26))))), some (.inr (.inr (.inl (some (t))))), some (.inl m), some (.inl k1), none, none]) (st' := [.inl (0), .inl k1, .inr (.inr (.inl (some (28))))]) (h' := h2) rfl ?_
        refine xj_28 (p' := 15) rfl rfl C3 F4 (by omega) (by omega) (fun h63 C64 F65 => ?_)
        refine av_wp_seq 2 (pc' := 2) (lv' := [some (.inr (.inr (.inl (some (26))))), some (.inr (.inr (.inl (some (t))))), some (.inl m), some (.inl (k1 + (1))), none, none]) (st' := []) (h' := h63) rfl ?_
        exact I9 _ (by omega) ((k1 + (1))) h63 (av_u1 n5 (Int.toNat (k1)) (0)) (by omega) C64 F65 (FI_s X6 (by omega) rfl) rfl
  exact L8 _ ((0)) h nd (by omega) C F (FI_0 (fun j _ => rfl)) rfl

