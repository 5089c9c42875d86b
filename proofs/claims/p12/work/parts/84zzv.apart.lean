/-! APART, exactly: the class, both benches seated -/
theorem wov_r {u : Nat → Int} {s w : Nat} (W : UW u s) (hw : w < 5) : ∀ f : Nat, ∀ k : Int, k < (s : Int) → -1 ≤ wov u w f k ∧ wov u w f k ≤ 999 := by
  intro f
  induction f with
  | zero => intro k _; show (-1 : Int) ≤ -1 ∧ (-1 : Int) ≤ 999; omega
  | succ f ih =>
    intro k hk
    have e : wov u w (f + 1) k = if 0 ≤ k then (if u (21 * k.toNat + 10 + w) ≠ -1 then u (21 * k.toNat + 10 + w) else if u (21 * k.toNat + 0) = 3 then wov u w f (u (21 * k.toNat + 3)) else -1) else -1 := rfl
    rw [e]
    split
    · have h := W k.toNat (by omega)
      have h1 := h.2.2.2.2.2.2 w hw
      have h2 := ih (u (21 * k.toNat + 3)) (by have := h.2.1; omega)
      (repeat' split) <;> omega
    · omega
theorem bwv_r {u ro : Nat → Int} {s w : Nat} {b o : Int} (W : UW u s) (hw : w < 5) (hb : b < (s : Int)) (ho : o < (s : Int)) : -1 ≤ bwv u ro b o w ∧ bwv u ro b o w ≤ 999 := by
  have h2 := wov_r W hw 12 o ho
  unfold bwv
  split
  · next c =>
    have h1 := (W b.toNat (by omega)).2.2.2.2.2.2 w hw
    split <;> omega
  · exact h2
set_option maxRecDepth 100000 in
set_option maxHeartbeats 4000000 in
theorem cx_62 {h : av_H} {g : av_H} {U : Nat → Nat → Int} {S : Nat → Nat} {n : Int} {sr nd : Nat → Int} {t c s : Nat} {cb : Int} {u : Nat → Int} {r : Nat} {ro bar : Nat → Int} {r2 : Nat} {ro2 bar2 : Nat → Int} (X : SBX U S n sr nd t c s cb u r ro bar r2 ro2 bar2 g h) (G1 : SEA u ro bar s) (G2 : SEA u ro2 bar2 s) (W : UW u s) (R1 : RLW ro) (R2 : RLW ro2) (x : Int) (qx : 0 ≤ x ∧ x ≤ 1023) {Q : Option av_V → av_H → Prop} (hq : ∀ (v : Int) h', SBX U S n sr nd t c s cb u r ro bar r2 ro2 bar2 g h' → ((v = 1 ∧ PRT u ro bar ro2 bar2 s x) ∨ (v = 0 ∧ ¬ PRT u ro bar ro2 bar2 s x)) → Q (some (.inl v)) h') : av_wp none cd_62 0 [some (.inr (.inr (.inl (some (26))))), some (.inl x), none] [] h Q := by
  obtain ⟨C15, F16, ⟨a1, m2, m3, m4, E5, T6, Z7⟩, ⟨a8, m9, m10, m11, E12, T13, Z14⟩⟩ := X
  have g17 := co_s12 (ib_co E5.1)
  have g18 := co_cbr (ib_co E5.1)
  refine av_wp_seq 1 (pc' := 1) (lv' := [some (.inr (.inr (.inl (some (26))))), some (.inl x), none]) (st' := [.inr (.inr (.inl (some (26))))]) (h' := h) rfl ?_
  refine wq_gr (p' := 4) rfl rfl (congrArg Prod.fst (ly_k C15.1.1 26 rfl)) rfl (ly_g C15.1.1 26 1 35 rfl) ?_
  refine av_wp_seq 1 (pc' := 5) (lv' := [some (.inr (.inr (.inl (some (26))))), some (.inl x), none]) (st' := [.inl x, .inr (.inr (.inl (some (35))))]) (h' := h) rfl ?_
  refine wq_cv (p' := 8) (av_qc (.invokevirtual 89) 2 1 0 0) 2 cd_2 [.inl x] (35) 0 [some (.inr (.inr (.inl (some (35))))), some (.inl x)] rfl rfl rfl pp_2 rfl rfl rfl (congrArg Prod.fst (bn_k0 C15.1.1 (Or.inl rfl))) rfl rfl rfl rfl ?_
  refine cy_2 E5 (FN_rf 35 h) G1 T6 Z7 (x) (by omega) (fun v19 h20 a21 m22 m23 m24 E25 F26 Z27 T28 D29 B30 R31 p32 => ?_)
  have E33 := EB_fn E12 (Or.inl rfl) (by decide) F26 (ib_ic E25.1)
  have C34 := CJ_bn (Or.inl rfl) C15 F26 (ib_ic E25.1)
  have F35 := Fr_tr F16 F26.1.1
  have g36 : (-1 ≤ m22 ∧ m22 ≤ 11) ∧ (-1 ≤ m23 ∧ m23 ≤ 11) ∧ (-1 ≤ m24 ∧ m24 ≤ 9999) := R31
  have b37 := bgn_f (u := u) (ro := ro) (bar := bar) (s := s) (x := x)
  rw [B30] at b37
  have b37c : (m24 = 9999 ∧ m22 = -1 ∧ m23 = -1) ∨ (m24 < 9999 ∧ (0 ≤ m23 ∧ m23 < (s : Int)) ∧ (m22 = -1 ∨ (0 ≤ m22 ∧ m22 < (s : Int)))) := b37.elim Or.inl (fun z => Or.inr ⟨z.1, ⟨z.2.1.1, z.2.1.2.1⟩, z.2.2.elim Or.inl (fun y => Or.inr ⟨y.1, y.2.1⟩)⟩)
  clear b37
  show av_wp _ cd_62 8 [some (.inr (.inr (.inl (some (26))))), some (.inl x), none] [.inl v19] h20 _
  refine av_wp_seq 2 (pc' := 10) (lv' := [some (.inr (.inr (.inl (some (26))))), some (.inl x), none]) (st' := [.inr (.inr (.inl (some (26))))]) (h' := h20) rfl ?_
  refine wq_gr (p' := 13) rfl rfl (congrArg Prod.fst (ly_k C34.1.1 26 rfl)) rfl (ly_g C34.1.1 26 2 48 rfl) ?_
  refine av_wp_seq 1 (pc' := 14) (lv' := [some (.inr (.inr (.inl (some (26))))), some (.inl x), none]) (st' := [.inl x, .inr (.inr (.inl (some (48))))]) (h' := h20) rfl ?_
  refine wq_cv (p' := 17) (av_qc (.invokevirtual 89) 2 1 0 0) 2 cd_2 [.inl x] (48) 0 [some (.inr (.inr (.inl (some (48))))), some (.inl x)] rfl rfl rfl pp_2 rfl rfl rfl (congrArg Prod.fst (bn_k0 C34.1.1 (Or.inr (Or.inl rfl)))) rfl rfl rfl rfl ?_
  refine cy_2 E33 (FN_rf 48 h20) G2 T13 Z14 (x) (by omega) (fun v38 h39 a40 m41 m42 m43 E44 F45 Z46 T47 D48 B49 R50 p51 => ?_)
  have E52 := EB_fn E25 (Or.inr (Or.inl rfl)) (by decide) F45 (ib_ic E44.1)
  have C53 := CJ_bn (Or.inr (Or.inl rfl)) C34 F45 (ib_ic E44.1)
  have F54 := Fr_tr F35 F45.1.1
  have g55 : (-1 ≤ m41 ∧ m41 ≤ 11) ∧ (-1 ≤ m42 ∧ m42 ≤ 11) ∧ (-1 ≤ m43 ∧ m43 ≤ 9999) := R50
  have b56 := bgn_f (u := u) (ro := ro2) (bar := bar2) (s := s) (x := x)
  rw [B49] at b56
  have b56c : (m43 = 9999 ∧ m41 = -1 ∧ m42 = -1) ∨ (m43 < 9999 ∧ (0 ≤ m42 ∧ m42 < (s : Int)) ∧ (m41 = -1 ∨ (0 ≤ m41 ∧ m41 < (s : Int)))) := b56.elim Or.inl (fun z => Or.inr ⟨z.1, ⟨z.2.1.1, z.2.1.2.1⟩, z.2.2.elim Or.inl (fun y => Or.inr ⟨y.1, y.2.1⟩)⟩)
  clear b56
  show av_wp _ cd_62 17 [some (.inr (.inr (.inl (some (26))))), some (.inl x), none] [.inl v38] h39 _
  refine av_wp_seq 2 (pc' := 19) (lv' := [some (.inr (.inr (.inl (some (26))))), some (.inl x), none]) (st' := [.inr (.inr (.inl (some (26))))]) (h' := h39) rfl ?_
  refine wq_gr (p' := 22) rfl rfl (congrArg Prod.fst (ly_k C53.1.1 26 rfl)) rfl (ly_g C53.1.1 26 1 35 rfl) ?_
  refine wq_gi (p' := 25) rfl rfl (congrArg Prod.fst (bn_k0 C53.1.1 (Or.inl rfl))) rfl (E52.2.2.2.2.2.2) ?_
  refine av_wp_seq 1 (pc' := 26) (lv' := [some (.inr (.inr (.inl (some (26))))), some (.inl x), none]) (st' := [.inr (.inr (.inl (some (26)))), .inl m24]) (h' := h39) rfl ?_
  refine wq_gr (p' := 29) rfl rfl (congrArg Prod.fst (ly_k C53.1.1 26 rfl)) rfl (ly_g C53.1.1 26 2 48 rfl) ?_
  refine wq_gi (p' := 32) rfl rfl (congrArg Prod.fst (bn_k0 C53.1.1 (Or.inr (Or.inl rfl)))) rfl (E44.2.2.2.2.2.2) ?_
  refine wq_k2 (p' := 35) rfl rfl ⟨by omega, by omega⟩ ⟨by omega, by omega⟩ (fun c57 => ?_) (fun c58 => ?_)
  · have c57 : m24 = m43 := c57
    refine av_wp_seq 2 (pc' := 39) (lv' := [some (.inr (.inr (.inl (some (26))))), some (.inl x), some (.inl (0))]) (st' := []) (h' := h39) rfl ?_
    have L61 : ∀ (m60 : Nat) (k59 : Int), (∀ w, w < Int.toNat k59 → bwv u ro m22 m23 w = bwv u ro2 m41 m42 w) → (0 ≤ k59 ∧ k59 ≤ 5) → (5 - k59).toNat = m60 → av_wp none cd_62 39 [some (.inr (.inr (.inl (some (26))))), some (.inl x), some (.inl k59)] [] h39 Q := by
      intro m60
      induction m60 using Nat.strongRecOn with
      | _ m60 I62 =>
        intro k59 g64 g65 e63
        refine av_wp_seq 2 (pc' := 41) (lv' := [some (.inr (.inr (.inl (some (26))))), some (.inl x), some (.inl k59)]) (st' := [.inl (5), .inl k59]) (h' := h39) rfl ?_
        refine wq_k2 (p' := 44) rfl rfl ⟨by omega, by omega⟩ ⟨by omega, by omega⟩ (fun c66 => ?_) (fun c67 => ?_)
        · have c66 : (5) ≤ k59 := c66
          refine av_wp_seq 1 (pc' := 82) (lv' := [some (.inr (.inr (.inl (some (26))))), some (.inl x), some (.inl k59)]) (st' := [.inl (0)]) (h' := h39) rfl ?_
          refine av_wp_ret (v := some (.inl (0))) rfl rfl rfl ?_
          exact hq _ h39 ⟨C53, F54, ⟨_, _, _, _, E52, T28, Z27⟩, ⟨_, _, _, _, E44, T47, Z46⟩⟩ (Or.inr ⟨rfl, by unfold PRT; rw [B30, B49]; rintro (y | ⟨y1, w, y2, y3⟩); (· exact y (show m24 = m43 by omega)); (· have y1 : m24 ≠ 9999 := y1; exact y3 (g64 w (by omega)))⟩)
        · have c67 : k59 < (5) := c67
          refine av_wp_seq 1 (pc' := 45) (lv' := [some (.inr (.inr (.inl (some (26))))), some (.inl x), some (.inl k59)]) (st' := [.inr (.inr (.inl (some (26))))]) (h' := h39) rfl ?_
          refine wq_gr (p' := 48) rfl rfl (congrArg Prod.fst (ly_k C53.1.1 26 rfl)) rfl (ly_g C53.1.1 26 1 35 rfl) ?_
          refine wq_cv (p' := 51) (av_qc (.invokevirtual 150) 3 0 0 0) 1 cd_3 [] (35) 0 [some (.inr (.inr (.inl (some (35)))))] rfl rfl rfl pp_3 rfl rfl rfl (congrArg Prod.fst (bn_k0 C53.1.1 (Or.inl rfl))) rfl rfl rfl rfl ?_
          refine cx_3 E52 (FN_rf 35 h39) (by omega) (fun v68 p69 => ?_)
          show av_wp _ cd_62 51 [some (.inr (.inr (.inl (some (26))))), some (.inl x), some (.inl k59)] [.inl v68] h39 _
          refine wq_k1 (p' := 54) rfl rfl ⟨by omega, by omega⟩ (fun c70 => ?_) (fun c71 => ?_)
          · have c70 : v68 = (0) := c70
            refine av_wp_seq 1 (pc' := 82) (lv' := [some (.inr (.inr (.inl (some (26))))), some (.inl x), some (.inl k59)]) (st' := [.inl (0)]) (h' := h39) rfl ?_
            refine av_wp_ret (v := some (.inl (0))) rfl rfl rfl ?_
            exact hq _ h39 ⟨C53, F54, ⟨_, _, _, _, E52, T28, Z27⟩, ⟨_, _, _, _, E44, T47, Z46⟩⟩ (Or.inr ⟨rfl, by unfold PRT; rw [B30, B49]; rintro (y | ⟨y1, w, y2, y3⟩); (· exact y (show m24 = m43 by omega)); (· have y1 : m24 ≠ 9999 := y1; exact y3 (g64 w (by omega)))⟩)
          · have c71 : v68 ≠ (0) := c71
            refine av_wp_seq 1 (pc' := 55) (lv' := [some (.inr (.inr (.inl (some (26))))), some (.inl x), some (.inl k59)]) (st' := [.inr (.inr (.inl (some (26))))]) (h' := h39) rfl ?_
            refine wq_gr (p' := 58) rfl rfl (congrArg Prod.fst (ly_k C53.1.1 26 rfl)) rfl (ly_g C53.1.1 26 1 35 rfl) ?_
            refine av_wp_seq 1 (pc' := 59) (lv' := [some (.inr (.inr (.inl (some (26))))), some (.inl x), some (.inl k59)]) (st' := [.inl k59, .inr (.inr (.inl (some (35))))]) (h' := h39) rfl ?_
            refine wq_cv (p' := 62) (av_qc (.invokevirtual 154) 17 1 0 0) 4 cd_17 [.inl k59] (35) 0 [some (.inr (.inr (.inl (some (35))))), some (.inl k59), none, none] rfl rfl rfl pp_17 rfl rfl rfl (congrArg Prod.fst (bn_k0 C53.1.1 (Or.inl rfl))) rfl rfl rfl rfl ?_
            refine cx_17 E52 (FN_rf 35 h39) W R1 (by omega) (by omega) (k59) (by omega) (fun v72 p73 => ?_)
            have g74 := bwv_r (u := u) (ro := ro) (w := Int.toNat k59) W (b := m22) (o := m23) (by omega) (by omega) (by omega)
            rw [← p73] at g74
            show av_wp _ cd_62 62 [some (.inr (.inr (.inl (some (26))))), some (.inl x), some (.inl k59)] [.inl v72] h39 _
            refine av_wp_seq 1 (pc' := 63) (lv' := [some (.inr (.inr (.inl (some (26))))), some (.inl x), some (.inl k59)]) (st' := [.inr (.inr (.inl (some (26)))), .inl v72]) (h' := h39) rfl ?_
            refine wq_gr (p' := 66) rfl rfl (congrArg Prod.fst (ly_k C53.1.1 26 rfl)) rfl (ly_g C53.1.1 26 2 48 rfl) ?_
            refine av_wp_seq 1 (pc' := 67) (lv' := [some (.inr (.inr (.inl (some (26))))), some (.inl x), some (.inl k59)]) (st' := [.inl k59, .inr (.inr (.inl (some (48)))), .inl v72]) (h' := h39) rfl ?_
            refine wq_cv (p' := 70) (av_qc (.invokevirtual 154) 17 1 0 0) 4 cd_17 [.inl k59] (48) 0 [some (.inr (.inr (.inl (some (48))))), some (.inl k59), none, none] rfl rfl rfl pp_17 rfl rfl rfl (congrArg Prod.fst (bn_k0 C53.1.1 (Or.inr (Or.inl rfl)))) rfl rfl rfl rfl ?_
            refine cx_17 E44 (FN_rf 48 h39) W R2 (by omega) (by omega) (k59) (by omega) (fun v75 p76 => ?_)
            have g77 := bwv_r (u := u) (ro := ro2) (w := Int.toNat k59) W (b := m41) (o := m42) (by omega) (by omega) (by omega)
            rw [← p76] at g77
            show av_wp _ cd_62 70 [some (.inr (.inr (.inl (some (26))))), some (.inl x), some (.inl k59)] [.inl v75, .inl v72] h39 _
            refine wq_k2 (p' := 73) rfl rfl ⟨by omega, by omega⟩ ⟨by omega, by omega⟩ (fun c78 => ?_) (fun c79 => ?_)
            · have c78 : v72 = v75 := c78
              refine av_wp_seq 2 (pc' := 39) (lv' := [some (.inr (.inr (.inl (some (26))))), some (.inl x), some (.inl (k59 + (1)))]) (st' := []) (h' := h39) rfl ?_
              exact I62 _ (by omega) ((k59 + (1))) (fun w hw => by by_cases c : w = Int.toNat k59; (· rw [c, ← p73, ← p76]; omega); exact g64 w (by omega)) (by omega) rfl
            · have c79 : v72 ≠ v75 := c79
              refine av_wp_seq 1 (pc' := 74) (lv' := [some (.inr (.inr (.inl (some (26))))), some (.inl x), some (.inl k59)]) (st' := [.inl (1)]) (h' := h39) rfl ?_
              refine av_wp_ret (v := some (.inl (1))) rfl rfl rfl ?_
              exact hq _ h39 ⟨C53, F54, ⟨_, _, _, _, E52, T28, Z27⟩, ⟨_, _, _, _, E44, T47, Z46⟩⟩ (Or.inl ⟨rfl, by unfold PRT; rw [B30, B49]; exact Or.inr ⟨show m24 ≠ 9999 by omega, Int.toNat k59, by omega, show bwv u ro m22 m23 _ ≠ bwv u ro2 m41 m42 _ by rw [← p73, ← p76]; omega⟩⟩)
    exact L61 _ ((0)) (fun w hw => absurd hw (by omega)) (by omega) rfl
  · have c58 : m24 ≠ m43 := c58
    refine av_wp_seq 1 (pc' := 36) (lv' := [some (.inr (.inr (.inl (some (26))))), some (.inl x), none]) (st' := [.inl (1)]) (h' := h39) rfl ?_
    refine av_wp_ret (v := some (.inl (1))) rfl rfl rfl ?_
    exact hq _ h39 ⟨C53, F54, ⟨_, _, _, _, E52, T28, Z27⟩, ⟨_, _, _, _, E44, T47, Z46⟩⟩ (Or.inl ⟨rfl, by unfold PRT; rw [B30, B49]; exact Or.inl (show m24 ≠ m43 by omega)⟩)

set_option maxRecDepth 100000 in
set_option maxHeartbeats 4000000 in
theorem cx_60 {h : av_H} {g : av_H} {U : Nat → Nat → Int} {S : Nat → Nat} {n : Int} {sr nd : Nat → Int} {t c s : Nat} {cb : Int} {u : Nat → Int} {r : Nat} {ro bar : Nat → Int} {r2 : Nat} {ro2 bar2 : Nat → Int} (X : SBX U S n sr nd t c s cb u r ro bar r2 ro2 bar2 g h) (G1 : SEA u ro bar s) (G2 : SEA u ro2 bar2 s) (W : UW u s) (R1 : RLW ro) (R2 : RLW ro2) (hc : 0 ≤ cb) {Q : Option av_V → av_H → Prop} (hq : ∀ (v : Int) h', SBX U S n sr nd t c s cb u r ro bar r2 ro2 bar2 g h' → v = cnP (PRT u ro bar ro2 bar2 s) (Int.toNat cb) → Q (some (.inl v)) h') : av_wp none cd_60 0 [some (.inr (.inr (.inl (some (26))))), none, none] [] h Q := by
  refine av_wp_seq 4 (pc' := 4) (lv' := [some (.inr (.inr (.inl (some (26))))), some (.inl (0)), some (.inl (0))]) (st' := []) (h' := h) rfl ?_
  have L7 : ∀ (m6 : Nat) (k1 : Int) (k2 : Int) (h3 : av_H), k1 ≤ k2 → (0 ≤ cb → k2 ≤ cb) → (0 ≤ k1 ∧ k1 ≤ 1024) → (0 ≤ k2 ∧ k2 ≤ 1024) → SBX U S n sr nd t c s cb u r ro bar r2 ro2 bar2 g h3 → k1 = cnP (PRT u ro bar ro2 bar2 s) (Int.toNat k2) → (1024 - k2).toNat = m6 → av_wp none cd_60 4 [some (.inr (.inr (.inl (some (26))))), some (.inl k1), some (.inl k2)] [] h3 Q := by
    intro m6
    induction m6 using Nat.strongRecOn with
    | _ m6 I8 =>
      intro k1 k2 h3 g10 g11 g12 g13 X4 Y5 e9
      refine av_wp_seq 2 (pc' := 6) (lv' := [some (.inr (.inr (.inl (some (26))))), some (.inl k1), some (.inl k2)]) (st' := [.inr (.inr (.inl (some (26)))), .inl k2]) (h' := h3) rfl ?_
      refine wq_gr (p' := 9) rfl rfl (congrArg Prod.fst (ly_k X4.1.1.1 26 rfl)) rfl (ly_g X4.1.1.1 26 1 35 rfl) ?_
      obtain ⟨E14a, E14x, E14y, E14z, E14, _⟩ := X4.2.2.1
      have g15 := co_cbr (ib_co E14.1)
      refine wq_gr (p' := 12) rfl rfl (congrArg Prod.fst (bn_k0 X4.1.1.1 (Or.inl rfl))) rfl (ib_t E14.1) ?_
      refine wq_gi (p' := 15) rfl rfl (congrArg Prod.fst (co_kt (ib_co E14.1))) rfl (co_cb (ib_co E14.1)) ?_
      refine wq_k2 (p' := 18) rfl rfl ⟨by omega, by omega⟩ ⟨by omega, by omega⟩ (fun c16 => ?_) (fun c17 => ?_)
      · have c16 : cb ≤ k2 := c16
        refine av_wp_seq 1 (pc' := 41) (lv' := [some (.inr (.inr (.inl (some (26))))), some (.inl k1), some (.inl k2)]) (st' := [.inl k1]) (h' := h3) rfl ?_
        refine av_wp_ret (v := some (.inl k1)) rfl rfl rfl ?_
        exact hq _ h3 X4 (by rw [show Int.toNat cb = Int.toNat k2 by omega]; exact Y5)
      · have c17 : k2 < cb := c17
        refine av_wp_seq 3 (pc' := 21) (lv' := [some (.inr (.inr (.inl (some (26))))), some (.inl k1), some (.inl k2)]) (st' := [.inl k2, .inr (.inr (.inl (some (26)))), .inl k1]) (h' := h3) rfl ?_
        refine wq_cv (p' := 24) (av_qc (.invokevirtual 147) 62 1 0 3) 3 cd_62 [.inl k2] (26) 3 [some (.inr (.inr (.inl (some (26))))), some (.inl k2), none] rfl rfl rfl pp_62 rfl rfl rfl (congrArg Prod.fst (ly_k X4.1.1.1 26 rfl)) rfl rfl rfl rfl ?_
        refine cx_62 X4 G1 G2 W R1 R2 (k2) (by omega) (fun v18 h19 X20 p21 => ?_)
        have g22 : v18 = 0 ∨ v18 = 1 := p21.elim (fun z => Or.inr z.1) (fun z => Or.inl z.1)
        show av_wp _ cd_60 24 [some (.inr (.inr (.inl (some (26))))), some (.inl k1), some (.inl k2)] [.inl v18, .inl k1] h19 _
        refine wq_k1 (p' := 27) rfl rfl ⟨by omega, by omega⟩ (fun c23 => ?_) (fun c24 => ?_)
        · have c23 : v18 = (0) := c23
          refine av_wp_seq 5 (pc' := 4) (lv' := [some (.inr (.inr (.inl (some (26))))), some (.inl (k1 + (0))), some (.inl (k2 + (1)))]) (st' := []) (h' := h19) rfl ?_
          exact I8 _ (by omega) ((k1 + (0))) ((k2 + (1))) h19 (by omega) (by omega) (by omega) (by omega) X20 (by rw [show Int.toNat (k2 + (1)) = Int.toNat k2 + 1 by omega, cnP_n (by rw [show ((Int.toNat k2 : Nat) : Int) = k2 by omega]; exact p21.elim (fun z => by omega) (fun z => z.2)), ← Y5]; omega) rfl
        · have c24 : v18 ≠ (0) := c24
          refine av_wp_seq 6 (pc' := 4) (lv' := [some (.inr (.inr (.inl (some (26))))), some (.inl (k1 + (1))), some (.inl (k2 + (1)))]) (st' := []) (h' := h19) rfl ?_
          exact I8 _ (by omega) ((k1 + (1))) ((k2 + (1))) h19 (by omega) (by omega) (by omega) (by omega) X20 (by rw [show Int.toNat (k2 + (1)) = Int.toNat k2 + 1 by omega, cnP_y (by rw [show ((Int.toNat k2 : Nat) : Int) = k2 by omega]; exact p21.elim (fun z => z.2) (fun z => by omega)), ← Y5]) rfl
  exact L7 _ ((0)) ((0)) h (by omega) (by omega) (by omega) (by omega) X rfl rfl

set_option maxRecDepth 100000 in
set_option maxHeartbeats 4000000 in
theorem cx_61 {h : av_H} {g : av_H} {U : Nat → Nat → Int} {S : Nat → Nat} {n : Int} {sr nd : Nat → Int} {t c s : Nat} {cb : Int} {u : Nat → Int} {r : Nat} {ro bar : Nat → Int} {r2 : Nat} {ro2 bar2 : Nat → Int} (X : SBX U S n sr nd t c s cb u r ro bar r2 ro2 bar2 g h) (G1 : SEA u ro bar s) (G2 : SEA u ro2 bar2 s) (W : UW u s) (R1 : RLW ro) (R2 : RLW ro2) (hc : 0 ≤ cb) {Q : Option av_V → av_H → Prop} (hq : ∀ (v : Int) h', SBX U S n sr nd t c s cb u r ro bar r2 ro2 bar2 g h' → v = fsP (PRT u ro bar ro2 bar2 s) (Int.toNat cb) → Q (some (.inl v)) h') : av_wp none cd_61 0 [some (.inr (.inr (.inl (some (26))))), none] [] h Q := by
  refine av_wp_seq 2 (pc' := 2) (lv' := [some (.inr (.inr (.inl (some (26))))), some (.inl (0))]) (st' := []) (h' := h) rfl ?_
  have L6 : ∀ (m5 : Nat) (k1 : Int) (h2 : av_H), (0 ≤ cb → k1 ≤ cb) → (0 ≤ k1 ∧ k1 ≤ 1024) → SBX U S n sr nd t c s cb u r ro bar r2 ro2 bar2 g h2 → fsP (PRT u ro bar ro2 bar2 s) (Int.toNat k1) = -1 → (1024 - k1).toNat = m5 → av_wp none cd_61 2 [some (.inr (.inr (.inl (some (26))))), some (.inl k1)] [] h2 Q := by
    intro m5
    induction m5 using Nat.strongRecOn with
    | _ m5 I7 =>
      intro k1 h2 g9 g10 X3 Y4 e8
      refine av_wp_seq 2 (pc' := 4) (lv' := [some (.inr (.inr (.inl (some (26))))), some (.inl k1)]) (st' := [.inr (.inr (.inl (some (26)))), .inl k1]) (h' := h2) rfl ?_
      refine wq_gr (p' := 7) rfl rfl (congrArg Prod.fst (ly_k X3.1.1.1 26 rfl)) rfl (ly_g X3.1.1.1 26 1 35 rfl) ?_
      obtain ⟨E11a, E11x, E11y, E11z, E11, _⟩ := X3.2.2.1
      have g12 := co_cbr (ib_co E11.1)
      refine wq_gr (p' := 10) rfl rfl (congrArg Prod.fst (bn_k0 X3.1.1.1 (Or.inl rfl))) rfl (ib_t E11.1) ?_
      refine wq_gi (p' := 13) rfl rfl (congrArg Prod.fst (co_kt (ib_co E11.1))) rfl (co_cb (ib_co E11.1)) ?_
      refine wq_k2 (p' := 16) rfl rfl ⟨by omega, by omega⟩ ⟨by omega, by omega⟩ (fun c13 => ?_) (fun c14 => ?_)
      · have c13 : cb ≤ k1 := c13
        refine av_wp_seq 1 (pc' := 33) (lv' := [some (.inr (.inr (.inl (some (26))))), some (.inl k1)]) (st' := [.inl (-1)]) (h' := h2) rfl ?_
        refine av_wp_ret (v := some (.inl (-1))) rfl rfl rfl ?_
        exact hq _ h2 X3 (by rw [show Int.toNat cb = Int.toNat k1 by omega]; exact Y4.symm)
      · have c14 : k1 < cb := c14
        refine av_wp_seq 2 (pc' := 18) (lv' := [some (.inr (.inr (.inl (some (26))))), some (.inl k1)]) (st' := [.inl k1, .inr (.inr (.inl (some (26))))]) (h' := h2) rfl ?_
        refine wq_cv (p' := 21) (av_qc (.invokevirtual 147) 62 1 0 3) 3 cd_62 [.inl k1] (26) 3 [some (.inr (.inr (.inl (some (26))))), some (.inl k1), none] rfl rfl rfl pp_62 rfl rfl rfl (congrArg Prod.fst (ly_k X3.1.1.1 26 rfl)) rfl rfl rfl rfl ?_
        refine cx_62 X3 G1 G2 W R1 R2 (k1) (by omega) (fun v15 h16 X17 p18 => ?_)
        have g19 : v15 = 0 ∨ v15 = 1 := p18.elim (fun z => Or.inr z.1) (fun z => Or.inl z.1)
        show av_wp _ cd_61 21 [some (.inr (.inr (.inl (some (26))))), some (.inl k1)] [.inl v15] h16 _
        refine wq_k1 (p' := 24) rfl rfl ⟨by omega, by omega⟩ (fun c20 => ?_) (fun c21 => ?_)
        · have c20 : v15 = (0) := c20
          refine av_wp_seq 2 (pc' := 2) (lv' := [some (.inr (.inr (.inl (some (26))))), some (.inl (k1 + (1)))]) (st' := []) (h' := h16) rfl ?_
          exact I7 _ (by omega) ((k1 + (1))) h16 (by omega) (by omega) X17 (by rw [show Int.toNat (k1 + (1)) = Int.toNat k1 + 1 by omega]; exact fsP_n Y4 (by rw [show ((Int.toNat k1 : Nat) : Int) = k1 by omega]; exact p18.elim (fun z => by omega) (fun z => z.2))) rfl
        · have c21 : v15 ≠ (0) := c21
          refine av_wp_seq 1 (pc' := 25) (lv' := [some (.inr (.inr (.inl (some (26))))), some (.inl k1)]) (st' := [.inl k1]) (h' := h16) rfl ?_
          refine av_wp_ret (v := some (.inl k1)) rfl rfl rfl ?_
          have y1 := fsP_y Y4 (by rw [show ((Int.toNat k1 : Nat) : Int) = k1 by omega]; exact p18.elim (fun z => z.2) (fun z => by omega))
          have y2 := fsP_m y1 (by omega) (Int.toNat cb - (Int.toNat k1 + 1))
          rw [show Int.toNat k1 + 1 + (Int.toNat cb - (Int.toNat k1 + 1)) = Int.toNat cb by omega] at y2
          exact hq _ h16 X17 (by rw [y2]; omega)
  exact L6 _ ((0)) h (by omega) (by omega) X rfl rfl

