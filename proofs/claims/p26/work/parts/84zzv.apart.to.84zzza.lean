section
/-! APART, exactly: the class, both benches seated -/
theorem wov_r {u : Nat → Int} {s w : Nat} (W : UW u s) (hw : w < 5) : ∀ f : Nat, ∀ k : Int, k < (s : Int) → -1 ≤ wov u w f k ∧ wov u w f k ≤ 999 := by
  intro f
  induction f with
  | zero => intro k _; show (-1 : Int) ≤ -1 ∧ (-1 : Int) ≤ 999; omega
  | succ f ih =>
    intro k hk
    have e : wov u w (f + 1) k = if 0 ≤ k then (if u (21 * k.toNat + 10 + w) ≠ -1 then u (21 * k.toNat + 10 + w) else if u (21 * k.toNat + 0) = 3 then wov u w f (u (21 * k.toNat + 3)) else -1) else -1 := rfl
    rw [e]
    split
    · have h := W k.toNat (by omega)
      have h1 := h.2.2.2.2.2.2 w hw
      have h2 := ih (u (21 * k.toNat + 3)) (by have := h.2.1; omega)
      (repeat' split) <;> omega
    · omega
theorem bwv_r {u ro : Nat → Int} {s w : Nat} {b o : Int} (W : UW u s) (hw : w < 5) (hb : b < (s : Int)) (ho : o < (s : Int)) : -1 ≤ bwv u ro b o w ∧ bwv u ro b o w ≤ 999 := by
  have h2 := wov_r W hw 12 o ho
  unfold bwv
  split
  · next c =>
    have h1 := (W b.toNat (by omega)).2.2.2.2.2.2 w hw
    split <;> omega
  · exact h2
set_option maxRecDepth 100000 in
set_option maxHeartbeats 4000000 in
theorem cx_62 {h : av_H} {g : av_H} {U : Nat → Nat → Int} {S : Nat → Nat} {n : Int} {sr nd : Nat → Int} {t c s : Nat} {cb : Int} {u : Nat → Int} {r : Nat} {ro bar : Nat → Int} {r2 : Nat} {ro2 bar2 : Nat → Int} (X : SBX U S n sr nd t c s cb u r ro bar r2 ro2 bar2 g h) (G1 : SEA u ro bar s) (G2 : SEA u ro2 bar2 s) (W : UW u s) (R1 : RLW ro) (R2 : RLW ro2) (x : Int) (qx : 0 ≤ x ∧ x ≤ 1023) {Q : Option av_V → av_H → Prop} (hq : ∀ (v : Int) h', SBX U S n sr nd t c s cb u r ro bar r2 ro2 bar2 g h' → ((v = 1 ∧ PRT u ro bar ro2 bar2 s x) ∨ (v = 0 ∧ ¬ PRT u ro bar ro2 bar2 s x)) → Q (some (.inl v)) h') : av_wp none cd_62 0 [some (.inr (.inr (.inl (some (26))))), some (.inl x), none] [] h Q := by
  obtain ⟨C15, F16, ⟨a1, m2, m3, m4, E5, T6, Z7⟩, ⟨a8, m9, m10, m11, E12, T13, Z14⟩⟩ := X
  have g17 := co_s12 (ib_co E5.1)
  have g18 := co_cbr (ib_co E5.1)
  refine av_wp_sqF ck_62 1 (pc' := 1) (lv' := [some (.inr (.inr (.inl (some (26))))), some (.inl x), none]) (st' := [.inr (.inr (.inl (some (26))))]) (h' := h) rfl ?_
  refine wq_gr (p' := 4) (ck_62 _ _ rfl) rfl (congrArg Prod.fst (ly_k C15.1.1 26 rfl)) rfl (ly_g C15.1.1 26 1 35 rfl) ?_
  refine av_wp_sqF ck_62 1 (pc' := 5) (lv' := [some (.inr (.inr (.inl (some (26))))), some (.inl x), none]) (st' := [.inl x, .inr (.inr (.inl (some (35))))]) (h' := h) rfl ?_
  refine wq_cv (p' := 8) (av_qc (.invokevirtual 89) 2 1 0 0) 2 cd_2 [.inl x] (35) 0 [some (.inr (.inr (.inl (some (35))))), some (.inl x)] (ck_62 _ _ rfl) rfl rfl pp_2 rfl rfl rfl (congrArg Prod.fst (bn_k0 C15.1.1 (Or.inl rfl))) rfl rfl rfl rfl ?_
  refine cy_2 E5 (FN_rf 35 h) G1 T6 Z7 (x) (by omega) (fun v19 h20 a21 m22 m23 m24 E25 F26 Z27 T28 D29 B30 R31 p32 => ?_)
  have E33 := EB_fn E12 (Or.inl rfl) (by decide) F26 (ib_ic E25.1)
  have C34 := CJ_bn (Or.inl rfl) C15 F26 (ib_ic E25.1)
  have F35 := Fr_tr F16 F26.1.1
  have g36 : (-1 ≤ m22 ∧ m22 ≤ 11) ∧ (-1 ≤ m23 ∧ m23 ≤ 11) ∧ (-1 ≤ m24 ∧ m24 ≤ 9999) := R31
  have b37 := bgn_f (u := u) (ro := ro) (bar := bar) (s := s) (x := x)
  rw [B30] at b37
  have b37c : (m24 = 9999 ∧ m22 = -1 ∧ m23 = -1) ∨ (m24 < 9999 ∧ (0 ≤ m23 ∧ m23 < (s : Int)) ∧ (m22 = -1 ∨ (0 ≤ m22 ∧ m22 < (s : Int)))) := b37.elim Or.inl (fun z => Or.inr ⟨z.1, ⟨z.2.1.1, z.2.1.2.1⟩, z.2.2.elim Or.inl (fun y => Or.inr ⟨y.1, y.2.1⟩)⟩)
  clear b37
  show av_wp _ cd_62 8 [some (.inr (.inr (.inl (some (26))))), some (.inl x), none] [.inl v19] h20 _
  refine av_wp_sqF ck_62 2 (pc' := 10) (lv' := [some (.inr (.inr (.inl (some (26))))), some (.inl x), none]) (st' := [.inr (.inr (.inl (some (26))))]) (h' := h20) rfl ?_
  refine wq_gr (p' := 13) (ck_62 _ _ rfl) rfl (congrArg Prod.fst (ly_k C34.1.1 26 rfl)) rfl (ly_g C34.1.1 26 2 48 rfl) ?_
  refine av_wp_sqF ck_62 1 (pc' := 14) (lv' := [some (.inr (.inr (.inl (some (26))))), some (.inl x), none]) (st' := [.inl x, .inr (.inr (.inl (some (48))))]) (h' := h20) rfl ?_
  refine wq_cv (p' := 17) (av_qc (.invokevirtual 89) 2 1 0 0) 2 cd_2 [.inl x] (48) 0 [some (.inr (.inr (.inl (some (48))))), some (.inl x)] (ck_62 _ _ rfl) rfl rfl pp_2 rfl rfl rfl (congrArg Prod.fst (bn_k0 C34.1.1 (Or.inr (Or.inl rfl)))) rfl rfl rfl rfl ?_
  refine cy_2 E33 (FN_rf 48 h20) G2 T13 Z14 (x) (by omega) (fun v38 h39 a40 m41 m42 m43 E44 F45 Z46 T47 D48 B49 R50 p51 => ?_)
  have E52 := EB_fn E25 (Or.inr (Or.inl rfl)) (by decide) F45 (ib_ic E44.1)
  have C53 := CJ_bn (Or.inr (Or.inl rfl)) C34 F45 (ib_ic E44.1)
  have F54 := Fr_tr F35 F45.1.1
  have g55 : (-1 ≤ m41 ∧ m41 ≤ 11) ∧ (-1 ≤ m42 ∧ m42 ≤ 11) ∧ (-1 ≤ m43 ∧ m43 ≤ 9999) := R50
  have b56 := bgn_f (u := u) (ro := ro2) (bar := bar2) (s := s) (x := x)
  rw [B49] at b56
  have b56c : (m43 = 9999 ∧ m41 = -1 ∧ m42 = -1) ∨ (m43 < 9999 ∧ (0 ≤ m42 ∧ m42 < (s : Int)) ∧ (m41 = -1 ∨ (0 ≤ m41 ∧ m41 < (s : Int)))) := b56.elim Or.inl (fun z => Or.inr ⟨z.1, ⟨z.2.1.1, z.2.1.2.1⟩, z.2.2.elim Or.inl (fun y => Or.inr ⟨y.1, y.2.1⟩)⟩)
  clear b56
  show av_wp _ cd_62 17 [some (.inr (.inr (.inl (some (26))))), some (.inl x), none] [.inl v38] h39 _
  refine av_wp_sqF ck_62 2 (pc' := 19) (lv' := [some (.inr (.inr (.inl (some (26))))), some (.inl x), none]) (st' := [.inr (.inr (.inl (some (26))))]) (h' := h39) rfl ?_
  refine wq_gr (p' := 22) (ck_62 _ _ rfl) rfl (congrArg Prod.fst (ly_k C53.1.1 26 rfl)) rfl (ly_g C53.1.1 26 1 35 rfl) ?_
  refine wq_gi (p' := 25) (ck_62 _ _ rfl) rfl (congrArg Prod.fst (bn_k0 C53.1.1 (Or.inl rfl))) rfl (E52.2.2.2.2.2.2) ?_
  refine av_wp_sqF ck_62 1 (pc' := 26) (lv' := [some (.inr (.inr (.inl (some (26))))), some (.inl x), none]) (st' := [.inr (.inr (.inl (some (26)))), .inl m24]) (h' := h39) rfl ?_
  refine wq_gr (p' := 29) (ck_62 _ _ rfl) rfl (congrArg Prod.fst (ly_k C53.1.1 26 rfl)) rfl (ly_g C53.1.1 26 2 48 rfl) ?_
  refine wq_gi (p' := 32) (ck_62 _ _ rfl) rfl (congrArg Prod.fst (bn_k0 C53.1.1 (Or.inr (Or.inl rfl)))) rfl (E44.2.2.2.2.2.2) ?_
  refine wq_k2 (p' := 35) (ck_62 _ _ rfl) rfl ⟨by omega, by omega⟩ ⟨by omega, by omega⟩ (fun c57 => ?_) (fun c58 => ?_)
  · have c57 : m24 = m43 := c57
    refine av_wp_sqF ck_62 2 (pc' := 39) (lv' := [some (.inr (.inr (.inl (some (26))))), some (.inl x), some (.inl (0))]) (st' := []) (h' := h39) rfl ?_
    have L61 : ∀ (m60 : Nat) (k59 : Int), (∀ w, w < Int.toNat k59 → bwv u ro m22 m23 w = bwv u ro2 m41 m42 w) → (0 ≤ k59 ∧ k59 ≤ 5) → (5 - k59).toNat = m60 → av_wp none cd_62 39 [some (.inr (.inr (.inl (some (26))))), some (.inl x), some (.inl k59)] [] h39 Q := by
      intro m60
      induction m60 using Nat.strongRecOn with
      | _ m60 I62 =>
        intro k59 g64 g65 e63
        refine av_wp_sqF ck_62 2 (pc' := 41) (lv' := [some (.inr (.inr (.inl (some (26))))), some (.inl x), some (.inl k59)]) (st' := [.inl (5), .inl k59]) (h' := h39) rfl ?_
        refine wq_k2 (p' := 44) (ck_62 _ _ rfl) rfl ⟨by omega, by omega⟩ ⟨by omega, by omega⟩ (fun c66 => ?_) (fun c67 => ?_)
        · have c66 : (5) ≤ k59 := c66
          refine av_wp_sqF ck_62 1 (pc' := 82) (lv' := [some (.inr (.inr (.inl (some (26))))), some (.inl x), some (.inl k59)]) (st' := [.inl (0)]) (h' := h39) rfl ?_
          refine av_wp_ret (v := some (.inl (0))) (ck_62 _ _ rfl) rfl rfl ?_
          exact hq _ h39 ⟨C53, F54, ⟨_, _, _, _, E52, T28, Z27⟩, ⟨_, _, _, _, E44, T47, Z46⟩⟩ (Or.inr ⟨rfl, by unfold PRT; rw [B30, B49]; rintro (y | ⟨y1, w, y2, y3⟩); (· exact y (show m24 = m43 by omega)); (· have y1 : m24 ≠ 9999 := y1; exact y3 (g64 w (by omega)))⟩)
        · have c67 : k59 < (5) := c67
          refine av_wp_sqF ck_62 1 (pc' := 45) (lv' := [some (.inr (.inr (.inl (some (26))))), some (.inl x), some (.inl k59)]) (st' := [.inr (.inr (.inl (some (26))))]) (h' := h39) rfl ?_
          refine wq_gr (p' := 48) (ck_62 _ _ rfl) rfl (congrArg Prod.fst (ly_k C53.1.1 26 rfl)) rfl (ly_g C53.1.1 26 1 35 rfl) ?_
          refine wq_cv (p' := 51) (av_qc (.invokevirtual 150) 3 0 0 0) 1 cd_3 [] (35) 0 [some (.inr (.inr (.inl (some (35)))))] (ck_62 _ _ rfl) rfl rfl pp_3 rfl rfl rfl (congrArg Prod.fst (bn_k0 C53.1.1 (Or.inl rfl))) rfl rfl rfl rfl ?_
          refine cx_3 E52 (FN_rf 35 h39) (by omega) (fun v68 p69 => ?_)
          show av_wp _ cd_62 51 [some (.inr (.inr (.inl (some (26))))), some (.inl x), some (.inl k59)] [.inl v68] h39 _
          refine wq_k1 (p' := 54) (ck_62 _ _ rfl) rfl ⟨by omega, by omega⟩ (fun c70 => ?_) (fun c71 => ?_)
          · have c70 : v68 = (0) := c70
            refine av_wp_sqF ck_62 1 (pc' := 82) (lv' := [some (.inr (.inr (.inl (some (26))))), some (.inl x), some (.inl k59)]) (st' := [.inl (0)]) (h' := h39) rfl ?_
            refine av_wp_ret (v := some (.inl (0))) (ck_62 _ _ rfl) rfl rfl ?_
            exact hq _ h39 ⟨C53, F54, ⟨_, _, _, _, E52, T28, Z27⟩, ⟨_, _, _, _, E44, T47, Z46⟩⟩ (Or.inr ⟨rfl, by unfold PRT; rw [B30, B49]; rintro (y | ⟨y1, w, y2, y3⟩); (· exact y (show m24 = m43 by omega)); (· have y1 : m24 ≠ 9999 := y1; exact y3 (g64 w (by omega)))⟩)
          · have c71 : v68 ≠ (0) := c71
            refine av_wp_sqF ck_62 1 (pc' := 55) (lv' := [some (.inr (.inr (.inl (some (26))))), some (.inl x), some (.inl k59)]) (st' := [.inr (.inr (.inl (some (26))))]) (h' := h39) rfl ?_
            refine wq_gr (p' := 58) (ck_62 _ _ rfl) rfl (congrArg Prod.fst (ly_k C53.1.1 26 rfl)) rfl (ly_g C53.1.1 26 1 35 rfl) ?_
            refine av_wp_sqF ck_62 1 (pc' := 59) (lv' := [some (.inr (.inr (.inl (some (26))))), some (.inl x), some (.inl k59)]) (st' := [.inl k59, .inr (.inr (.inl (some (35))))]) (h' := h39) rfl ?_
            refine wq_cv (p' := 62) (av_qc (.invokevirtual 154) 17 1 0 0) 4 cd_17 [.inl k59] (35) 0 [some (.inr (.inr (.inl (some (35))))), some (.inl k59), none, none] (ck_62 _ _ rfl) rfl rfl pp_17 rfl rfl rfl (congrArg Prod.fst (bn_k0 C53.1.1 (Or.inl rfl))) rfl rfl rfl rfl ?_
            refine cx_17 E52 (FN_rf 35 h39) W R1 (by omega) (by omega) (k59) (by omega) (fun v72 p73 => ?_)
            have g74 := bwv_r (u := u) (ro := ro) (w := Int.toNat k59) W (b := m22) (o := m23) (by omega) (by omega) (by omega)
            rw [← p73] at g74
            show av_wp _ cd_62 62 [some (.inr (.inr (.inl (some (26))))), some (.inl x), some (.inl k59)] [.inl v72] h39 _
            refine av_wp_sqF ck_62 1 (pc' := 63) (lv' := [some (.inr (.inr (.inl (some (26))))), some (.inl x), some (.inl k59)]) (st' := [.inr (.inr (.inl (some (26)))), .inl v72]) (h' := h39) rfl ?_
            refine wq_gr (p' := 66) (ck_62 _ _ rfl) rfl (congrArg Prod.fst (ly_k C53.1.1 26 rfl)) rfl (ly_g C53.1.1 26 2 48 rfl) ?_
            refine av_wp_sqF ck_62 1 (pc' := 67) (lv' := [some (.inr (.inr (.inl (some (26))))), some (.inl x), some (.inl k59)]) (st' := [.inl k59, .inr (.inr (.inl (some (48)))), .inl v72]) (h' := h39) rfl ?_
            refine wq_cv (p' := 70) (av_qc (.invokevirtual 154) 17 1 0 0) 4 cd_17 [.inl k59] (48) 0 [some (.inr (.inr (.inl (some (48))))), some (.inl k59), none, none] (ck_62 _ _ rfl) rfl rfl pp_17 rfl rfl rfl (congrArg Prod.fst (bn_k0 C53.1.1 (Or.inr (Or.inl rfl)))) rfl rfl rfl rfl ?_
            refine cx_17 E44 (FN_rf 48 h39) W R2 (by omega) (by omega) (k59) (by omega) (fun v75 p76 => ?_)
            have g77 := bwv_r (u := u) (ro := ro2) (w := Int.toNat k59) W (b := m41) (o := m42) (by omega) (by omega) (by omega)
            rw [← p76] at g77
            show av_wp _ cd_62 70 [some (.inr (.inr (.inl (some (26))))), some (.inl x), some (.inl k59)] [.inl v75, .inl v72] h39 _
            refine wq_k2 (p' := 73) (ck_62 _ _ rfl) rfl ⟨by omega, by omega⟩ ⟨by omega, by omega⟩ (fun c78 => ?_) (fun c79 => ?_)
            · have c78 : v72 = v75 := c78
              refine av_wp_sqF ck_62 2 (pc' := 39) (lv' := [some (.inr (.inr (.inl (some (26))))), some (.inl x), some (.inl (k59 + (1)))]) (st' := []) (h' := h39) rfl ?_
              exact I62 _ (by omega) ((k59 + (1))) (fun w hw => by by_cases c : w = Int.toNat k59; (· rw [c, ← p73, ← p76]; omega); exact g64 w (by omega)) (by omega) rfl
            · have c79 : v72 ≠ v75 := c79
              refine av_wp_sqF ck_62 1 (pc' := 74) (lv' := [some (.inr (.inr (.inl (some (26))))), some (.inl x), some (.inl k59)]) (st' := [.inl (1)]) (h' := h39) rfl ?_
              refine av_wp_ret (v := some (.inl (1))) (ck_62 _ _ rfl) rfl rfl ?_
              exact hq _ h39 ⟨C53, F54, ⟨_, _, _, _, E52, T28, Z27⟩, ⟨_, _, _, _, E44, T47, Z46⟩⟩ (Or.inl ⟨rfl, by unfold PRT; rw [B30, B49]; exact Or.inr ⟨show m24 ≠ 9999 by omega, Int.toNat k59, by omega, show bwv u ro m22 m23 _ ≠ bwv u ro2 m41 m42 _ by rw [← p73, ← p76]; omega⟩⟩)
    exact L61 _ ((0)) (fun w hw => absurd hw (by omega)) (by omega) rfl
  · have c58 : m24 ≠ m43 := c58
    refine av_wp_sqF ck_62 1 (pc' := 36) (lv' := [some (.inr (.inr (.inl (some (26))))), some (.inl x), none]) (st' := [.inl (1)]) (h' := h39) rfl ?_
    refine av_wp_ret (v := some (.inl (1))) (ck_62 _ _ rfl) rfl rfl ?_
    exact hq _ h39 ⟨C53, F54, ⟨_, _, _, _, E52, T28, Z27⟩, ⟨_, _, _, _, E44, T47, Z46⟩⟩ (Or.inl ⟨rfl, by unfold PRT; rw [B30, B49]; exact Or.inl (show m24 ≠ m43 by omega)⟩)

set_option maxRecDepth 100000 in
set_option maxHeartbeats 4000000 in
theorem cx_60 {h : av_H} {g : av_H} {U : Nat → Nat → Int} {S : Nat → Nat} {n : Int} {sr nd : Nat → Int} {t c s : Nat} {cb : Int} {u : Nat → Int} {r : Nat} {ro bar : Nat → Int} {r2 : Nat} {ro2 bar2 : Nat → Int} (X : SBX U S n sr nd t c s cb u r ro bar r2 ro2 bar2 g h) (G1 : SEA u ro bar s) (G2 : SEA u ro2 bar2 s) (W : UW u s) (R1 : RLW ro) (R2 : RLW ro2) (hc : 0 ≤ cb) {Q : Option av_V → av_H → Prop} (hq : ∀ (v : Int) h', SBX U S n sr nd t c s cb u r ro bar r2 ro2 bar2 g h' → v = cnP (PRT u ro bar ro2 bar2 s) (Int.toNat cb) → Q (some (.inl v)) h') : av_wp none cd_60 0 [some (.inr (.inr (.inl (some (26))))), none, none] [] h Q := by
  refine av_wp_sqF ck_60 4 (pc' := 4) (lv' := [some (.inr (.inr (.inl (some (26))))), some (.inl (0)), some (.inl (0))]) (st' := []) (h' := h) rfl ?_
  have L7 : ∀ (m6 : Nat) (k1 : Int) (k2 : Int) (h3 : av_H), k1 ≤ k2 → (0 ≤ cb → k2 ≤ cb) → (0 ≤ k1 ∧ k1 ≤ 1024) → (0 ≤ k2 ∧ k2 ≤ 1024) → SBX U S n sr nd t c s cb u r ro bar r2 ro2 bar2 g h3 → k1 = cnP (PRT u ro bar ro2 bar2 s) (Int.toNat k2) → (1024 - k2).toNat = m6 → av_wp none cd_60 4 [some (.inr (.inr (.inl (some (26))))), some (.inl k1), some (.inl k2)] [] h3 Q := by
    intro m6
    induction m6 using Nat.strongRecOn with
    | _ m6 I8 =>
      intro k1 k2 h3 g10 g11 g12 g13 X4 Y5 e9
      refine av_wp_sqF ck_60 2 (pc' := 6) (lv' := [some (.inr (.inr (.inl (some (26))))), some (.inl k1), some (.inl k2)]) (st' := [.inr (.inr (.inl (some (26)))), .inl k2]) (h' := h3) rfl ?_
      refine wq_gr (p' := 9) (ck_60 _ _ rfl) rfl (congrArg Prod.fst (ly_k X4.1.1.1 26 rfl)) rfl (ly_g X4.1.1.1 26 1 35 rfl) ?_
      obtain ⟨E14a, E14x, E14y, E14z, E14, _⟩ := X4.2.2.1
      have g15 := co_cbr (ib_co E14.1)
      refine wq_gr (p' := 12) (ck_60 _ _ rfl) rfl (congrArg Prod.fst (bn_k0 X4.1.1.1 (Or.inl rfl))) rfl (ib_t E14.1) ?_
      refine wq_gi (p' := 15) (ck_60 _ _ rfl) rfl (congrArg Prod.fst (co_kt (ib_co E14.1))) rfl (co_cb (ib_co E14.1)) ?_
      refine wq_k2 (p' := 18) (ck_60 _ _ rfl) rfl ⟨by omega, by omega⟩ ⟨by omega, by omega⟩ (fun c16 => ?_) (fun c17 => ?_)
      · have c16 : cb ≤ k2 := c16
        refine av_wp_sqF ck_60 1 (pc' := 41) (lv' := [some (.inr (.inr (.inl (some (26))))), some (.inl k1), some (.inl k2)]) (st' := [.inl k1]) (h' := h3) rfl ?_
        refine av_wp_ret (v := some (.inl k1)) (ck_60 _ _ rfl) rfl rfl ?_
        exact hq _ h3 X4 (by rw [show Int.toNat cb = Int.toNat k2 by omega]; exact Y5)
      · have c17 : k2 < cb := c17
        refine av_wp_sqF ck_60 3 (pc' := 21) (lv' := [some (.inr (.inr (.inl (some (26))))), some (.inl k1), some (.inl k2)]) (st' := [.inl k2, .inr (.inr (.inl (some (26)))), .inl k1]) (h' := h3) rfl ?_
        refine wq_cv (p' := 24) (av_qc (.invokevirtual 147) 62 1 0 3) 3 cd_62 [.inl k2] (26) 3 [some (.inr (.inr (.inl (some (26))))), some (.inl k2), none] (ck_60 _ _ rfl) rfl rfl pp_62 rfl rfl rfl (congrArg Prod.fst (ly_k X4.1.1.1 26 rfl)) rfl rfl rfl rfl ?_
        refine cx_62 X4 G1 G2 W R1 R2 (k2) (by omega) (fun v18 h19 X20 p21 => ?_)
        have g22 : v18 = 0 ∨ v18 = 1 := p21.elim (fun z => Or.inr z.1) (fun z => Or.inl z.1)
        show av_wp _ cd_60 24 [some (.inr (.inr (.inl (some (26))))), some (.inl k1), some (.inl k2)] [.inl v18, .inl k1] h19 _
        refine wq_k1 (p' := 27) (ck_60 _ _ rfl) rfl ⟨by omega, by omega⟩ (fun c23 => ?_) (fun c24 => ?_)
        · have c23 : v18 = (0) := c23
          refine av_wp_sqF ck_60 5 (pc' := 4) (lv' := [some (.inr (.inr (.inl (some (26))))), some (.inl (k1 + (0))), some (.inl (k2 + (1)))]) (st' := []) (h' := h19) rfl ?_
          exact I8 _ (by omega) ((k1 + (0))) ((k2 + (1))) h19 (by omega) (by omega) (by omega) (by omega) X20 (by rw [show Int.toNat (k2 + (1)) = Int.toNat k2 + 1 by omega, cnP_n (by rw [show ((Int.toNat k2 : Nat) : Int) = k2 by omega]; exact p21.elim (fun z => by omega) (fun z => z.2)), ← Y5]; omega) rfl
        · have c24 : v18 ≠ (0) := c24
          refine av_wp_sqF ck_60 6 (pc' := 4) (lv' := [some (.inr (.inr (.inl (some (26))))), some (.inl (k1 + (1))), some (.inl (k2 + (1)))]) (st' := []) (h' := h19) rfl ?_
          exact I8 _ (by omega) ((k1 + (1))) ((k2 + (1))) h19 (by omega) (by omega) (by omega) (by omega) X20 (by rw [show Int.toNat (k2 + (1)) = Int.toNat k2 + 1 by omega, cnP_y (by rw [show ((Int.toNat k2 : Nat) : Int) = k2 by omega]; exact p21.elim (fun z => z.2) (fun z => by omega)), ← Y5]) rfl
  exact L7 _ ((0)) ((0)) h (by omega) (by omega) (by omega) (by omega) X rfl rfl

set_option maxRecDepth 100000 in
set_option maxHeartbeats 4000000 in
theorem cx_61 {h : av_H} {g : av_H} {U : Nat → Nat → Int} {S : Nat → Nat} {n : Int} {sr nd : Nat → Int} {t c s : Nat} {cb : Int} {u : Nat → Int} {r : Nat} {ro bar : Nat → Int} {r2 : Nat} {ro2 bar2 : Nat → Int} (X : SBX U S n sr nd t c s cb u r ro bar r2 ro2 bar2 g h) (G1 : SEA u ro bar s) (G2 : SEA u ro2 bar2 s) (W : UW u s) (R1 : RLW ro) (R2 : RLW ro2) (hc : 0 ≤ cb) {Q : Option av_V → av_H → Prop} (hq : ∀ (v : Int) h', SBX U S n sr nd t c s cb u r ro bar r2 ro2 bar2 g h' → v = fsP (PRT u ro bar ro2 bar2 s) (Int.toNat cb) → Q (some (.inl v)) h') : av_wp none cd_61 0 [some (.inr (.inr (.inl (some (26))))), none] [] h Q := by
  refine av_wp_sqF ck_61 2 (pc' := 2) (lv' := [some (.inr (.inr (.inl (some (26))))), some (.inl (0))]) (st' := []) (h' := h) rfl ?_
  have L6 : ∀ (m5 : Nat) (k1 : Int) (h2 : av_H), (0 ≤ cb → k1 ≤ cb) → (0 ≤ k1 ∧ k1 ≤ 1024) → SBX U S n sr nd t c s cb u r ro bar r2 ro2 bar2 g h2 → fsP (PRT u ro bar ro2 bar2 s) (Int.toNat k1) = -1 → (1024 - k1).toNat = m5 → av_wp none cd_61 2 [some (.inr (.inr (.inl (some (26))))), some (.inl k1)] [] h2 Q := by
    intro m5
    induction m5 using Nat.strongRecOn with
    | _ m5 I7 =>
      intro k1 h2 g9 g10 X3 Y4 e8
      refine av_wp_sqF ck_61 2 (pc' := 4) (lv' := [some (.inr (.inr (.inl (some (26))))), some (.inl k1)]) (st' := [.inr (.inr (.inl (some (26)))), .inl k1]) (h' := h2) rfl ?_
      refine wq_gr (p' := 7) (ck_61 _ _ rfl) rfl (congrArg Prod.fst (ly_k X3.1.1.1 26 rfl)) rfl (ly_g X3.1.1.1 26 1 35 rfl) ?_
      obtain ⟨E11a, E11x, E11y, E11z, E11, _⟩ := X3.2.2.1
      have g12 := co_cbr (ib_co E11.1)
      refine wq_gr (p' := 10) (ck_61 _ _ rfl) rfl (congrArg Prod.fst (bn_k0 X3.1.1.1 (Or.inl rfl))) rfl (ib_t E11.1) ?_
      refine wq_gi (p' := 13) (ck_61 _ _ rfl) rfl (congrArg Prod.fst (co_kt (ib_co E11.1))) rfl (co_cb (ib_co E11.1)) ?_
      refine wq_k2 (p' := 16) (ck_61 _ _ rfl) rfl ⟨by omega, by omega⟩ ⟨by omega, by omega⟩ (fun c13 => ?_) (fun c14 => ?_)
      · have c13 : cb ≤ k1 := c13
        refine av_wp_sqF ck_61 1 (pc' := 33) (lv' := [some (.inr (.inr (.inl (some (26))))), some (.inl k1)]) (st' := [.inl (-1)]) (h' := h2) rfl ?_
        refine av_wp_ret (v := some (.inl (-1))) (ck_61 _ _ rfl) rfl rfl ?_
        exact hq _ h2 X3 (by rw [show Int.toNat cb = Int.toNat k1 by omega]; exact Y4.symm)
      · have c14 : k1 < cb := c14
        refine av_wp_sqF ck_61 2 (pc' := 18) (lv' := [some (.inr (.inr (.inl (some (26))))), some (.inl k1)]) (st' := [.inl k1, .inr (.inr (.inl (some (26))))]) (h' := h2) rfl ?_
        refine wq_cv (p' := 21) (av_qc (.invokevirtual 147) 62 1 0 3) 3 cd_62 [.inl k1] (26) 3 [some (.inr (.inr (.inl (some (26))))), some (.inl k1), none] (ck_61 _ _ rfl) rfl rfl pp_62 rfl rfl rfl (congrArg Prod.fst (ly_k X3.1.1.1 26 rfl)) rfl rfl rfl rfl ?_
        refine cx_62 X3 G1 G2 W R1 R2 (k1) (by omega) (fun v15 h16 X17 p18 => ?_)
        have g19 : v15 = 0 ∨ v15 = 1 := p18.elim (fun z => Or.inr z.1) (fun z => Or.inl z.1)
        show av_wp _ cd_61 21 [some (.inr (.inr (.inl (some (26))))), some (.inl k1)] [.inl v15] h16 _
        refine wq_k1 (p' := 24) (ck_61 _ _ rfl) rfl ⟨by omega, by omega⟩ (fun c20 => ?_) (fun c21 => ?_)
        · have c20 : v15 = (0) := c20
          refine av_wp_sqF ck_61 2 (pc' := 2) (lv' := [some (.inr (.inr (.inl (some (26))))), some (.inl (k1 + (1)))]) (st' := []) (h' := h16) rfl ?_
          exact I7 _ (by omega) ((k1 + (1))) h16 (by omega) (by omega) X17 (by rw [show Int.toNat (k1 + (1)) = Int.toNat k1 + 1 by omega]; exact fsP_n Y4 (by rw [show ((Int.toNat k1 : Nat) : Int) = k1 by omega]; exact p18.elim (fun z => by omega) (fun z => z.2))) rfl
        · have c21 : v15 ≠ (0) := c21
          refine av_wp_sqF ck_61 1 (pc' := 25) (lv' := [some (.inr (.inr (.inl (some (26))))), some (.inl k1)]) (st' := [.inl k1]) (h' := h16) rfl ?_
          refine av_wp_ret (v := some (.inl k1)) (ck_61 _ _ rfl) rfl rfl ?_
          have y1 := fsP_y Y4 (by rw [show ((Int.toNat k1 : Nat) : Int) = k1 by omega]; exact p18.elim (fun z => z.2) (fun z => by omega))
          have y2 := fsP_m y1 (by omega) (Int.toNat cb - (Int.toNat k1 + 1))
          rw [show Int.toNat k1 + 1 + (Int.toNat cb - (Int.toNat k1 + 1)) = Int.toNat cb by omega] at y2
          exact hq _ h16 X17 (by rw [y2]; omega)
  exact L6 _ ((0)) h (by omega) (by omega) X rfl rfl
end
section
/-! APART, exactly: the class -/
noncomputable def apv (P : Int → Prop) (c : Nat) (w : Int) : Int := if w = 0 then cnP P c else fsP P c
set_option maxRecDepth 100000 in
set_option maxHeartbeats 4000000 in
theorem cx_50 {h : av_H} {U : Nat → Nat → Int} {S : Nat → Nat} {n : Int} {sr nd : Nat → Int} (C : CJ U S n sr nd h) (k : Int) (qk : -2147483648 ≤ k ∧ k ≤ 2147483647) (l : Int) (ql : -2147483648 ≤ l ∧ l ≤ 2147483647) (m : Int) (qm : -2147483648 ≤ m ∧ m ≤ 2147483647) (CR : CRT U S n (hF h 3 4) (fun k => hA h (6 + k))) (SU : SUA U S n (hF h 3 4) (fun k => hA h (6 + k)) sr) {Q : Option av_V → av_H → Prop} (hq0 : ∀ h' sr' nd', CJ U S n sr' nd' h' → Fr h h' → SUA U S n (hF h 3 4) (fun k => hA h (6 + k)) sr' → ¬ ((0 ≤ k ∧ k < n) ∧ (cbv (U (Int.toNat k)) (S (Int.toNat k))) ≠ -1 ∧ (0 ≤ l ∧ l < hF h 3 4) ∧ (0 ≤ m ∧ m < hF h 3 4)) → Q (some (.inl 0)) h') (hq1 : ((0 ≤ k ∧ k < n) ∧ (cbv (U (Int.toNat k)) (S (Int.toNat k))) ≠ -1 ∧ (0 ≤ l ∧ l < hF h 3 4) ∧ (0 ≤ m ∧ m < hF h 3 4)) → ∀ h' sr' nd' t c, SBX U S n sr' nd' t c (S (Int.toNat k)) (cbv (U (Int.toNat k)) (S (Int.toNat k))) (U (Int.toNat k)) (6 + Int.toNat l) (hA h (6 + Int.toNat l)) (bxx U S (hA h (6 + Int.toNat l)) (Int.toNat k)) (6 + Int.toNat m) (hA h (6 + Int.toNat m)) (bxx U S (hA h (6 + Int.toNat m)) (Int.toNat k)) h h' → SUA U S n (hF h 3 4) (fun k => hA h (6 + k)) sr' → Q (some (.inl 1)) h') : av_wp none cd_50 0 [some (.inr (.inr (.inl (some (26))))), some (.inl k), some (.inl l), some (.inl m), none] [] h Q := by
  have F := Fr_rf h
  have nr := C.2.1.2.1
  refine av_wp_sqF ck_50 1 (pc' := 1) (lv' := [some (.inr (.inr (.inl (some (26))))), some (.inl k), some (.inl l), some (.inl m), none]) (st' := [.inr (.inr (.inl (some (26))))]) (h' := h) rfl ?_
  refine wq_gr (p' := 4) (ck_50 _ _ rfl) rfl (congrArg Prod.fst (ly_k C.1.1 26 rfl)) rfl (ly_g C.1.1 26 0 3 rfl) ?_
  refine av_wp_sqF ck_50 1 (pc' := 5) (lv' := [some (.inr (.inr (.inl (some (26))))), some (.inl k), some (.inl l), some (.inl m), none]) (st' := [.inl k, .inr (.inr (.inl (some (3))))]) (h' := h) rfl ?_
  refine wq_cv (p' := 8) (av_qc (.invokevirtual 76) 69 1 0 5) 2 cd_69 [.inl k] (3) 5 [some (.inr (.inr (.inl (some (3))))), some (.inl k)] (ck_50 _ _ rfl) rfl rfl pp_69 rfl rfl rfl (congrArg Prod.fst (ly_k C.1.1 3 rfl)) rfl rfl rfl rfl ?_
  refine cz_69 C (k) (by omega) (fun z1 => ?_) (fun z1 z2 t3 c4 y5 y6 => ?_)
  · show av_wp _ cd_50 8 [some (.inr (.inr (.inl (some (26))))), some (.inl k), some (.inl l), some (.inl m), none] [.inr (.inr (.inl none))] h _
    refine av_wp_sqF ck_50 3 (pc' := 12) (lv' := [some (.inr (.inr (.inl (some (26))))), some (.inl k), some (.inl l), some (.inl m), some (.inr (.inr (.inl none)))]) (st' := [.inr (.inr (.inl (some (26)))), .inr (.inr (.inl (some (26))))]) (h' := h) rfl ?_
    refine wq_gr (p' := 15) (ck_50 _ _ rfl) rfl (congrArg Prod.fst (ly_k C.1.1 26 rfl)) rfl (ly_g C.1.1 26 1 35 rfl) ?_
    refine av_wp_sqF ck_50 3 (pc' := 19) (lv' := [some (.inr (.inr (.inl (some (26))))), some (.inl k), some (.inl l), some (.inl m), some (.inr (.inr (.inl none)))]) (st' := [.inl l, .inl k, .inr (.inr (.inl none)), .inr (.inr (.inl (some (35)))), .inr (.inr (.inl (some (26))))]) (h' := h) rfl ?_
    refine wq_cv (p' := 22) (av_qc (.invokevirtual 85) 51 4 0 3) 5 cd_51 [.inl l, .inl k, .inr (.inr (.inl none)), .inr (.inr (.inl (some (35))))] (26) 3 [some (.inr (.inr (.inl (some (26))))), some (.inr (.inr (.inl (some (35))))), some (.inr (.inr (.inl none))), some (.inl k), some (.inl l)] (ck_50 _ _ rfl) rfl rfl pp_51 rfl rfl rfl (congrArg Prod.fst (ly_k C.1.1 26 rfl)) rfl rfl rfl rfl ?_
    refine cz_51n C ?_
    show av_wp _ cd_50 22 [some (.inr (.inr (.inl (some (26))))), some (.inl k), some (.inl l), some (.inl m), some (.inr (.inr (.inl none)))] [.inl (0)] h _
    refine av_wp_sqF ck_50 2 (pc' := 45) (lv' := [some (.inr (.inr (.inl (some (26))))), some (.inl k), some (.inl l), some (.inl m), some (.inr (.inr (.inl none)))]) (st' := [.inl (0)]) (h' := h) rfl ?_
    refine av_wp_ret (v := some (.inl (0))) (ck_50 _ _ rfl) rfl rfl ?_
    exact hq0 h _ _ C F SU (by omega)
  · have g7 := co_s12 y5
    have g8 := co_cbr y5
    show av_wp _ cd_50 8 [some (.inr (.inr (.inl (some (26))))), some (.inl k), some (.inl l), some (.inl m), none] [.inr (.inr (.inl (some (t3))))] h _
    refine av_wp_sqF ck_50 3 (pc' := 12) (lv' := [some (.inr (.inr (.inl (some (26))))), some (.inl k), some (.inl l), some (.inl m), some (.inr (.inr (.inl (some (t3)))))]) (st' := [.inr (.inr (.inl (some (26)))), .inr (.inr (.inl (some (26))))]) (h' := h) rfl ?_
    refine wq_gr (p' := 15) (ck_50 _ _ rfl) rfl (congrArg Prod.fst (ly_k C.1.1 26 rfl)) rfl (ly_g C.1.1 26 1 35 rfl) ?_
    refine av_wp_sqF ck_50 3 (pc' := 19) (lv' := [some (.inr (.inr (.inl (some (26))))), some (.inl k), some (.inl l), some (.inl m), some (.inr (.inr (.inl (some (t3)))))]) (st' := [.inl l, .inl k, .inr (.inr (.inl (some (t3)))), .inr (.inr (.inl (some (35)))), .inr (.inr (.inl (some (26))))]) (h' := h) rfl ?_
    refine wq_cv (p' := 22) (av_qc (.invokevirtual 85) 51 4 0 3) 5 cd_51 [.inl l, .inl k, .inr (.inr (.inl (some (t3)))), .inr (.inr (.inl (some (35))))] (26) 3 [some (.inr (.inr (.inl (some (26))))), some (.inr (.inr (.inl (some (35))))), some (.inr (.inr (.inl (some (t3))))), some (.inl k), some (.inl l)] (ck_50 _ _ rfl) rfl rfl pp_51 rfl rfl rfl (congrArg Prod.fst (ly_k C.1.1 26 rfl)) rfl rfl rfl rfl ?_
    refine cz_51 C (Or.inl rfl) y5 y6 (k) (by omega) (by omega) CR.1 (fun q hq => (CR.1 (Int.toNat k) (by omega)).2.2.1 q hq |> fun w => ⟨w.1, by omega⟩) CR.2.1 CR.2.2.1 (l) (by omega) SU (fun l h1 h2 => (rl_8 (CR.2.2.2 l h1 h2)).1) (fun z9 => ?_) (fun z9 z10 z11 h12 r13 n14 a15 C16 F17 U18 E19 Z20 T21 => ?_)
    · show av_wp _ cd_50 22 [some (.inr (.inr (.inl (some (26))))), some (.inl k), some (.inl l), some (.inl m), some (.inr (.inr (.inl (some (t3)))))] [.inl (0)] h _
      refine av_wp_sqF ck_50 2 (pc' := 45) (lv' := [some (.inr (.inr (.inl (some (26))))), some (.inl k), some (.inl l), some (.inl m), some (.inr (.inr (.inl (some (t3)))))]) (st' := [.inl (0)]) (h' := h) rfl ?_
      refine av_wp_ret (v := some (.inl (0))) (ck_50 _ _ rfl) rfl rfl ?_
      exact hq0 h _ _ C F SU (by omega)
    · show av_wp _ cd_50 22 [some (.inr (.inr (.inl (some (26))))), some (.inl k), some (.inl l), some (.inl m), some (.inr (.inr (.inl (some (t3)))))] [.inl (1)] h12 _
      refine av_wp_sqF ck_50 3 (pc' := 27) (lv' := [some (.inr (.inr (.inl (some (26))))), some (.inl k), some (.inl l), some (.inl m), some (.inr (.inr (.inl (some (t3)))))]) (st' := [.inr (.inr (.inl (some (26)))), .inr (.inr (.inl (some (26))))]) (h' := h12) rfl ?_
      refine wq_gr (p' := 30) (ck_50 _ _ rfl) rfl (congrArg Prod.fst (ly_k C16.1.1 26 rfl)) rfl (ly_g C16.1.1 26 2 48 rfl) ?_
      refine av_wp_sqF ck_50 3 (pc' := 34) (lv' := [some (.inr (.inr (.inl (some (26))))), some (.inl k), some (.inl l), some (.inl m), some (.inr (.inr (.inl (some (t3)))))]) (st' := [.inl m, .inl k, .inr (.inr (.inl (some (t3)))), .inr (.inr (.inl (some (48)))), .inr (.inr (.inl (some (26))))]) (h' := h12) rfl ?_
      refine wq_cv (p' := 37) (av_qc (.invokevirtual 85) 51 4 0 3) 5 cd_51 [.inl m, .inl k, .inr (.inr (.inl (some (t3)))), .inr (.inr (.inl (some (48))))] (26) 3 [some (.inr (.inr (.inl (some (26))))), some (.inr (.inr (.inl (some (48))))), some (.inr (.inr (.inl (some (t3))))), some (.inl k), some (.inl m)] (ck_50 _ _ rfl) rfl rfl pp_51 rfl rfl rfl (congrArg Prod.fst (ly_k C16.1.1 26 rfl)) rfl rfl rfl rfl ?_
      have cr2 : CRT U S n (hF h12 3 4) (fun k => hA h12 (6 + k)) := (by rw [Fr_34 F17.1]; exact CRT_c CR (by have := ic_lc C.1; omega) (Fr_6 F17.1))
      have su2 : SUA U S n (hF h12 3 4) (fun k => hA h12 (6 + k)) r13 := (by rw [Fr_34 F17.1]; exact SUA_c U18 (fun l hl _ => Fr_6 F17.1 l hl))
      refine cz_51 C16 (Or.inr (Or.inl rfl)) (ib_co E19.1) E19.2.1 (k) (by omega) (by omega) CR.1 (fun q hq => (CR.1 (Int.toNat k) (by omega)).2.2.1 q hq |> fun w => ⟨w.1, by omega⟩) CR.2.1 CR.2.2.1 (m) (by omega) su2 (fun l h1 h2 => (rl_8 (cr2.2.2.2 l h1 h2)).1) (fun z22 => ?_) (fun z22 z23 z24 h25 r26 n27 a28 C29 F30 U31 E32 Z33 T34 => ?_)
      · rw [Fr_34 F17.1] at z22
        show av_wp _ cd_50 37 [some (.inr (.inr (.inl (some (26))))), some (.inl k), some (.inl l), some (.inl m), some (.inr (.inr (.inl (some (t3)))))] [.inl (0)] h12 _
        refine av_wp_sqF ck_50 2 (pc' := 45) (lv' := [some (.inr (.inr (.inl (some (26))))), some (.inl k), some (.inl l), some (.inl m), some (.inr (.inr (.inl (some (t3)))))]) (st' := [.inl (0)]) (h' := h12) rfl ?_
        refine av_wp_ret (v := some (.inl (0))) (ck_50 _ _ rfl) rfl rfl ?_
        exact hq0 h12 _ _ C16 F17.1 U18 (by omega)
      · rw [Fr_34 F17.1] at z24
        have E35 := EB_fp E19 (Or.inr (Or.inl rfl)) (by decide) (by decide) F30 C29.1
        rw [Fr_6 F17.1 (Int.toNat m) (by have := ic_lc C.1; omega)] at E32 T34
        rw [Fr_34 F17.1] at U31
        show av_wp _ cd_50 37 [some (.inr (.inr (.inl (some (26))))), some (.inl k), some (.inl l), some (.inl m), some (.inr (.inr (.inl (some (t3)))))] [.inl (1)] h25 _
        refine av_wp_sqF ck_50 3 (pc' := 45) (lv' := [some (.inr (.inr (.inl (some (26))))), some (.inl k), some (.inl l), some (.inl m), some (.inr (.inr (.inl (some (t3)))))]) (st' := [.inl (1)]) (h' := h25) rfl ?_
        refine av_wp_ret (v := some (.inl (1))) (ck_50 _ _ rfl) rfl rfl ?_
        exact hq1 (by omega) h25 _ _ _ _ ⟨C29, Fr_tr F17.1 F30.1, ⟨_, _, _, _, E35, T21, Z20⟩, ⟨_, _, _, _, E32, T34, Z33⟩⟩ (SUA_c U31 (fun l hl _ => (Fr_6 F17.1 l hl).symm))

set_option maxRecDepth 100000 in
set_option maxHeartbeats 4000000 in
theorem cx_113 {h : av_H} {U : Nat → Nat → Int} {S : Nat → Nat} {n : Int} {sr nd : Nat → Int} (C : CJ U S n sr nd h) (k : Int) (qk : -2147483648 ≤ k ∧ k ≤ 2147483647) (l : Int) (ql : -2147483648 ≤ l ∧ l ≤ 2147483647) (m : Int) (qm : -2147483648 ≤ m ∧ m ≤ 2147483647) (w : Int) (qw : -2147483648 ≤ w ∧ w ≤ 2147483647) (CR : CRT U S n (hF h 3 4) (fun k => hA h (6 + k))) (SU : SUA U S n (hF h 3 4) (fun k => hA h (6 + k)) sr) {Q : Option av_V → av_H → Prop} (hq : ∀ (v : Int) h' sr' nd', CJ U S n sr' nd' h' → Fr h h' → SUA U S n (hF h 3 4) (fun k => hA h (6 + k)) sr' → RSP (((0 ≤ k ∧ k < n) ∧ (cbv (U (Int.toNat k)) (S (Int.toNat k))) ≠ -1 ∧ (0 ≤ l ∧ l < hF h 3 4) ∧ (0 ≤ m ∧ m < hF h 3 4)) ∧ 0 ≤ w ∧ w ≤ 1) (-2) (apv (PRT (U (Int.toNat k)) (hA h (6 + Int.toNat l)) (bxx U S (hA h (6 + Int.toNat l)) (Int.toNat k)) (hA h (6 + Int.toNat m)) (bxx U S (hA h (6 + Int.toNat m)) (Int.toNat k)) (S (Int.toNat k))) (Int.toNat (cbv (U (Int.toNat k)) (S (Int.toNat k)))) w) v → Q (some (.inl v)) h') : av_wp none cd_113 0 [some (.inr (.inr (.inl (some (0))))), some (.inl k), some (.inl l), some (.inl m), some (.inl w)] [] h Q := by
  have F := Fr_rf h
  have nr := C.2.1.2.1
  refine av_wp_sqF ck_113 1 (pc' := 2) (lv' := [some (.inr (.inr (.inl (some (0))))), some (.inl k), some (.inl l), some (.inl m), some (.inl w)]) (st' := [.inl w]) (h' := h) rfl ?_
  refine wq_k1 (p' := 5) (ck_113 _ _ rfl) rfl ⟨by omega, by omega⟩ (fun c1 => ?_) (fun c2 => ?_)
  · have c1 : w < (0) := c1
    refine av_wp_sqF ck_113 1 (pc' := 26) (lv' := [some (.inr (.inr (.inl (some (0))))), some (.inl k), some (.inl l), some (.inl m), some (.inl w)]) (st' := [.inl (-2)]) (h' := h) rfl ?_
    refine av_wp_ret (v := some (.inl (-2))) (ck_113 _ _ rfl) rfl rfl ?_
    exact hq _ h _ _ C F SU (Or.inr ⟨by omega, rfl⟩)
  · have c2 : (0) ≤ w := c2
    refine av_wp_sqF ck_113 2 (pc' := 8) (lv' := [some (.inr (.inr (.inl (some (0))))), some (.inl k), some (.inl l), some (.inl m), some (.inl w)]) (st' := [.inl (1), .inl w]) (h' := h) rfl ?_
    refine wq_k2 (p' := 11) (ck_113 _ _ rfl) rfl ⟨by omega, by omega⟩ ⟨by omega, by omega⟩ (fun c3 => ?_) (fun c4 => ?_)
    · have c3 : (1) < w := c3
      refine av_wp_sqF ck_113 1 (pc' := 26) (lv' := [some (.inr (.inr (.inl (some (0))))), some (.inl k), some (.inl l), some (.inl m), some (.inl w)]) (st' := [.inl (-2)]) (h' := h) rfl ?_
      refine av_wp_ret (v := some (.inl (-2))) (ck_113 _ _ rfl) rfl rfl ?_
      exact hq _ h _ _ C F SU (Or.inr ⟨by omega, rfl⟩)
    · have c4 : w ≤ (1) := c4
      refine av_wp_sqF ck_113 1 (pc' := 12) (lv' := [some (.inr (.inr (.inl (some (0))))), some (.inl k), some (.inl l), some (.inl m), some (.inl w)]) (st' := [.inr (.inr (.inl (some (0))))]) (h' := h) rfl ?_
      refine wq_gr (p' := 15) (ck_113 _ _ rfl) rfl (congrArg Prod.fst (ly_k C.1.1 0 rfl)) rfl (ly_g C.1.1 0 5 26 rfl) ?_
      refine av_wp_sqF ck_113 3 (pc' := 18) (lv' := [some (.inr (.inr (.inl (some (0))))), some (.inl k), some (.inl l), some (.inl m), some (.inl w)]) (st' := [.inl m, .inl l, .inl k, .inr (.inr (.inl (some (26))))]) (h' := h) rfl ?_
      refine wq_cv (p' := 21) (av_qc (.invokevirtual 222) 50 3 0 3) 5 cd_50 [.inl m, .inl l, .inl k] (26) 3 [some (.inr (.inr (.inl (some (26))))), some (.inl k), some (.inl l), some (.inl m), none] (ck_113 _ _ rfl) rfl rfl pp_50 rfl rfl rfl (congrArg Prod.fst (ly_k C.1.1 26 rfl)) rfl rfl rfl rfl ?_
      refine cx_50 C (k) (by omega) (l) (by omega) (m) (by omega) CR SU (fun h5 r6 n7 C8 F9 U10 z11 => ?_) (fun z12 h13 r14 n15 t16 c17 X18 U19 => ?_)
      · show av_wp _ cd_113 21 [some (.inr (.inr (.inl (some (0))))), some (.inl k), some (.inl l), some (.inl m), some (.inl w)] [.inl (0)] h5 _
        refine av_wp_sqF ck_113 2 (pc' := 26) (lv' := [some (.inr (.inr (.inl (some (0))))), some (.inl k), some (.inl l), some (.inl m), some (.inl w)]) (st' := [.inl (-2)]) (h' := h5) rfl ?_
        refine av_wp_ret (v := some (.inl (-2))) (ck_113 _ _ rfl) rfl rfl ?_
        exact hq _ h5 _ _ C8 F9 U10 (Or.inr ⟨by omega, rfl⟩)
      · have G201 := CWF_sea (ro := (hA h (6 + Int.toNat l))) (CR.1 (Int.toNat k) (by omega)) (rl_8 (CR.2.2.2 l (by omega) (by omega))).1 (brv_b (U (Int.toNat k)) (srt U S (hA h (6 + Int.toNat l)) (Int.toNat k)))
        have G202 := CWF_sea (ro := (hA h (6 + Int.toNat m))) (CR.1 (Int.toNat k) (by omega)) (rl_8 (CR.2.2.2 m (by omega) (by omega))).1 (brv_b (U (Int.toNat k)) (srt U S (hA h (6 + Int.toNat m)) (Int.toNat k)))
        have G20c := cbv_d (U (Int.toNat k)) (S (Int.toNat k))
        have G20d := CR.2.2.1 (Int.toNat k) (by omega)
        show av_wp _ cd_113 21 [some (.inr (.inr (.inl (some (0))))), some (.inl k), some (.inl l), some (.inl m), some (.inl w)] [.inl (1)] h13 _
        refine av_wp_sqF ck_113 2 (pc' := 29) (lv' := [some (.inr (.inr (.inl (some (0))))), some (.inl k), some (.inl l), some (.inl m), some (.inl w)]) (st' := [.inl w]) (h' := h13) rfl ?_
        refine wq_k1 (p' := 32) (ck_113 _ _ rfl) rfl ⟨by omega, by omega⟩ (fun c21 => ?_) (fun c22 => ?_)
        · have c21 : w ≠ (0) := c21
          refine av_wp_sqF ck_113 1 (pc' := 43) (lv' := [some (.inr (.inr (.inl (some (0))))), some (.inl k), some (.inl l), some (.inl m), some (.inl w)]) (st' := [.inr (.inr (.inl (some (0))))]) (h' := h13) rfl ?_
          refine wq_gr (p' := 46) (ck_113 _ _ rfl) rfl (congrArg Prod.fst (ly_k X18.1.1.1 0 rfl)) rfl (ly_g X18.1.1.1 0 5 26 rfl) ?_
          refine wq_cv (p' := 49) (av_qc (.invokevirtual 228) 61 0 0 3) 2 cd_61 [] (26) 3 [some (.inr (.inr (.inl (some (26))))), none] (ck_113 _ _ rfl) rfl rfl pp_61 rfl rfl rfl (congrArg Prod.fst (ly_k X18.1.1.1 26 rfl)) rfl rfl rfl rfl ?_
          refine cx_61 X18 G201 G202 (CR.1 (Int.toNat k) (by omega)).1 (CR.2.2.2 l (by omega) (by omega)) (CR.2.2.2 m (by omega) (by omega)) (by omega) (fun v23 h24 X25 p26 => ?_)
          show av_wp _ cd_113 49 [some (.inr (.inr (.inl (some (0))))), some (.inl k), some (.inl l), some (.inl m), some (.inl w)] [.inl v23] h24 _
          refine av_wp_ret (v := some (.inl v23)) (ck_113 _ _ rfl) rfl rfl ?_
          exact hq _ h24 _ _ X25.1 X25.2.1 U19 (Or.inl ⟨by omega, by unfold apv; rw [if_neg (by omega)]; exact p26⟩)
        · have c22 : w = (0) := c22
          refine av_wp_sqF ck_113 1 (pc' := 33) (lv' := [some (.inr (.inr (.inl (some (0))))), some (.inl k), some (.inl l), some (.inl m), some (.inl w)]) (st' := [.inr (.inr (.inl (some (0))))]) (h' := h13) rfl ?_
          refine wq_gr (p' := 36) (ck_113 _ _ rfl) rfl (congrArg Prod.fst (ly_k X18.1.1.1 0 rfl)) rfl (ly_g X18.1.1.1 0 5 26 rfl) ?_
          refine wq_cv (p' := 39) (av_qc (.invokevirtual 225) 60 0 0 3) 3 cd_60 [] (26) 3 [some (.inr (.inr (.inl (some (26))))), none, none] (ck_113 _ _ rfl) rfl rfl pp_60 rfl rfl rfl (congrArg Prod.fst (ly_k X18.1.1.1 26 rfl)) rfl rfl rfl rfl ?_
          refine cx_60 X18 G201 G202 (CR.1 (Int.toNat k) (by omega)).1 (CR.2.2.2 l (by omega) (by omega)) (CR.2.2.2 m (by omega) (by omega)) (by omega) (fun v27 h28 X29 p30 => ?_)
          show av_wp _ cd_113 39 [some (.inr (.inr (.inl (some (0))))), some (.inl k), some (.inl l), some (.inl m), some (.inl w)] [.inl v27] h28 _
          refine av_wp_sqF ck_113 1 (pc' := 49) (lv' := [some (.inr (.inr (.inl (some (0))))), some (.inl k), some (.inl l), some (.inl m), some (.inl w)]) (st' := [.inl v27]) (h' := h28) rfl ?_
          refine av_wp_ret (v := some (.inl v27)) (ck_113 _ _ rfl) rfl rfl ?_
          exact hq _ h28 _ _ X29.1 X29.2.1 U19 (Or.inl ⟨by omega, by unfold apv; rw [if_pos (by omega)]; exact p30⟩)
end
section
/-! PART, exactly: the class -/
set_option maxRecDepth 100000 in
set_option maxHeartbeats 4000000 in
theorem cx_114 {h : av_H} {U : Nat → Nat → Int} {S : Nat → Nat} {n : Int} {sr nd : Nat → Int} (C : CJ U S n sr nd h) (l : Int) (ql : -2147483648 ≤ l ∧ l ≤ 2147483647) (m : Int) (qm : -2147483648 ≤ m ∧ m ≤ 2147483647) (CR : CRT U S n (hF h 3 4) (fun k => hA h (6 + k))) (SU : SUA U S n (hF h 3 4) (fun k => hA h (6 + k)) sr) {Q : Option av_V → av_H → Prop} (hq : ∀ (v : Int) h' sr' nd', CJ U S n sr' nd' h' → Fr h h' → SUA U S n (hF h 3 4) (fun k => hA h (6 + k)) sr' → RSP ((0 ≤ l ∧ l < hF h 3 4) ∧ (0 ≤ m ∧ m < hF h 3 4)) (-2) (ptv S (PTQ U S (hA h (6 + Int.toNat l)) (hA h (6 + Int.toNat m))) (Int.toNat n)) v → Q (some (.inl v)) h') : av_wp none cd_114 0 [some (.inr (.inr (.inl (some (0))))), some (.inl l), some (.inl m), none, none, none, none, none] [] h Q := by
  have F := Fr_rf h
  have nr := C.2.1.2.1
  have l8 := ic_lc C.1
  refine av_wp_sqF ck_114 1 (pc' := 1) (lv' := [some (.inr (.inr (.inl (some (0))))), some (.inl l), some (.inl m), none, none, none, none, none]) (st' := [.inr (.inr (.inl (some (0))))]) (h' := h) rfl ?_
  refine wq_gr (p' := 4) (ck_114 _ _ rfl) rfl (congrArg Prod.fst (ly_k C.1.1 0 rfl)) rfl (ly_g C.1.1 0 1 3 rfl) ?_
  refine av_wp_sqF ck_114 1 (pc' := 5) (lv' := [some (.inr (.inr (.inl (some (0))))), some (.inl l), some (.inl m), none, none, none, none, none]) (st' := [.inl l, .inr (.inr (.inl (some (3))))]) (h' := h) rfl ?_
  refine wq_cv (p' := 8) (av_qc (.invokevirtual 153) 70 1 0 5) 2 cd_70 [.inl l] (3) 5 [some (.inr (.inr (.inl (some (3))))), some (.inl l)] (ck_114 _ _ rfl) rfl rfl pp_70 rfl rfl rfl (congrArg Prod.fst (ly_k C.1.1 3 rfl)) rfl rfl rfl rfl ?_
  refine cx_70 C.1 (l) (by omega) (fun v1 p2 => ?_)
  show av_wp _ cd_114 8 [some (.inr (.inr (.inl (some (0))))), some (.inl l), some (.inl m), none, none, none, none, none] [.inl v1] h _
  refine wq_k1 (p' := 11) (ck_114 _ _ rfl) rfl ⟨by omega, by omega⟩ (fun c3 => ?_) (fun c4 => ?_)
  · have c3 : v1 = (0) := c3
    refine av_wp_sqF ck_114 1 (pc' := 24) (lv' := [some (.inr (.inr (.inl (some (0))))), some (.inl l), some (.inl m), none, none, none, none, none]) (st' := [.inl (-2)]) (h' := h) rfl ?_
    refine av_wp_ret (v := some (.inl (-2))) (ck_114 _ _ rfl) rfl rfl ?_
    exact hq _ h _ _ C F SU (Or.inr ⟨by omega, rfl⟩)
  · have c4 : v1 ≠ (0) := c4
    refine av_wp_sqF ck_114 1 (pc' := 12) (lv' := [some (.inr (.inr (.inl (some (0))))), some (.inl l), some (.inl m), none, none, none, none, none]) (st' := [.inr (.inr (.inl (some (0))))]) (h' := h) rfl ?_
    refine wq_gr (p' := 15) (ck_114 _ _ rfl) rfl (congrArg Prod.fst (ly_k C.1.1 0 rfl)) rfl (ly_g C.1.1 0 1 3 rfl) ?_
    refine av_wp_sqF ck_114 1 (pc' := 16) (lv' := [some (.inr (.inr (.inl (some (0))))), some (.inl l), some (.inl m), none, none, none, none, none]) (st' := [.inl m, .inr (.inr (.inl (some (3))))]) (h' := h) rfl ?_
    refine wq_cv (p' := 19) (av_qc (.invokevirtual 153) 70 1 0 5) 2 cd_70 [.inl m] (3) 5 [some (.inr (.inr (.inl (some (3))))), some (.inl m)] (ck_114 _ _ rfl) rfl rfl pp_70 rfl rfl rfl (congrArg Prod.fst (ly_k C.1.1 3 rfl)) rfl rfl rfl rfl ?_
    refine cx_70 C.1 (m) (by omega) (fun v5 p6 => ?_)
    show av_wp _ cd_114 19 [some (.inr (.inr (.inl (some (0))))), some (.inl l), some (.inl m), none, none, none, none, none] [.inl v5] h _
    refine wq_k1 (p' := 22) (ck_114 _ _ rfl) rfl ⟨by omega, by omega⟩ (fun c7 => ?_) (fun c8 => ?_)
    · have c7 : v5 ≠ (0) := c7
      refine av_wp_sqF ck_114 6 (pc' := 34) (lv' := [some (.inr (.inr (.inl (some (0))))), some (.inl l), some (.inl m), some (.inl (-1)), some (.inl (13)), some (.inl (0)), none, none]) (st' := []) (h' := h) rfl ?_
      have L21 : ∀ (m20 : Nat) (k9 : Int) (k10 : Int) (k11 : Int) (a12 : Option av_V) (a13 : Option av_V) (h14 : av_H) (r15 : Nat → Int) (n16 : Nat → Int), av_lg a12 = false → av_lg a13 = false → (k9 = (ptv S (PTQ U S (hA h (6 + Int.toNat l)) (hA h (6 + Int.toNat m))) (Int.toNat k11)) ∧ (((ptv S (PTQ U S (hA h (6 + Int.toNat l)) (hA h (6 + Int.toNat m))) (Int.toNat k11)) = -1 ∧ k10 = 13) ∨ ((ptv S (PTQ U S (hA h (6 + Int.toNat l)) (hA h (6 + Int.toNat m))) (Int.toNat k11)) ≠ -1 ∧ k10 = (S (Int.toNat (ptv S (PTQ U S (hA h (6 + Int.toNat l)) (hA h (6 + Int.toNat m))) (Int.toNat k11))) : Int)))) → k11 ≤ n → (-1 ≤ k9 ∧ k9 ≤ 15) → (0 ≤ k10 ∧ k10 ≤ 13) → (0 ≤ k11 ∧ k11 ≤ 16) → CJ U S n r15 n16 h14 → Fr h h14 → SUA U S n (hF h 3 4) (fun k => hA h (6 + k)) r15 → (16 - k11).toNat = m20 → av_wp none cd_114 34 [some (.inr (.inr (.inl (some (0))))), some (.inl l), some (.inl m), some (.inl k9), some (.inl k10), some (.inl k11), a12, a13] [] h14 Q := by
        intro m20
        induction m20 using Nat.strongRecOn with
        | _ m20 I22 =>
          intro k9 k10 k11 a12 a13 h14 r15 n16 g24 g25 g26 g27 g28 g29 g30 C17 F18 U19 e23
          have la12 := g24
          have la13 := g25
          refine av_wp_sqF ck_114 2 (pc' := 37) (lv' := [some (.inr (.inr (.inl (some (0))))), some (.inl l), some (.inl m), some (.inl k9), some (.inl k10), some (.inl k11), a12, a13]) (st' := [.inr (.inr (.inl (some (0)))), .inl k11]) (h' := h14) rfl ?_
          refine wq_gr (p' := 40) (ck_114 _ _ rfl) rfl (congrArg Prod.fst (ly_k C17.1.1 0 rfl)) rfl (ly_g C17.1.1 0 1 3 rfl) ?_
          obtain ⟨v31, e32⟩ : ∃ v, hF h14 3 3 = v := ⟨_, rfl⟩
          have g33 := ic_cc C17.1
          rw [e32] at g33
          have u34 : v31 = n := e32.symm.trans C17.2.1.1
          refine wq_gi (p' := 43) (ck_114 _ _ rfl) rfl (congrArg Prod.fst (ly_k C17.1.1 3 rfl)) rfl (e32) ?_
          refine wq_k2 (p' := 46) (ck_114 _ _ rfl) rfl ⟨by omega, by omega⟩ ⟨by omega, by omega⟩ (fun c35 => ?_) (fun c36 => ?_)
          · have c35 : v31 ≤ k11 := c35
            refine av_wp_sqF ck_114 1 (pc' := 126) (lv' := [some (.inr (.inr (.inl (some (0))))), some (.inl l), some (.inl m), some (.inl k9), some (.inl k10), some (.inl k11), a12, a13]) (st' := [.inl k9]) (h' := h14) rfl ?_
            refine av_wp_ret (v := some (.inl k9)) (ck_114 _ _ rfl) rfl rfl ?_
            exact hq _ h14 _ _ C17 F18 U19 (Or.inl ⟨by omega, by rw [show Int.toNat n = Int.toNat k11 by omega]; exact g26.1⟩)
          · have c36 : k11 < v31 := c36
            refine av_wp_sqF ck_114 1 (pc' := 47) (lv' := [some (.inr (.inr (.inl (some (0))))), some (.inl l), some (.inl m), some (.inl k9), some (.inl k10), some (.inl k11), a12, a13]) (st' := [.inr (.inr (.inl (some (0))))]) (h' := h14) rfl ?_
            refine wq_gr (p' := 50) (ck_114 _ _ rfl) rfl (congrArg Prod.fst (ly_k C17.1.1 0 rfl)) rfl (ly_g C17.1.1 0 1 3 rfl) ?_
            refine av_wp_sqF ck_114 1 (pc' := 52) (lv' := [some (.inr (.inr (.inl (some (0))))), some (.inl l), some (.inl m), some (.inl k9), some (.inl k10), some (.inl k11), a12, a13]) (st' := [.inl k11, .inr (.inr (.inl (some (3))))]) (h' := h14) rfl ?_
            refine wq_cv (p' := 55) (av_qc (.invokevirtual 96) 69 1 0 5) 2 cd_69 [.inl k11] (3) 5 [some (.inr (.inr (.inl (some (3))))), some (.inl k11)] (ck_114 _ _ rfl) rfl rfl pp_69 rfl rfl rfl (congrArg Prod.fst (ly_k C17.1.1 3 rfl)) rfl rfl rfl rfl ?_
            refine cz_69 C17 (k11) (by omega) (fun z37 => ?_) (fun z37 z38 t39 c40 y41 y42 => ?_)
            · show av_wp _ cd_114 55 [some (.inr (.inr (.inl (some (0))))), some (.inl l), some (.inl m), some (.inl k9), some (.inl k10), some (.inl k11), a12, a13] [.inr (.inr (.inl none))] h14 _
              refine av_wp_sqF ck_114 9 (pc' := 34) (lv' := [some (.inr (.inr (.inl (some (0))))), some (.inl l), some (.inl m), some (.inl k9), some (.inl k10), some (.inl (k11 + (1))), some (.inr (.inr (.inl none))), some (.inl (0))]) (st' := []) (h' := h14) rfl ?_
              exact I22 _ (by omega) (k9) (k10) ((k11 + (1))) (some (.inr (.inr (.inl none)))) (some (.inl (0))) h14 r15 n16 rfl rfl (by have pr := ptv_r (S := S) (Q := (PTQ U S (hA h (6 + Int.toNat l)) (hA h (6 + Int.toNat m)))) (Int.toNat k11); rw [show Int.toNat (k11 + (1)) = Int.toNat k11 + 1 by omega, ptv_n (fun z => by have := z.1; omega)]; exact g26) (by omega) (by omega) (by omega) (by omega) C17 F18 U19 rfl
            · have g43 := co_s12 y41
              have g44 := co_cbr y41
              show av_wp _ cd_114 55 [some (.inr (.inr (.inl (some (0))))), some (.inl l), some (.inl m), some (.inl k9), some (.inl k10), some (.inl k11), a12, a13] [.inr (.inr (.inl (some (t39))))] h14 _
              refine av_wp_sqF ck_114 4 (pc' := 64) (lv' := [some (.inr (.inr (.inl (some (0))))), some (.inl l), some (.inl m), some (.inl k9), some (.inl k10), some (.inl k11), some (.inr (.inr (.inl (some (t39))))), a13]) (st' := [.inr (.inr (.inl (some (t39))))]) (h' := h14) rfl ?_
              refine wq_gi (p' := 67) (ck_114 _ _ rfl) rfl (congrArg Prod.fst (co_kt y41)) rfl (co_s y41) ?_
              refine av_wp_sqF ck_114 1 (pc' := 69) (lv' := [some (.inr (.inr (.inl (some (0))))), some (.inl l), some (.inl m), some (.inl k9), some (.inl k10), some (.inl k11), some (.inr (.inr (.inl (some (t39))))), a13]) (st' := [.inl k10, .inl ((S (Int.toNat (k11))) : Int)]) (h' := h14) rfl ?_
              refine wq_k2 (p' := 72) (ck_114 _ _ rfl) rfl ⟨by omega, by omega⟩ ⟨by omega, by omega⟩ (fun c45 => ?_) (fun c46 => ?_)
              · have c45 : k10 ≤ ((S (Int.toNat (k11))) : Int) := c45
                refine av_wp_sqF ck_114 6 (pc' := 34) (lv' := [some (.inr (.inr (.inl (some (0))))), some (.inl l), some (.inl m), some (.inl k9), some (.inl k10), some (.inl (k11 + (1))), some (.inr (.inr (.inl (some (t39))))), some (.inl (0))]) (st' := []) (h' := h14) rfl ?_
                exact I22 _ (by omega) (k9) (k10) ((k11 + (1))) (some (.inr (.inr (.inl (some (t39)))))) (some (.inl (0))) h14 r15 n16 rfl rfl (by have pr := ptv_r (S := S) (Q := (PTQ U S (hA h (6 + Int.toNat l)) (hA h (6 + Int.toNat m)))) (Int.toNat k11); rw [show Int.toNat (k11 + (1)) = Int.toNat k11 + 1 by omega, ptv_n (fun z => by have := z.1; omega)]; exact g26) (by omega) (by omega) (by omega) (by omega) C17 F18 U19 rfl
              · have c46 : ((S (Int.toNat (k11))) : Int) < k10 := c46
                refine av_wp_sqF ck_114 6 (pc' := 85) (lv' := [some (.inr (.inr (.inl (some (0))))), some (.inl l), some (.inl m), some (.inl k9), some (.inl k10), some (.inl k11), some (.inr (.inr (.inl (some (t39))))), some (.inl (1))]) (st' := [.inr (.inr (.inl (some (0))))]) (h' := h14) rfl ?_
                refine wq_gr (p' := 88) (ck_114 _ _ rfl) rfl (congrArg Prod.fst (ly_k C17.1.1 0 rfl)) rfl (ly_g C17.1.1 0 5 26 rfl) ?_
                refine av_wp_sqF ck_114 3 (pc' := 92) (lv' := [some (.inr (.inr (.inl (some (0))))), some (.inl l), some (.inl m), some (.inl k9), some (.inl k10), some (.inl k11), some (.inr (.inr (.inl (some (t39))))), some (.inl (1))]) (st' := [.inl m, .inl l, .inl k11, .inr (.inr (.inl (some (26))))]) (h' := h14) rfl ?_
                refine wq_cv (p' := 95) (av_qc (.invokevirtual 222) 50 3 0 3) 5 cd_50 [.inl m, .inl l, .inl k11] (26) 3 [some (.inr (.inr (.inl (some (26))))), some (.inl k11), some (.inl l), some (.inl m), none] (ck_114 _ _ rfl) rfl rfl pp_50 rfl rfl rfl (congrArg Prod.fst (ly_k C17.1.1 26 rfl)) rfl rfl rfl rfl ?_
                have G62cr : CRT U S n (hF h14 3 4) (fun k => hA h14 (6 + k)) := by rw [Fr_34 F18]; exact CRT_c CR (by have := ic_lc C.1; omega) (Fr_6 F18)
                have G62su : SUA U S n (hF h14 3 4) (fun k => hA h14 (6 + k)) r15 := by rw [Fr_34 F18]; exact SUA_c U19 (fun l hl _ => Fr_6 F18 l hl)
                refine cx_50 C17 (k11) (by omega) (l) (by omega) (m) (by omega) G62cr G62su (fun h47 r48 n49 C50 F51 U52 z53 => ?_) (fun z54 h55 r56 n57 t58 c59 X60 U61 => ?_)
                · rw [Fr_34 F18] at U52 z53
                  have F63 := Fr_tr F18 F51
                  have U52 := SUA_c U52 (fun l hl _ => (Fr_6 F18 l hl).symm)
                  show av_wp _ cd_114 95 [some (.inr (.inr (.inl (some (0))))), some (.inl l), some (.inl m), some (.inl k9), some (.inl k10), some (.inl k11), some (.inr (.inr (.inl (some (t39))))), some (.inl (1))] [.inl (0)] h47 _
                  refine av_wp_sqF ck_114 3 (pc' := 34) (lv' := [some (.inr (.inr (.inl (some (0))))), some (.inl l), some (.inl m), some (.inl k9), some (.inl k10), some (.inl (k11 + (1))), some (.inr (.inr (.inl (some (t39))))), some (.inl (1))]) (st' := []) (h' := h47) rfl ?_
                  exact I22 _ (by omega) (k9) (k10) ((k11 + (1))) (some (.inr (.inr (.inl (some (t39)))))) (some (.inl (1))) h47 r48 n49 rfl rfl (by have pr := ptv_r (S := S) (Q := (PTQ U S (hA h (6 + Int.toNat l)) (hA h (6 + Int.toNat m)))) (Int.toNat k11); rw [show Int.toNat (k11 + (1)) = Int.toNat k11 + 1 by omega, ptv_n (fun z => z53 ⟨by omega, z.2.1, by omega, by omega⟩)]; exact g26) (by omega) (by omega) (by omega) (by omega) C50 F63 U52 rfl
                · rw [Fr_34 F18] at z54 U61
                  have U61 := SUA_c U61 (fun l hl _ => (Fr_6 F18 l hl).symm)
                  rw [Fr_6 F18 (Int.toNat l) (by have := ic_lc C.1; omega), Fr_6 F18 (Int.toNat m) (by have := ic_lc C.1; omega)] at X60
                  have G621 := CWF_sea (ro := (hA h (6 + Int.toNat l))) (CR.1 (Int.toNat k11) (by omega)) (rl_8 (CR.2.2.2 l (by omega) (by omega))).1 (brv_b (U (Int.toNat k11)) (srt U S (hA h (6 + Int.toNat l)) (Int.toNat k11)))
                  have G622 := CWF_sea (ro := (hA h (6 + Int.toNat m))) (CR.1 (Int.toNat k11) (by omega)) (rl_8 (CR.2.2.2 m (by omega) (by omega))).1 (brv_b (U (Int.toNat k11)) (srt U S (hA h (6 + Int.toNat m)) (Int.toNat k11)))
                  have G62c := cbv_d (U (Int.toNat k11)) (S (Int.toNat k11))
                  have G62d := CR.2.2.1 (Int.toNat k11) (by omega)
                  show av_wp _ cd_114 95 [some (.inr (.inr (.inl (some (0))))), some (.inl l), some (.inl m), some (.inl k9), some (.inl k10), some (.inl k11), some (.inr (.inr (.inl (some (t39))))), some (.inl (1))] [.inl (1)] h55 _
                  refine av_wp_sqF ck_114 2 (pc' := 99) (lv' := [some (.inr (.inr (.inl (some (0))))), some (.inl l), some (.inl m), some (.inl k9), some (.inl k10), some (.inl k11), some (.inr (.inr (.inl (some (t39))))), some (.inl (1))]) (st' := [.inr (.inr (.inl (some (0))))]) (h' := h55) rfl ?_
                  refine wq_gr (p' := 102) (ck_114 _ _ rfl) rfl (congrArg Prod.fst (ly_k X60.1.1.1 0 rfl)) rfl (ly_g X60.1.1.1 0 5 26 rfl) ?_
                  refine wq_cv (p' := 105) (av_qc (.invokevirtual 228) 61 0 0 3) 2 cd_61 [] (26) 3 [some (.inr (.inr (.inl (some (26))))), none] (ck_114 _ _ rfl) rfl rfl pp_61 rfl rfl rfl (congrArg Prod.fst (ly_k X60.1.1.1 26 rfl)) rfl rfl rfl rfl ?_
                  refine cx_61 X60 G621 G622 (CR.1 (Int.toNat k11) (by omega)).1 (CR.2.2.2 l (by omega) (by omega)) (CR.2.2.2 m (by omega) (by omega)) (by omega) (fun v65 h66 X67 p68 => ?_)
                  have F69 := Fr_tr F18 X67.2.1
                  have g70 : -1 ≤ v65 ∧ v65 < (Int.toNat (cbv (U (Int.toNat k11)) (S (Int.toNat k11))) : Int) := by rw [p68]; exact fsP_r
                  have y71 := CO_fr C17.1.1 y41 X67.2.1
                  show av_wp _ cd_114 105 [some (.inr (.inr (.inl (some (0))))), some (.inl l), some (.inl m), some (.inl k9), some (.inl k10), some (.inl k11), some (.inr (.inr (.inl (some (t39))))), some (.inl (1))] [.inl v65] h66 _
                  refine av_wp_sqF ck_114 1 (pc' := 106) (lv' := [some (.inr (.inr (.inl (some (0))))), some (.inl l), some (.inl m), some (.inl k9), some (.inl k10), some (.inl k11), some (.inr (.inr (.inl (some (t39))))), some (.inl (1))]) (st' := [.inl (-1), .inl v65]) (h' := h66) rfl ?_
                  refine wq_k2 (p' := 109) (ck_114 _ _ rfl) rfl ⟨by omega, by omega⟩ ⟨by omega, by omega⟩ (fun c72 => ?_) (fun c73 => ?_)
                  · have c72 : v65 = (-1) := c72
                    refine av_wp_sqF ck_114 2 (pc' := 34) (lv' := [some (.inr (.inr (.inl (some (0))))), some (.inl l), some (.inl m), some (.inl k9), some (.inl k10), some (.inl (k11 + (1))), some (.inr (.inr (.inl (some (t39))))), some (.inl (1))]) (st' := []) (h' := h66) rfl ?_
                    exact I22 _ (by omega) (k9) (k10) ((k11 + (1))) (some (.inr (.inr (.inl (some (t39)))))) (some (.inl (1))) h66 r56 n57 rfl rfl (by have pr := ptv_r (S := S) (Q := (PTQ U S (hA h (6 + Int.toNat l)) (hA h (6 + Int.toNat m)))) (Int.toNat k11); rw [show Int.toNat (k11 + (1)) = Int.toNat k11 + 1 by omega, ptv_n (fun z => z.2.2 (by rw [← p68]; omega))]; exact g26) (by omega) (by omega) (by omega) (by omega) X67.1 F69 U61 rfl
                  · have c73 : v65 ≠ (-1) := c73
                    refine av_wp_sqF ck_114 3 (pc' := 114) (lv' := [some (.inr (.inr (.inl (some (0))))), some (.inl l), some (.inl m), some (.inl k11), some (.inl k10), some (.inl k11), some (.inr (.inr (.inl (some (t39))))), some (.inl (1))]) (st' := [.inr (.inr (.inl (some (t39))))]) (h' := h66) rfl ?_
                    refine wq_gi (p' := 117) (ck_114 _ _ rfl) rfl (congrArg Prod.fst (co_kt y71)) rfl (co_s y71) ?_
                    refine av_wp_sqF ck_114 3 (pc' := 34) (lv' := [some (.inr (.inr (.inl (some (0))))), some (.inl l), some (.inl m), some (.inl k11), some (.inl ((S (Int.toNat (k11))) : Int)), some (.inl (k11 + (1))), some (.inr (.inr (.inl (some (t39))))), some (.inl (1))]) (st' := []) (h' := h66) rfl ?_
                    exact I22 _ (by omega) (k11) (((S (Int.toNat (k11))) : Int)) ((k11 + (1))) (some (.inr (.inr (.inl (some (t39)))))) (some (.inl (1))) h66 r56 n57 rfl rfl (by have pr := ptv_r (S := S) (Q := (PTQ U S (hA h (6 + Int.toNat l)) (hA h (6 + Int.toNat m)))) (Int.toNat k11); rw [show Int.toNat (k11 + (1)) = Int.toNat k11 + 1 by omega, ptv_y (by omega) ⟨by omega, by rw [← p68]; omega⟩]; refine ⟨by omega, Or.inr ⟨by omega, ?_⟩⟩; rw [show ((((Int.toNat k11) : Nat) : Int)).toNat = (Int.toNat k11) by omega]) (by omega) (by omega) (by omega) (by omega) X67.1 F69 U61 rfl
      exact L21 _ ((-1)) ((13)) ((0)) (none) (none) h sr nd rfl rfl ⟨rfl, Or.inl ⟨rfl, rfl⟩⟩ (by omega) (by omega) (by omega) (by omega) C F SU rfl
    · have c8 : v5 = (0) := c8
      refine av_wp_sqF ck_114 1 (pc' := 24) (lv' := [some (.inr (.inr (.inl (some (0))))), some (.inl l), some (.inl m), none, none, none, none, none]) (st' := [.inl (-2)]) (h' := h) rfl ?_
      refine av_wp_ret (v := some (.inl (-2))) (ck_114 _ _ rfl) rfl rfl ?_
      exact hq _ h _ _ C F SU (Or.inr ⟨by omega, rfl⟩)
end
section
/-! WRITE: clauses behind a law -/
def mxf (R : Nat → Nat → Int) (b : Nat → Int) (x : Int) : Nat → Nat → Int
  | 0 => b
  | c + 1 => if av_w (av_and (av_shr x (c : Int)) 1) = 1 then lov (mxf R b x c) (R c) 14 else mxf R b x c
theorem mxf_y {R : Nat → Nat → Int} {b : Nat → Int} {x : Int} {c : Nat} (h : av_w (av_and (av_shr x (c : Int)) 1) = 1) : mxf R b x (c + 1) = lov (mxf R b x c) (R c) 14 := if_pos h
theorem mxf_n {R : Nat → Nat → Int} {b : Nat → Int} {x : Int} {c : Nat} (h : ¬ av_w (av_and (av_shr x (c : Int)) 1) = 1) : mxf R b x (c + 1) = mxf R b x c := if_neg h
theorem lov_bd {f d : Nat → Int} {n : Nat} (hf : ∀ j, -2 ≤ f j ∧ f j ≤ 999) (hd : ∀ j, -2 ≤ d j ∧ d j ≤ 999) (j : Nat) : -2 ≤ lov f d n j ∧ lov f d n j ≤ 999 := by
  unfold lov
  split
  · exact hd j
  · exact hf j
theorem mxf_bd {R : Nat → Nat → Int} {b : Nat → Int} {x : Int} (hb : ∀ j, -2 ≤ b j ∧ b j ≤ 999) : ∀ c : Nat, (∀ q, q < c → ∀ j, -2 ≤ R q j ∧ R q j ≤ 999) → ∀ j, -2 ≤ mxf R b x c j ∧ mxf R b x c j ≤ 999 := by
  intro c
  induction c with
  | zero => intro _ j; exact hb j
  | succ c ih =>
    intro hR j
    have i := ih (fun q hq => hR q (by omega))
    by_cases e : av_w (av_and (av_shr x (c : Int)) 1) = 1
    · rw [mxf_y e]
      exact lov_bd i (hR c (by omega)) j
    · rw [mxf_n e]
      exact i j
theorem IC_30 {h : av_H} {f : Nat → Int} (I : IC h) (hf : ∀ j, -2 ≤ f j ∧ f j ≤ 999) : IC (hrw h 30 f) ∧ Fr1 h (hrw h 30 f) := by
  refine IC_A (A := av_u1 h.2.2.2.1 30 f) I (fun a ha => ?_) (fun a ha j => ?_)
  · have hne : a ≠ 30 := fun z => by rw [z] at ha; cases ha
    exact if_neg hne
  · by_cases c : a = 30
    · rw [c, show av_u1 h.2.2.2.1 30 f 30 = f from if_pos rfl]
      exact hf j
    · rw [show av_u1 h.2.2.2.1 30 f a = h.2.2.2.1 a from if_neg c]
      exact I.2.1 a ha j
/-- the class lays a law and clauses behind it -/
theorem cx_75 {h : av_H} (I : IC h) (l : Int) (ql : 0 ≤ l ∧ l < hF h 3 4) (x : Int) {Q : Option av_V → av_H → Prop} (hq : ∀ h', h' = hrw h 30 (mxf (fun c => hA h (15 + c)) (plr (hA h 30) (hA h (6 + Int.toNat l))) x (Int.toNat (hF h 3 5))) → Q none h') : av_wp none cd_75 0 [some (.inr (.inr (.inl (some (3))))), some (.inr (.inr (.inl (some (30))))), some (.inl l), some (.inl x), none] [] h Q := by
  have l8 := ic_lc I
  have k6 := ic_kc I
  have u5 : (Int.toNat (l)) < 8 := by omega
  have bb : ∀ j, -2 ≤ plr (hA h 30) (hA h (6 + Int.toNat l)) j ∧ plr (hA h 30) (hA h (6 + Int.toNat l)) j ≤ 999 := plr_bd (I.2.1 30 rfl) (I.2.1 _ (rwc_l u5))
  have bc : ∀ q, q < 6 → ∀ j, -2 ≤ hA h (15 + q) j ∧ hA h (15 + q) j ≤ 999 := fun q hq => I.2.1 _ (rwc_q hq)
  refine av_wp_sqF ck_75 2 (pc' := 2) (lv' := [some (.inr (.inr (.inl (some (3))))), some (.inr (.inr (.inl (some (30))))), some (.inl l), some (.inl x), none]) (st' := [.inl l, .inr (.inr (.inl (some (3))))]) (h' := h) rfl ?_
  refine wq_cv (p' := 5) (av_qc (.invokevirtual 49) 70 1 0 5) 2 cd_70 [.inl l] (3) 5 [some (.inr (.inr (.inl (some (3))))), some (.inl l)] (ck_75 _ _ rfl) rfl rfl pp_70 rfl rfl rfl (congrArg Prod.fst (ly_k I.1 3 rfl)) rfl rfl rfl rfl ?_
  refine cx_70 I (l) (by omega) (fun v1 p2 => ?_)
  show av_wp _ cd_75 5 [some (.inr (.inr (.inl (some (3))))), some (.inr (.inr (.inl (some (30))))), some (.inl l), some (.inl x), none] [.inl v1] h _
  refine wq_k1 (p' := 8) (ck_75 _ _ rfl) rfl ⟨by omega, by omega⟩ (fun c3 => ?_) (fun c4 => ?_)
  · refine av_wp_sqF ck_75 1 (pc' := 10) (lv' := [some (.inr (.inr (.inl (some (3))))), some (.inr (.inr (.inl (some (30))))), some (.inl l), some (.inl x), none]) (st' := [.inr (.inr (.inl (some (3))))]) (h' := h) rfl ?_
    refine wq_gr (p' := 13) (ck_75 _ _ rfl) rfl (congrArg Prod.fst (ly_k I.1 3 rfl)) rfl (ly_g I.1 3 1 5 rfl) ?_
    refine av_wp_sqF ck_75 1 (pc' := 14) (lv' := [some (.inr (.inr (.inl (some (3))))), some (.inr (.inr (.inl (some (30))))), some (.inl l), some (.inl x), none]) (st' := [.inl l, .inr (.inr (.inl (some (5))))]) (h' := h) rfl ?_
    refine wq_ar (p' := 15) (n := 8) (k := 32) (ck_75 _ _ rfl) rfl (ly_k I.1 5 rfl) (by omega) (by omega) (I.1.2.2.1 _ u5) ?_
    refine av_wp_sqF ck_75 4 (pc' := 20) (lv' := [some (.inr (.inr (.inl (some (3))))), some (.inr (.inr (.inl (some (30))))), some (.inl l), some (.inl x), none]) (st' := [.inl (14), .inl (0), .inr (.inr (.inl (some (30)))), .inl (0), .inr (.inr (.inl (some (6 + (Int.toNat (l))))))]) (h' := h) rfl ?_
    refine wq_ac (p' := 23) (ck_75 _ _ rfl) rfl rfl (fun _ _ => rfl) rfl (ly_k I.1 30 rfl) (ly_l I.1 u5) (by omega) (by omega) (by omega) (by omega) ?_
    rw [show hcp h 30 (0 : Int).toNat (0 : Int).toNat (14 : Int).toNat (hA h (6 + Int.toNat l)) = hrw h 30 (plr (hA h 30) (hA h (6 + Int.toNat l))) from hcp_rw]
    refine av_wp_sqF ck_75 2 (pc' := 26) (lv' := [some (.inr (.inr (.inl (some (3))))), some (.inr (.inr (.inl (some (30))))), some (.inl l), some (.inl x), some (.inl (0))]) (st' := []) (h' := hrw h 30 (plr (hA h 30) (hA h (6 + Int.toNat l)))) rfl ?_
    obtain ⟨B, eB⟩ : ∃ B, plr (hA h 30) (hA h (6 + Int.toNat l)) = B := ⟨_, rfl⟩
    rw [eB] at hq bb ⊢
    have lp : ∀ (m k : Nat), (k : Int) + (m : Int) = hF h 3 5 → av_wp none cd_75 26 [some (.inr (.inr (.inl (some (3))))), some (.inr (.inr (.inl (some (30))))), some (.inl l), some (.inl x), some (.inl (k : Int))] [] (hrw h 30 (mxf (fun c => hA h (15 + c)) B x k)) Q := by
      intro m
      induction m with
      | zero =>
        intro k hk
        have J := (IC_30 (f := mxf (fun c => hA h (15 + c)) B x k) I (mxf_bd bb k (fun q hq => bc q (by omega)))).1
        refine av_wp_sqF ck_75 2 (pc' := 29) (lv' := [some (.inr (.inr (.inl (some (3))))), some (.inr (.inr (.inl (some (30))))), some (.inl l), some (.inl x), some (.inl (k : Int))]) (st' := [.inr (.inr (.inl (some (3)))), .inl (k : Int)]) (h' := hrw h 30 (mxf (fun c => hA h (15 + c)) B x k)) rfl ?_
        refine wq_gi (p' := 32) (ck_75 _ _ rfl) rfl (congrArg Prod.fst (ly_k J.1 3 rfl)) rfl (show hF (hrw h 30 _) 3 5 = hF h 3 5 from rfl) ?_
        refine wq_k2 (p' := 35) (ck_75 _ _ rfl) rfl ⟨by omega, by omega⟩ ⟨by omega, by omega⟩ (fun c22 => ?_) (fun c23 => ?_)
        · refine av_wp_ret (v := none) (ck_75 _ _ rfl) rfl rfl ?_
          rw [show k = Int.toNat (hF h 3 5) by omega]
          exact hq _ rfl
        · have c23 : (k : Int) < hF h 3 5 := c23
          exfalso
          omega
      | succ m ih =>
        intro k hk
        have u28 : k < 6 := by omega
        have J := (IC_30 (f := mxf (fun c => hA h (15 + c)) B x k) I (mxf_bd bb k (fun q hq => bc q (by omega)))).1
        have nx : ∀ f, f = mxf (fun c => hA h (15 + c)) B x (k + 1) → av_wp none cd_75 56 [some (.inr (.inr (.inl (some (3))))), some (.inr (.inr (.inl (some (30))))), some (.inl l), some (.inl x), some (.inl (k : Int))] [] (hrw h 30 f) Q := by
          intro f ef
          rw [ef]
          refine av_wp_sqF ck_75 2 (pc' := 26) (lv' := [some (.inr (.inr (.inl (some (3))))), some (.inr (.inr (.inl (some (30))))), some (.inl l), some (.inl x), some (.inl ((k : Int) + 1))]) (st' := []) (h' := hrw h 30 (mxf (fun c => hA h (15 + c)) B x (k + 1))) rfl ?_
          have i := ih (k + 1) (by omega)
          rw [show ((k + 1 : Nat) : Int) = (k : Int) + 1 by omega] at i
          exact i
        refine av_wp_sqF ck_75 2 (pc' := 29) (lv' := [some (.inr (.inr (.inl (some (3))))), some (.inr (.inr (.inl (some (30))))), some (.inl l), some (.inl x), some (.inl (k : Int))]) (st' := [.inr (.inr (.inl (some (3)))), .inl (k : Int)]) (h' := hrw h 30 (mxf (fun c => hA h (15 + c)) B x k)) rfl ?_
        refine wq_gi (p' := 32) (ck_75 _ _ rfl) rfl (congrArg Prod.fst (ly_k J.1 3 rfl)) rfl (show hF (hrw h 30 _) 3 5 = hF h 3 5 from rfl) ?_
        refine wq_k2 (p' := 35) (ck_75 _ _ rfl) rfl ⟨by omega, by omega⟩ ⟨by omega, by omega⟩ (fun c22 => ?_) (fun c23 => ?_)
        · have c22 : hF h 3 5 ≤ (k : Int) := c22
          exfalso
          omega
        · refine av_wp_sqF ck_75 6 (pc' := 42) (lv' := [some (.inr (.inr (.inl (some (3))))), some (.inr (.inr (.inl (some (30))))), some (.inl l), some (.inl x), some (.inl (k : Int))]) (st' := [.inl (1), .inl (av_and (av_shr x (k : Int)) (1))]) (h' := hrw h 30 (mxf (fun c => hA h (15 + c)) B x k)) rfl ?_
          refine wq_w2 (p' := 45) (ck_75 _ _ rfl) rfl (fun c60 => ?_) (fun c61 => ?_)
          · exact nx _ (mxf_n c60).symm
          · refine av_wp_sqF ck_75 2 (pc' := 47) (lv' := [some (.inr (.inr (.inl (some (3))))), some (.inr (.inr (.inl (some (30))))), some (.inl l), some (.inl x), some (.inl (k : Int))]) (st' := [.inr (.inr (.inl (some (3)))), .inr (.inr (.inl (some (30))))]) (h' := hrw h 30 (mxf (fun c => hA h (15 + c)) B x k)) rfl ?_
            refine wq_gr (p' := 50) (ck_75 _ _ rfl) rfl (congrArg Prod.fst (ly_k J.1 3 rfl)) rfl (ly_g J.1 3 2 14 rfl) ?_
            refine av_wp_sqF ck_75 1 (pc' := 52) (lv' := [some (.inr (.inr (.inl (some (3))))), some (.inr (.inr (.inl (some (30))))), some (.inl l), some (.inl x), some (.inl (k : Int))]) (st' := [.inl (k : Int), .inr (.inr (.inl (some (14)))), .inr (.inr (.inl (some (30))))]) (h' := hrw h 30 (mxf (fun c => hA h (15 + c)) B x k)) rfl ?_
            refine wq_ar (p' := 53) (n := 6) (k := 32) (ck_75 _ _ rfl) rfl (ly_k J.1 14 rfl) (by omega) (by omega) (J.1.2.2.2 _ u28) ?_
            refine wq_cs (p' := 56) (av_qc (.invokestatic 45) 74 2 2 5) 3 cd_74 [.inr (.inr (.inl (some (30)))), .inr (.inr (.inl (some (15 + k))))] [.inr (.inr (.inl (some (15 + k)))), .inr (.inr (.inl (some (30))))] [some (.inr (.inr (.inl (some (30))))), some (.inr (.inr (.inl (some (15 + k))))), none] (ck_75 _ _ rfl) rfl rfl pp_74 (fun _ => rfl) rfl rfl ?_
            refine ct_74x (ly_k I.1 30 rfl) (ly_q I.1 u28) (by omega) (bc k u28) ?_
            exact nx _ (mxf_y c61).symm
    exact lp (Int.toNat (hF h 3 5)) 0 (by omega)
  · have c4 : v1 = (0) := c4
    exfalso
    omega
/-- how many bits -/
def pcn (x : Nat) : Nat := x % 2 + x / 2 % 2 + x / 4 % 2 + x / 8 % 2 + x / 16 % 2 + x / 32 % 2
theorem pcn_r : ∀ k : Nat, k < 64 → pcn k ≤ 6 := by decide +kernel
theorem pcn_c : ∀ c : Nat, c ≤ 6 → ∀ k : Nat, k < 2 ^ c → pcn k ≤ c := by decide +kernel
/-- the first of the fewest -/
theorem ptv_no {S : Nat → Nat} {Q : Nat → Prop} : ∀ i, (∀ j, j < i → ¬ Q j) → ptv S Q i = -1 := by
  intro i
  induction i with
  | zero => intro _; rfl
  | succ i ih => intro h; rw [ptv_n (S := S) (Q := Q) (i := i) (fun z => h i (by omega) z.2)]; exact ih (fun j hj => h j (by omega))
theorem ptv_is {S : Nat → Nat} {Q : Nat → Prop} {b : Nat} (qb : Q b) : ∀ i, b < i → (∀ j, j < i → Q j → S b < S j ∨ (S b = S j ∧ b ≤ j)) → ptv S Q i = (b : Int) := by
  intro i
  induction i with
  | zero => intro h; exact absurd h (Nat.not_lt_zero _)
  | succ i ih =>
    intro hb h
    by_cases c : b = i
    · subst c
      refine ptv_y ?_ qb
      have r := ptv_r (S := S) (Q := Q) b
      by_cases e : ptv S Q b = -1
      · exact Or.inl e
      · refine Or.inr ?_
        have w : ∀ k, ptv S Q k = -1 ∨ Q (ptv S Q k).toNat := by
          intro k
          induction k with
          | zero => exact Or.inl rfl
          | succ k ik =>
            by_cases d : (ptv S Q k = -1 ∨ S k < S (ptv S Q k).toNat) ∧ Q k
            · rw [ptv_y d.1 d.2]
              exact Or.inr d.2
            · rw [ptv_n d]
              exact ik
        have y := h (ptv S Q b).toNat (by omega) ((w b).resolve_left e)
        omega
    · have i1 := ih (by omega) (fun j hj => h j (by omega))
      have nn : ¬ ((ptv S Q i = -1 ∨ S i < S (ptv S Q i).toNat) ∧ Q i) := fun z => by
        have y := h i (by omega) z.2
        have z1 := z.1
        rw [i1, show ((b : Nat) : Int).toNat = b from rfl] at z1
        omega
      rw [ptv_n nn]
      exact i1
/-- rows that a look leaves -/
theorem Fr_15 {g h : av_H} (F : Fr g h) : ∀ c, c < 6 → hA h (15 + c) = hA g (15 + c) := fun c hc => F.2.2.2.2.2.2 _ (by
  have hh : ∀ l, l < 6 → sA (15 + l) = false := by decide
  exact hh c hc)
theorem Fr_35 {g h : av_H} (F : Fr g h) : hF h 3 5 = hF g 3 5 := F.2.2.2.2.2.1 3 5 rfl
theorem mxf_c {R R' : Nat → Nat → Int} {b : Nat → Int} {x : Int} : ∀ c : Nat, (∀ q, q < c → R q = R' q) → mxf R b x c = mxf R' b x c := by
  intro c
  induction c with
  | zero => intro _; rfl
  | succ c ih =>
    intro e
    have i := ih (fun q hq => e q (by omega))
    by_cases y : av_w (av_and (av_shr x (c : Int)) 1) = 1
    · rw [mxf_y y, mxf_y y, i, e c (by omega)]
    · rw [mxf_n y, mxf_n y, i]
theorem mxf_hi {R : Nat → Nat → Int} {b : Nat → Int} {x : Int} {j : Nat} (hj : 14 ≤ j) : ∀ c : Nat, mxf R b x c j = b j := by
  intro c
  induction c with
  | zero => rfl
  | succ c ih =>
    by_cases y : av_w (av_and (av_shr x (c : Int)) 1) = 1
    · rw [mxf_y y]
      show (if j < 14 ∧ R c j ≠ -2 then R c j else mxf R b x c j) = _
      rw [if_neg (by omega)]
      exact ih
    · rw [mxf_n y]
      exact ih
theorem plr_hi {f p : Nat → Int} {j : Nat} (hj : 14 ≤ j) : plr f p j = f j := if_neg (by omega)
theorem plr_c {f f' p : Nat → Int} (e : ∀ j, 14 ≤ j → f j = f' j) : plr f p = plr f' p := by
  funext j
  unfold plr
  split
  · rfl
  · exact e j (by omega)
/-- a law with the clauses of x behind it, as the class lays it -/
def MXL (g : av_H) (f30 : Nat → Int) (x : Int) (l : Nat) : Nat → Int := mxf (fun c => hA g (15 + c)) (plr f30 (hA g (6 + l))) x (Int.toNat (hF g 3 5))
section
variable {U : Nat → Nat → Int} {S : Nat → Nat} {n : Int} {sr nd f30 : Nat → Int} {g h h' : av_H} {x : Int} {l : Nat}
theorem MXL_c (F : Fr g h) (I : IC g) (e : ∀ j, 14 ≤ j → hA h 30 j = f30 j) (hl : l < 8) : mxf (fun c => hA h (15 + c)) (plr (hA h 30) (hA h (6 + l))) x (Int.toNat (hF h 3 5)) = MXL g f30 x l := by
  have k6 := ic_kc I
  unfold MXL
  rw [Fr_35 F, plr_c e, Fr_6 F l hl]
  exact mxf_c _ (fun q hq => Fr_15 F q (by omega))
theorem MXL_h (j : Nat) (hj : 14 ≤ j) : MXL g f30 x l j = f30 j := by
  unfold MXL
  rw [mxf_hi hj, plr_hi hj]
theorem CJ_30 {f : Nat → Int} (C : CJ U S n sr nd h) (hf : ∀ j, -2 ≤ f j ∧ f j ≤ 999) (e : h' = hrw h 30 f) : CJ U S n sr nd h' ∧ Fr1 h h' := by
  subst e
  obtain ⟨i, F⟩ := IC_30 C.1 hf
  exact ⟨⟨i, CSP_fr C.1.1 C.2.1 F.1, (hrw_o (by decide)).trans C.2.2.1, (hrw_o (by decide)).trans C.2.2.2⟩, F⟩
theorem CJ_fl (C : CJ U S n sr nd h) (e : h' = hfil h 27 128 144 0) : CJ U S n (hA h' 27) nd h' ∧ Fr1 h h' := by
  subst e
  obtain ⟨i, F⟩ := IC_fil (a := 27) (lo := 128) (hi := 144) (v := (0)) C.1 rfl (fun z => by cases z) (by omega)
  exact ⟨⟨i, CSP_fr C.1.1 C.2.1 F.1, rfl, (fil_o (by decide)).trans C.2.2.2⟩, F⟩
theorem SUA_hi {L : Int} {ro : Nat → Nat → Int} {sr' : Nat → Int} (X : SUA U S n L ro sr) (z : ∀ q, q < 128 → sr' q = sr q) : SUA U S n L ro sr' := fun k hk => ⟨fun h1 i hi => by rw [z _ (by omega)]; exact (X k hk).1 h1 i hi, fun h1 i hi => by rw [z _ (by omega)]; exact (X k hk).2 h1 i hi⟩
theorem SUA_fl {L : Int} {ro : Nat → Nat → Int} (X : SUA U S n L ro sr) (e27 : hA h 27 = sr) (e : h' = hfil h 27 128 144 0) : SUA U S n L ro (hA h' 27) := SUA_hi X (fun q hq => by rw [e, fil_s, if_neg (by omega), e27])
theorem SUI_fl {ro : Nat → Int} {m : Nat} (hm : m ≤ 16) (e : h' = hfil h 27 128 144 0) : SUI U S ro 128 m (hA h' 27) := fun i hi => Or.inl (by rw [e, fil_s, if_pos ⟨by show 128 ≤ 128 + i; omega, by show 128 + i < 144; omega⟩])
theorem SRE_cb {u ro bar : Nat → Int} {s : Nat} (h : cbv u s ≠ -1) : SRE u ro bar s ↔ ∀ y : Int, 0 ≤ y → y < cbv u s → (bgn u ro bar s y).2.2 ≠ 9999 := by
  have d := cbv_d u s
  have e : cbv u s = cbf u s ∧ cbf u s ≤ 1024 := by omega
  constructor
  · intro z y h0 h1
    exact z.2 y h0 (by omega)
  · intro z
    exact ⟨e.2, fun y h0 h1 => z y h0 (by omega)⟩
end
section
variable {sc : av_Sr} {cd : List (Nat × av_E)} {Q : Option av_V → av_H → Prop} {pc p' : Nat} {lv : av_L} {r' : List av_V} {h : av_H} {U : Nat → Nat → Int} {S : Nat → Nat} {n : Int} {sr nd : Nat → Int}
theorem xj_ph {idx f : Nat} {v : Int} (hx : cd.lookup pc = some (av_qf (.putfield idx) 3 f 0)) (hp : pc + 3 = p') (C : CJ U S n sr nd h) (hf : (f = 9 ∧ 0 ≤ v ∧ v ≤ 7) ∨ (f = 10 ∧ 0 ≤ v ∧ v ≤ 1023)) (hw : ∀ h', CJ U S n sr nd h' → Fr h h' → hA h' = hA h → av_wp sc cd p' lv r' h' Q) : av_wp sc cd pc lv (.inl v :: .inr (.inr (.inl (some 26))) :: r') h Q :=
  wq_pi hx hp (congrArg Prod.fst (ly_k C.1.1 26 rfl)) rfl (hw _ ⟨IC_wH C.1 hf, CSP_fr C.1.1 C.2.1 (Fr1_wF (Fr1_rf h) (by rcases hf with e | e <;> rw [e.1] <;> rfl)).1, C.2.2.1, C.2.2.2⟩ (Fr1_wF (Fr1_rf h) (by rcases hf with e | e <;> rw [e.1] <;> rfl)).1 rfl)
theorem cy_221 (C : CJ U S n sr nd h) {Q : Option av_V → av_H → Prop} (hq : ∀ h', h' = hfil h 27 128 144 0 → Q none h') : av_wp none cd_221 0 [some (.inr (.inr (.inl (some (27))))), some (.inl (128)), some (.inl (144)), some (.inl (0)), none] [] h Q :=
  ct_221 (n := 144) 128 144 rfl rfl (ly_k C.1.1 27 rfl) (by omega) (by omega) (by omega) (hq _ rfl)
end
end
