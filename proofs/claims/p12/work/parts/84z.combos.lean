/-! ALL COMBOS OF A SEATED CASE, exactly -/
set_option maxRecDepth 100000 in
set_option maxHeartbeats 4000000 in
theorem cx_55 {g h : av_H} {b t c s r : Nat} {cb : Int} {u ro : Nat → Int} {a : Nat → Nat → Int} {mb mo ma : Int} (E : EB b t c s r cb u ro a mb mo ma h) (F : FN b g h) {bar : Nat → Int} (G : SEA u ro bar s) (T : TKR u ro bar s a) (hz : HZ u a) (x : Int) (qx : 0 ≤ x ∧ x ≤ 1023) {Q : Option av_V → av_H → Prop} (hq : ∀ (v : Int) h' a' m1 m2 m3, EB b t c s r cb u ro a' m1 m2 m3 h' → FN b g h' → HZ u a' → TKR u ro bar s a' → ((v = -1 ∧ ∀ y : Int, 0 ≤ y → y < cb → (bgn u ro bar s y).2.2 ≠ 9999) ∨ ((0 ≤ v ∧ v < cb) ∧ ¬ (bgn u ro bar s v).2.2 ≠ 9999)) → Q (some (.inl v)) h') : av_wp none cd_55 0 [some (.inr (.inr (.inl (some (b))))), some (.inl x), none, none] [] h Q := by
  have s12 := co_s12 (ib_co E.1)
  have cbr := co_cbr (ib_co E.1)
  have mbr := eb_xr E
  have mor := eb_yr E
  refine av_wp_seq 4 (pc' := 4) (lv' := [some (.inr (.inr (.inl (some (b))))), some (.inl x), some (.inl x), some (.inl (0))]) (st' := []) (h' := h) rfl ?_
  have L14 : ∀ (m13 : Nat) (k1 : Int) (k2 : Int) (h3 : av_H) (a6 : Nat → Nat → Int) (m8 : Int) (m9 : Int) (m10 : Int), (0 < cb → k2 ≤ cb) → (0 ≤ k1 ∧ k1 ≤ 1024) → (0 ≤ k2 ∧ k2 ≤ 1024) → EB b t c s r cb u ro a6 m8 m9 m10 h3 → FN b g h3 → TKR u ro bar s a6 → HZ u a6 → (0 < cb → RND (fun x => (bgn u ro bar s x).2.2 ≠ 9999) cb k2 k1) → (1024 - k2).toNat = m13 → av_wp none cd_55 4 [some (.inr (.inr (.inl (some (b))))), some (.inl x), some (.inl k1), some (.inl k2)] [] h3 Q := by
    intro m13
    induction m13 using Nat.strongRecOn with
    | _ m13 I15 =>
      intro k1 k2 h3 a6 m8 m9 m10 g17 g18 g19 E4 F5 T11 Z12 X7 e16
      refine av_wp_seq 2 (pc' := 6) (lv' := [some (.inr (.inr (.inl (some (b))))), some (.inl x), some (.inl k1), some (.inl k2)]) (st' := [.inr (.inr (.inl (some (b)))), .inl k2]) (h' := h3) rfl ?_
      refine wq_gr (p' := 9) rfl rfl (congrArg Prod.fst (ib_k0 E4.1)) rfl (ib_t E4.1) ?_
      refine wq_gi (p' := 12) rfl rfl (congrArg Prod.fst (co_kt (ib_co E4.1))) rfl (co_cb (ib_co E4.1)) ?_
      refine wq_k2 (p' := 15) rfl rfl ⟨by omega, by omega⟩ ⟨by omega, by omega⟩ (fun c20 => ?_) (fun c21 => ?_)
      · have c20 : cb ≤ k2 := c20
        refine av_wp_seq 1 (pc' := 56) (lv' := [some (.inr (.inr (.inl (some (b))))), some (.inl x), some (.inl k1), some (.inl k2)]) (st' := [.inl (-1)]) (h' := h3) rfl ?_
        refine av_wp_ret (v := some (.inl (-1))) rfl rfl rfl ?_
        exact hq _ h3 _ _ _ _ E4 F5 Z12 T11 (Or.inl ⟨rfl, fun y y1 y2 => RND_e (X7 (by omega)) (by omega) y y1 y2⟩)
      · have c21 : k2 < cb := c21
        refine av_wp_seq 1 (pc' := 16) (lv' := [some (.inr (.inr (.inl (some (b))))), some (.inl x), some (.inl k1), some (.inl k2)]) (st' := [.inl k1]) (h' := h3) rfl ?_
        refine wq_k1 (p' := 19) rfl rfl ⟨by omega, by omega⟩ (fun c22 => ?_) (fun c23 => ?_)
        · have c22 : k1 < (0) := c22
          exfalso; omega
        · have c23 : (0) ≤ k1 := c23
          refine av_wp_seq 2 (pc' := 21) (lv' := [some (.inr (.inr (.inl (some (b))))), some (.inl x), some (.inl k1), some (.inl k2)]) (st' := [.inr (.inr (.inl (some (b)))), .inl k1]) (h' := h3) rfl ?_
          refine wq_gr (p' := 24) rfl rfl (congrArg Prod.fst (ib_k0 E4.1)) rfl (ib_t E4.1) ?_
          refine wq_gi (p' := 27) rfl rfl (congrArg Prod.fst (co_kt (ib_co E4.1))) rfl (co_cb (ib_co E4.1)) ?_
          refine wq_k2 (p' := 30) rfl rfl ⟨by omega, by omega⟩ ⟨by omega, by omega⟩ (fun c24 => ?_) (fun c25 => ?_)
          · have c24 : cb ≤ k1 := c24
            refine av_wp_seq 2 (pc' := 36) (lv' := [some (.inr (.inr (.inl (some (b))))), some (.inl x), some (.inl (0)), some (.inl k2)]) (st' := []) (h' := h3) rfl ?_
            have q26 : (0) = nrm cb k1 := by unfold nrm; split <;> omega
            refine av_wp_seq 2 (pc' := 38) (lv' := [some (.inr (.inr (.inl (some (b))))), some (.inl x), some (.inl (0)), some (.inl k2)]) (st' := [.inl (0), .inr (.inr (.inl (some (b))))]) (h' := h3) rfl ?_
            refine wq_cv (p' := 41) (av_qc (.invokevirtual 89) 2 1 0 0) 2 cd_2 [.inl (0)] (b) 0 [some (.inr (.inr (.inl (some (b))))), some (.inl (0))] rfl rfl rfl pp_2 rfl rfl rfl (congrArg Prod.fst (ib_k0 E4.1)) rfl rfl rfl rfl ?_
            refine cy_2 E4 F5 G T11 Z12 ((0)) (by omega) (fun v27 h28 a29 m30 m31 m32 E33 F34 Z35 T36 D37 B38 R39 p40 => ?_)
            show av_wp _ cd_55 41 [some (.inr (.inr (.inl (some (b))))), some (.inl x), some (.inl (0)), some (.inl k2)] [.inl v27] h28 _
            refine wq_k1 (p' := 44) rfl rfl ⟨by omega, by omega⟩ (fun c41 => ?_) (fun c42 => ?_)
            · have c41 : v27 ≠ (0) := c41
              refine av_wp_seq 3 (pc' := 4) (lv' := [some (.inr (.inr (.inl (some (b))))), some (.inl x), some (.inl (1)), some (.inl (k2 + (1)))]) (st' := []) (h' := h28) rfl ?_
              exact I15 _ (by omega) ((1)) ((k2 + (1))) h28 a29 (m30) (m31) (m32) (by omega) (by omega) (by omega) E33 F34 T36 Z35 (fun z => RND_s (X7 z) (by omega) q26 (by show (bgn u ro bar s (0)).2.2 ≠ 9999; rw [B38]; show m32 ≠ 9999; omega)) rfl
            · have c42 : v27 = (0) := c42
              refine av_wp_seq 1 (pc' := 45) (lv' := [some (.inr (.inr (.inl (some (b))))), some (.inl x), some (.inl (0)), some (.inl k2)]) (st' := [.inl (0)]) (h' := h28) rfl ?_
              refine av_wp_ret (v := some (.inl (0))) rfl rfl rfl ?_
              exact hq _ h28 _ _ _ _ E33 F34 Z35 T36 (Or.inr ⟨⟨by omega, by omega⟩, fun z => z (by rw [B38]; show m32 = 9999; omega)⟩)
          · have c25 : k1 < cb := c25
            refine av_wp_seq 3 (pc' := 36) (lv' := [some (.inr (.inr (.inl (some (b))))), some (.inl x), some (.inl k1), some (.inl k2)]) (st' := []) (h' := h3) rfl ?_
            have q43 : k1 = nrm cb k1 := by unfold nrm; split <;> omega
            refine av_wp_seq 2 (pc' := 38) (lv' := [some (.inr (.inr (.inl (some (b))))), some (.inl x), some (.inl k1), some (.inl k2)]) (st' := [.inl k1, .inr (.inr (.inl (some (b))))]) (h' := h3) rfl ?_
            refine wq_cv (p' := 41) (av_qc (.invokevirtual 89) 2 1 0 0) 2 cd_2 [.inl k1] (b) 0 [some (.inr (.inr (.inl (some (b))))), some (.inl k1)] rfl rfl rfl pp_2 rfl rfl rfl (congrArg Prod.fst (ib_k0 E4.1)) rfl rfl rfl rfl ?_
            refine cy_2 E4 F5 G T11 Z12 (k1) (by omega) (fun v44 h45 a46 m47 m48 m49 E50 F51 Z52 T53 D54 B55 R56 p57 => ?_)
            show av_wp _ cd_55 41 [some (.inr (.inr (.inl (some (b))))), some (.inl x), some (.inl k1), some (.inl k2)] [.inl v44] h45 _
            refine wq_k1 (p' := 44) rfl rfl ⟨by omega, by omega⟩ (fun c58 => ?_) (fun c59 => ?_)
            · have c58 : v44 ≠ (0) := c58
              refine av_wp_seq 3 (pc' := 4) (lv' := [some (.inr (.inr (.inl (some (b))))), some (.inl x), some (.inl (k1 + (1))), some (.inl (k2 + (1)))]) (st' := []) (h' := h45) rfl ?_
              exact I15 _ (by omega) ((k1 + (1))) ((k2 + (1))) h45 a46 (m47) (m48) (m49) (by omega) (by omega) (by omega) E50 F51 T53 Z52 (fun z => RND_s (X7 z) (by omega) q43 (by show (bgn u ro bar s k1).2.2 ≠ 9999; rw [B55]; show m49 ≠ 9999; omega)) rfl
            · have c59 : v44 = (0) := c59
              refine av_wp_seq 1 (pc' := 45) (lv' := [some (.inr (.inr (.inl (some (b))))), some (.inl x), some (.inl k1), some (.inl k2)]) (st' := [.inl k1]) (h' := h45) rfl ?_
              refine av_wp_ret (v := some (.inl k1)) rfl rfl rfl ?_
              exact hq _ h45 _ _ _ _ E50 F51 Z52 T53 (Or.inr ⟨⟨by omega, by omega⟩, fun z => z (by rw [B55]; show m49 = 9999; omega)⟩)
  exact L14 _ (x) ((0)) h a (mb) (mo) (ma) (by omega) (by omega) (by omega) E F T hz (fun z => RND_0 z) rfl

