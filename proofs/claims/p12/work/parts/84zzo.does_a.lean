/-! DOES, exactly: the class -/
theorem eav_8 {u ro : Nat → Int} {a : Nat → Nat → Int} {s : Nat} (hs : s ≤ 12) (q : Nat) : -1 ≤ (eav u ro a s q s).2.2 ∧ (eav u ro a s q s).2.2 ≤ 11 := by
  have ee : ∀ (t : T3) (o h c b : Int), (-1 ≤ t.2.2 ∧ t.2.2 ≤ 11) → (-1 ≤ b ∧ b ≤ 11) → -1 ≤ (ea t o h c b).2.2 ∧ (ea t o h c b).2.2 ≤ 11 := fun t o h c b h1 h2 => by
    unfold ea
    split
    · exact h2
    · exact h1
  have h0 : -1 ≤ (e0 u ro a q).2.2 ∧ (e0 u ro a q).2.2 ≤ 11 := by
    rw [(e0_b q).1]
    omega
  have h1 : ∀ k, k ≤ s → -1 ≤ (ebv u ro a q k).2.2 ∧ (ebv u ro a q k).2.2 ≤ 11 := by
    intro k
    induction k with
    | zero => intro _; exact h0
    | succ k ih =>
      intro hk
      have e : ebv u ro a q (k + 1) = if hB u ro a k ≠ -1 ∧ u (21 * k + 3) = (q : Int) ∧ fre u ro q ≤ hB u ro a k then ea (ebv u ro a q k) (a 2 q) (hB u ro a k) 1 (k : Int) else ebv u ro a q k := rfl
      rw [e]
      split
      · exact ee _ _ _ _ _ (ih (by omega)) (by omega)
      · exact ih (by omega)
  have h2 : ∀ k, k ≤ s → -1 ≤ (eav u ro a s q k).2.2 ∧ (eav u ro a s q k).2.2 ≤ 11 := by
    intro k
    induction k with
    | zero => intro _; exact h1 s (Nat.le_refl s)
    | succ k ih =>
      intro hk
      have e : eav u ro a s q (k + 1) = if ans u k = 1 ∧ u (21 * k + 3) = (q : Int) ∧ (u (21 * k + 0) = 4 ∨ a 2 k ≠ 0) then ea (eav u ro a s q k) (a 2 q) (hw a k (ro 5)) 2 (k : Int) else eav u ro a s q k := rfl
      rw [e]
      split
      · exact ee _ _ _ _ _ (ih (by omega)) (by omega)
      · exact ih (by omega)
  exact h2 s (Nat.le_refl s)
set_option maxRecDepth 100000 in
set_option maxHeartbeats 4000000 in
theorem cx_22 {g h : av_H} {b t c s r : Nat} {cb : Int} {u ro : Nat → Int} {a : Nat → Nat → Int} {mb mo ma : Int} (E : EB b t c s r cb u ro a mb mo ma h) (F : FN b g h) (H : HBd s a) (R : RLW ro) (b3 : ∀ q, q < s → 0 ≤ a 3 q ∧ a 3 q ≤ 1) (b5 : ∀ q, q < s → -1 ≤ a 5 q ∧ a 5 q ≤ 9999) (b8 : ∀ q, q < s → -1 ≤ a 8 q ∧ a 8 q ≤ 11) (qm : -1 ≤ ma ∧ ma ≤ 9999) (k : Int) (qk : 0 ≤ k ∧ k < (s : Int)) (q : Int) (qq : -1 ≤ q ∧ q ≤ 11) {Q : Option av_V → av_H → Prop} (hq : ∀ v : Int, ((v = 1 ∧ ((0 ≤ q ∧ q < (s : Int)) ∧ a 3 (Int.toNat q) ≠ 0 ∧ hw a (Int.toNat k) (ro 4) ≠ -1 ∧ hw a (Int.toNat q) (yw u ro (Int.toNat q)) ≠ -1 ∧ hw a (Int.toNat k) (ro 4) < hw a (Int.toNat q) (yw u ro (Int.toNat q)))) ∨ (v = 0 ∧ ¬ ((0 ≤ q ∧ q < (s : Int)) ∧ a 3 (Int.toNat q) ≠ 0 ∧ hw a (Int.toNat k) (ro 4) ≠ -1 ∧ hw a (Int.toNat q) (yw u ro (Int.toNat q)) ≠ -1 ∧ hw a (Int.toNat k) (ro 4) < hw a (Int.toNat q) (yw u ro (Int.toNat q))))) → Q (some (.inl v)) h) : av_wp none cd_22 0 [some (.inr (.inr (.inl (some (b))))), some (.inl k), some (.inl q), none, none] [] h Q := by
  have s12 := co_s12 (ib_co E.1)
  have cbr := co_cbr (ib_co E.1)
  have mbr := eb_xr E
  have mor := eb_yr E
  refine av_wp_seq 1 (pc' := 1) (lv' := [some (.inr (.inr (.inl (some (b))))), some (.inl k), some (.inl q), none, none]) (st' := [.inr (.inr (.inl (some (b))))]) (h' := h) rfl ?_
  refine wq_gr (p' := 4) rfl rfl (congrArg Prod.fst (ib_k0 E.1)) rfl (ib_t E.1) ?_
  refine av_wp_seq 1 (pc' := 5) (lv' := [some (.inr (.inr (.inl (some (b))))), some (.inl k), some (.inl q), none, none]) (st' := [.inl q, .inr (.inr (.inl (some (t))))]) (h' := h) rfl ?_
  refine wq_cv (p' := 8) (av_qc (.invokevirtual 136) 28 1 0 1) 2 cd_28 [.inl q] (t) 1 [some (.inr (.inr (.inl (some (t))))), some (.inl q)] rfl rfl rfl pp_28 rfl rfl rfl (congrArg Prod.fst (co_kt (ib_co E.1))) rfl rfl rfl rfl ?_
  refine ct_28 (ib_co E.1) (q) (by omega) (fun v1 p2 => ?_)
  show av_wp _ cd_22 8 [some (.inr (.inr (.inl (some (b))))), some (.inl k), some (.inl q), none, none] [.inl v1] h _
  refine wq_k1 (p' := 11) rfl rfl ⟨by omega, by omega⟩ (fun c3 => ?_) (fun c4 => ?_)
  · have c3 : v1 = (0) := c3
    refine av_wp_seq 1 (pc' := 21) (lv' := [some (.inr (.inr (.inl (some (b))))), some (.inl k), some (.inl q), none, none]) (st' := [.inl (0)]) (h' := h) rfl ?_
    refine av_wp_ret (v := some (.inl (0))) rfl rfl rfl ?_
    exact hq _ (Or.inr ⟨rfl, by omega⟩)
  · have c4 : v1 ≠ (0) := c4
    refine av_wp_seq 1 (pc' := 12) (lv' := [some (.inr (.inr (.inl (some (b))))), some (.inl k), some (.inl q), none, none]) (st' := [.inr (.inr (.inl (some (b))))]) (h' := h) rfl ?_
    refine wq_gr (p' := 15) rfl rfl (congrArg Prod.fst (ib_k0 E.1)) rfl (ib_g E.1 3 rfl) ?_
    refine av_wp_seq 1 (pc' := 16) (lv' := [some (.inr (.inr (.inl (some (b))))), some (.inl k), some (.inl q), none, none]) (st' := [.inl q, .inr (.inr (.inl (some (b + 1 + 3))))]) (h' := h) rfl ?_
    obtain ⟨v6, e7⟩ : ∃ v, a 3 (Int.toNat (q)) = v := ⟨_, rfl⟩
    have g8 := b3 (Int.toNat (q)) (by omega)
    rw [e7] at g8
    refine wq_bl (p' := 17) (n := 12) rfl rfl ((Or.inr (ib_k E.1 3 rfl))) (by omega) ((congrFun (eb_a E 3 rfl) _).trans e7) ?_
    refine wq_k1 (p' := 20) rfl rfl ⟨by omega, by omega⟩ (fun c9 => ?_) (fun c10 => ?_)
    · have c9 : v6 ≠ (0) := c9
      refine av_wp_seq 3 (pc' := 25) (lv' := [some (.inr (.inr (.inl (some (b))))), some (.inl k), some (.inl q), none, none]) (st' := [.inr (.inr (.inl (some (b)))), .inl k, .inr (.inr (.inl (some (b))))]) (h' := h) rfl ?_
      refine wq_gr (p' := 28) rfl rfl (congrArg Prod.fst (ib_k0 E.1)) rfl (ib_r E.1) ?_
      refine av_wp_seq 1 (pc' := 29) (lv' := [some (.inr (.inr (.inl (some (b))))), some (.inl k), some (.inl q), none, none]) (st' := [.inl (4), .inr (.inr (.inl (some (r)))), .inl k, .inr (.inr (.inl (some (b))))]) (h' := h) rfl ?_
      obtain ⟨v12, e13⟩ : ∃ v, ro 4 = v := ⟨_, rfl⟩
      have g11 := eb_rv E 4
      rw [e13] at g11
      have g14 := rl_4 R
      rw [e13] at g14
      refine wq_al (p' := 30) (n := 14) rfl rfl (ib_kr E.1) (by omega) ((congrFun (eb_ro E) _).trans e13) ?_
      refine wq_cv (p' := 33) (av_qc (.invokevirtual 115) 6 2 0 0) 3 cd_6 [.inl v12, .inl k] (b) 0 [some (.inr (.inr (.inl (some (b))))), some (.inl k), some (.inl v12)] rfl rfl rfl pp_6 rfl rfl rfl (congrArg Prod.fst (ib_k0 E.1)) rfl rfl rfl rfl ?_
      refine cx_6 E F (k) (by omega) (v12) (by omega) ?_
      rw [hof_c (a := a) rfl (by omega)]
      obtain ⟨v15, e16⟩ : ∃ v, hw a (Int.toNat (k)) v12 = v := ⟨_, rfl⟩
      have g17 := hw_r H (k := Int.toNat (k)) (by omega) v12
      rw [e16] at g17
      rw [e16]
      have hb : hw a (Int.toNat k) (ro 4) = v15 := by rw [e13]; exact e16
      show av_wp _ cd_22 33 [some (.inr (.inr (.inl (some (b))))), some (.inl k), some (.inl q), none, none] [.inl v15] h _
      refine av_wp_seq 5 (pc' := 38) (lv' := [some (.inr (.inr (.inl (some (b))))), some (.inl k), some (.inl q), some (.inl v15), none]) (st' := [.inl q, .inr (.inr (.inl (some (b)))), .inl q, .inr (.inr (.inl (some (b))))]) (h' := h) rfl ?_
      refine wq_cv (p' := 41) (av_qc (.invokevirtual 129) 13 1 0 0) 3 cd_13 [.inl q] (b) 0 [some (.inr (.inr (.inl (some (b))))), some (.inl q), none] rfl rfl rfl pp_13 rfl rfl rfl (congrArg Prod.fst (ib_k0 E.1)) rfl rfl rfl rfl ?_
      refine cx_13 E F (q) (by omega) ?_
      obtain ⟨v18, e19⟩ : ∃ v, yw u ro (Int.toNat (q)) = v := ⟨_, rfl⟩
      have g20 := yw_r E (Int.toNat (q))
      rw [e19] at g20
      rw [e19]
      show av_wp _ cd_22 41 [some (.inr (.inr (.inl (some (b))))), some (.inl k), some (.inl q), some (.inl v15), none] [.inl v18, .inl q, .inr (.inr (.inl (some (b))))] h _
      refine wq_cv (p' := 44) (av_qc (.invokevirtual 115) 6 2 0 0) 3 cd_6 [.inl v18, .inl q] (b) 0 [some (.inr (.inr (.inl (some (b))))), some (.inl q), some (.inl v18)] rfl rfl rfl pp_6 rfl rfl rfl (congrArg Prod.fst (ib_k0 E.1)) rfl rfl rfl rfl ?_
      refine cx_6 E F (q) (by omega) (v18) (by omega) ?_
      rw [hof_c (a := a) rfl (by omega)]
      obtain ⟨v21, e22⟩ : ∃ v, hw a (Int.toNat (q)) v18 = v := ⟨_, rfl⟩
      have g23 := hw_r H (k := Int.toNat (q)) (by omega) v18
      rw [e22] at g23
      rw [e22]
      have hy : hw a (Int.toNat q) (yw u ro (Int.toNat q)) = v21 := by rw [e19]; exact e22
      show av_wp _ cd_22 44 [some (.inr (.inr (.inl (some (b))))), some (.inl k), some (.inl q), some (.inl v15), none] [.inl v21] h _
      refine av_wp_seq 3 (pc' := 48) (lv' := [some (.inr (.inr (.inl (some (b))))), some (.inl k), some (.inl q), some (.inl v15), some (.inl v21)]) (st' := [.inl (-1), .inl v15]) (h' := h) rfl ?_
      refine wq_k2 (p' := 51) rfl rfl ⟨by omega, by omega⟩ ⟨by omega, by omega⟩ (fun c24 => ?_) (fun c25 => ?_)
      · have c24 : v15 = (-1) := c24
        refine av_wp_seq 1 (pc' := 68) (lv' := [some (.inr (.inr (.inl (some (b))))), some (.inl k), some (.inl q), some (.inl v15), some (.inl v21)]) (st' := [.inl (0)]) (h' := h) rfl ?_
        refine av_wp_ret (v := some (.inl (0))) rfl rfl rfl ?_
        exact hq _ (Or.inr ⟨rfl, by omega⟩)
      · have c25 : v15 ≠ (-1) := c25
        refine av_wp_seq 2 (pc' := 54) (lv' := [some (.inr (.inr (.inl (some (b))))), some (.inl k), some (.inl q), some (.inl v15), some (.inl v21)]) (st' := [.inl (-1), .inl v21]) (h' := h) rfl ?_
        refine wq_k2 (p' := 57) rfl rfl ⟨by omega, by omega⟩ ⟨by omega, by omega⟩ (fun c26 => ?_) (fun c27 => ?_)
        · have c26 : v21 = (-1) := c26
          refine av_wp_seq 1 (pc' := 68) (lv' := [some (.inr (.inr (.inl (some (b))))), some (.inl k), some (.inl q), some (.inl v15), some (.inl v21)]) (st' := [.inl (0)]) (h' := h) rfl ?_
          refine av_wp_ret (v := some (.inl (0))) rfl rfl rfl ?_
          exact hq _ (Or.inr ⟨rfl, by omega⟩)
        · have c27 : v21 ≠ (-1) := c27
          refine av_wp_seq 2 (pc' := 60) (lv' := [some (.inr (.inr (.inl (some (b))))), some (.inl k), some (.inl q), some (.inl v15), some (.inl v21)]) (st' := [.inl v21, .inl v15]) (h' := h) rfl ?_
          refine wq_k2 (p' := 63) rfl rfl ⟨by omega, by omega⟩ ⟨by omega, by omega⟩ (fun c28 => ?_) (fun c29 => ?_)
          · have c28 : v21 ≤ v15 := c28
            refine av_wp_seq 1 (pc' := 68) (lv' := [some (.inr (.inr (.inl (some (b))))), some (.inl k), some (.inl q), some (.inl v15), some (.inl v21)]) (st' := [.inl (0)]) (h' := h) rfl ?_
            refine av_wp_ret (v := some (.inl (0))) rfl rfl rfl ?_
            exact hq _ (Or.inr ⟨rfl, by omega⟩)
          · have c29 : v15 < v21 := c29
            refine av_wp_seq 2 (pc' := 68) (lv' := [some (.inr (.inr (.inl (some (b))))), some (.inl k), some (.inl q), some (.inl v15), some (.inl v21)]) (st' := [.inl (1)]) (h' := h) rfl ?_
            refine av_wp_ret (v := some (.inl (1))) rfl rfl rfl ?_
            exact hq _ (Or.inl ⟨rfl, by omega⟩)
    · have c10 : v6 = (0) := c10
      refine av_wp_seq 1 (pc' := 21) (lv' := [some (.inr (.inr (.inl (some (b))))), some (.inl k), some (.inl q), none, none]) (st' := [.inl (0)]) (h' := h) rfl ?_
      refine av_wp_ret (v := some (.inl (0))) rfl rfl rfl ?_
      exact hq _ (Or.inr ⟨rfl, by omega⟩)

