/-! THE REFERENCE: is it sure, exactly -/
set_option maxRecDepth 100000 in
set_option maxHeartbeats 4000000 in
theorem cx_184 {g h : av_H} {n a m : Int} (I : IMF n a m h) (F : FM g h) {u ro bar : Nat → Int} {s : Nat} (en : n = (s : Int)) (B : RBB u ro bar s h) (W : RWF u ro s) {Q : Option av_V → av_H → Prop} (hq : ∀ (v : Int) a' m' h', IMF n a' m' h' → FM g h' → ZE [107, 108, 109, 110, 111, 112, 113, 114, 115] [28, 29, 50, 51, 52, 53] h h' → RBA u ro bar s h' → ((v = 1 ∧ SRE u ro bar s) ∨ (v = 0 ∧ ¬ SRE u ro bar s)) → Q (some (.inl v)) h') : av_wp none cd_184 0 [some (.inr (.inr (.inl (some (77))))), none] [] h Q := by
  have gn := im_n I.1.1
  rw [I.2.1] at gn
  have ga := im_a I.1.1
  rw [I.2.2.1] at ga
  have gm := im_cm I.1.1
  rw [I.2.2.2] at gm
  have Z := ZE_rf (L := [107, 108, 109, 110, 111, 112, 113, 114, 115]) (K := [28, 29, 50, 51, 52, 53]) h
  refine av_wp_seq 1 (pc' := 1) (lv' := [some (.inr (.inr (.inl (some (77))))), none]) (st' := [.inr (.inr (.inl (some (77))))]) (h' := h) rfl ?_
  refine wq_cv (p' := 4) (av_qc (.invokevirtual 424) 163 0 0 8) 4 cd_163 [] (77) 8 [some (.inr (.inr (.inl (some (77))))), none, none, none] rfl rfl rfl pp_163 rfl rfl rfl (congrArg Prod.fst (ly_k I.1.1.1 77 rfl)) rfl rfl rfl rfl ?_
  refine cy_163 I.1 I.2.1 F en B (fun a1 m2 h3 z4 A5 Z6 I7 F8 => ?_)
  have z4a := z4.1
  have z4b := z4.2
  have g10 := im_a I7.1.1
  rw [I7.2.2.1] at g10
  have g11 := im_cm I7.1.1
  rw [I7.2.2.2] at g11
  have Z9 := ZE_tr Z (ZE_up Z6 rfl rfl)
  show av_wp _ cd_184 4 [some (.inr (.inr (.inl (some (77))))), none] [] h3 _
  refine av_wp_seq 1 (pc' := 5) (lv' := [some (.inr (.inr (.inl (some (77))))), none]) (st' := [.inr (.inr (.inl (some (77))))]) (h' := h3) rfl ?_
  refine wq_cv (p' := 8) (av_qc (.invokevirtual 427) 164 0 0 8) 1 cd_164 [] (77) 8 [some (.inr (.inr (.inl (some (77)))))] rfl rfl rfl pp_164 rfl rfl rfl (congrArg Prod.fst (ly_k I7.1.1.1 77 rfl)) rfl rfl rfl rfl ?_
  refine ct_164 I7 F8 (fun v12 p13 => ?_)
  show av_wp _ cd_184 8 [some (.inr (.inr (.inl (some (77))))), none] [.inl v12] h3 _
  refine wq_k1 (p' := 11) rfl rfl ⟨by omega, by omega⟩ (fun c14 => ?_) (fun c15 => ?_)
  · have c14 : v12 ≠ (0) := c14
    refine av_wp_seq 2 (pc' := 15) (lv' := [some (.inr (.inr (.inl (some (77))))), some (.inl (0))]) (st' := []) (h' := h3) rfl ?_
    have L24 : ∀ (m23 : Nat) (k16 : Int) (h17 : av_H), (0 ≤ k16 ∧ k16 ≤ 1025) → IMF n a1 m2 h17 → FM g h17 → ZE [107, 108, 109, 110, 111, 112, 113, 114, 115] [28, 29, 50, 51, 52, 53] h h17 → RBA u ro bar s h17 → (∀ y : Int, 0 ≤ y → y < k16 → (bgn u ro bar s y).2.2 ≠ 9999) → (1025 - k16).toNat = m23 → av_wp none cd_184 15 [some (.inr (.inr (.inl (some (77))))), some (.inl k16)] [] h17 Q := by
      intro m23
      induction m23 using Nat.strongRecOn with
      | _ m23 I25 =>
        intro k16 h17 g27 I18 F19 Z20 X21 X22 e26
        refine av_wp_seq 1 (pc' := 16) (lv' := [some (.inr (.inr (.inl (some (77))))), some (.inl k16)]) (st' := [.inl k16]) (h' := h17) rfl ?_
        refine av_wp_seq 1 (pc' := 17) (lv' := [some (.inr (.inr (.inl (some (77))))), some (.inl k16)]) (st' := [.inr (.inr (.inl (some (77)))), .inl k16]) (h' := h17) rfl ?_
        refine wq_gi (p' := 20) rfl rfl (congrArg Prod.fst (ly_k I18.1.1.1 77 rfl)) rfl (I18.2.2.2) ?_
        refine wq_k2 (p' := 23) rfl rfl ⟨by omega, by omega⟩ ⟨by omega, by omega⟩ (fun c28 => ?_) (fun c29 => ?_)
        · have c28 : m2 ≤ k16 := c28
          refine av_wp_seq 1 (pc' := 44) (lv' := [some (.inr (.inr (.inl (some (77))))), some (.inl k16)]) (st' := [.inl (1)]) (h' := h17) rfl ?_
          refine av_wp_ret (v := some (.inl (1))) rfl rfl rfl ?_
          exact hq _ _ _ h17 I18 F19 Z20 X21 (Or.inl ⟨rfl, by omega, fun y y1 y2 => X22 y y1 (by omega)⟩)
        · have c29 : k16 < m2 := c29
          refine av_wp_seq 2 (pc' := 25) (lv' := [some (.inr (.inr (.inl (some (77))))), some (.inl k16)]) (st' := [.inl k16, .inr (.inr (.inl (some (77))))]) (h' := h17) rfl ?_
          refine wq_cv (p' := 28) (av_qc (.invokevirtual 431) 181 1 0 8) 2 cd_181 [.inl k16] (77) 8 [some (.inr (.inr (.inl (some (77))))), some (.inl k16)] rfl rfl rfl pp_181 rfl rfl rfl (congrArg Prod.fst (ly_k I18.1.1.1 77 rfl)) rfl rfl rfl rfl ?_
          refine cy_181 I18 F19 en X21 W (k16) (by omega) (fun h30 I31 F32 Z33 A34 O35 B36 L37 => ?_)
          have Z38 := ZE_tr Z20 (ZE_up Z33 rfl rfl)
          show av_wp _ cd_184 28 [some (.inr (.inr (.inl (some (77))))), some (.inl k16)] [] h30 _
          refine av_wp_seq 1 (pc' := 29) (lv' := [some (.inr (.inr (.inl (some (77))))), some (.inl k16)]) (st' := [.inr (.inr (.inl (some (77))))]) (h' := h30) rfl ?_
          obtain ⟨v39, e40⟩ : ∃ v, hF h30 77 50 = v := ⟨_, rfl⟩
          have g41 := im_has I31.1.1
          rw [e40] at g41
          refine wq_gb (p' := 32) rfl rfl (congrArg Prod.fst (ly_k I31.1.1.1 77 rfl)) rfl (e40) ?_
          refine wq_k1 (p' := 35) rfl rfl ⟨by omega, by omega⟩ (fun c42 => ?_) (fun c43 => ?_)
          · have c42 : v39 ≠ (0) := c42
            refine av_wp_seq 2 (pc' := 15) (lv' := [some (.inr (.inr (.inl (some (77))))), some (.inl (k16 + (1)))]) (st' := []) (h' := h30) rfl ?_
            exact I25 _ (by omega) ((k16 + (1))) h30 (by omega) I31 F32 Z38 A34 (fun y y1 y2 => if c : y = k16 then (by subst c; exact (BRR_ye B36 e40 (by omega)).1) else X22 y y1 (by omega)) rfl
          · have c43 : v39 = (0) := c43
            refine av_wp_seq 1 (pc' := 36) (lv' := [some (.inr (.inr (.inl (some (77))))), some (.inl k16)]) (st' := [.inl (0)]) (h' := h30) rfl ?_
            refine av_wp_ret (v := some (.inl (0))) rfl rfl rfl ?_
            exact hq _ _ _ h30 I31 F32 Z38 A34 (Or.inr ⟨rfl, fun z => z.2 k16 (by omega) (by omega) (BRR_no B36 e40 (by omega))⟩)
    exact L24 _ ((0)) h3 (by omega) I7 F8 Z9 A5 (fun y y1 y2 => by omega) rfl
  · have c15 : v12 = (0) := c15
    refine av_wp_seq 1 (pc' := 12) (lv' := [some (.inr (.inr (.inl (some (77))))), none]) (st' := [.inl (0)]) (h' := h3) rfl ?_
    refine av_wp_ret (v := some (.inl (0))) rfl rfl rfl ?_
    exact hq _ _ _ h3 I7 F8 Z9 A5 (Or.inr ⟨rfl, fun z => by have := z.1; omega⟩)

