set_option maxRecDepth 100000 in
set_option maxHeartbeats 4000000 in
theorem cx_179 {g h : av_H} {n a m : Int} (I : IMF n a m h) (F : FM g h) {u ro : Nat → Int} {a0 : Nat → Nat → Int} {s : Nat} (en : n = (s : Int)) (X : LR u ro a0 s (hA h)) (W : UW u s) (R : RLW ro) (H : HBd s a0) (k : Int) (qk : 0 ≤ k ∧ k < (s : Int)) (y : Int) (qy : -2147483648 ≤ y ∧ y ≤ 2147483647) {Q : Option av_V → av_H → Prop} (hq : ∀ v : Int, ((v = 1 ∧ ∃ i, (Int.toNat k) < i ∧ i < s ∧ (ANB u a0 (Int.toNat k) y) i) ∨ (v = 0 ∧ ∀ i, (Int.toNat k) < i → i < s → ¬ (ANB u a0 (Int.toNat k) y) i)) → Q (some (.inl v)) h) : av_wp none cd_179 0 [some (.inr (.inr (.inl (some (77))))), some (.inl k), some (.inl y), none, none] [] h Q := by
  have gn := im_n I.1.1
  rw [I.2.1] at gn
  have ga := im_a I.1.1
  rw [I.2.2.1] at ga
  have gm := im_cm I.1.1
  rw [I.2.2.2] at gm
  have s12 : s ≤ 12 := by omega
  have Z := ZE_rf (L := [113, 114, 115]) (K := [50, 51, 52, 53]) h
  refine av_wp_seq 4 (pc' := 4) (lv' := [some (.inr (.inr (.inl (some (77))))), some (.inl k), some (.inl y), some (.inl (k + (1))), none]) (st' := []) (h' := h) rfl ?_
  have L4 : ∀ (m3 : Nat) (k1 : Int) (a2 : Option av_V), av_lg a2 = false → (∀ i : Nat, (Int.toNat k) < i → (i : Int) < k1 → ¬ (ANB u a0 (Int.toNat k) y) i) → k1 ≤ (s : Int) → k < k1 → (0 ≤ k1 ∧ k1 ≤ 12) → (12 - k1).toNat = m3 → av_wp none cd_179 4 [some (.inr (.inr (.inl (some (77))))), some (.inl k), some (.inl y), some (.inl k1), a2] [] h Q := by
    intro m3
    induction m3 using Nat.strongRecOn with
    | _ m3 I5 =>
      intro k1 a2 g7 g8 g9 g10 g11 e6
      have la2 := g7
      refine av_wp_seq 2 (pc' := 6) (lv' := [some (.inr (.inr (.inl (some (77))))), some (.inl k), some (.inl y), some (.inl k1), a2]) (st' := [.inr (.inr (.inl (some (77)))), .inl k1]) (h' := h) rfl ?_
      refine wq_gi (p' := 9) rfl rfl (congrArg Prod.fst (ly_k I.1.1.1 77 rfl)) rfl (I.2.1) ?_
      refine wq_k2 (p' := 12) rfl rfl ⟨by omega, by omega⟩ ⟨by omega, by omega⟩ (fun c12 => ?_) (fun c13 => ?_)
      · have c12 : n ≤ k1 := c12
        refine av_wp_seq 1 (pc' := 94) (lv' := [some (.inr (.inr (.inl (some (77))))), some (.inl k), some (.inl y), some (.inl k1), a2]) (st' := [.inl (0)]) (h' := h) rfl ?_
        refine av_wp_ret (v := some (.inl (0))) rfl rfl rfl ?_
        exact hq _ (by exact Or.inr ⟨rfl, fun i h1 h2 => g8 i h1 (by omega)⟩)
      · have c13 : k1 < n := c13
        refine av_wp_seq 1 (pc' := 13) (lv' := [some (.inr (.inr (.inl (some (77))))), some (.inl k), some (.inl y), some (.inl k1), a2]) (st' := [.inr (.inr (.inl (some (77))))]) (h' := h) rfl ?_
        refine wq_gr (p' := 16) rfl rfl (congrArg Prod.fst (ly_k I.1.1.1 77 rfl)) rfl (ly_g I.1.1.1 77 30 96 rfl) ?_
        refine av_wp_seq 1 (pc' := 17) (lv' := [some (.inr (.inr (.inl (some (77))))), some (.inl k), some (.inl y), some (.inl k1), a2]) (st' := [.inl k1, .inr (.inr (.inl (some (96))))]) (h' := h) rfl ?_
        obtain ⟨v14, e15⟩ : ∃ v, hA h 96 (Int.toNat (k1)) = v := ⟨_, rfl⟩
        have g16 : 0 ≤ hA h 96 (Int.toNat (k1)) ∧ hA h 96 (Int.toNat (k1)) ≤ 7 := im_w I.1.1 96 (by decide) (by decide) _
        rw [e15] at g16
        have y17 : hA h 96 (Int.toNat (k1)) = v14 := (congrFun (Z.1 96 rfl) _).symm.trans e15
        have y18 := (X.1 (Int.toNat (k1)) (by omega)).1.1
        rw [e15] at y18
        refine wq_al (p' := 18) (n := 12) rfl rfl (ly_k I.1.1.1 96 rfl) (by omega) (e15) ?_
        refine av_wp_seq 1 (pc' := 19) (lv' := [some (.inr (.inr (.inl (some (77))))), some (.inl k), some (.inl y), some (.inl k1), a2]) (st' := [.inl (2), .inl v14]) (h' := h) rfl ?_
        refine wq_k2 (p' := 22) rfl rfl ⟨by omega, by omega⟩ ⟨by omega, by omega⟩ (fun c20 => ?_) (fun c21 => ?_)
        · have c20 : v14 = (2) := c20
          refine av_wp_seq 6 (pc' := 66) (lv' := [some (.inr (.inr (.inl (some (77))))), some (.inl k), some (.inl y), some (.inl k1), some (.inl (1))]) (st' := [.inr (.inr (.inl (some (77))))]) (h' := h) rfl ?_
          refine wq_gr (p' := 69) rfl rfl (congrArg Prod.fst (ly_k I.1.1.1 77 rfl)) rfl (ly_g I.1.1.1 77 34 100 rfl) ?_
          refine av_wp_seq 1 (pc' := 70) (lv' := [some (.inr (.inr (.inl (some (77))))), some (.inl k), some (.inl y), some (.inl k1), some (.inl (1))]) (st' := [.inl k1, .inr (.inr (.inl (some (100))))]) (h' := h) rfl ?_
          obtain ⟨v22, e23⟩ : ∃ v, hA h 100 (Int.toNat (k1)) = v := ⟨_, rfl⟩
          have g24 : -1 ≤ hA h 100 (Int.toNat (k1)) ∧ hA h 100 (Int.toNat (k1)) ≤ 11 := im_w I.1.1 100 (by decide) (by decide) _
          rw [e23] at g24
          have w25 := im_wr I.1 (Int.toNat (k1)) (by omega)
          rw [e23] at w25
          have y26 : hA h 100 (Int.toNat (k1)) = v22 := (congrFun (Z.1 100 rfl) _).symm.trans e23
          have y27 := (X.1 (Int.toNat (k1)) (by omega)).1.2.2.2.1
          rw [e23] at y27
          refine wq_al (p' := 71) (n := 12) rfl rfl (ly_k I.1.1.1 100 rfl) (by omega) (e23) ?_
          refine av_wp_seq 1 (pc' := 72) (lv' := [some (.inr (.inr (.inl (some (77))))), some (.inl k), some (.inl y), some (.inl k1), some (.inl (1))]) (st' := [.inl k, .inl v22]) (h' := h) rfl ?_
          refine wq_k2 (p' := 75) rfl rfl ⟨by omega, by omega⟩ ⟨by omega, by omega⟩ (fun c29 => ?_) (fun c30 => ?_)
          · have c29 : v22 ≠ k := c29
            have u31 := all_s (P := (ANB u a0 (Int.toNat k) y)) g8 (j := k1) (by omega) (by unfold ANB; omega)
            refine av_wp_seq 2 (pc' := 4) (lv' := [some (.inr (.inr (.inl (some (77))))), some (.inl k), some (.inl y), some (.inl (k1 + (1))), some (.inl (1))]) (st' := []) (h' := h) rfl ?_
            exact I5 _ (by omega) ((k1 + (1))) (some (.inl (1))) rfl u31 (by omega) (by omega) (by omega) rfl
          · have c30 : v22 = k := c30
            refine av_wp_seq 1 (pc' := 76) (lv' := [some (.inr (.inr (.inl (some (77))))), some (.inl k), some (.inl y), some (.inl k1), some (.inl (1))]) (st' := [.inr (.inr (.inl (some (77))))]) (h' := h) rfl ?_
            refine wq_gr (p' := 79) rfl rfl (congrArg Prod.fst (ly_k I.1.1.1 77 rfl)) rfl (ly_g I.1.1.1 77 43 109 rfl) ?_
            refine av_wp_seq 1 (pc' := 80) (lv' := [some (.inr (.inr (.inl (some (77))))), some (.inl k), some (.inl y), some (.inl k1), some (.inl (1))]) (st' := [.inl k1, .inr (.inr (.inl (some (109))))]) (h' := h) rfl ?_
            obtain ⟨v32, e33⟩ : ∃ v, hA h 109 (Int.toNat (k1)) = v := ⟨_, rfl⟩
            have y35 : hA h 109 (Int.toNat (k1)) = v32 := (congrFun (Z.1 109 rfl) _).symm.trans e33
            have y36 : v32 = hw a0 (Int.toNat (k1)) 0 := LR_w X (by omega) (by omega) s12 (Or.inl ⟨rfl, e33.symm⟩)
            have g37 := hw_r H (k := (Int.toNat (k1))) (by omega) 0
            rw [← y36] at g37
            refine wq_al (p' := 81) (n := 12) rfl rfl (ly_k I.1.1.1 109 rfl) (by omega) (e33) ?_
            refine av_wp_seq 1 (pc' := 82) (lv' := [some (.inr (.inr (.inl (some (77))))), some (.inl k), some (.inl y), some (.inl k1), some (.inl (1))]) (st' := [.inl y, .inl v32]) (h' := h) rfl ?_
            refine wq_k2 (p' := 85) rfl rfl ⟨by omega, by omega⟩ ⟨by omega, by omega⟩ (fun c38 => ?_) (fun c39 => ?_)
            · have c38 : y < v32 := c38
              have u40 := all_s (P := (ANB u a0 (Int.toNat k) y)) g8 (j := k1) (by omega) (by unfold ANB; omega)
              refine av_wp_seq 2 (pc' := 4) (lv' := [some (.inr (.inr (.inl (some (77))))), some (.inl k), some (.inl y), some (.inl (k1 + (1))), some (.inl (1))]) (st' := []) (h' := h) rfl ?_
              exact I5 _ (by omega) ((k1 + (1))) (some (.inl (1))) rfl u40 (by omega) (by omega) (by omega) rfl
            · have c39 : v32 ≤ y := c39
              refine av_wp_seq 1 (pc' := 86) (lv' := [some (.inr (.inr (.inl (some (77))))), some (.inl k), some (.inl y), some (.inl k1), some (.inl (1))]) (st' := [.inl (1)]) (h' := h) rfl ?_
              refine av_wp_ret (v := some (.inl (1))) rfl rfl rfl ?_
              exact hq _ (by exact Or.inl ⟨rfl, (Int.toNat (k1)), by omega, by omega, by unfold ANB; omega⟩)
        · have c21 : v14 ≠ (2) := c21
          refine av_wp_seq 1 (pc' := 23) (lv' := [some (.inr (.inr (.inl (some (77))))), some (.inl k), some (.inl y), some (.inl k1), a2]) (st' := [.inr (.inr (.inl (some (77))))]) (h' := h) rfl ?_
          refine wq_gr (p' := 26) rfl rfl (congrArg Prod.fst (ly_k I.1.1.1 77 rfl)) rfl (ly_g I.1.1.1 77 30 96 rfl) ?_
          refine av_wp_seq 1 (pc' := 27) (lv' := [some (.inr (.inr (.inl (some (77))))), some (.inl k), some (.inl y), some (.inl k1), a2]) (st' := [.inl k1, .inr (.inr (.inl (some (96))))]) (h' := h) rfl ?_
          obtain ⟨v41, e42⟩ : ∃ v, hA h 96 (Int.toNat (k1)) = v := ⟨_, rfl⟩
          have g43 : 0 ≤ hA h 96 (Int.toNat (k1)) ∧ hA h 96 (Int.toNat (k1)) ≤ 7 := im_w I.1.1 96 (by decide) (by decide) _
          rw [e42] at g43
          have y44 : hA h 96 (Int.toNat (k1)) = v41 := (congrFun (Z.1 96 rfl) _).symm.trans e42
          have y45 := (X.1 (Int.toNat (k1)) (by omega)).1.1
          rw [e42] at y45
          refine wq_al (p' := 28) (n := 12) rfl rfl (ly_k I.1.1.1 96 rfl) (by omega) (e42) ?_
          refine av_wp_seq 1 (pc' := 29) (lv' := [some (.inr (.inr (.inl (some (77))))), some (.inl k), some (.inl y), some (.inl k1), a2]) (st' := [.inl (3), .inl v41]) (h' := h) rfl ?_
          refine wq_k2 (p' := 32) rfl rfl ⟨by omega, by omega⟩ ⟨by omega, by omega⟩ (fun c47 => ?_) (fun c48 => ?_)
          · have c47 : v41 = (3) := c47
            refine av_wp_seq 6 (pc' := 66) (lv' := [some (.inr (.inr (.inl (some (77))))), some (.inl k), some (.inl y), some (.inl k1), some (.inl (1))]) (st' := [.inr (.inr (.inl (some (77))))]) (h' := h) rfl ?_
            refine wq_gr (p' := 69) rfl rfl (congrArg Prod.fst (ly_k I.1.1.1 77 rfl)) rfl (ly_g I.1.1.1 77 34 100 rfl) ?_
            refine av_wp_seq 1 (pc' := 70) (lv' := [some (.inr (.inr (.inl (some (77))))), some (.inl k), some (.inl y), some (.inl k1), some (.inl (1))]) (st' := [.inl k1, .inr (.inr (.inl (some (100))))]) (h' := h) rfl ?_
            obtain ⟨v49, e50⟩ : ∃ v, hA h 100 (Int.toNat (k1)) = v := ⟨_, rfl⟩
            have g51 : -1 ≤ hA h 100 (Int.toNat (k1)) ∧ hA h 100 (Int.toNat (k1)) ≤ 11 := im_w I.1.1 100 (by decide) (by decide) _
            rw [e50] at g51
            have w52 := im_wr I.1 (Int.toNat (k1)) (by omega)
            rw [e50] at w52
            have y53 : hA h 100 (Int.toNat (k1)) = v49 := (congrFun (Z.1 100 rfl) _).symm.trans e50
            have y54 := (X.1 (Int.toNat (k1)) (by omega)).1.2.2.2.1
            rw [e50] at y54
            refine wq_al (p' := 71) (n := 12) rfl rfl (ly_k I.1.1.1 100 rfl) (by omega) (e50) ?_
            refine av_wp_seq 1 (pc' := 72) (lv' := [some (.inr (.inr (.inl (some (77))))), some (.inl k), some (.inl y), some (.inl k1), some (.inl (1))]) (st' := [.inl k, .inl v49]) (h' := h) rfl ?_
            refine wq_k2 (p' := 75) rfl rfl ⟨by omega, by omega⟩ ⟨by omega, by omega⟩ (fun c56 => ?_) (fun c57 => ?_)
            · have c56 : v49 ≠ k := c56
              have u58 := all_s (P := (ANB u a0 (Int.toNat k) y)) g8 (j := k1) (by omega) (by unfold ANB; omega)
              refine av_wp_seq 2 (pc' := 4) (lv' := [some (.inr (.inr (.inl (some (77))))), some (.inl k), some (.inl y), some (.inl (k1 + (1))), some (.inl (1))]) (st' := []) (h' := h) rfl ?_
              exact I5 _ (by omega) ((k1 + (1))) (some (.inl (1))) rfl u58 (by omega) (by omega) (by omega) rfl
            · have c57 : v49 = k := c57
              refine av_wp_seq 1 (pc' := 76) (lv' := [some (.inr (.inr (.inl (some (77))))), some (.inl k), some (.inl y), some (.inl k1), some (.inl (1))]) (st' := [.inr (.inr (.inl (some (77))))]) (h' := h) rfl ?_
              refine wq_gr (p' := 79) rfl rfl (congrArg Prod.fst (ly_k I.1.1.1 77 rfl)) rfl (ly_g I.1.1.1 77 43 109 rfl) ?_
              refine av_wp_seq 1 (pc' := 80) (lv' := [some (.inr (.inr (.inl (some (77))))), some (.inl k), some (.inl y), some (.inl k1), some (.inl (1))]) (st' := [.inl k1, .inr (.inr (.inl (some (109))))]) (h' := h) rfl ?_
              obtain ⟨v59, e60⟩ : ∃ v, hA h 109 (Int.toNat (k1)) = v := ⟨_, rfl⟩
              have y62 : hA h 109 (Int.toNat (k1)) = v59 := (congrFun (Z.1 109 rfl) _).symm.trans e60
              have y63 : v59 = hw a0 (Int.toNat (k1)) 0 := LR_w X (by omega) (by omega) s12 (Or.inl ⟨rfl, e60.symm⟩)
              have g64 := hw_r H (k := (Int.toNat (k1))) (by omega) 0
              rw [← y63] at g64
              refine wq_al (p' := 81) (n := 12) rfl rfl (ly_k I.1.1.1 109 rfl) (by omega) (e60) ?_
              refine av_wp_seq 1 (pc' := 82) (lv' := [some (.inr (.inr (.inl (some (77))))), some (.inl k), some (.inl y), some (.inl k1), some (.inl (1))]) (st' := [.inl y, .inl v59]) (h' := h) rfl ?_
              refine wq_k2 (p' := 85) rfl rfl ⟨by omega, by omega⟩ ⟨by omega, by omega⟩ (fun c65 => ?_) (fun c66 => ?_)
              · have c65 : y < v59 := c65
                have u67 := all_s (P := (ANB u a0 (Int.toNat k) y)) g8 (j := k1) (by omega) (by unfold ANB; omega)
                refine av_wp_seq 2 (pc' := 4) (lv' := [some (.inr (.inr (.inl (some (77))))), some (.inl k), some (.inl y), some (.inl (k1 + (1))), some (.inl (1))]) (st' := []) (h' := h) rfl ?_
                exact I5 _ (by omega) ((k1 + (1))) (some (.inl (1))) rfl u67 (by omega) (by omega) (by omega) rfl
              · have c66 : v59 ≤ y := c66
                refine av_wp_seq 1 (pc' := 86) (lv' := [some (.inr (.inr (.inl (some (77))))), some (.inl k), some (.inl y), some (.inl k1), some (.inl (1))]) (st' := [.inl (1)]) (h' := h) rfl ?_
                refine av_wp_ret (v := some (.inl (1))) rfl rfl rfl ?_
                exact hq _ (by exact Or.inl ⟨rfl, (Int.toNat (k1)), by omega, by omega, by unfold ANB; omega⟩)
          · have c48 : v41 ≠ (3) := c48
            refine av_wp_seq 1 (pc' := 33) (lv' := [some (.inr (.inr (.inl (some (77))))), some (.inl k), some (.inl y), some (.inl k1), a2]) (st' := [.inr (.inr (.inl (some (77))))]) (h' := h) rfl ?_
            refine wq_gr (p' := 36) rfl rfl (congrArg Prod.fst (ly_k I.1.1.1 77 rfl)) rfl (ly_g I.1.1.1 77 30 96 rfl) ?_
            refine av_wp_seq 1 (pc' := 37) (lv' := [some (.inr (.inr (.inl (some (77))))), some (.inl k), some (.inl y), some (.inl k1), a2]) (st' := [.inl k1, .inr (.inr (.inl (some (96))))]) (h' := h) rfl ?_
            obtain ⟨v68, e69⟩ : ∃ v, hA h 96 (Int.toNat (k1)) = v := ⟨_, rfl⟩
            have g70 : 0 ≤ hA h 96 (Int.toNat (k1)) ∧ hA h 96 (Int.toNat (k1)) ≤ 7 := im_w I.1.1 96 (by decide) (by decide) _
            rw [e69] at g70
            have y71 : hA h 96 (Int.toNat (k1)) = v68 := (congrFun (Z.1 96 rfl) _).symm.trans e69
            have y72 := (X.1 (Int.toNat (k1)) (by omega)).1.1
            rw [e69] at y72
            refine wq_al (p' := 38) (n := 12) rfl rfl (ly_k I.1.1.1 96 rfl) (by omega) (e69) ?_
            refine av_wp_seq 1 (pc' := 39) (lv' := [some (.inr (.inr (.inl (some (77))))), some (.inl k), some (.inl y), some (.inl k1), a2]) (st' := [.inl (4), .inl v68]) (h' := h) rfl ?_
            refine wq_k2 (p' := 42) rfl rfl ⟨by omega, by omega⟩ ⟨by omega, by omega⟩ (fun c74 => ?_) (fun c75 => ?_)
            · have c74 : v68 = (4) := c74
              refine av_wp_seq 6 (pc' := 66) (lv' := [some (.inr (.inr (.inl (some (77))))), some (.inl k), some (.inl y), some (.inl k1), some (.inl (1))]) (st' := [.inr (.inr (.inl (some (77))))]) (h' := h) rfl ?_
              refine wq_gr (p' := 69) rfl rfl (congrArg Prod.fst (ly_k I.1.1.1 77 rfl)) rfl (ly_g I.1.1.1 77 34 100 rfl) ?_
              refine av_wp_seq 1 (pc' := 70) (lv' := [some (.inr (.inr (.inl (some (77))))), some (.inl k), some (.inl y), some (.inl k1), some (.inl (1))]) (st' := [.inl k1, .inr (.inr (.inl (some (100))))]) (h' := h) rfl ?_
              obtain ⟨v76, e77⟩ : ∃ v, hA h 100 (Int.toNat (k1)) = v := ⟨_, rfl⟩
              have g78 : -1 ≤ hA h 100 (Int.toNat (k1)) ∧ hA h 100 (Int.toNat (k1)) ≤ 11 := im_w I.1.1 100 (by decide) (by decide) _
              rw [e77] at g78
              have w79 := im_wr I.1 (Int.toNat (k1)) (by omega)
              rw [e77] at w79
              have y80 : hA h 100 (Int.toNat (k1)) = v76 := (congrFun (Z.1 100 rfl) _).symm.trans e77
              have y81 := (X.1 (Int.toNat (k1)) (by omega)).1.2.2.2.1
              rw [e77] at y81
              refine wq_al (p' := 71) (n := 12) rfl rfl (ly_k I.1.1.1 100 rfl) (by omega) (e77) ?_
              refine av_wp_seq 1 (pc' := 72) (lv' := [some (.inr (.inr (.inl (some (77))))), some (.inl k), some (.inl y), some (.inl k1), some (.inl (1))]) (st' := [.inl k, .inl v76]) (h' := h) rfl ?_
              refine wq_k2 (p' := 75) rfl rfl ⟨by omega, by omega⟩ ⟨by omega, by omega⟩ (fun c83 => ?_) (fun c84 => ?_)
              · have c83 : v76 ≠ k := c83
                have u85 := all_s (P := (ANB u a0 (Int.toNat k) y)) g8 (j := k1) (by omega) (by unfold ANB; omega)
                refine av_wp_seq 2 (pc' := 4) (lv' := [some (.inr (.inr (.inl (some (77))))), some (.inl k), some (.inl y), some (.inl (k1 + (1))), some (.inl (1))]) (st' := []) (h' := h) rfl ?_
                exact I5 _ (by omega) ((k1 + (1))) (some (.inl (1))) rfl u85 (by omega) (by omega) (by omega) rfl
              · have c84 : v76 = k := c84
                refine av_wp_seq 1 (pc' := 76) (lv' := [some (.inr (.inr (.inl (some (77))))), some (.inl k), some (.inl y), some (.inl k1), some (.inl (1))]) (st' := [.inr (.inr (.inl (some (77))))]) (h' := h) rfl ?_
                refine wq_gr (p' := 79) rfl rfl (congrArg Prod.fst (ly_k I.1.1.1 77 rfl)) rfl (ly_g I.1.1.1 77 43 109 rfl) ?_
                refine av_wp_seq 1 (pc' := 80) (lv' := [some (.inr (.inr (.inl (some (77))))), some (.inl k), some (.inl y), some (.inl k1), some (.inl (1))]) (st' := [.inl k1, .inr (.inr (.inl (some (109))))]) (h' := h) rfl ?_
                obtain ⟨v86, e87⟩ : ∃ v, hA h 109 (Int.toNat (k1)) = v := ⟨_, rfl⟩
                have y89 : hA h 109 (Int.toNat (k1)) = v86 := (congrFun (Z.1 109 rfl) _).symm.trans e87
                have y90 : v86 = hw a0 (Int.toNat (k1)) 0 := LR_w X (by omega) (by omega) s12 (Or.inl ⟨rfl, e87.symm⟩)
                have g91 := hw_r H (k := (Int.toNat (k1))) (by omega) 0
                rw [← y90] at g91
                refine wq_al (p' := 81) (n := 12) rfl rfl (ly_k I.1.1.1 109 rfl) (by omega) (e87) ?_
                refine av_wp_seq 1 (pc' := 82) (lv' := [some (.inr (.inr (.inl (some (77))))), some (.inl k), some (.inl y), some (.inl k1), some (.inl (1))]) (st' := [.inl y, .inl v86]) (h' := h) rfl ?_
                refine wq_k2 (p' := 85) rfl rfl ⟨by omega, by omega⟩ ⟨by omega, by omega⟩ (fun c92 => ?_) (fun c93 => ?_)
                · have c92 : y < v86 := c92
                  have u94 := all_s (P := (ANB u a0 (Int.toNat k) y)) g8 (j := k1) (by omega) (by unfold ANB; omega)
                  refine av_wp_seq 2 (pc' := 4) (lv' := [some (.inr (.inr (.inl (some (77))))), some (.inl k), some (.inl y), some (.inl (k1 + (1))), some (.inl (1))]) (st' := []) (h' := h) rfl ?_
                  exact I5 _ (by omega) ((k1 + (1))) (some (.inl (1))) rfl u94 (by omega) (by omega) (by omega) rfl
                · have c93 : v86 ≤ y := c93
                  refine av_wp_seq 1 (pc' := 86) (lv' := [some (.inr (.inr (.inl (some (77))))), some (.inl k), some (.inl y), some (.inl k1), some (.inl (1))]) (st' := [.inl (1)]) (h' := h) rfl ?_
                  refine av_wp_ret (v := some (.inl (1))) rfl rfl rfl ?_
                  exact hq _ (by exact Or.inl ⟨rfl, (Int.toNat (k1)), by omega, by omega, by unfold ANB; omega⟩)
            · have c75 : v68 ≠ (4) := c75
              refine av_wp_seq 1 (pc' := 43) (lv' := [some (.inr (.inr (.inl (some (77))))), some (.inl k), some (.inl y), some (.inl k1), a2]) (st' := [.inr (.inr (.inl (some (77))))]) (h' := h) rfl ?_
              refine wq_gr (p' := 46) rfl rfl (congrArg Prod.fst (ly_k I.1.1.1 77 rfl)) rfl (ly_g I.1.1.1 77 30 96 rfl) ?_
              refine av_wp_seq 1 (pc' := 47) (lv' := [some (.inr (.inr (.inl (some (77))))), some (.inl k), some (.inl y), some (.inl k1), a2]) (st' := [.inl k1, .inr (.inr (.inl (some (96))))]) (h' := h) rfl ?_
              obtain ⟨v95, e96⟩ : ∃ v, hA h 96 (Int.toNat (k1)) = v := ⟨_, rfl⟩
              have g97 : 0 ≤ hA h 96 (Int.toNat (k1)) ∧ hA h 96 (Int.toNat (k1)) ≤ 7 := im_w I.1.1 96 (by decide) (by decide) _
              rw [e96] at g97
              have y98 : hA h 96 (Int.toNat (k1)) = v95 := (congrFun (Z.1 96 rfl) _).symm.trans e96
              have y99 := (X.1 (Int.toNat (k1)) (by omega)).1.1
              rw [e96] at y99
              refine wq_al (p' := 48) (n := 12) rfl rfl (ly_k I.1.1.1 96 rfl) (by omega) (e96) ?_
              refine av_wp_seq 1 (pc' := 50) (lv' := [some (.inr (.inr (.inl (some (77))))), some (.inl k), some (.inl y), some (.inl k1), a2]) (st' := [.inl (6), .inl v95]) (h' := h) rfl ?_
              refine wq_k2 (p' := 53) rfl rfl ⟨by omega, by omega⟩ ⟨by omega, by omega⟩ (fun c101 => ?_) (fun c102 => ?_)
              · have c101 : v95 ≠ (6) := c101
                refine av_wp_seq 4 (pc' := 87) (lv' := [some (.inr (.inr (.inl (some (77))))), some (.inl k), some (.inl y), some (.inl k1), some (.inl (0))]) (st' := []) (h' := h) rfl ?_
                have u103 := all_s (P := (ANB u a0 (Int.toNat k) y)) g8 (j := k1) (by omega) (by unfold ANB; omega)
                refine av_wp_seq 2 (pc' := 4) (lv' := [some (.inr (.inr (.inl (some (77))))), some (.inl k), some (.inl y), some (.inl (k1 + (1))), some (.inl (0))]) (st' := []) (h' := h) rfl ?_
                exact I5 _ (by omega) ((k1 + (1))) (some (.inl (0))) rfl u103 (by omega) (by omega) (by omega) rfl
              · have c102 : v95 = (6) := c102
                refine av_wp_seq 6 (pc' := 66) (lv' := [some (.inr (.inr (.inl (some (77))))), some (.inl k), some (.inl y), some (.inl k1), some (.inl (1))]) (st' := [.inr (.inr (.inl (some (77))))]) (h' := h) rfl ?_
                refine wq_gr (p' := 69) rfl rfl (congrArg Prod.fst (ly_k I.1.1.1 77 rfl)) rfl (ly_g I.1.1.1 77 34 100 rfl) ?_
                refine av_wp_seq 1 (pc' := 70) (lv' := [some (.inr (.inr (.inl (some (77))))), some (.inl k), some (.inl y), some (.inl k1), some (.inl (1))]) (st' := [.inl k1, .inr (.inr (.inl (some (100))))]) (h' := h) rfl ?_
                obtain ⟨v104, e105⟩ : ∃ v, hA h 100 (Int.toNat (k1)) = v := ⟨_, rfl⟩
                have g106 : -1 ≤ hA h 100 (Int.toNat (k1)) ∧ hA h 100 (Int.toNat (k1)) ≤ 11 := im_w I.1.1 100 (by decide) (by decide) _
                rw [e105] at g106
                have w107 := im_wr I.1 (Int.toNat (k1)) (by omega)
                rw [e105] at w107
                have y108 : hA h 100 (Int.toNat (k1)) = v104 := (congrFun (Z.1 100 rfl) _).symm.trans e105
                have y109 := (X.1 (Int.toNat (k1)) (by omega)).1.2.2.2.1
                rw [e105] at y109
                refine wq_al (p' := 71) (n := 12) rfl rfl (ly_k I.1.1.1 100 rfl) (by omega) (e105) ?_
                refine av_wp_seq 1 (pc' := 72) (lv' := [some (.inr (.inr (.inl (some (77))))), some (.inl k), some (.inl y), some (.inl k1), some (.inl (1))]) (st' := [.inl k, .inl v104]) (h' := h) rfl ?_
                refine wq_k2 (p' := 75) rfl rfl ⟨by omega, by omega⟩ ⟨by omega, by omega⟩ (fun c111 => ?_) (fun c112 => ?_)
                · have c111 : v104 ≠ k := c111
                  have u113 := all_s (P := (ANB u a0 (Int.toNat k) y)) g8 (j := k1) (by omega) (by unfold ANB; omega)
                  refine av_wp_seq 2 (pc' := 4) (lv' := [some (.inr (.inr (.inl (some (77))))), some (.inl k), some (.inl y), some (.inl (k1 + (1))), some (.inl (1))]) (st' := []) (h' := h) rfl ?_
                  exact I5 _ (by omega) ((k1 + (1))) (some (.inl (1))) rfl u113 (by omega) (by omega) (by omega) rfl
                · have c112 : v104 = k := c112
                  refine av_wp_seq 1 (pc' := 76) (lv' := [some (.inr (.inr (.inl (some (77))))), some (.inl k), some (.inl y), some (.inl k1), some (.inl (1))]) (st' := [.inr (.inr (.inl (some (77))))]) (h' := h) rfl ?_
                  refine wq_gr (p' := 79) rfl rfl (congrArg Prod.fst (ly_k I.1.1.1 77 rfl)) rfl (ly_g I.1.1.1 77 43 109 rfl) ?_
                  refine av_wp_seq 1 (pc' := 80) (lv' := [some (.inr (.inr (.inl (some (77))))), some (.inl k), some (.inl y), some (.inl k1), some (.inl (1))]) (st' := [.inl k1, .inr (.inr (.inl (some (109))))]) (h' := h) rfl ?_
                  obtain ⟨v114, e115⟩ : ∃ v, hA h 109 (Int.toNat (k1)) = v := ⟨_, rfl⟩
                  have y117 : hA h 109 (Int.toNat (k1)) = v114 := (congrFun (Z.1 109 rfl) _).symm.trans e115
                  have y118 : v114 = hw a0 (Int.toNat (k1)) 0 := LR_w X (by omega) (by omega) s12 (Or.inl ⟨rfl, e115.symm⟩)
                  have g119 := hw_r H (k := (Int.toNat (k1))) (by omega) 0
                  rw [← y118] at g119
                  refine wq_al (p' := 81) (n := 12) rfl rfl (ly_k I.1.1.1 109 rfl) (by omega) (e115) ?_
                  refine av_wp_seq 1 (pc' := 82) (lv' := [some (.inr (.inr (.inl (some (77))))), some (.inl k), some (.inl y), some (.inl k1), some (.inl (1))]) (st' := [.inl y, .inl v114]) (h' := h) rfl ?_
                  refine wq_k2 (p' := 85) rfl rfl ⟨by omega, by omega⟩ ⟨by omega, by omega⟩ (fun c120 => ?_) (fun c121 => ?_)
                  · have c120 : y < v114 := c120
                    have u122 := all_s (P := (ANB u a0 (Int.toNat k) y)) g8 (j := k1) (by omega) (by unfold ANB; omega)
                    refine av_wp_seq 2 (pc' := 4) (lv' := [some (.inr (.inr (.inl (some (77))))), some (.inl k), some (.inl y), some (.inl (k1 + (1))), some (.inl (1))]) (st' := []) (h' := h) rfl ?_
                    exact I5 _ (by omega) ((k1 + (1))) (some (.inl (1))) rfl u122 (by omega) (by omega) (by omega) rfl
                  · have c121 : v114 ≤ y := c121
                    refine av_wp_seq 1 (pc' := 86) (lv' := [some (.inr (.inr (.inl (some (77))))), some (.inl k), some (.inl y), some (.inl k1), some (.inl (1))]) (st' := [.inl (1)]) (h' := h) rfl ?_
                    refine av_wp_ret (v := some (.inl (1))) rfl rfl rfl ?_
                    exact hq _ (by exact Or.inl ⟨rfl, (Int.toNat (k1)), by omega, by omega, by unfold ANB; omega⟩)
  exact L4 _ ((k + (1))) (none) rfl (fun i h1 h2 => by omega) (by omega) (by omega) (by omega) rfl

set_option maxRecDepth 100000 in
set_option maxHeartbeats 4000000 in
theorem cx_173 {g h : av_H} {n a m : Int} (I : IMF n a m h) (F : FM g h) (o : Int) (qo : 0 ≤ o ∧ o ≤ 11) (y : Int) (qy : -1 ≤ y ∧ y ≤ 9999) (c : Int) (qc : 0 ≤ c ∧ c ≤ 4) (r14 : -1 ≤ hA h 114 (Int.toNat o) ∧ hA h 114 (Int.toNat o) ≤ 9999) (r15 : 0 ≤ hA h 115 (Int.toNat o) ∧ hA h 115 (Int.toNat o) ≤ 4) {Q : Option av_V → av_H → Prop} (hq : ∀ h', IMF n a m h' → FM g h' → ZE [114, 115] [] h h' → E2 (hA h') (Int.toNat o) = eb2 (E2 (hA h) (Int.toNat o)) y c → (∀ q, q ≠ Int.toNat o → hA h' 114 q = hA h 114 q ∧ hA h' 115 q = hA h 115 q) → Q none h') : av_wp none cd_173 0 [some (.inr (.inr (.inl (some (77))))), some (.inl o), some (.inl y), some (.inl c)] [] h Q := by
  have gn := im_n I.1.1
  rw [I.2.1] at gn
  have ga := im_a I.1.1
  rw [I.2.2.1] at ga
  have gm := im_cm I.1.1
  rw [I.2.2.2] at gm
  have Z := ZE_rf (L := [114, 115]) (K := []) h
  refine av_wp_seq 1 (pc' := 1) (lv' := [some (.inr (.inr (.inl (some (77))))), some (.inl o), some (.inl y), some (.inl c)]) (st' := [.inl y]) (h' := h) rfl ?_
  refine wq_k1 (p' := 4) rfl rfl ⟨by omega, by omega⟩ (fun c1 => ?_) (fun c2 => ?_)
  · have c1 : y < (0) := c1
    refine av_wp_ret (v := none) rfl rfl rfl ?_
    exact hq h I F Z (if_pos (show y < 0 ∨ hA h 114 (Int.toNat o) < y ∨ (y = hA h 114 (Int.toNat o) ∧ 0 < hA h 115 (Int.toNat o) ∧ hA h 115 (Int.toNat o) ≤ c) by omega)).symm (fun q _ => ⟨rfl, rfl⟩)
  · have c2 : (0) ≤ y := c2
    refine av_wp_seq 2 (pc' := 6) (lv' := [some (.inr (.inr (.inl (some (77))))), some (.inl o), some (.inl y), some (.inl c)]) (st' := [.inr (.inr (.inl (some (77)))), .inl y]) (h' := h) rfl ?_
    refine wq_gr (p' := 9) rfl rfl (congrArg Prod.fst (ly_k I.1.1.1 77 rfl)) rfl (ly_g I.1.1.1 77 48 114 rfl) ?_
    refine av_wp_seq 1 (pc' := 10) (lv' := [some (.inr (.inr (.inl (some (77))))), some (.inl o), some (.inl y), some (.inl c)]) (st' := [.inl o, .inr (.inr (.inl (some (114)))), .inl y]) (h' := h) rfl ?_
    obtain ⟨v3, e4⟩ : ∃ v, hA h 114 (Int.toNat (o)) = v := ⟨_, rfl⟩
    have g6 := r14
    rw [e4] at g6
    refine wq_al (p' := 11) (n := 12) rfl rfl (ly_k I.1.1.1 114 rfl) (by omega) (e4) ?_
    refine wq_k2 (p' := 14) rfl rfl ⟨by omega, by omega⟩ ⟨by omega, by omega⟩ (fun c7 => ?_) (fun c8 => ?_)
    · have c7 : v3 < y := c7
      refine av_wp_ret (v := none) rfl rfl rfl ?_
      exact hq h I F Z (if_pos (show y < 0 ∨ hA h 114 (Int.toNat o) < y ∨ (y = hA h 114 (Int.toNat o) ∧ 0 < hA h 115 (Int.toNat o) ∧ hA h 115 (Int.toNat o) ≤ c) by omega)).symm (fun q _ => ⟨rfl, rfl⟩)
    · have c8 : y ≤ v3 := c8
      refine av_wp_seq 2 (pc' := 16) (lv' := [some (.inr (.inr (.inl (some (77))))), some (.inl o), some (.inl y), some (.inl c)]) (st' := [.inr (.inr (.inl (some (77)))), .inl y]) (h' := h) rfl ?_
      refine wq_gr (p' := 19) rfl rfl (congrArg Prod.fst (ly_k I.1.1.1 77 rfl)) rfl (ly_g I.1.1.1 77 48 114 rfl) ?_
      refine av_wp_seq 1 (pc' := 20) (lv' := [some (.inr (.inr (.inl (some (77))))), some (.inl o), some (.inl y), some (.inl c)]) (st' := [.inl o, .inr (.inr (.inl (some (114)))), .inl y]) (h' := h) rfl ?_
      obtain ⟨v9, e10⟩ : ∃ v, hA h 114 (Int.toNat (o)) = v := ⟨_, rfl⟩
      have g12 := r14
      rw [e10] at g12
      refine wq_al (p' := 21) (n := 12) rfl rfl (ly_k I.1.1.1 114 rfl) (by omega) (e10) ?_
      refine wq_k2 (p' := 24) rfl rfl ⟨by omega, by omega⟩ ⟨by omega, by omega⟩ (fun c13 => ?_) (fun c14 => ?_)
      · have c13 : y ≠ v9 := c13
        refine av_wp_seq 1 (pc' := 45) (lv' := [some (.inr (.inr (.inl (some (77))))), some (.inl o), some (.inl y), some (.inl c)]) (st' := [.inr (.inr (.inl (some (77))))]) (h' := h) rfl ?_
        refine wq_gr (p' := 48) rfl rfl (congrArg Prod.fst (ly_k I.1.1.1 77 rfl)) rfl (ly_g I.1.1.1 77 48 114 rfl) ?_
        refine av_wp_seq 2 (pc' := 50) (lv' := [some (.inr (.inr (.inl (some (77))))), some (.inl o), some (.inl y), some (.inl c)]) (st' := [.inl y, .inl o, .inr (.inr (.inl (some (114))))]) (h' := h) rfl ?_
        refine xm_as (p' := 51) (l := 12) rfl rfl I F (ly_k I.1.1.1 114 rfl) (by omega) (by omega) (fun h15 I16 F17 e18 => ?_)
        have Z19 := ZE_a Z e18 rfl
        refine av_wp_seq 1 (pc' := 52) (lv' := [some (.inr (.inr (.inl (some (77))))), some (.inl o), some (.inl y), some (.inl c)]) (st' := [.inr (.inr (.inl (some (77))))]) (h' := h15) rfl ?_
        refine wq_gr (p' := 55) rfl rfl (congrArg Prod.fst (ly_k I16.1.1.1 77 rfl)) rfl (ly_g I16.1.1.1 77 49 115 rfl) ?_
        refine av_wp_seq 2 (pc' := 57) (lv' := [some (.inr (.inr (.inl (some (77))))), some (.inl o), some (.inl y), some (.inl c)]) (st' := [.inl c, .inl o, .inr (.inr (.inl (some (115))))]) (h' := h15) rfl ?_
        refine xm_as (p' := 58) (l := 12) rfl rfl I16 F17 (ly_k I16.1.1.1 115 rfl) (by omega) (by omega) (fun h20 I21 F22 e23 => ?_)
        have Z24 := ZE_a Z19 e23 rfl
        refine av_wp_ret (v := none) rfl rfl rfl ?_
        have E4 : hA h20 114 = av_u1 (hA h 114) (Int.toNat o) y := (hA_en e23 (by decide)).trans (hA_eu e18)
        have E5 : hA h20 115 = av_u1 (hA h 115) (Int.toNat o) c := (hA_eu e23).trans (by rw [hA_en e18 (by decide)])
        refine hq h20 I21 F22 Z24 ?_ (fun q hq => ⟨by rw [E4, u1_ne hq], by rw [E5, u1_ne hq]⟩)
        show (hA h20 114 (Int.toNat o), hA h20 115 (Int.toNat o)) = _
        rw [E4, E5, u1_eq, u1_eq]
        exact (if_neg (show ¬ (y < 0 ∨ hA h 114 (Int.toNat o) < y ∨ (y = hA h 114 (Int.toNat o) ∧ 0 < hA h 115 (Int.toNat o) ∧ hA h 115 (Int.toNat o) ≤ c)) by omega)).symm
      · have c14 : y = v9 := c14
        refine av_wp_seq 1 (pc' := 25) (lv' := [some (.inr (.inr (.inl (some (77))))), some (.inl o), some (.inl y), some (.inl c)]) (st' := [.inr (.inr (.inl (some (77))))]) (h' := h) rfl ?_
        refine wq_gr (p' := 28) rfl rfl (congrArg Prod.fst (ly_k I.1.1.1 77 rfl)) rfl (ly_g I.1.1.1 77 49 115 rfl) ?_
        refine av_wp_seq 1 (pc' := 29) (lv' := [some (.inr (.inr (.inl (some (77))))), some (.inl o), some (.inl y), some (.inl c)]) (st' := [.inl o, .inr (.inr (.inl (some (115))))]) (h' := h) rfl ?_
        obtain ⟨v25, e26⟩ : ∃ v, hA h 115 (Int.toNat (o)) = v := ⟨_, rfl⟩
        have g28 := r15
        rw [e26] at g28
        refine wq_al (p' := 30) (n := 12) rfl rfl (ly_k I.1.1.1 115 rfl) (by omega) (e26) ?_
        refine wq_k1 (p' := 33) rfl rfl ⟨by omega, by omega⟩ (fun c29 => ?_) (fun c30 => ?_)
        · have c29 : v25 ≤ (0) := c29
          refine av_wp_seq 1 (pc' := 45) (lv' := [some (.inr (.inr (.inl (some (77))))), some (.inl o), some (.inl y), some (.inl c)]) (st' := [.inr (.inr (.inl (some (77))))]) (h' := h) rfl ?_
          refine wq_gr (p' := 48) rfl rfl (congrArg Prod.fst (ly_k I.1.1.1 77 rfl)) rfl (ly_g I.1.1.1 77 48 114 rfl) ?_
          refine av_wp_seq 2 (pc' := 50) (lv' := [some (.inr (.inr (.inl (some (77))))), some (.inl o), some (.inl y), some (.inl c)]) (st' := [.inl y, .inl o, .inr (.inr (.inl (some (114))))]) (h' := h) rfl ?_
          refine xm_as (p' := 51) (l := 12) rfl rfl I F (ly_k I.1.1.1 114 rfl) (by omega) (by omega) (fun h31 I32 F33 e34 => ?_)
          have Z35 := ZE_a Z e34 rfl
          refine av_wp_seq 1 (pc' := 52) (lv' := [some (.inr (.inr (.inl (some (77))))), some (.inl o), some (.inl y), some (.inl c)]) (st' := [.inr (.inr (.inl (some (77))))]) (h' := h31) rfl ?_
          refine wq_gr (p' := 55) rfl rfl (congrArg Prod.fst (ly_k I32.1.1.1 77 rfl)) rfl (ly_g I32.1.1.1 77 49 115 rfl) ?_
          refine av_wp_seq 2 (pc' := 57) (lv' := [some (.inr (.inr (.inl (some (77))))), some (.inl o), some (.inl y), some (.inl c)]) (st' := [.inl c, .inl o, .inr (.inr (.inl (some (115))))]) (h' := h31) rfl ?_
          refine xm_as (p' := 58) (l := 12) rfl rfl I32 F33 (ly_k I32.1.1.1 115 rfl) (by omega) (by omega) (fun h36 I37 F38 e39 => ?_)
          have Z40 := ZE_a Z35 e39 rfl
          refine av_wp_ret (v := none) rfl rfl rfl ?_
          have E4 : hA h36 114 = av_u1 (hA h 114) (Int.toNat o) y := (hA_en e39 (by decide)).trans (hA_eu e34)
          have E5 : hA h36 115 = av_u1 (hA h 115) (Int.toNat o) c := (hA_eu e39).trans (by rw [hA_en e34 (by decide)])
          refine hq h36 I37 F38 Z40 ?_ (fun q hq => ⟨by rw [E4, u1_ne hq], by rw [E5, u1_ne hq]⟩)
          show (hA h36 114 (Int.toNat o), hA h36 115 (Int.toNat o)) = _
          rw [E4, E5, u1_eq, u1_eq]
          exact (if_neg (show ¬ (y < 0 ∨ hA h 114 (Int.toNat o) < y ∨ (y = hA h 114 (Int.toNat o) ∧ 0 < hA h 115 (Int.toNat o) ∧ hA h 115 (Int.toNat o) ≤ c)) by omega)).symm
        · have c30 : (0) < v25 := c30
          refine av_wp_seq 1 (pc' := 34) (lv' := [some (.inr (.inr (.inl (some (77))))), some (.inl o), some (.inl y), some (.inl c)]) (st' := [.inr (.inr (.inl (some (77))))]) (h' := h) rfl ?_
          refine wq_gr (p' := 37) rfl rfl (congrArg Prod.fst (ly_k I.1.1.1 77 rfl)) rfl (ly_g I.1.1.1 77 49 115 rfl) ?_
          refine av_wp_seq 1 (pc' := 38) (lv' := [some (.inr (.inr (.inl (some (77))))), some (.inl o), some (.inl y), some (.inl c)]) (st' := [.inl o, .inr (.inr (.inl (some (115))))]) (h' := h) rfl ?_
          obtain ⟨v41, e42⟩ : ∃ v, hA h 115 (Int.toNat (o)) = v := ⟨_, rfl⟩
          have g44 := r15
          rw [e42] at g44
          refine wq_al (p' := 39) (n := 12) rfl rfl (ly_k I.1.1.1 115 rfl) (by omega) (e42) ?_
          refine av_wp_seq 1 (pc' := 40) (lv' := [some (.inr (.inr (.inl (some (77))))), some (.inl o), some (.inl y), some (.inl c)]) (st' := [.inl c, .inl v41]) (h' := h) rfl ?_
          refine wq_k2 (p' := 43) rfl rfl ⟨by omega, by omega⟩ ⟨by omega, by omega⟩ (fun c45 => ?_) (fun c46 => ?_)
          · have c45 : c < v41 := c45
            refine av_wp_seq 1 (pc' := 45) (lv' := [some (.inr (.inr (.inl (some (77))))), some (.inl o), some (.inl y), some (.inl c)]) (st' := [.inr (.inr (.inl (some (77))))]) (h' := h) rfl ?_
            refine wq_gr (p' := 48) rfl rfl (congrArg Prod.fst (ly_k I.1.1.1 77 rfl)) rfl (ly_g I.1.1.1 77 48 114 rfl) ?_
            refine av_wp_seq 2 (pc' := 50) (lv' := [some (.inr (.inr (.inl (some (77))))), some (.inl o), some (.inl y), some (.inl c)]) (st' := [.inl y, .inl o, .inr (.inr (.inl (some (114))))]) (h' := h) rfl ?_
            refine xm_as (p' := 51) (l := 12) rfl rfl I F (ly_k I.1.1.1 114 rfl) (by omega) (by omega) (fun h47 I48 F49 e50 => ?_)
            have Z51 := ZE_a Z e50 rfl
            refine av_wp_seq 1 (pc' := 52) (lv' := [some (.inr (.inr (.inl (some (77))))), some (.inl o), some (.inl y), some (.inl c)]) (st' := [.inr (.inr (.inl (some (77))))]) (h' := h47) rfl ?_
            refine wq_gr (p' := 55) rfl rfl (congrArg Prod.fst (ly_k I48.1.1.1 77 rfl)) rfl (ly_g I48.1.1.1 77 49 115 rfl) ?_
            refine av_wp_seq 2 (pc' := 57) (lv' := [some (.inr (.inr (.inl (some (77))))), some (.inl o), some (.inl y), some (.inl c)]) (st' := [.inl c, .inl o, .inr (.inr (.inl (some (115))))]) (h' := h47) rfl ?_
            refine xm_as (p' := 58) (l := 12) rfl rfl I48 F49 (ly_k I48.1.1.1 115 rfl) (by omega) (by omega) (fun h52 I53 F54 e55 => ?_)
            have Z56 := ZE_a Z51 e55 rfl
            refine av_wp_ret (v := none) rfl rfl rfl ?_
            have E4 : hA h52 114 = av_u1 (hA h 114) (Int.toNat o) y := (hA_en e55 (by decide)).trans (hA_eu e50)
            have E5 : hA h52 115 = av_u1 (hA h 115) (Int.toNat o) c := (hA_eu e55).trans (by rw [hA_en e50 (by decide)])
            refine hq h52 I53 F54 Z56 ?_ (fun q hq => ⟨by rw [E4, u1_ne hq], by rw [E5, u1_ne hq]⟩)
            show (hA h52 114 (Int.toNat o), hA h52 115 (Int.toNat o)) = _
            rw [E4, E5, u1_eq, u1_eq]
            exact (if_neg (show ¬ (y < 0 ∨ hA h 114 (Int.toNat o) < y ∨ (y = hA h 114 (Int.toNat o) ∧ 0 < hA h 115 (Int.toNat o) ∧ hA h 115 (Int.toNat o) ≤ c)) by omega)).symm
          · have c46 : v41 ≤ c := c46
            refine av_wp_ret (v := none) rfl rfl rfl ?_
            exact hq h I F Z (if_pos (show y < 0 ∨ hA h 114 (Int.toNat o) < y ∨ (y = hA h 114 (Int.toNat o) ∧ 0 < hA h 115 (Int.toNat o) ∧ hA h 115 (Int.toNat o) ≤ c) by omega)).symm (fun q _ => ⟨rfl, rfl⟩)


