set_option maxRecDepth 100000 in
set_option maxHeartbeats 4000000 in
theorem ct_202 {g h : av_H} {n a m : Int} (I : IMF n a m h) (F : FM g h) (l : Int) (ql : -2147483648 ≤ l ∧ l ≤ 2147483647) (y : Int) (qy : -2147483648 ≤ y ∧ y ≤ 2147483647) {Q : Option av_V → av_H → Prop} (hq : ∀ (v : Int) n' a' m' h', IMF n' a' m' h' → FM g h' → Q (some (.inl v)) h') : av_wp none cd_202 0 [some (.inr (.inr (.inl (some (77))))), some (.inl l), some (.inl y), none, none] [] h Q := by
  have gn := im_n I.1.1
  rw [I.2.1] at gn
  have ga := im_a I.1.1
  rw [I.2.2.1] at ga
  have gm := im_cm I.1.1
  rw [I.2.2.2] at gm
  refine av_wp_sqF ck_202 2 (pc' := 2) (lv' := [some (.inr (.inr (.inl (some (77))))), some (.inl l), some (.inl y), none, none]) (st' := [.inl l, .inr (.inr (.inl (some (77))))]) (h' := h) rfl ?_
  refine wq_cv (p' := 5) (av_qc (.invokevirtual 345) 150 1 0 8) 2 cd_150 [.inl l] (77) 8 [some (.inr (.inr (.inl (some (77))))), some (.inl l)] (ck_202 _ _ rfl) rfl rfl pp_150 rfl rfl rfl (congrArg Prod.fst (ly_k I.1.1.1 77 rfl)) rfl rfl rfl rfl ?_
  refine ct_150 I.1 F (l) (by omega) (fun v1 p2 => ?_)
  show av_wp _ cd_202 5 [some (.inr (.inr (.inl (some (77))))), some (.inl l), some (.inl y), none, none] [.inl v1] h _
  refine wq_k1 (p' := 8) (ck_202 _ _ rfl) rfl ⟨by omega, by omega⟩ (fun c3 => ?_) (fun c4 => ?_)
  · have c3 : v1 = (0) := c3
    refine av_wp_sqF ck_202 1 (pc' := 18) (lv' := [some (.inr (.inr (.inl (some (77))))), some (.inl l), some (.inl y), none, none]) (st' := [.inl (-2)]) (h' := h) rfl ?_
    refine av_wp_ret (v := some (.inl (-2))) (ck_202 _ _ rfl) rfl rfl ?_
    exact hq _ _ _ _ h I F
  · have c4 : v1 ≠ (0) := c4
    refine av_wp_sqF ck_202 2 (pc' := 10) (lv' := [some (.inr (.inr (.inl (some (77))))), some (.inl l), some (.inl y), none, none]) (st' := [.inl y, .inr (.inr (.inl (some (77))))]) (h' := h) rfl ?_
    refine wq_cv (p' := 13) (av_qc (.invokevirtual 345) 150 1 0 8) 2 cd_150 [.inl y] (77) 8 [some (.inr (.inr (.inl (some (77))))), some (.inl y)] (ck_202 _ _ rfl) rfl rfl pp_150 rfl rfl rfl (congrArg Prod.fst (ly_k I.1.1.1 77 rfl)) rfl rfl rfl rfl ?_
    refine ct_150 I.1 F (y) (by omega) (fun v5 p6 => ?_)
    show av_wp _ cd_202 13 [some (.inr (.inr (.inl (some (77))))), some (.inl l), some (.inl y), none, none] [.inl v5] h _
    refine wq_k1 (p' := 16) (ck_202 _ _ rfl) rfl ⟨by omega, by omega⟩ (fun c7 => ?_) (fun c8 => ?_)
    · have c7 : v5 ≠ (0) := c7
      refine av_wp_sqF ck_202 4 (pc' := 24) (lv' := [some (.inr (.inr (.inl (some (77))))), some (.inl l), some (.inl y), some (.inl (-1)), some (.inl (0))]) (st' := []) (h' := h) rfl ?_
      have L19 : ∀ (m18 : Nat) (k9 : Int) (k10 : Int) (n14 : Int) (a15 : Int) (m16 : Int) (h11 : av_H), (-1 ≤ k9 ∧ k9 ≤ 15) → (0 ≤ k10 ∧ k10 ≤ 16) → (0 ≤ n14 ∧ n14 ≤ 12) ∧ (0 ≤ a15 ∧ a15 ≤ 48) ∧ (0 ≤ m16 ∧ m16 ≤ 1025) → IMF n14 a15 m16 h11 → FM g h11 → (16 - k10).toNat = m18 → av_wp none cd_202 24 [some (.inr (.inr (.inl (some (77))))), some (.inl l), some (.inl y), some (.inl k9), some (.inl k10)] [] h11 Q := by
        intro m18
        induction m18 using Nat.strongRecOn with
        | _ m18 I20 =>
          intro k9 k10 n14 a15 m16 h11 g22 g23 g17 I12 F13 e21
          refine av_wp_sqF ck_202 2 (pc' := 27) (lv' := [some (.inr (.inr (.inl (some (77))))), some (.inl l), some (.inl y), some (.inl k9), some (.inl k10)]) (st' := [.inr (.inr (.inl (some (77)))), .inl k10]) (h' := h11) rfl ?_
          refine wq_gr (p' := 30) (ck_202 _ _ rfl) rfl (congrArg Prod.fst (ly_k I12.1.1.1 77 rfl)) rfl (ly_g I12.1.1.1 77 0 78 rfl) ?_
          refine av_wp_sqF ck_202 1 (pc' := 31) (lv' := [some (.inr (.inr (.inl (some (77))))), some (.inl l), some (.inl y), some (.inl k9), some (.inl k10)]) (st' := [.inl (0), .inr (.inr (.inl (some (78)))), .inl k10]) (h' := h11) rfl ?_
          obtain ⟨v24, e25⟩ : ∃ v, hA h11 78 (Int.toNat ((0))) = v := ⟨_, rfl⟩
          have g26 : 0 ≤ hA h11 78 0 ∧ hA h11 78 0 ≤ 16 := I12.1.1.2.1.2.1
          have e25 : hA h11 78 0 = v24 := e25
          rw [e25] at g26
          refine wq_al (p' := 32) (n := 5) (ck_202 _ _ rfl) rfl (ly_k I12.1.1.1 78 rfl) (by omega) (e25) ?_
          refine wq_k2 (p' := 35) (ck_202 _ _ rfl) rfl ⟨by omega, by omega⟩ ⟨by omega, by omega⟩ (fun c27 => ?_) (fun c28 => ?_)
          · have c27 : v24 ≤ k10 := c27
            refine av_wp_sqF ck_202 1 (pc' := 83) (lv' := [some (.inr (.inr (.inl (some (77))))), some (.inl l), some (.inl y), some (.inl k9), some (.inl k10)]) (st' := [.inl k9]) (h' := h11) rfl ?_
            refine av_wp_ret (v := some (.inl k9)) (ck_202 _ _ rfl) rfl rfl ?_
            exact hq _ _ _ _ h11 I12 F13
          · have c28 : k10 < v24 := c28
            refine av_wp_sqF ck_202 1 (pc' := 36) (lv' := [some (.inr (.inr (.inl (some (77))))), some (.inl l), some (.inl y), some (.inl k9), some (.inl k10)]) (st' := [.inl k9]) (h' := h11) rfl ?_
            refine wq_k1 (p' := 39) (ck_202 _ _ rfl) rfl ⟨by omega, by omega⟩ (fun c29 => ?_) (fun c30 => ?_)
            · have c29 : k9 < (0) := c29
              refine av_wp_sqF ck_202 4 (pc' := 60) (lv' := [some (.inr (.inr (.inl (some (77))))), some (.inl l), some (.inl y), some (.inl k9), some (.inl k10)]) (st' := [.inl y, .inl l, .inl k10, .inr (.inr (.inl (some (77))))]) (h' := h11) rfl ?_
              refine wq_cv (p' := 63) (av_qc (.invokevirtual 467) 200 3 0 8) 7 cd_200 [.inl y, .inl l, .inl k10] (77) 8 [some (.inr (.inr (.inl (some (77))))), some (.inl k10), some (.inl l), some (.inl y), none, none, none] (ck_202 _ _ rfl) rfl rfl pp_200 rfl rfl rfl (congrArg Prod.fst (ly_k I12.1.1.1 77 rfl)) rfl rfl rfl rfl ?_
              refine ct_200 I12 F13 (k10) (by omega) (l) (by omega) (y) (by omega) (fun v31 n36 a37 m38 h33 p32 I34 F35 => ?_)
              have g39 := im_n I34.1.1
              rw [I34.2.1] at g39
              have g40 := im_a I34.1.1
              rw [I34.2.2.1] at g40
              have g41 := im_cm I34.1.1
              rw [I34.2.2.2] at g41
              show av_wp _ cd_202 63 [some (.inr (.inr (.inl (some (77))))), some (.inl l), some (.inl y), some (.inl k9), some (.inl k10)] [.inl v31] h33 _
              refine wq_k1 (p' := 66) (ck_202 _ _ rfl) rfl ⟨by omega, by omega⟩ (fun c42 => ?_) (fun c43 => ?_)
              · have c42 : v31 = (0) := c42
                refine av_wp_sqF ck_202 2 (pc' := 24) (lv' := [some (.inr (.inr (.inl (some (77))))), some (.inl l), some (.inl y), some (.inl k9), some (.inl (k10 + (1)))]) (st' := []) (h' := h33) rfl ?_
                exact I20 _ (by omega) (k9) ((k10 + (1))) (n36) (a37) (m38) h33 (by omega) (by omega) (by omega) I34 F35 rfl
              · have c43 : v31 ≠ (0) := c43
                refine av_wp_sqF ck_202 1 (pc' := 67) (lv' := [some (.inr (.inr (.inl (some (77))))), some (.inl l), some (.inl y), some (.inl k9), some (.inl k10)]) (st' := [.inr (.inr (.inl (some (77))))]) (h' := h33) rfl ?_
                obtain ⟨v44, e45⟩ : ∃ v, hF h33 77 60 = v := ⟨_, rfl⟩
                refine wq_gi (p' := 70) (ck_202 _ _ rfl) rfl (congrArg Prod.fst (ly_k I34.1.1.1 77 rfl)) rfl (e45) ?_
                refine wq_c1 (p' := 73) (ck_202 _ _ rfl) rfl ?_ ?_
                · refine av_wp_sqF ck_202 2 (pc' := 24) (lv' := [some (.inr (.inr (.inl (some (77))))), some (.inl l), some (.inl y), some (.inl k9), some (.inl (k10 + (1)))]) (st' := []) (h' := h33) rfl ?_
                  exact I20 _ (by omega) (k9) ((k10 + (1))) (n36) (a37) (m38) h33 (by omega) (by omega) (by omega) I34 F35 rfl
                · refine av_wp_sqF ck_202 4 (pc' := 24) (lv' := [some (.inr (.inr (.inl (some (77))))), some (.inl l), some (.inl y), some (.inl k10), some (.inl (k10 + (1)))]) (st' := []) (h' := h33) rfl ?_
                  exact I20 _ (by omega) (k10) ((k10 + (1))) (n36) (a37) (m38) h33 (by omega) (by omega) (by omega) I34 F35 rfl
            · have c30 : (0) ≤ k9 := c30
              refine av_wp_sqF ck_202 1 (pc' := 40) (lv' := [some (.inr (.inr (.inl (some (77))))), some (.inl l), some (.inl y), some (.inl k9), some (.inl k10)]) (st' := [.inr (.inr (.inl (some (77))))]) (h' := h11) rfl ?_
              refine wq_gr (p' := 43) (ck_202 _ _ rfl) rfl (congrArg Prod.fst (ly_k I12.1.1.1 77 rfl)) rfl (ly_g I12.1.1.1 77 3 81 rfl) ?_
              refine av_wp_sqF ck_202 1 (pc' := 45) (lv' := [some (.inr (.inr (.inl (some (77))))), some (.inl l), some (.inl y), some (.inl k9), some (.inl k10)]) (st' := [.inl k10, .inr (.inr (.inl (some (81))))]) (h' := h11) rfl ?_
              obtain ⟨v46, e47⟩ : ∃ v, hA h11 81 (Int.toNat (k10)) = v := ⟨_, rfl⟩
              have g48 := im_many I12.1.1 (Int.toNat (k10))
              rw [e47] at g48
              refine wq_al (p' := 46) (n := 80) (ck_202 _ _ rfl) rfl (ly_k I12.1.1.1 81 rfl) (by omega) (e47) ?_
              refine av_wp_sqF ck_202 1 (pc' := 47) (lv' := [some (.inr (.inr (.inl (some (77))))), some (.inl l), some (.inl y), some (.inl k9), some (.inl k10)]) (st' := [.inr (.inr (.inl (some (77)))), .inl v46]) (h' := h11) rfl ?_
              refine wq_gr (p' := 50) (ck_202 _ _ rfl) rfl (congrArg Prod.fst (ly_k I12.1.1.1 77 rfl)) rfl (ly_g I12.1.1.1 77 3 81 rfl) ?_
              refine av_wp_sqF ck_202 1 (pc' := 51) (lv' := [some (.inr (.inr (.inl (some (77))))), some (.inl l), some (.inl y), some (.inl k9), some (.inl k10)]) (st' := [.inl k9, .inr (.inr (.inl (some (81)))), .inl v46]) (h' := h11) rfl ?_
              obtain ⟨v49, e50⟩ : ∃ v, hA h11 81 (Int.toNat (k9)) = v := ⟨_, rfl⟩
              have g51 := im_many I12.1.1 (Int.toNat (k9))
              rw [e50] at g51
              refine wq_al (p' := 52) (n := 80) (ck_202 _ _ rfl) rfl (ly_k I12.1.1.1 81 rfl) (by omega) (e50) ?_
              refine wq_k2 (p' := 55) (ck_202 _ _ rfl) rfl ⟨by omega, by omega⟩ ⟨by omega, by omega⟩ (fun c52 => ?_) (fun c53 => ?_)
              · have c52 : v49 ≤ v46 := c52
                refine av_wp_sqF ck_202 2 (pc' := 24) (lv' := [some (.inr (.inr (.inl (some (77))))), some (.inl l), some (.inl y), some (.inl k9), some (.inl (k10 + (1)))]) (st' := []) (h' := h11) rfl ?_
                exact I20 _ (by omega) (k9) ((k10 + (1))) (n14) (a15) (m16) h11 (by omega) (by omega) (by omega) I12 F13 rfl
              · have c53 : v46 < v49 := c53
                refine av_wp_sqF ck_202 4 (pc' := 60) (lv' := [some (.inr (.inr (.inl (some (77))))), some (.inl l), some (.inl y), some (.inl k9), some (.inl k10)]) (st' := [.inl y, .inl l, .inl k10, .inr (.inr (.inl (some (77))))]) (h' := h11) rfl ?_
                refine wq_cv (p' := 63) (av_qc (.invokevirtual 467) 200 3 0 8) 7 cd_200 [.inl y, .inl l, .inl k10] (77) 8 [some (.inr (.inr (.inl (some (77))))), some (.inl k10), some (.inl l), some (.inl y), none, none, none] (ck_202 _ _ rfl) rfl rfl pp_200 rfl rfl rfl (congrArg Prod.fst (ly_k I12.1.1.1 77 rfl)) rfl rfl rfl rfl ?_
                refine ct_200 I12 F13 (k10) (by omega) (l) (by omega) (y) (by omega) (fun v54 n59 a60 m61 h56 p55 I57 F58 => ?_)
                have g62 := im_n I57.1.1
                rw [I57.2.1] at g62
                have g63 := im_a I57.1.1
                rw [I57.2.2.1] at g63
                have g64 := im_cm I57.1.1
                rw [I57.2.2.2] at g64
                show av_wp _ cd_202 63 [some (.inr (.inr (.inl (some (77))))), some (.inl l), some (.inl y), some (.inl k9), some (.inl k10)] [.inl v54] h56 _
                refine wq_k1 (p' := 66) (ck_202 _ _ rfl) rfl ⟨by omega, by omega⟩ (fun c65 => ?_) (fun c66 => ?_)
                · have c65 : v54 = (0) := c65
                  refine av_wp_sqF ck_202 2 (pc' := 24) (lv' := [some (.inr (.inr (.inl (some (77))))), some (.inl l), some (.inl y), some (.inl k9), some (.inl (k10 + (1)))]) (st' := []) (h' := h56) rfl ?_
                  exact I20 _ (by omega) (k9) ((k10 + (1))) (n59) (a60) (m61) h56 (by omega) (by omega) (by omega) I57 F58 rfl
                · have c66 : v54 ≠ (0) := c66
                  refine av_wp_sqF ck_202 1 (pc' := 67) (lv' := [some (.inr (.inr (.inl (some (77))))), some (.inl l), some (.inl y), some (.inl k9), some (.inl k10)]) (st' := [.inr (.inr (.inl (some (77))))]) (h' := h56) rfl ?_
                  obtain ⟨v67, e68⟩ : ∃ v, hF h56 77 60 = v := ⟨_, rfl⟩
                  refine wq_gi (p' := 70) (ck_202 _ _ rfl) rfl (congrArg Prod.fst (ly_k I57.1.1.1 77 rfl)) rfl (e68) ?_
                  refine wq_c1 (p' := 73) (ck_202 _ _ rfl) rfl ?_ ?_
                  · refine av_wp_sqF ck_202 2 (pc' := 24) (lv' := [some (.inr (.inr (.inl (some (77))))), some (.inl l), some (.inl y), some (.inl k9), some (.inl (k10 + (1)))]) (st' := []) (h' := h56) rfl ?_
                    exact I20 _ (by omega) (k9) ((k10 + (1))) (n59) (a60) (m61) h56 (by omega) (by omega) (by omega) I57 F58 rfl
                  · refine av_wp_sqF ck_202 4 (pc' := 24) (lv' := [some (.inr (.inr (.inl (some (77))))), some (.inl l), some (.inl y), some (.inl k10), some (.inl (k10 + (1)))]) (st' := []) (h' := h56) rfl ?_
                    exact I20 _ (by omega) (k10) ((k10 + (1))) (n59) (a60) (m61) h56 (by omega) (by omega) (by omega) I57 F58 rfl
      exact L19 _ ((-1)) ((0)) (n) (a) (m) h (by omega) (by omega) (by omega) I F rfl
    · have c8 : v5 = (0) := c8
      refine av_wp_sqF ck_202 1 (pc' := 18) (lv' := [some (.inr (.inr (.inl (some (77))))), some (.inl l), some (.inl y), none, none]) (st' := [.inl (-2)]) (h' := h) rfl ?_
      refine av_wp_ret (v := some (.inl (-2))) (ck_202 _ _ rfl) rfl rfl ?_
      exact hq _ _ _ _ h I F

set_option maxRecDepth 100000 in
set_option maxHeartbeats 4000000 in
theorem ct_203 {g h : av_H} {n a m : Int} (I : IMF n a m h) (F : FM g h) (x : Int) (qx : 0 ≤ x ∧ x ≤ 15) (y : Int) (qg : x < hA g 78 0) {Q : Option av_V → av_H → Prop} (hq : ∀ (v : Int) n' a' m' h', (v = 0 ∨ v = 1) → IMF n' a' m' h' → FM g h' → Q (some (.inl v)) h') : av_wp none cd_203 0 [some (.inr (.inr (.inl (some (77))))), some (.inl x), some (.inl y), none] [] h Q := by
  have gn := im_n I.1.1
  rw [I.2.1] at gn
  have ga := im_a I.1.1
  rw [I.2.2.1] at ga
  have gm := im_cm I.1.1
  rw [I.2.2.2] at gm
  refine av_wp_sqF ck_203 2 (pc' := 2) (lv' := [some (.inr (.inr (.inl (some (77))))), some (.inl x), some (.inl y), some (.inl (0))]) (st' := []) (h' := h) rfl ?_
  have L10 : ∀ (m9 : Nat) (k1 : Int) (n5 : Int) (a6 : Int) (m7 : Int) (h2 : av_H), (0 ≤ k1 ∧ k1 ≤ 8) → (0 ≤ n5 ∧ n5 ≤ 12) ∧ (0 ≤ a6 ∧ a6 ≤ 48) ∧ (0 ≤ m7 ∧ m7 ≤ 1025) → IMF n5 a6 m7 h2 → FM g h2 → (8 - k1).toNat = m9 → av_wp none cd_203 2 [some (.inr (.inr (.inl (some (77))))), some (.inl x), some (.inl y), some (.inl k1)] [] h2 Q := by
    intro m9
    induction m9 using Nat.strongRecOn with
    | _ m9 I11 =>
      intro k1 n5 a6 m7 h2 g13 g8 I3 F4 e12
      refine av_wp_sqF ck_203 2 (pc' := 4) (lv' := [some (.inr (.inr (.inl (some (77))))), some (.inl x), some (.inl y), some (.inl k1)]) (st' := [.inr (.inr (.inl (some (77)))), .inl k1]) (h' := h2) rfl ?_
      refine wq_gr (p' := 7) (ck_203 _ _ rfl) rfl (congrArg Prod.fst (ly_k I3.1.1.1 77 rfl)) rfl (ly_g I3.1.1.1 77 1 79 rfl) ?_
      refine av_wp_sqF ck_203 1 (pc' := 8) (lv' := [some (.inr (.inr (.inl (some (77))))), some (.inl x), some (.inl y), some (.inl k1)]) (st' := [.inl (0), .inr (.inr (.inl (some (79)))), .inl k1]) (h' := h2) rfl ?_
      obtain ⟨v14, e15⟩ : ∃ v, hA h2 79 (Int.toNat ((0))) = v := ⟨_, rfl⟩
      have g16 : 0 ≤ hA h2 79 0 ∧ hA h2 79 0 ≤ 8 := I3.1.1.2.1.2.2.1
      have e15 : hA h2 79 0 = v14 := e15
      rw [e15] at g16
      refine wq_al (p' := 9) (n := 5) (ck_203 _ _ rfl) rfl (ly_k I3.1.1.1 79 rfl) (by omega) (e15) ?_
      refine wq_k2 (p' := 12) (ck_203 _ _ rfl) rfl ⟨by omega, by omega⟩ ⟨by omega, by omega⟩ (fun c17 => ?_) (fun c18 => ?_)
      · have c17 : v14 ≤ k1 := c17
        refine av_wp_sqF ck_203 1 (pc' := 39) (lv' := [some (.inr (.inr (.inl (some (77))))), some (.inl x), some (.inl y), some (.inl k1)]) (st' := [.inl (1)]) (h' := h2) rfl ?_
        refine av_wp_ret (v := some (.inl (1))) (ck_203 _ _ rfl) rfl rfl ?_
        exact hq _ _ _ _ h2 (by omega) I3 F4
      · have c18 : k1 < v14 := c18
        refine av_wp_sqF ck_203 3 (pc' := 15) (lv' := [some (.inr (.inr (.inl (some (77))))), some (.inl x), some (.inl y), some (.inl k1)]) (st' := [.inl y, .inl k1, .inr (.inr (.inl (some (77))))]) (h' := h2) rfl ?_
        refine wq_cv (p' := 18) (av_qc (.invokevirtual 348) 159 2 0 8) 5 cd_159 [.inl y, .inl k1] (77) 8 [some (.inr (.inr (.inl (some (77))))), some (.inl k1), some (.inl y), none, none] (ck_203 _ _ rfl) rfl rfl pp_159 rfl rfl rfl (congrArg Prod.fst (ly_k I3.1.1.1 77 rfl)) rfl rfl rfl rfl ?_
        refine ct_159 I3 F4 (k1) (by omega) (y) (fun h21 I22 F23 => ?_)
        show av_wp _ cd_203 18 [some (.inr (.inr (.inl (some (77))))), some (.inl x), some (.inl y), some (.inl k1)] [] h21 _
        refine av_wp_sqF ck_203 2 (pc' := 20) (lv' := [some (.inr (.inr (.inl (some (77))))), some (.inl x), some (.inl y), some (.inl k1)]) (st' := [.inl x, .inr (.inr (.inl (some (77))))]) (h' := h21) rfl ?_
        refine wq_cv (p' := 23) (av_qc (.invokevirtual 440) 185 1 0 8) 4 cd_185 [.inl x] (77) 8 [some (.inr (.inr (.inl (some (77))))), some (.inl x), none, none] (ck_203 _ _ rfl) rfl rfl pp_185 rfl rfl rfl (congrArg Prod.fst (ly_k I22.1.1.1 77 rfl)) rfl rfl rfl rfl ?_
        refine ct_185 I22 F23 (x) (by omega) (by have z1 := congrFun (F.2.2.2.2.2.2 78 rfl) 0; omega) (fun n29 a30 m31 h26 p25 I27 F28 => ?_)
        have g32 := im_n I27.1.1
        rw [I27.2.1] at g32
        have g33 := im_a I27.1.1
        rw [I27.2.2.1] at g33
        have g34 := im_cm I27.1.1
        rw [I27.2.2.2] at g34
        show av_wp _ cd_203 23 [some (.inr (.inr (.inl (some (77))))), some (.inl x), some (.inl y), some (.inl k1)] [] h26 _
        refine av_wp_sqF ck_203 1 (pc' := 24) (lv' := [some (.inr (.inr (.inl (some (77))))), some (.inl x), some (.inl y), some (.inl k1)]) (st' := [.inr (.inr (.inl (some (77))))]) (h' := h26) rfl ?_
        refine wq_cv (p' := 27) (av_qc (.invokevirtual 437) 184 0 0 8) 2 cd_184 [] (77) 8 [some (.inr (.inr (.inl (some (77))))), none] (ck_203 _ _ rfl) rfl rfl pp_184 rfl rfl rfl (congrArg Prod.fst (ly_k I27.1.1.1 77 rfl)) rfl rfl rfl rfl ?_
        refine ct_184 I27 F28  (fun v35 n40 a41 m42 h37 p36 I38 F39 => ?_)
        have g43 := im_n I38.1.1
        rw [I38.2.1] at g43
        have g44 := im_a I38.1.1
        rw [I38.2.2.1] at g44
        have g45 := im_cm I38.1.1
        rw [I38.2.2.2] at g45
        show av_wp _ cd_203 27 [some (.inr (.inr (.inl (some (77))))), some (.inl x), some (.inl y), some (.inl k1)] [.inl v35] h37 _
        refine wq_k1 (p' := 30) (ck_203 _ _ rfl) rfl ⟨by omega, by omega⟩ (fun c46 => ?_) (fun c47 => ?_)
        · have c46 : v35 ≠ (0) := c46
          refine av_wp_sqF ck_203 2 (pc' := 2) (lv' := [some (.inr (.inr (.inl (some (77))))), some (.inl x), some (.inl y), some (.inl (k1 + (1)))]) (st' := []) (h' := h37) rfl ?_
          exact I11 _ (by omega) ((k1 + (1))) (n40) (a41) (m42) h37 (by omega) (by omega) I38 F39 rfl
        · have c47 : v35 = (0) := c47
          refine av_wp_sqF ck_203 1 (pc' := 31) (lv' := [some (.inr (.inr (.inl (some (77))))), some (.inl x), some (.inl y), some (.inl k1)]) (st' := [.inl (0)]) (h' := h37) rfl ?_
          refine av_wp_ret (v := some (.inl (0))) (ck_203 _ _ rfl) rfl rfl ?_
          exact hq _ _ _ _ h37 (by omega) I38 F39
  exact L10 _ ((0)) (n) (a) (m) h (by omega) (by omega) I F rfl

set_option maxRecDepth 100000 in
set_option maxHeartbeats 4000000 in
theorem ct_204 {g h : av_H} {n a m : Int} (I : IMF n a m h) (F : FM g h) (x : Int) (qx : -2147483648 ≤ x ∧ x ≤ 2147483647) {Q : Option av_V → av_H → Prop} (hq : ∀ (v : Int) n' a' m' h', IMF n' a' m' h' → FM g h' → Q (some (.inl v)) h') : av_wp none cd_204 0 [some (.inr (.inr (.inl (some (77))))), some (.inl x), none, none] [] h Q := by
  have gn := im_n I.1.1
  rw [I.2.1] at gn
  have ga := im_a I.1.1
  rw [I.2.2.1] at ga
  have gm := im_cm I.1.1
  rw [I.2.2.2] at gm
  refine av_wp_sqF ck_204 1 (pc' := 1) (lv' := [some (.inr (.inr (.inl (some (77))))), some (.inl x), none, none]) (st' := [.inr (.inr (.inl (some (77))))]) (h' := h) rfl ?_
  refine wq_gr (p' := 4) (ck_204 _ _ rfl) rfl (congrArg Prod.fst (ly_k I.1.1.1 77 rfl)) rfl (ly_g I.1.1.1 77 1 79 rfl) ?_
  refine av_wp_sqF ck_204 1 (pc' := 5) (lv' := [some (.inr (.inr (.inl (some (77))))), some (.inl x), none, none]) (st' := [.inl (0), .inr (.inr (.inl (some (79))))]) (h' := h) rfl ?_
  obtain ⟨v1, e2⟩ : ∃ v, hA h 79 (Int.toNat ((0))) = v := ⟨_, rfl⟩
  have g3 : 0 ≤ hA h 79 0 ∧ hA h 79 0 ≤ 8 := I.1.1.2.1.2.2.1
  have e2 : hA h 79 0 = v1 := e2
  rw [e2] at g3
  refine wq_al (p' := 6) (n := 5) (ck_204 _ _ rfl) rfl (ly_k I.1.1.1 79 rfl) (by omega) (e2) ?_
  refine wq_k1 (p' := 9) (ck_204 _ _ rfl) rfl ⟨by omega, by omega⟩ (fun c4 => ?_) (fun c5 => ?_)
  · have c4 : v1 = (0) := c4
    refine av_wp_sqF ck_204 1 (pc' := 21) (lv' := [some (.inr (.inr (.inl (some (77))))), some (.inl x), none, none]) (st' := [.inl (-2)]) (h' := h) rfl ?_
    refine av_wp_ret (v := some (.inl (-2))) (ck_204 _ _ rfl) rfl rfl ?_
    exact hq _ _ _ _ h I F
  · have c5 : v1 ≠ (0) := c5
    refine av_wp_sqF ck_204 4 (pc' := 13) (lv' := [some (.inr (.inr (.inl (some (77))))), some (.inl x), none, none]) (st' := [.inl (0), .inl (0), .inl x, .inr (.inr (.inl (some (77))))]) (h' := h) rfl ?_
    refine wq_cv (p' := 16) (av_qc (.invokevirtual 446) 186 3 0 8) 4 cd_186 [.inl (0), .inl (0), .inl x] (77) 8 [some (.inr (.inr (.inl (some (77))))), some (.inl x), some (.inl (0)), some (.inl (0))] (ck_204 _ _ rfl) rfl rfl pp_186 rfl rfl rfl (congrArg Prod.fst (ly_k I.1.1.1 77 rfl)) rfl rfl rfl rfl ?_
    refine ct_186 I F (x) (by omega) ((0)) (by omega) ((0)) (by omega) (fun n10 a11 m12 h6 I7 F8 => ?_) (fun n10 a11 m12 h6 p9 I7 F8 => ?_)
    · have g13 := im_n I7.1.1
      rw [I7.2.1] at g13
      have g14 := im_a I7.1.1
      rw [I7.2.2.1] at g14
      have g15 := im_cm I7.1.1
      rw [I7.2.2.2] at g15
      show av_wp _ cd_204 16 [some (.inr (.inr (.inl (some (77))))), some (.inl x), none, none] [.inl (0)] h6 _
      refine av_wp_sqF ck_204 2 (pc' := 21) (lv' := [some (.inr (.inr (.inl (some (77))))), some (.inl x), none, none]) (st' := [.inl (-2)]) (h' := h6) rfl ?_
      refine av_wp_ret (v := some (.inl (-2))) (ck_204 _ _ rfl) rfl rfl ?_
      exact hq _ _ _ _ h6 I7 F8
    · have g16 := im_n I7.1.1
      rw [I7.2.1] at g16
      have g17 := im_a I7.1.1
      rw [I7.2.2.1] at g17
      have g18 := im_cm I7.1.1
      rw [I7.2.2.2] at g18
      show av_wp _ cd_204 16 [some (.inr (.inr (.inl (some (77))))), some (.inl x), none, none] [.inl (1)] h6 _
      refine av_wp_sqF ck_204 5 (pc' := 26) (lv' := [some (.inr (.inr (.inl (some (77))))), some (.inl x), some (.inl (-1)), some (.inl (0))]) (st' := []) (h' := h6) rfl ?_
      have L29 : ∀ (m28 : Nat) (k19 : Int) (k20 : Int) (n24 : Int) (a25 : Int) (m26 : Int) (h21 : av_H), (0 ≤ k20 ∧ k20 ≤ 64) → (0 ≤ n24 ∧ n24 ≤ 12) ∧ (0 ≤ a25 ∧ a25 ≤ 48) ∧ (0 ≤ m26 ∧ m26 ≤ 1025) → IMF n24 a25 m26 h21 → FM g h21 → (64 - k20).toNat = m28 → av_wp none cd_204 26 [some (.inr (.inr (.inl (some (77))))), some (.inl x), some (.inl k19), some (.inl k20)] [] h21 Q := by
        intro m28
        induction m28 using Nat.strongRecOn with
        | _ m28 I30 =>
          intro k19 k20 n24 a25 m26 h21 g32 g27 I22 F23 e31
          refine av_wp_sqF ck_204 3 (pc' := 29) (lv' := [some (.inr (.inr (.inl (some (77))))), some (.inl x), some (.inl k19), some (.inl k20)]) (st' := [.inr (.inr (.inl (some (77)))), .inl (1), .inl k20]) (h' := h21) rfl ?_
          refine wq_gr (p' := 32) (ck_204 _ _ rfl) rfl (congrArg Prod.fst (ly_k I22.1.1.1 77 rfl)) rfl (ly_g I22.1.1.1 77 2 80 rfl) ?_
          refine av_wp_sqF ck_204 1 (pc' := 33) (lv' := [some (.inr (.inr (.inl (some (77))))), some (.inl x), some (.inl k19), some (.inl k20)]) (st' := [.inl (0), .inr (.inr (.inl (some (80)))), .inl (1), .inl k20]) (h' := h21) rfl ?_
          obtain ⟨v33, e34⟩ : ∃ v, hA h21 80 (Int.toNat ((0))) = v := ⟨_, rfl⟩
          have g35 : 0 ≤ hA h21 80 0 ∧ hA h21 80 0 ≤ 6 := I22.1.1.2.1.2.2.2.1
          have e34 : hA h21 80 0 = v33 := e34
          rw [e34] at g35
          refine wq_al (p' := 34) (n := 5) (ck_204 _ _ rfl) rfl (ly_k I22.1.1.1 80 rfl) (by omega) (e34) ?_
          refine av_wp_sqF ck_204 1 (pc' := 35) (lv' := [some (.inr (.inr (.inl (some (77))))), some (.inl x), some (.inl k19), some (.inl k20)]) (st' := [.inl (av_shl (1) v33), .inl k20]) (h' := h21) rfl ?_
          have g38 := shl_le (n := v33) (by omega)
          generalize av_shl (1) v33 = v36 at g38 ⊢
          refine wq_k2 (p' := 38) (ck_204 _ _ rfl) rfl ⟨by omega, by omega⟩ ⟨by omega, by omega⟩ (fun c39 => ?_) (fun c40 => ?_)
          · have c39 : v36 ≤ k20 := c39
            refine av_wp_sqF ck_204 1 (pc' := 71) (lv' := [some (.inr (.inr (.inl (some (77))))), some (.inl x), some (.inl k19), some (.inl k20)]) (st' := [.inl k19]) (h' := h21) rfl ?_
            refine av_wp_ret (v := some (.inl k19)) (ck_204 _ _ rfl) rfl rfl ?_
            exact hq _ _ _ _ h21 I22 F23
          · have c40 : k20 < v36 := c40
            refine av_wp_sqF ck_204 1 (pc' := 39) (lv' := [some (.inr (.inr (.inl (some (77))))), some (.inl x), some (.inl k19), some (.inl k20)]) (st' := [.inl k19]) (h' := h21) rfl ?_
            refine wq_c1 (p' := 42) (ck_204 _ _ rfl) rfl ?_ ?_
            · refine av_wp_sqF ck_204 3 (pc' := 56) (lv' := [some (.inr (.inr (.inl (some (77))))), some (.inl x), some (.inl k19), some (.inl k20)]) (st' := [.inl k20, .inl x, .inr (.inr (.inl (some (77))))]) (h' := h21) rfl ?_
              refine wq_cv (p' := 59) (av_qc (.invokevirtual 470) 203 2 0 8) 4 cd_203 [.inl k20, .inl x] (77) 8 [some (.inr (.inr (.inl (some (77))))), some (.inl x), some (.inl k20), none] (ck_204 _ _ rfl) rfl rfl pp_203 rfl rfl rfl (congrArg Prod.fst (ly_k I22.1.1.1 77 rfl)) rfl rfl rfl rfl ?_
              refine ct_203 I22 F23 (x) (by omega) (k20) (by have z1 := congrFun (F.2.2.2.2.2.2 78 rfl) 0; omega) (fun v41 n46 a47 m48 h43 p42 I44 F45 => ?_)
              have g49 := im_n I44.1.1
              rw [I44.2.1] at g49
              have g50 := im_a I44.1.1
              rw [I44.2.2.1] at g50
              have g51 := im_cm I44.1.1
              rw [I44.2.2.2] at g51
              show av_wp _ cd_204 59 [some (.inr (.inr (.inl (some (77))))), some (.inl x), some (.inl k19), some (.inl k20)] [.inl v41] h43 _
              refine wq_k1 (p' := 62) (ck_204 _ _ rfl) rfl ⟨by omega, by omega⟩ (fun c52 => ?_) (fun c53 => ?_)
              · have c52 : v41 = (0) := c52
                refine av_wp_sqF ck_204 2 (pc' := 26) (lv' := [some (.inr (.inr (.inl (some (77))))), some (.inl x), some (.inl k19), some (.inl (k20 + (1)))]) (st' := []) (h' := h43) rfl ?_
                exact I30 _ (by omega) (k19) ((k20 + (1))) (n46) (a47) (m48) h43 (by omega) (by omega) I44 F45 rfl
              · have c53 : v41 ≠ (0) := c53
                refine av_wp_sqF ck_204 4 (pc' := 26) (lv' := [some (.inr (.inr (.inl (some (77))))), some (.inl x), some (.inl k20), some (.inl (k20 + (1)))]) (st' := []) (h' := h43) rfl ?_
                exact I30 _ (by omega) (k20) ((k20 + (1))) (n46) (a47) (m48) h43 (by omega) (by omega) I44 F45 rfl
            · refine av_wp_sqF ck_204 1 (pc' := 43) (lv' := [some (.inr (.inr (.inl (some (77))))), some (.inl x), some (.inl k19), some (.inl k20)]) (st' := [.inl k20]) (h' := h21) rfl ?_
              refine wq_cs (p' := 46) (av_qc (.invokestatic 455) 194 1 2 8) 3 cd_194 [.inl k20] [.inl k20] [some (.inl k20), none, none] (ck_204 _ _ rfl) rfl rfl pp_194 (fun _ => rfl) rfl rfl ?_
              refine ct_194 (g := h) (k20) (fun v54 => ?_)
              show av_wp _ cd_204 46 [some (.inr (.inr (.inl (some (77))))), some (.inl x), some (.inl k19), some (.inl k20)] [.inl v54] h21 _
              refine av_wp_sqF ck_204 1 (pc' := 47) (lv' := [some (.inr (.inr (.inl (some (77))))), some (.inl x), some (.inl k19), some (.inl k20)]) (st' := [.inl k19, .inl v54]) (h' := h21) rfl ?_
              refine wq_cs (p' := 50) (av_qc (.invokestatic 455) 194 1 2 8) 3 cd_194 [.inl k19] [.inl k19, .inl v54] [some (.inl k19), none, none] (ck_204 _ _ rfl) rfl rfl pp_194 (fun _ => rfl) rfl rfl ?_
              refine ct_194 (g := h) (k19) (fun v55 => ?_)
              show av_wp _ cd_204 50 [some (.inr (.inr (.inl (some (77))))), some (.inl x), some (.inl k19), some (.inl k20)] [.inl v55, .inl v54] h21 _
              refine wq_c2 (p' := 53) (ck_204 _ _ rfl) rfl ?_ ?_
              · refine av_wp_sqF ck_204 2 (pc' := 26) (lv' := [some (.inr (.inr (.inl (some (77))))), some (.inl x), some (.inl k19), some (.inl (k20 + (1)))]) (st' := []) (h' := h21) rfl ?_
                exact I30 _ (by omega) (k19) ((k20 + (1))) (n24) (a25) (m26) h21 (by omega) (by omega) I22 F23 rfl
              · refine av_wp_sqF ck_204 3 (pc' := 56) (lv' := [some (.inr (.inr (.inl (some (77))))), some (.inl x), some (.inl k19), some (.inl k20)]) (st' := [.inl k20, .inl x, .inr (.inr (.inl (some (77))))]) (h' := h21) rfl ?_
                refine wq_cv (p' := 59) (av_qc (.invokevirtual 470) 203 2 0 8) 4 cd_203 [.inl k20, .inl x] (77) 8 [some (.inr (.inr (.inl (some (77))))), some (.inl x), some (.inl k20), none] (ck_204 _ _ rfl) rfl rfl pp_203 rfl rfl rfl (congrArg Prod.fst (ly_k I22.1.1.1 77 rfl)) rfl rfl rfl rfl ?_
                refine ct_203 I22 F23 (x) (by omega) (k20) (by have z1 := congrFun (F.2.2.2.2.2.2 78 rfl) 0; omega) (fun v56 n61 a62 m63 h58 p57 I59 F60 => ?_)
                have g64 := im_n I59.1.1
                rw [I59.2.1] at g64
                have g65 := im_a I59.1.1
                rw [I59.2.2.1] at g65
                have g66 := im_cm I59.1.1
                rw [I59.2.2.2] at g66
                show av_wp _ cd_204 59 [some (.inr (.inr (.inl (some (77))))), some (.inl x), some (.inl k19), some (.inl k20)] [.inl v56] h58 _
                refine wq_k1 (p' := 62) (ck_204 _ _ rfl) rfl ⟨by omega, by omega⟩ (fun c67 => ?_) (fun c68 => ?_)
                · have c67 : v56 = (0) := c67
                  refine av_wp_sqF ck_204 2 (pc' := 26) (lv' := [some (.inr (.inr (.inl (some (77))))), some (.inl x), some (.inl k19), some (.inl (k20 + (1)))]) (st' := []) (h' := h58) rfl ?_
                  exact I30 _ (by omega) (k19) ((k20 + (1))) (n61) (a62) (m63) h58 (by omega) (by omega) I59 F60 rfl
                · have c68 : v56 ≠ (0) := c68
                  refine av_wp_sqF ck_204 4 (pc' := 26) (lv' := [some (.inr (.inr (.inl (some (77))))), some (.inl x), some (.inl k20), some (.inl (k20 + (1)))]) (st' := []) (h' := h58) rfl ?_
                  exact I30 _ (by omega) (k20) ((k20 + (1))) (n61) (a62) (m63) h58 (by omega) (by omega) I59 F60 rfl
      exact L29 _ ((-1)) ((0)) (n10) (a11) (m12) h6 (by omega) (by omega) I7 F8 rfl

set_option maxRecDepth 100000 in
set_option maxHeartbeats 4000000 in
theorem ct_205 {g h : av_H} {n a m : Int} (I : IMF n a m h) (F : FM g h) (x : Int) (qx : -2147483648 ≤ x ∧ x ≤ 2147483647) (l : Int) (ql : -2147483648 ≤ l ∧ l ≤ 2147483647) (y : Int) (qy : -2147483648 ≤ y ∧ y ≤ 2147483647) (k : Int) (qk : -2147483648 ≤ k ∧ k ≤ 2147483647) {Q : Option av_V → av_H → Prop} (hq : ∀ (v : Int) n' a' m' h', IMF n' a' m' h' → FM g h' → Q (some (.inl v)) h') : av_wp none cd_205 0 [some (.inr (.inr (.inl (some (77))))), some (.inl x), some (.inl l), some (.inl y), some (.inl k), none, none, none, none] [] h Q := by
  have gn := im_n I.1.1
  rw [I.2.1] at gn
  have ga := im_a I.1.1
  rw [I.2.2.1] at ga
  have gm := im_cm I.1.1
  rw [I.2.2.2] at gm
  refine av_wp_sqF ck_205 4 (pc' := 4) (lv' := [some (.inr (.inr (.inl (some (77))))), some (.inl x), some (.inl l), some (.inl y), some (.inl k), none, none, none, none]) (st' := [.inl y, .inl l, .inl x, .inr (.inr (.inl (some (77))))]) (h' := h) rfl ?_
  refine wq_cv (p' := 7) (av_qc (.invokevirtual 446) 186 3 0 8) 4 cd_186 [.inl y, .inl l, .inl x] (77) 8 [some (.inr (.inr (.inl (some (77))))), some (.inl x), some (.inl l), some (.inl y)] (ck_205 _ _ rfl) rfl rfl pp_186 rfl rfl rfl (congrArg Prod.fst (ly_k I.1.1.1 77 rfl)) rfl rfl rfl rfl ?_
  refine ct_186 I F (x) (by omega) (l) (by omega) (y) (by omega) (fun n5 a6 m7 h1 I2 F3 => ?_) (fun n5 a6 m7 h1 p4 I2 F3 => ?_)
  · have g8 := im_n I2.1.1
    rw [I2.2.1] at g8
    have g9 := im_a I2.1.1
    rw [I2.2.2.1] at g9
    have g10 := im_cm I2.1.1
    rw [I2.2.2.2] at g10
    show av_wp _ cd_205 7 [some (.inr (.inr (.inl (some (77))))), some (.inl x), some (.inl l), some (.inl y), some (.inl k), none, none, none, none] [.inl (0)] h1 _
    refine av_wp_sqF ck_205 2 (pc' := 26) (lv' := [some (.inr (.inr (.inl (some (77))))), some (.inl x), some (.inl l), some (.inl y), some (.inl k), none, none, none, none]) (st' := [.inl (-2)]) (h' := h1) rfl ?_
    refine av_wp_ret (v := some (.inl (-2))) (ck_205 _ _ rfl) rfl rfl ?_
    exact hq _ _ _ _ h1 I2 F3
  · have g11 := im_n I2.1.1
    rw [I2.2.1] at g11
    have g12 := im_a I2.1.1
    rw [I2.2.2.1] at g12
    have g13 := im_cm I2.1.1
    rw [I2.2.2.2] at g13
    show av_wp _ cd_205 7 [some (.inr (.inr (.inl (some (77))))), some (.inl x), some (.inl l), some (.inl y), some (.inl k), none, none, none, none] [.inl (1)] h1 _
    refine av_wp_sqF ck_205 2 (pc' := 12) (lv' := [some (.inr (.inr (.inl (some (77))))), some (.inl x), some (.inl l), some (.inl y), some (.inl k), none, none, none, none]) (st' := [.inl k]) (h' := h1) rfl ?_
    refine wq_k1 (p' := 15) (ck_205 _ _ rfl) rfl ⟨by omega, by omega⟩ (fun c14 => ?_) (fun c15 => ?_)
    · have c14 : k < (0) := c14
      refine av_wp_sqF ck_205 1 (pc' := 26) (lv' := [some (.inr (.inr (.inl (some (77))))), some (.inl x), some (.inl l), some (.inl y), some (.inl k), none, none, none, none]) (st' := [.inl (-2)]) (h' := h1) rfl ?_
      refine av_wp_ret (v := some (.inl (-2))) (ck_205 _ _ rfl) rfl rfl ?_
      exact hq _ _ _ _ h1 I2 F3
    · have c15 : (0) ≤ k := c15
      refine av_wp_sqF ck_205 2 (pc' := 18) (lv' := [some (.inr (.inr (.inl (some (77))))), some (.inl x), some (.inl l), some (.inl y), some (.inl k), none, none, none, none]) (st' := [.inr (.inr (.inl (some (77)))), .inl k]) (h' := h1) rfl ?_
      refine wq_gi (p' := 21) (ck_205 _ _ rfl) rfl (congrArg Prod.fst (ly_k I2.1.1.1 77 rfl)) rfl (I2.2.1) ?_
      refine wq_k2 (p' := 24) (ck_205 _ _ rfl) rfl ⟨by omega, by omega⟩ ⟨by omega, by omega⟩ (fun c16 => ?_) (fun c17 => ?_)
      · have c16 : k < n5 := c16
        refine av_wp_sqF ck_205 2 (pc' := 30) (lv' := [some (.inr (.inr (.inl (some (77))))), some (.inl x), some (.inl l), some (.inl y), some (.inl k), none, none, none, none]) (st' := [.inl k, .inr (.inr (.inl (some (77))))]) (h' := h1) rfl ?_
        refine wq_cv (p' := 33) (av_qc (.invokevirtual 369) 168 1 0 8) 2 cd_168 [.inl k] (77) 8 [some (.inr (.inr (.inl (some (77))))), some (.inl k)] (ck_205 _ _ rfl) rfl rfl pp_168 rfl rfl rfl (congrArg Prod.fst (ly_k I2.1.1.1 77 rfl)) rfl rfl rfl rfl ?_
        refine ct_168 I2 F3 (k) (by omega) (fun v18 p19 => ?_)
        show av_wp _ cd_205 33 [some (.inr (.inr (.inl (some (77))))), some (.inl x), some (.inl l), some (.inl y), some (.inl k), none, none, none, none] [.inl v18] h1 _
        have J22 : ∀ (j20 : Int), (0 ≤ j20 ∧ j20 ≤ 1) →  av_wp none cd_205 51 [some (.inr (.inr (.inl (some (77))))), some (.inl x), some (.inl l), some (.inl y), some (.inl k), none, none, none, none] [.inl j20] h1 Q := by
          intro j20 g21
          refine av_wp_sqF ck_205 2 (pc' := 54) (lv' := [some (.inr (.inr (.inl (some (77))))), some (.inl x), some (.inl l), some (.inl y), some (.inl k), some (.inl j20), none, none, none]) (st' := [.inr (.inr (.inl (some (77))))]) (h' := h1) rfl ?_
          refine wq_gr (p' := 57) (ck_205 _ _ rfl) rfl (congrArg Prod.fst (ly_k I2.1.1.1 77 rfl)) rfl (ly_g I2.1.1.1 77 34 100 rfl) ?_
          refine av_wp_sqF ck_205 1 (pc' := 59) (lv' := [some (.inr (.inr (.inl (some (77))))), some (.inl x), some (.inl l), some (.inl y), some (.inl k), some (.inl j20), none, none, none]) (st' := [.inl k, .inr (.inr (.inl (some (100))))]) (h' := h1) rfl ?_
          obtain ⟨v23, e24⟩ : ∃ v, hA h1 100 (Int.toNat (k)) = v := ⟨_, rfl⟩
          have g25 : -1 ≤ hA h1 100 (Int.toNat (k)) ∧ hA h1 100 (Int.toNat (k)) ≤ 11 := im_w I2.1.1 100 (by decide) (by decide) _
          rw [e24] at g25
          have w26 := im_wr I2.1 (Int.toNat (k)) (by omega)
          rw [e24] at w26
          refine wq_al (p' := 60) (n := 12) (ck_205 _ _ rfl) rfl (ly_k I2.1.1.1 100 rfl) (by omega) (e24) ?_
          refine av_wp_sqF ck_205 2 (pc' := 64) (lv' := [some (.inr (.inr (.inl (some (77))))), some (.inl x), some (.inl l), some (.inl y), some (.inl k), some (.inl j20), some (.inl v23), none, none]) (st' := [.inl v23]) (h' := h1) rfl ?_
          have J32 : ∀ (j27 : Int) (a28 : Option av_V) (a29 : Option av_V), av_lg a28 = false → av_lg a29 = false →  av_wp none cd_205 182 [some (.inr (.inr (.inl (some (77))))), some (.inl x), some (.inl l), some (.inl y), some (.inl k), some (.inl j27), some (.inl v23), a28, a29] [] h1 Q := by
            intro j27 a28 a29 g30 g31
            have la28 := g30
            have la29 := g31
            refine av_wp_sqF ck_205 2 (pc' := 185) (lv' := [some (.inr (.inr (.inl (some (77))))), some (.inl x), some (.inl l), some (.inl y), some (.inl k), some (.inl j27), some (.inl v23), a28, a29]) (st' := [.inr (.inr (.inl (some (77)))), .inl j27]) (h' := h1) rfl ?_
            obtain ⟨v33, e34⟩ : ∃ v, hF h1 77 50 = v := ⟨_, rfl⟩
            have g35 := im_has I2.1.1
            rw [e34] at g35
            refine wq_gb (p' := 188) (ck_205 _ _ rfl) rfl (congrArg Prod.fst (ly_k I2.1.1.1 77 rfl)) rfl (e34) ?_
            have J38 : ∀ (j36 : Int), (0 ≤ j36 ∧ j36 ≤ 4) →  av_wp none cd_205 205 [some (.inr (.inr (.inl (some (77))))), some (.inl x), some (.inl l), some (.inl y), some (.inl k), some (.inl j27), some (.inl v23), a28, a29] [.inl j36, .inl j27] h1 Q := by
              intro j36 g37
              refine av_wp_sqF ck_205 3 (pc' := 209) (lv' := [some (.inr (.inr (.inl (some (77))))), some (.inl x), some (.inl l), some (.inl y), some (.inl k), some (.inl (av_or j27 j36)), some (.inl v23), a28, a29]) (st' := [.inr (.inr (.inl (some (77))))]) (h' := h1) rfl ?_
              refine wq_gr (p' := 212) (ck_205 _ _ rfl) rfl (congrArg Prod.fst (ly_k I2.1.1.1 77 rfl)) rfl (ly_g I2.1.1.1 77 30 96 rfl) ?_
              refine av_wp_sqF ck_205 1 (pc' := 214) (lv' := [some (.inr (.inr (.inl (some (77))))), some (.inl x), some (.inl l), some (.inl y), some (.inl k), some (.inl (av_or j27 j36)), some (.inl v23), a28, a29]) (st' := [.inl k, .inr (.inr (.inl (some (96))))]) (h' := h1) rfl ?_
              obtain ⟨v39, e40⟩ : ∃ v, hA h1 96 (Int.toNat (k)) = v := ⟨_, rfl⟩
              have g41 : 0 ≤ hA h1 96 (Int.toNat (k)) ∧ hA h1 96 (Int.toNat (k)) ≤ 7 := im_w I2.1.1 96 (by decide) (by decide) _
              rw [e40] at g41
              refine wq_al (p' := 215) (n := 12) (ck_205 _ _ rfl) rfl (ly_k I2.1.1.1 96 rfl) (by omega) (e40) ?_
              refine av_wp_sqF ck_205 1 (pc' := 216) (lv' := [some (.inr (.inr (.inl (some (77))))), some (.inl x), some (.inl l), some (.inl y), some (.inl k), some (.inl (av_or j27 j36)), some (.inl v23), a28, a29]) (st' := [.inl (5), .inl v39]) (h' := h1) rfl ?_
              refine wq_k2 (p' := 219) (ck_205 _ _ rfl) rfl ⟨by omega, by omega⟩ ⟨by omega, by omega⟩ (fun c42 => ?_) (fun c43 => ?_)
              · have c42 : v39 ≠ (5) := c42
                refine av_wp_sqF ck_205 1 (pc' := 271) (lv' := [some (.inr (.inr (.inl (some (77))))), some (.inl x), some (.inl l), some (.inl y), some (.inl k), some (.inl (av_or j27 j36)), some (.inl v23), a28, a29]) (st' := [.inl (av_or j27 j36)]) (h' := h1) rfl ?_
                refine av_wp_ret (v := some (.inl (av_or j27 j36))) (ck_205 _ _ rfl) rfl rfl ?_
                exact hq _ _ _ _ h1 I2 F3
              · have c43 : v39 = (5) := c43
                refine av_wp_sqF ck_205 2 (pc' := 222) (lv' := [some (.inr (.inr (.inl (some (77))))), some (.inl x), some (.inl l), some (.inl y), some (.inl k), some (.inl (av_or j27 j36)), some (.inl v23), a28, a29]) (st' := [.inl v23, .inr (.inr (.inl (some (77))))]) (h' := h1) rfl ?_
                refine wq_cv (p' := 225) (av_qc (.invokevirtual 393) 170 1 0 8) 2 cd_170 [.inl v23] (77) 8 [some (.inr (.inr (.inl (some (77))))), some (.inl v23)] (ck_205 _ _ rfl) rfl rfl pp_170 rfl rfl rfl (congrArg Prod.fst (ly_k I2.1.1.1 77 rfl)) rfl rfl rfl rfl ?_
                refine ct_170 I2 F3 (v23) (by omega) (fun v44 p45 => ?_)
                show av_wp _ cd_205 225 [some (.inr (.inr (.inl (some (77))))), some (.inl x), some (.inl l), some (.inl y), some (.inl k), some (.inl (av_or j27 j36)), some (.inl v23), a28, a29] [.inl v44] h1 _
                refine wq_k1 (p' := 228) (ck_205 _ _ rfl) rfl ⟨by omega, by omega⟩ (fun c46 => ?_) (fun c47 => ?_)
                · have c46 : v44 = (0) := c46
                  refine av_wp_sqF ck_205 1 (pc' := 271) (lv' := [some (.inr (.inr (.inl (some (77))))), some (.inl x), some (.inl l), some (.inl y), some (.inl k), some (.inl (av_or j27 j36)), some (.inl v23), a28, a29]) (st' := [.inl (av_or j27 j36)]) (h' := h1) rfl ?_
                  refine av_wp_ret (v := some (.inl (av_or j27 j36))) (ck_205 _ _ rfl) rfl rfl ?_
                  exact hq _ _ _ _ h1 I2 F3
                · have c47 : v44 ≠ (0) := c47
                  refine av_wp_sqF ck_205 3 (pc' := 232) (lv' := [some (.inr (.inr (.inl (some (77))))), some (.inl x), some (.inl l), some (.inl y), some (.inl k), some (.inl (av_or j27 j36)), some (.inl v23), a28, a29]) (st' := [.inr (.inr (.inl (some (77)))), .inl k, .inr (.inr (.inl (some (77))))]) (h' := h1) rfl ?_
                  refine wq_gr (p' := 235) (ck_205 _ _ rfl) rfl (congrArg Prod.fst (ly_k I2.1.1.1 77 rfl)) rfl (ly_g I2.1.1.1 77 26 95 rfl) ?_
                  refine av_wp_sqF ck_205 1 (pc' := 236) (lv' := [some (.inr (.inr (.inl (some (77))))), some (.inl x), some (.inl l), some (.inl y), some (.inl k), some (.inl (av_or j27 j36)), some (.inl v23), a28, a29]) (st' := [.inl (4), .inr (.inr (.inl (some (95)))), .inl k, .inr (.inr (.inl (some (77))))]) (h' := h1) rfl ?_
                  obtain ⟨v48, e49⟩ : ∃ v, hA h1 95 (Int.toNat ((4))) = v := ⟨_, rfl⟩
                  refine wq_al (p' := 237) (n := 13) (ck_205 _ _ rfl) rfl (ly_k I2.1.1.1 95 rfl) (by omega) (e49) ?_
                  refine wq_cv (p' := 240) (av_qc (.invokevirtual 363) 166 2 0 8) 3 cd_166 [.inl v48, .inl k] (77) 8 [some (.inr (.inr (.inl (some (77))))), some (.inl k), some (.inl v48)] (ck_205 _ _ rfl) rfl rfl pp_166 rfl rfl rfl (congrArg Prod.fst (ly_k I2.1.1.1 77 rfl)) rfl rfl rfl rfl ?_
                  refine ct_166 I2 F3 (k) (by omega) (v48) (fun v51 => ?_)
                  show av_wp _ cd_205 240 [some (.inr (.inr (.inl (some (77))))), some (.inl x), some (.inl l), some (.inl y), some (.inl k), some (.inl (av_or j27 j36)), some (.inl v23), a28, a29] [.inl v51] h1 _
                  refine av_wp_sqF ck_205 3 (pc' := 246) (lv' := [some (.inr (.inr (.inl (some (77))))), some (.inl x), some (.inl l), some (.inl y), some (.inl k), some (.inl (av_or j27 j36)), some (.inl v23), some (.inl v51), a29]) (st' := [.inl v51, .inl (av_or j27 j36)]) (h' := h1) rfl ?_
                  refine wq_c1 (p' := 249) (ck_205 _ _ rfl) rfl ?_ ?_
                  · refine av_wp_sqF ck_205 4 (pc' := 271) (lv' := [some (.inr (.inr (.inl (some (77))))), some (.inl x), some (.inl l), some (.inl y), some (.inl k), some (.inl (av_or (av_or j27 j36) (0))), some (.inl v23), some (.inl v51), a29]) (st' := [.inl (av_or (av_or j27 j36) (0))]) (h' := h1) rfl ?_
                    refine av_wp_ret (v := some (.inl (av_or (av_or j27 j36) (0)))) (ck_205 _ _ rfl) rfl rfl ?_
                    exact hq _ _ _ _ h1 I2 F3
                  · refine av_wp_sqF ck_205 3 (pc' := 254) (lv' := [some (.inr (.inr (.inl (some (77))))), some (.inl x), some (.inl l), some (.inl y), some (.inl k), some (.inl (av_or j27 j36)), some (.inl v23), some (.inl v51), a29]) (st' := [.inl v23, .inr (.inr (.inl (some (77)))), .inl v51, .inl (av_or j27 j36)]) (h' := h1) rfl ?_
                    refine wq_cv (p' := 257) (av_qc (.invokevirtual 396) 176 1 0 8) 2 cd_176 [.inl v23] (77) 8 [some (.inr (.inr (.inl (some (77))))), some (.inl v23)] (ck_205 _ _ rfl) rfl rfl pp_176 rfl rfl rfl (congrArg Prod.fst (ly_k I2.1.1.1 77 rfl)) rfl rfl rfl rfl ?_
                    refine ct_176 I2 F3 (v23) (by omega) (fun v53 => ?_)
                    show av_wp _ cd_205 257 [some (.inr (.inr (.inl (some (77))))), some (.inl x), some (.inl l), some (.inl y), some (.inl k), some (.inl (av_or j27 j36)), some (.inl v23), some (.inl v51), a29] [.inl v53, .inl v51, .inl (av_or j27 j36)] h1 _
                    refine wq_c2 (p' := 260) (ck_205 _ _ rfl) rfl ?_ ?_
                    · refine av_wp_sqF ck_205 4 (pc' := 271) (lv' := [some (.inr (.inr (.inl (some (77))))), some (.inl x), some (.inl l), some (.inl y), some (.inl k), some (.inl (av_or (av_or j27 j36) (0))), some (.inl v23), some (.inl v51), a29]) (st' := [.inl (av_or (av_or j27 j36) (0))]) (h' := h1) rfl ?_
                      refine av_wp_ret (v := some (.inl (av_or (av_or j27 j36) (0)))) (ck_205 _ _ rfl) rfl rfl ?_
                      exact hq _ _ _ _ h1 I2 F3
                    · refine av_wp_sqF ck_205 5 (pc' := 271) (lv' := [some (.inr (.inr (.inl (some (77))))), some (.inl x), some (.inl l), some (.inl y), some (.inl k), some (.inl (av_or (av_or j27 j36) (8))), some (.inl v23), some (.inl v51), a29]) (st' := [.inl (av_or (av_or j27 j36) (8))]) (h' := h1) rfl ?_
                      refine av_wp_ret (v := some (.inl (av_or (av_or j27 j36) (8)))) (ck_205 _ _ rfl) rfl rfl ?_
                      exact hq _ _ _ _ h1 I2 F3
            refine wq_k1 (p' := 191) (ck_205 _ _ rfl) rfl ⟨by omega, by omega⟩ (fun c55 => ?_) (fun c56 => ?_)
            · have c55 : v33 = (0) := c55
              refine av_wp_sqF ck_205 1 (pc' := 205) (lv' := [some (.inr (.inr (.inl (some (77))))), some (.inl x), some (.inl l), some (.inl y), some (.inl k), some (.inl j27), some (.inl v23), a28, a29]) (st' := [.inl (0), .inl j27]) (h' := h1) rfl ?_
              exact J38 ((0)) (by omega)
            · have c56 : v33 ≠ (0) := c56
              refine av_wp_sqF ck_205 1 (pc' := 192) (lv' := [some (.inr (.inr (.inl (some (77))))), some (.inl x), some (.inl l), some (.inl y), some (.inl k), some (.inl j27), some (.inl v23), a28, a29]) (st' := [.inr (.inr (.inl (some (77)))), .inl j27]) (h' := h1) rfl ?_
              obtain ⟨v57, e58⟩ : ∃ v, hF h1 77 51 = v := ⟨_, rfl⟩
              have g59 := im_by I2.1.1
              rw [e58] at g59
              refine wq_gi (p' := 195) (ck_205 _ _ rfl) rfl (congrArg Prod.fst (ly_k I2.1.1.1 77 rfl)) rfl (e58) ?_
              refine av_wp_sqF ck_205 1 (pc' := 197) (lv' := [some (.inr (.inr (.inl (some (77))))), some (.inl x), some (.inl l), some (.inl y), some (.inl k), some (.inl j27), some (.inl v23), a28, a29]) (st' := [.inl k, .inl v57, .inl j27]) (h' := h1) rfl ?_
              refine wq_k2 (p' := 200) (ck_205 _ _ rfl) rfl ⟨by omega, by omega⟩ ⟨by omega, by omega⟩ (fun c60 => ?_) (fun c61 => ?_)
              · have c60 : v57 ≠ k := c60
                refine av_wp_sqF ck_205 1 (pc' := 205) (lv' := [some (.inr (.inr (.inl (some (77))))), some (.inl x), some (.inl l), some (.inl y), some (.inl k), some (.inl j27), some (.inl v23), a28, a29]) (st' := [.inl (0), .inl j27]) (h' := h1) rfl ?_
                exact J38 ((0)) (by omega)
              · have c61 : v57 = k := c61
                refine av_wp_sqF ck_205 2 (pc' := 205) (lv' := [some (.inr (.inr (.inl (some (77))))), some (.inl x), some (.inl l), some (.inl y), some (.inl k), some (.inl j27), some (.inl v23), a28, a29]) (st' := [.inl (4), .inl j27]) (h' := h1) rfl ?_
                exact J38 ((4)) (by omega)
          refine wq_k1 (p' := 67) (ck_205 _ _ rfl) rfl ⟨by omega, by omega⟩ (fun c62 => ?_) (fun c63 => ?_)
          · have c62 : v23 < (0) := c62
            exact J32 (j20) (none) (none) rfl rfl
          · have c63 : (0) ≤ v23 := c63
            refine av_wp_sqF ck_205 2 (pc' := 70) (lv' := [some (.inr (.inr (.inl (some (77))))), some (.inl x), some (.inl l), some (.inl y), some (.inl k), some (.inl j20), some (.inl v23), none, none]) (st' := [.inl v23, .inr (.inr (.inl (some (77))))]) (h' := h1) rfl ?_
            refine wq_cv (p' := 73) (av_qc (.invokevirtual 369) 168 1 0 8) 2 cd_168 [.inl v23] (77) 8 [some (.inr (.inr (.inl (some (77))))), some (.inl v23)] (ck_205 _ _ rfl) rfl rfl pp_168 rfl rfl rfl (congrArg Prod.fst (ly_k I2.1.1.1 77 rfl)) rfl rfl rfl rfl ?_
            refine ct_168 I2 F3 (v23) (by omega) (fun v64 p65 => ?_)
            show av_wp _ cd_205 73 [some (.inr (.inr (.inl (some (77))))), some (.inl x), some (.inl l), some (.inl y), some (.inl k), some (.inl j20), some (.inl v23), none, none] [.inl v64] h1 _
            refine wq_k1 (p' := 76) (ck_205 _ _ rfl) rfl ⟨by omega, by omega⟩ (fun c66 => ?_) (fun c67 => ?_)
            · have c66 : v64 = (0) := c66
              exact J32 (j20) (none) (none) rfl rfl
            · have c67 : v64 ≠ (0) := c67
              refine av_wp_sqF ck_205 1 (pc' := 77) (lv' := [some (.inr (.inr (.inl (some (77))))), some (.inl x), some (.inl l), some (.inl y), some (.inl k), some (.inl j20), some (.inl v23), none, none]) (st' := [.inr (.inr (.inl (some (77))))]) (h' := h1) rfl ?_
              refine wq_gr (p' := 80) (ck_205 _ _ rfl) rfl (congrArg Prod.fst (ly_k I2.1.1.1 77 rfl)) rfl (ly_g I2.1.1.1 77 49 115 rfl) ?_
              refine av_wp_sqF ck_205 1 (pc' := 82) (lv' := [some (.inr (.inr (.inl (some (77))))), some (.inl x), some (.inl l), some (.inl y), some (.inl k), some (.inl j20), some (.inl v23), none, none]) (st' := [.inl v23, .inr (.inr (.inl (some (115))))]) (h' := h1) rfl ?_
              obtain ⟨v68, e69⟩ : ∃ v, hA h1 115 (Int.toNat (v23)) = v := ⟨_, rfl⟩
              refine wq_al (p' := 83) (n := 12) (ck_205 _ _ rfl) rfl (ly_k I2.1.1.1 115 rfl) (by omega) (e69) ?_
              refine wq_c1 (p' := 86) (ck_205 _ _ rfl) rfl ?_ ?_
              · exact J32 (j20) (none) (none) rfl rfl
              · refine av_wp_sqF ck_205 1 (pc' := 87) (lv' := [some (.inr (.inr (.inl (some (77))))), some (.inl x), some (.inl l), some (.inl y), some (.inl k), some (.inl j20), some (.inl v23), none, none]) (st' := [.inr (.inr (.inl (some (77))))]) (h' := h1) rfl ?_
                refine wq_gr (p' := 90) (ck_205 _ _ rfl) rfl (congrArg Prod.fst (ly_k I2.1.1.1 77 rfl)) rfl (ly_g I2.1.1.1 77 49 115 rfl) ?_
                refine av_wp_sqF ck_205 1 (pc' := 92) (lv' := [some (.inr (.inr (.inl (some (77))))), some (.inl x), some (.inl l), some (.inl y), some (.inl k), some (.inl j20), some (.inl v23), none, none]) (st' := [.inl v23, .inr (.inr (.inl (some (115))))]) (h' := h1) rfl ?_
                obtain ⟨v71, e72⟩ : ∃ v, hA h1 115 (Int.toNat (v23)) = v := ⟨_, rfl⟩
                refine wq_al (p' := 93) (n := 12) (ck_205 _ _ rfl) rfl (ly_k I2.1.1.1 115 rfl) (by omega) (e72) ?_
                refine av_wp_sqF ck_205 1 (pc' := 94) (lv' := [some (.inr (.inr (.inl (some (77))))), some (.inl x), some (.inl l), some (.inl y), some (.inl k), some (.inl j20), some (.inl v23), none, none]) (st' := [.inl (3), .inl v71]) (h' := h1) rfl ?_
                refine wq_c2 (p' := 97) (ck_205 _ _ rfl) rfl ?_ ?_
                · exact J32 (j20) (none) (none) rfl rfl
                · refine av_wp_sqF ck_205 3 (pc' := 101) (lv' := [some (.inr (.inr (.inl (some (77))))), some (.inl x), some (.inl l), some (.inl y), some (.inl k), some (.inl j20), some (.inl v23), some (.inl (-1)), none]) (st' := [.inr (.inr (.inl (some (77))))]) (h' := h1) rfl ?_
                  refine wq_gi (p' := 104) (ck_205 _ _ rfl) rfl (congrArg Prod.fst (ly_k I2.1.1.1 77 rfl)) rfl (I2.2.1) ?_
                  refine av_wp_sqF ck_205 3 (pc' := 108) (lv' := [some (.inr (.inr (.inl (some (77))))), some (.inl x), some (.inl l), some (.inl y), some (.inl k), some (.inl j20), some (.inl v23), some (.inl (-1)), some (.inl (n5 - (1)))]) (st' := []) (h' := h1) rfl ?_
                  have L77 : ∀ (m76 : Nat) (k74 : Int) (k75 : Int), (-1 ≤ k75 ∧ k75 ≤ 11) → (k75 + 1).toNat = m76 → av_wp none cd_205 108 [some (.inr (.inr (.inl (some (77))))), some (.inl x), some (.inl l), some (.inl y), some (.inl k), some (.inl j20), some (.inl v23), some (.inl k74), some (.inl k75)] [] h1 Q := by
                    intro m76
                    induction m76 using Nat.strongRecOn with
                    | _ m76 I78 =>
                      intro k74 k75 g80 e79
                      refine av_wp_sqF ck_205 2 (pc' := 112) (lv' := [some (.inr (.inr (.inl (some (77))))), some (.inl x), some (.inl l), some (.inl y), some (.inl k), some (.inl j20), some (.inl v23), some (.inl k74), some (.inl k75)]) (st' := [.inl v23, .inl k75]) (h' := h1) rfl ?_
                      refine wq_k2 (p' := 115) (ck_205 _ _ rfl) rfl ⟨by omega, by omega⟩ ⟨by omega, by omega⟩ (fun c81 => ?_) (fun c82 => ?_)
                      · have c81 : k75 ≤ v23 := c81
                        refine av_wp_sqF ck_205 3 (pc' := 171) (lv' := [some (.inr (.inr (.inl (some (77))))), some (.inl x), some (.inl l), some (.inl y), some (.inl k), some (.inl j20), some (.inl v23), some (.inl k74), some (.inl k75)]) (st' := [.inl k, .inl k74, .inl j20]) (h' := h1) rfl ?_
                        have J85 : ∀ (j83 : Int), (0 ≤ j83 ∧ j83 ≤ 2) →  av_wp none cd_205 179 [some (.inr (.inr (.inl (some (77))))), some (.inl x), some (.inl l), some (.inl y), some (.inl k), some (.inl j20), some (.inl v23), some (.inl k74), some (.inl k75)] [.inl j83, .inl j20] h1 Q := by
                          intro j83 g84
                          refine av_wp_sqF ck_205 2 (pc' := 182) (lv' := [some (.inr (.inr (.inl (some (77))))), some (.inl x), some (.inl l), some (.inl y), some (.inl k), some (.inl (av_or j20 j83)), some (.inl v23), some (.inl k74), some (.inl k75)]) (st' := []) (h' := h1) rfl ?_
                          exact J32 ((av_or j20 j83)) (some (.inl k74)) (some (.inl k75)) rfl rfl
                        refine wq_c2 (p' := 174) (ck_205 _ _ rfl) rfl ?_ ?_
                        · refine av_wp_sqF ck_205 1 (pc' := 179) (lv' := [some (.inr (.inr (.inl (some (77))))), some (.inl x), some (.inl l), some (.inl y), some (.inl k), some (.inl j20), some (.inl v23), some (.inl k74), some (.inl k75)]) (st' := [.inl (0), .inl j20]) (h' := h1) rfl ?_
                          exact J85 ((0)) (by omega)
                        · refine av_wp_sqF ck_205 2 (pc' := 179) (lv' := [some (.inr (.inr (.inl (some (77))))), some (.inl x), some (.inl l), some (.inl y), some (.inl k), some (.inl j20), some (.inl v23), some (.inl k74), some (.inl k75)]) (st' := [.inl (2), .inl j20]) (h' := h1) rfl ?_
                          exact J85 ((2)) (by omega)
                      · have c82 : v23 < k75 := c82
                        refine av_wp_sqF ck_205 1 (pc' := 116) (lv' := [some (.inr (.inr (.inl (some (77))))), some (.inl x), some (.inl l), some (.inl y), some (.inl k), some (.inl j20), some (.inl v23), some (.inl k74), some (.inl k75)]) (st' := [.inr (.inr (.inl (some (77))))]) (h' := h1) rfl ?_
                        refine wq_gr (p' := 119) (ck_205 _ _ rfl) rfl (congrArg Prod.fst (ly_k I2.1.1.1 77 rfl)) rfl (ly_g I2.1.1.1 77 49 115 rfl) ?_
                        refine av_wp_sqF ck_205 1 (pc' := 121) (lv' := [some (.inr (.inr (.inl (some (77))))), some (.inl x), some (.inl l), some (.inl y), some (.inl k), some (.inl j20), some (.inl v23), some (.inl k74), some (.inl k75)]) (st' := [.inl v23, .inr (.inr (.inl (some (115))))]) (h' := h1) rfl ?_
                        obtain ⟨v86, e87⟩ : ∃ v, hA h1 115 (Int.toNat (v23)) = v := ⟨_, rfl⟩
                        refine wq_al (p' := 122) (n := 12) (ck_205 _ _ rfl) rfl (ly_k I2.1.1.1 115 rfl) (by omega) (e87) ?_
                        refine av_wp_sqF ck_205 1 (pc' := 123) (lv' := [some (.inr (.inr (.inl (some (77))))), some (.inl x), some (.inl l), some (.inl y), some (.inl k), some (.inl j20), some (.inl v23), some (.inl k74), some (.inl k75)]) (st' := [.inl (1), .inl v86]) (h' := h1) rfl ?_
                        have J90 : ∀ (j89 : Int),  av_wp none cd_205 145 [some (.inr (.inr (.inl (some (77))))), some (.inl x), some (.inl l), some (.inl y), some (.inl k), some (.inl j20), some (.inl v23), some (.inl k74), some (.inl k75)] [.inl j89] h1 Q := by
                          intro j89
                          refine av_wp_sqF ck_205 1 (pc' := 146) (lv' := [some (.inr (.inr (.inl (some (77))))), some (.inl x), some (.inl l), some (.inl y), some (.inl k), some (.inl j20), some (.inl v23), some (.inl k74), some (.inl k75)]) (st' := [.inr (.inr (.inl (some (77)))), .inl j89]) (h' := h1) rfl ?_
                          refine wq_gr (p' := 149) (ck_205 _ _ rfl) rfl (congrArg Prod.fst (ly_k I2.1.1.1 77 rfl)) rfl (ly_g I2.1.1.1 77 48 114 rfl) ?_
                          refine av_wp_sqF ck_205 1 (pc' := 151) (lv' := [some (.inr (.inr (.inl (some (77))))), some (.inl x), some (.inl l), some (.inl y), some (.inl k), some (.inl j20), some (.inl v23), some (.inl k74), some (.inl k75)]) (st' := [.inl v23, .inr (.inr (.inl (some (114)))), .inl j89]) (h' := h1) rfl ?_
                          obtain ⟨v91, e92⟩ : ∃ v, hA h1 114 (Int.toNat (v23)) = v := ⟨_, rfl⟩
                          refine wq_al (p' := 152) (n := 12) (ck_205 _ _ rfl) rfl (ly_k I2.1.1.1 114 rfl) (by omega) (e92) ?_
                          have J95 : ∀ (j94 : Int),  av_wp none cd_205 159 [some (.inr (.inr (.inl (some (77))))), some (.inl x), some (.inl l), some (.inl y), some (.inl k), some (.inl j20), some (.inl v23), some (.inl j94), some (.inl k75)] [] h1 Q := by
                            intro j94
                            refine av_wp_sqF ck_205 2 (pc' := 108) (lv' := [some (.inr (.inr (.inl (some (77))))), some (.inl x), some (.inl l), some (.inl y), some (.inl k), some (.inl j20), some (.inl v23), some (.inl j94), some (.inl (k75 + (-1)))]) (st' := []) (h' := h1) rfl ?_
                            exact I78 _ (by omega) (j94) ((k75 + (-1))) (by omega) rfl
                          refine wq_c2 (p' := 155) (ck_205 _ _ rfl) rfl ?_ ?_
                          · exact J95 (k74)
                          · refine av_wp_sqF ck_205 2 (pc' := 159) (lv' := [some (.inr (.inr (.inl (some (77))))), some (.inl x), some (.inl l), some (.inl y), some (.inl k), some (.inl j20), some (.inl v23), some (.inl k75), some (.inl k75)]) (st' := []) (h' := h1) rfl ?_
                            exact J95 (k75)
                        refine wq_c2 (p' := 126) (ck_205 _ _ rfl) rfl ?_ ?_
                        · refine av_wp_sqF ck_205 3 (pc' := 142) (lv' := [some (.inr (.inr (.inl (some (77))))), some (.inl x), some (.inl l), some (.inl y), some (.inl k), some (.inl j20), some (.inl v23), some (.inl k74), some (.inl k75)]) (st' := [.inl v23, .inl k75, .inr (.inr (.inl (some (77))))]) (h' := h1) rfl ?_
                          refine wq_cv (p' := 145) (av_qc (.invokevirtual 378) 172 2 0 8) 3 cd_172 [.inl v23, .inl k75] (77) 8 [some (.inr (.inr (.inl (some (77))))), some (.inl k75), some (.inl v23)] (ck_205 _ _ rfl) rfl rfl pp_172 rfl rfl rfl (congrArg Prod.fst (ly_k I2.1.1.1 77 rfl)) rfl rfl rfl rfl ?_
                          refine ct_172 I2 F3 (k75) (by omega) (v23) (by omega) (fun v96 => ?_)
                          show av_wp _ cd_205 145 [some (.inr (.inr (.inl (some (77))))), some (.inl x), some (.inl l), some (.inl y), some (.inl k), some (.inl j20), some (.inl v23), some (.inl k74), some (.inl k75)] [.inl v96] h1 _
                          exact J90 (v96)
                        · refine av_wp_sqF ck_205 3 (pc' := 131) (lv' := [some (.inr (.inr (.inl (some (77))))), some (.inl x), some (.inl l), some (.inl y), some (.inl k), some (.inl j20), some (.inl v23), some (.inl k74), some (.inl k75)]) (st' := [.inl v23, .inl k75, .inr (.inr (.inl (some (77))))]) (h' := h1) rfl ?_
                          refine wq_cv (p' := 134) (av_qc (.invokevirtual 372) 171 2 0 8) 4 cd_171 [.inl v23, .inl k75] (77) 8 [some (.inr (.inr (.inl (some (77))))), some (.inl k75), some (.inl v23), none] (ck_205 _ _ rfl) rfl rfl pp_171 rfl rfl rfl (congrArg Prod.fst (ly_k I2.1.1.1 77 rfl)) rfl rfl rfl rfl ?_
                          refine ct_171 I2 F3 (k75) (by omega) (v23) (by omega) (fun v98 => ?_)
                          show av_wp _ cd_205 134 [some (.inr (.inr (.inl (some (77))))), some (.inl x), some (.inl l), some (.inl y), some (.inl k), some (.inl j20), some (.inl v23), some (.inl k74), some (.inl k75)] [.inl v98] h1 _
                          refine av_wp_sqF ck_205 1 (pc' := 145) (lv' := [some (.inr (.inr (.inl (some (77))))), some (.inl x), some (.inl l), some (.inl y), some (.inl k), some (.inl j20), some (.inl v23), some (.inl k74), some (.inl k75)]) (st' := [.inl v98]) (h' := h1) rfl ?_
                          exact J90 (v98)
                  exact L77 _ ((-1)) ((n5 - (1))) (by omega) rfl
        refine wq_k1 (p' := 36) (ck_205 _ _ rfl) rfl ⟨by omega, by omega⟩ (fun c100 => ?_) (fun c101 => ?_)
        · have c100 : v18 = (0) := c100
          refine av_wp_sqF ck_205 1 (pc' := 51) (lv' := [some (.inr (.inr (.inl (some (77))))), some (.inl x), some (.inl l), some (.inl y), some (.inl k), none, none, none, none]) (st' := [.inl (0)]) (h' := h1) rfl ?_
          exact J22 ((0)) (by omega)
        · have c101 : v18 ≠ (0) := c101
          refine av_wp_sqF ck_205 1 (pc' := 37) (lv' := [some (.inr (.inr (.inl (some (77))))), some (.inl x), some (.inl l), some (.inl y), some (.inl k), none, none, none, none]) (st' := [.inr (.inr (.inl (some (77))))]) (h' := h1) rfl ?_
          refine wq_gr (p' := 40) (ck_205 _ _ rfl) rfl (congrArg Prod.fst (ly_k I2.1.1.1 77 rfl)) rfl (ly_g I2.1.1.1 77 47 113 rfl) ?_
          refine av_wp_sqF ck_205 1 (pc' := 42) (lv' := [some (.inr (.inr (.inl (some (77))))), some (.inl x), some (.inl l), some (.inl y), some (.inl k), none, none, none, none]) (st' := [.inl k, .inr (.inr (.inl (some (113))))]) (h' := h1) rfl ?_
          obtain ⟨v102, e103⟩ : ∃ v, hA h1 113 (Int.toNat (k)) = v := ⟨_, rfl⟩
          refine wq_al (p' := 43) (n := 12) (ck_205 _ _ rfl) rfl (ly_k I2.1.1.1 113 rfl) (by omega) (e103) ?_
          refine wq_c1 (p' := 46) (ck_205 _ _ rfl) rfl ?_ ?_
          · refine av_wp_sqF ck_205 1 (pc' := 51) (lv' := [some (.inr (.inr (.inl (some (77))))), some (.inl x), some (.inl l), some (.inl y), some (.inl k), none, none, none, none]) (st' := [.inl (0)]) (h' := h1) rfl ?_
            exact J22 ((0)) (by omega)
          · refine av_wp_sqF ck_205 2 (pc' := 51) (lv' := [some (.inr (.inr (.inl (some (77))))), some (.inl x), some (.inl l), some (.inl y), some (.inl k), none, none, none, none]) (st' := [.inl (1)]) (h' := h1) rfl ?_
            exact J22 ((1)) (by omega)
      · have c17 : n5 ≤ k := c17
        refine av_wp_sqF ck_205 1 (pc' := 26) (lv' := [some (.inr (.inr (.inl (some (77))))), some (.inl x), some (.inl l), some (.inl y), some (.inl k), none, none, none, none]) (st' := [.inl (-2)]) (h' := h1) rfl ?_
        refine av_wp_ret (v := some (.inl (-2))) (ck_205 _ _ rfl) rfl rfl ?_
        exact hq _ _ _ _ h1 I2 F3

