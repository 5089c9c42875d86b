set_option maxRecDepth 100000 in
set_option maxHeartbeats 4000000 in
theorem cx_201 {g h : av_H} {n a m : Int} (I : IMF n a m h) (F : FM g h) {U : Nat → Nat → Int} {S : Nat → Nat} {ro : Nat → Nat → Int} (RX : RXX g U S ro) (x : Int) (qx : -2147483648 ≤ x ∧ x ≤ 2147483647) (l : Int) (ql : -2147483648 ≤ l ∧ l ≤ 2147483647) (y : Int) (qy : -2147483648 ≤ y ∧ y ≤ 2147483647) (w : Int) (qw : -2147483648 ≤ w ∧ w ≤ 2147483647) {Q : Option av_V → av_H → Prop} (hq : ∀ (v : Int) n' a' m' h', RSP (okx U S (hA g 78 0) (hA g 79 0) x l 0 ∧ (0 ≤ y ∧ y < hA g 79 0) ∧ (0 ≤ w ∧ w ≤ 1)) (-2) (apv (PRT (U (Int.toNat x)) (ro (Int.toNat l)) (bxx U S (ro (Int.toNat l)) (Int.toNat x)) (ro (Int.toNat y)) (bxx U S (ro (Int.toNat y)) (Int.toNat x)) (S (Int.toNat x))) (Int.toNat (cbv (U (Int.toNat x)) (S (Int.toNat x)))) w) v → IMF n' a' m' h' → FM g h' → Q (some (.inl v)) h') : av_wp none cd_201 0 [some (.inr (.inr (.inl (some (77))))), some (.inl x), some (.inl l), some (.inl y), some (.inl w)] [] h Q := by
  have gn := im_n I.1.1
  rw [I.2.1] at gn
  have ga := im_a I.1.1
  rw [I.2.2.1] at ga
  have gm := im_cm I.1.1
  rw [I.2.2.2] at gm
  have G0 := I.1.1.2.1
  have G16 : 0 ≤ hA g 78 0 ∧ hA g 78 0 ≤ 16 := by rw [← F.2.2.2.2.2.2 78 rfl]; exact G0.2.1
  have G8 : 0 ≤ hA g 79 0 ∧ hA g 79 0 ≤ 8 := by rw [← F.2.2.2.2.2.2 79 rfl]; exact G0.2.2.1
  have G6 : 0 ≤ hA g 80 0 ∧ hA g 80 0 ≤ 6 := by rw [← F.2.2.2.2.2.2 80 rfl]; exact G0.2.2.2.1
  refine av_wp_seq 2 (pc' := 2) (lv' := [some (.inr (.inr (.inl (some (77))))), some (.inl x), some (.inl l), some (.inl y), some (.inl w)]) (st' := [.inl y, .inr (.inr (.inl (some (77))))]) (h' := h) rfl ?_
  refine wq_cv (p' := 5) (av_qc (.invokevirtual 345) 150 1 0 8) 2 cd_150 [.inl y] (77) 8 [some (.inr (.inr (.inl (some (77))))), some (.inl y)] rfl rfl rfl pp_150 rfl rfl rfl (congrArg Prod.fst (ly_k I.1.1.1 77 rfl)) rfl rfl rfl rfl ?_
  refine cx_150 I.1 (y) (by omega) (fun v1 p2 => ?_)
  have g3 := congrFun (F.2.2.2.2.2.2 79 rfl) 0
  show av_wp _ cd_201 5 [some (.inr (.inr (.inl (some (77))))), some (.inl x), some (.inl l), some (.inl y), some (.inl w)] [.inl v1] h _
  refine wq_k1 (p' := 8) rfl rfl ⟨by omega, by omega⟩ (fun c4 => ?_) (fun c5 => ?_)
  · have c4 : v1 = (0) := c4
    refine av_wp_seq 1 (pc' := 30) (lv' := [some (.inr (.inr (.inl (some (77))))), some (.inl x), some (.inl l), some (.inl y), some (.inl w)]) (st' := [.inl (-2)]) (h' := h) rfl ?_
    refine av_wp_ret (v := some (.inl (-2))) rfl rfl rfl ?_
    exact hq _ _ _ _ h (Or.inr ⟨fun z => by have z1 := z.2; omega, rfl⟩) I F
  · have c5 : v1 ≠ (0) := c5
    refine av_wp_seq 3 (pc' := 12) (lv' := [some (.inr (.inr (.inl (some (77))))), some (.inl x), some (.inl l), some (.inl y), some (.inl w)]) (st' := [.inl (1), .inl (0), .inl w]) (h' := h) rfl ?_
    refine wq_cs (p' := 15) (av_qc (.invokestatic 176) 127 3 2 8) 3 cd_127 [.inl w, .inl (0), .inl (1)] [.inl (1), .inl (0), .inl w] [some (.inl w), some (.inl (0)), some (.inl (1))] rfl rfl rfl pp_127 (fun _ => rfl) rfl rfl ?_
    refine ct_127 (g := h) (w) (by omega) ((0)) (by omega) ((1)) (by omega) (fun v6 p7 => ?_)
    show av_wp _ cd_201 15 [some (.inr (.inr (.inl (some (77))))), some (.inl x), some (.inl l), some (.inl y), some (.inl w)] [.inl v6] h _
    refine wq_k1 (p' := 18) rfl rfl ⟨by omega, by omega⟩ (fun c8 => ?_) (fun c9 => ?_)
    · have c8 : v6 = (0) := c8
      refine av_wp_seq 1 (pc' := 30) (lv' := [some (.inr (.inr (.inl (some (77))))), some (.inl x), some (.inl l), some (.inl y), some (.inl w)]) (st' := [.inl (-2)]) (h' := h) rfl ?_
      refine av_wp_ret (v := some (.inl (-2))) rfl rfl rfl ?_
      exact hq _ _ _ _ h (Or.inr ⟨fun z => by have z1 := z.2; omega, rfl⟩) I F
    · have c9 : v6 ≠ (0) := c9
      refine av_wp_seq 4 (pc' := 22) (lv' := [some (.inr (.inr (.inl (some (77))))), some (.inl x), some (.inl l), some (.inl y), some (.inl w)]) (st' := [.inl y, .inl l, .inl x, .inr (.inr (.inl (some (77))))]) (h' := h) rfl ?_
      refine wq_cv (p' := 25) (av_qc (.invokevirtual 467) 200 3 0 8) 7 cd_200 [.inl y, .inl l, .inl x] (77) 8 [some (.inr (.inr (.inl (some (77))))), some (.inl x), some (.inl l), some (.inl y), none, none, none] rfl rfl rfl pp_200 rfl rfl rfl (congrArg Prod.fst (ly_k I.1.1.1 77 rfl)) rfl rfl rfl rfl ?_
      refine cx_200 I F RX (x) (by omega) (l) (by omega) (y) (by omega) (fun n10 a11 m12 h13 z14 I15 F16 => ?_) (fun n17 a18 m19 h20 z21 I22 F23 c24 c25 => ?_)
      · have g26 := im_n I15.1.1
        rw [I15.2.1] at g26
        have g27 := im_a I15.1.1
        rw [I15.2.2.1] at g27
        have g28 := im_cm I15.1.1
        rw [I15.2.2.2] at g28
        show av_wp _ cd_201 25 [some (.inr (.inr (.inl (some (77))))), some (.inl x), some (.inl l), some (.inl y), some (.inl w)] [.inl (0)] h13 _
        refine av_wp_seq 2 (pc' := 30) (lv' := [some (.inr (.inr (.inl (some (77))))), some (.inl x), some (.inl l), some (.inl y), some (.inl w)]) (st' := [.inl (-2)]) (h' := h13) rfl ?_
        refine av_wp_ret (v := some (.inl (-2))) rfl rfl rfl ?_
        exact hq _ _ _ _ h13 (Or.inr ⟨fun z => z14 z.1, rfl⟩) I15 F16
      · have g29 := im_n I22.1.1
        rw [I22.2.1] at g29
        have g30 := im_a I22.1.1
        rw [I22.2.2.1] at g30
        have g31 := im_cm I22.1.1
        rw [I22.2.2.2] at g31
        show av_wp _ cd_201 25 [some (.inr (.inr (.inl (some (77))))), some (.inl x), some (.inl l), some (.inl y), some (.inl w)] [.inl (1)] h20 _
        refine av_wp_seq 2 (pc' := 33) (lv' := [some (.inr (.inr (.inl (some (77))))), some (.inl x), some (.inl l), some (.inl y), some (.inl w)]) (st' := [.inl w]) (h' := h20) rfl ?_
        refine wq_k1 (p' := 36) rfl rfl ⟨by omega, by omega⟩ (fun c32 => ?_) (fun c33 => ?_)
        · have c32 : w ≠ (0) := c32
          refine av_wp_seq 1 (pc' := 44) (lv' := [some (.inr (.inr (.inl (some (77))))), some (.inl x), some (.inl l), some (.inl y), some (.inl w)]) (st' := [.inr (.inr (.inl (some (77))))]) (h' := h20) rfl ?_
          obtain ⟨v34, e35⟩ : ∃ v, hF h20 77 61 = v := ⟨_, rfl⟩
          refine wq_gi (p' := 47) rfl rfl (congrArg Prod.fst (ly_k I22.1.1.1 77 rfl)) rfl (e35) ?_
          refine av_wp_ret (v := some (.inl v34)) rfl rfl rfl ?_
          exact hq _ _ _ _ h20 (Or.inl ⟨⟨z21, by omega, by omega⟩, by unfold apv; rw [if_neg (by omega)]; exact e35.symm.trans c25⟩) I22 F23
        · have c33 : w = (0) := c33
          refine av_wp_seq 1 (pc' := 37) (lv' := [some (.inr (.inr (.inl (some (77))))), some (.inl x), some (.inl l), some (.inl y), some (.inl w)]) (st' := [.inr (.inr (.inl (some (77))))]) (h' := h20) rfl ?_
          obtain ⟨v36, e37⟩ : ∃ v, hF h20 77 60 = v := ⟨_, rfl⟩
          refine wq_gi (p' := 40) rfl rfl (congrArg Prod.fst (ly_k I22.1.1.1 77 rfl)) rfl (e37) ?_
          refine av_wp_seq 1 (pc' := 47) (lv' := [some (.inr (.inr (.inl (some (77))))), some (.inl x), some (.inl l), some (.inl y), some (.inl w)]) (st' := [.inl v36]) (h' := h20) rfl ?_
          refine av_wp_ret (v := some (.inl v36)) rfl rfl rfl ?_
          exact hq _ _ _ _ h20 (Or.inl ⟨⟨z21, by omega, by omega⟩, by unfold apv; rw [if_pos (by omega)]; exact e37.symm.trans c24⟩) I22 F23

set_option maxRecDepth 100000 in
set_option maxHeartbeats 4000000 in
theorem cx_202 {g h : av_H} {n a m : Int} (I : IMF n a m h) (F : FM g h) {U : Nat → Nat → Int} {S : Nat → Nat} {ro : Nat → Nat → Int} (RX : RXX g U S ro) (l : Int) (ql : -2147483648 ≤ l ∧ l ≤ 2147483647) (y : Int) (qy : -2147483648 ≤ y ∧ y ≤ 2147483647) {Q : Option av_V → av_H → Prop} (hq : ∀ (v : Int) n' a' m' h', RSP ((0 ≤ l ∧ l < hA g 79 0) ∧ (0 ≤ y ∧ y < hA g 79 0)) (-2) (ptv S (PTQ U S (ro (Int.toNat l)) (ro (Int.toNat y))) (Int.toNat (hA g 78 0))) v → IMF n' a' m' h' → FM g h' → Q (some (.inl v)) h') : av_wp none cd_202 0 [some (.inr (.inr (.inl (some (77))))), some (.inl l), some (.inl y), none, none] [] h Q := by
  have gn := im_n I.1.1
  rw [I.2.1] at gn
  have ga := im_a I.1.1
  rw [I.2.2.1] at ga
  have gm := im_cm I.1.1
  rw [I.2.2.2] at gm
  have G0 := I.1.1.2.1
  have G16 : 0 ≤ hA g 78 0 ∧ hA g 78 0 ≤ 16 := by rw [← F.2.2.2.2.2.2 78 rfl]; exact G0.2.1
  have G8 : 0 ≤ hA g 79 0 ∧ hA g 79 0 ≤ 8 := by rw [← F.2.2.2.2.2.2 79 rfl]; exact G0.2.2.1
  have G6 : 0 ≤ hA g 80 0 ∧ hA g 80 0 ≤ 6 := by rw [← F.2.2.2.2.2.2 80 rfl]; exact G0.2.2.2.1
  refine av_wp_seq 2 (pc' := 2) (lv' := [some (.inr (.inr (.inl (some (77))))), some (.inl l), some (.inl y), none, none]) (st' := [.inl l, .inr (.inr (.inl (some (77))))]) (h' := h) rfl ?_
  refine wq_cv (p' := 5) (av_qc (.invokevirtual 345) 150 1 0 8) 2 cd_150 [.inl l] (77) 8 [some (.inr (.inr (.inl (some (77))))), some (.inl l)] rfl rfl rfl pp_150 rfl rfl rfl (congrArg Prod.fst (ly_k I.1.1.1 77 rfl)) rfl rfl rfl rfl ?_
  refine cx_150 I.1 (l) (by omega) (fun v1 p2 => ?_)
  have g3 := congrFun (F.2.2.2.2.2.2 79 rfl) 0
  show av_wp _ cd_202 5 [some (.inr (.inr (.inl (some (77))))), some (.inl l), some (.inl y), none, none] [.inl v1] h _
  refine wq_k1 (p' := 8) rfl rfl ⟨by omega, by omega⟩ (fun c4 => ?_) (fun c5 => ?_)
  · have c4 : v1 = (0) := c4
    refine av_wp_seq 1 (pc' := 18) (lv' := [some (.inr (.inr (.inl (some (77))))), some (.inl l), some (.inl y), none, none]) (st' := [.inl (-2)]) (h' := h) rfl ?_
    refine av_wp_ret (v := some (.inl (-2))) rfl rfl rfl ?_
    exact hq _ _ _ _ h (Or.inr ⟨by omega, rfl⟩) I F
  · have c5 : v1 ≠ (0) := c5
    refine av_wp_seq 2 (pc' := 10) (lv' := [some (.inr (.inr (.inl (some (77))))), some (.inl l), some (.inl y), none, none]) (st' := [.inl y, .inr (.inr (.inl (some (77))))]) (h' := h) rfl ?_
    refine wq_cv (p' := 13) (av_qc (.invokevirtual 345) 150 1 0 8) 2 cd_150 [.inl y] (77) 8 [some (.inr (.inr (.inl (some (77))))), some (.inl y)] rfl rfl rfl pp_150 rfl rfl rfl (congrArg Prod.fst (ly_k I.1.1.1 77 rfl)) rfl rfl rfl rfl ?_
    refine cx_150 I.1 (y) (by omega) (fun v6 p7 => ?_)
    have g8 := congrFun (F.2.2.2.2.2.2 79 rfl) 0
    show av_wp _ cd_202 13 [some (.inr (.inr (.inl (some (77))))), some (.inl l), some (.inl y), none, none] [.inl v6] h _
    refine wq_k1 (p' := 16) rfl rfl ⟨by omega, by omega⟩ (fun c9 => ?_) (fun c10 => ?_)
    · have c9 : v6 ≠ (0) := c9
      refine av_wp_seq 4 (pc' := 24) (lv' := [some (.inr (.inr (.inl (some (77))))), some (.inl l), some (.inl y), some (.inl (-1)), some (.inl (0))]) (st' := []) (h' := h) rfl ?_
      have L21 : ∀ (m20 : Nat) (k11 : Int) (k12 : Int) (n16 : Int) (a17 : Int) (m18 : Int) (h13 : av_H), k11 = (ptv S (PTQ U S (ro (Int.toNat l)) (ro (Int.toNat y))) (Int.toNat k12)) → k12 ≤ hA g 78 0 → k11 < k12 → (-1 ≤ k11 ∧ k11 ≤ 15) → (0 ≤ k12 ∧ k12 ≤ 16) → (0 ≤ n16 ∧ n16 ≤ 12) ∧ (0 ≤ a17 ∧ a17 ≤ 48) ∧ (0 ≤ m18 ∧ m18 ≤ 1025) → IMF n16 a17 m18 h13 → FM g h13 → (16 - k12).toNat = m20 → av_wp none cd_202 24 [some (.inr (.inr (.inl (some (77))))), some (.inl l), some (.inl y), some (.inl k11), some (.inl k12)] [] h13 Q := by
        intro m20
        induction m20 using Nat.strongRecOn with
        | _ m20 I22 =>
          intro k11 k12 n16 a17 m18 h13 g24 g25 g26 g27 g28 g19 I14 F15 e23
          refine av_wp_seq 2 (pc' := 27) (lv' := [some (.inr (.inr (.inl (some (77))))), some (.inl l), some (.inl y), some (.inl k11), some (.inl k12)]) (st' := [.inr (.inr (.inl (some (77)))), .inl k12]) (h' := h13) rfl ?_
          refine wq_gr (p' := 30) rfl rfl (congrArg Prod.fst (ly_k I14.1.1.1 77 rfl)) rfl (ly_g I14.1.1.1 77 0 78 rfl) ?_
          refine av_wp_seq 1 (pc' := 31) (lv' := [some (.inr (.inr (.inl (some (77))))), some (.inl l), some (.inl y), some (.inl k11), some (.inl k12)]) (st' := [.inl (0), .inr (.inr (.inl (some (78)))), .inl k12]) (h' := h13) rfl ?_
          obtain ⟨v29, e30⟩ : ∃ v, hA h13 78 (Int.toNat ((0))) = v := ⟨_, rfl⟩
          have g31 : 0 ≤ hA h13 78 0 ∧ hA h13 78 0 ≤ 16 := I14.1.1.2.1.2.1
          have e30 : hA h13 78 0 = v29 := e30
          rw [e30] at g31
          have y32 := (congrFun (F15.2.2.2.2.2.2 78 rfl) 0).symm.trans e30
          refine wq_al (p' := 32) (n := 5) rfl rfl (ly_k I14.1.1.1 78 rfl) (by omega) (e30) ?_
          refine wq_k2 (p' := 35) rfl rfl ⟨by omega, by omega⟩ ⟨by omega, by omega⟩ (fun c33 => ?_) (fun c34 => ?_)
          · have c33 : v29 ≤ k12 := c33
            refine av_wp_seq 1 (pc' := 83) (lv' := [some (.inr (.inr (.inl (some (77))))), some (.inl l), some (.inl y), some (.inl k11), some (.inl k12)]) (st' := [.inl k11]) (h' := h13) rfl ?_
            refine av_wp_ret (v := some (.inl k11)) rfl rfl rfl ?_
            exact hq _ _ _ _ h13 (Or.inl ⟨by omega, by rw [show (Int.toNat (hA g 78 0)) = Int.toNat k12 by omega]; exact g24⟩) I14 F15
          · have c34 : k12 < v29 := c34
            refine av_wp_seq 1 (pc' := 36) (lv' := [some (.inr (.inr (.inl (some (77))))), some (.inl l), some (.inl y), some (.inl k11), some (.inl k12)]) (st' := [.inl k11]) (h' := h13) rfl ?_
            refine wq_k1 (p' := 39) rfl rfl ⟨by omega, by omega⟩ (fun c35 => ?_) (fun c36 => ?_)
            · have c35 : k11 < (0) := c35
              refine av_wp_seq 4 (pc' := 60) (lv' := [some (.inr (.inr (.inl (some (77))))), some (.inl l), some (.inl y), some (.inl k11), some (.inl k12)]) (st' := [.inl y, .inl l, .inl k12, .inr (.inr (.inl (some (77))))]) (h' := h13) rfl ?_
              refine wq_cv (p' := 63) (av_qc (.invokevirtual 467) 200 3 0 8) 7 cd_200 [.inl y, .inl l, .inl k12] (77) 8 [some (.inr (.inr (.inl (some (77))))), some (.inl k12), some (.inl l), some (.inl y), none, none, none] rfl rfl rfl pp_200 rfl rfl rfl (congrArg Prod.fst (ly_k I14.1.1.1 77 rfl)) rfl rfl rfl rfl ?_
              refine cx_200 I14 F15 RX (k12) (by omega) (l) (by omega) (y) (by omega) (fun n37 a38 m39 h40 z41 I42 F43 => ?_) (fun n44 a45 m46 h47 z48 I49 F50 c51 c52 => ?_)
              · have g53 := im_n I42.1.1
                rw [I42.2.1] at g53
                have g54 := im_a I42.1.1
                rw [I42.2.2.1] at g54
                have g55 := im_cm I42.1.1
                rw [I42.2.2.2] at g55
                show av_wp _ cd_202 63 [some (.inr (.inr (.inl (some (77))))), some (.inl l), some (.inl y), some (.inl k11), some (.inl k12)] [.inl (0)] h40 _
                refine av_wp_seq 3 (pc' := 24) (lv' := [some (.inr (.inr (.inl (some (77))))), some (.inl l), some (.inl y), some (.inl k11), some (.inl (k12 + (1)))]) (st' := []) (h' := h40) rfl ?_
                exact I22 _ (by omega) (k11) ((k12 + (1))) (n37) (a38) (m39) h40 (by have pr := ptv_r (S := S) (Q := (PTQ U S (ro (Int.toNat l)) (ro (Int.toNat y)))) (Int.toNat k12); rw [← g24] at pr; rw [show Int.toNat (k12 + (1)) = Int.toNat k12 + 1 by omega, ptv_n (fun z => z41 (by unfold okx; have z1 := z.2.1; have zc := cbf_1 (U (Int.toNat k12)) (S (Int.toNat k12)); have zd := cbv_d (U (Int.toNat k12)) (S (Int.toNat k12)); omega))]; exact g24) (by omega) (by omega) (by omega) (by omega) (by omega) I42 F43 rfl
              · have g56 := im_n I49.1.1
                rw [I49.2.1] at g56
                have g57 := im_a I49.1.1
                rw [I49.2.2.1] at g57
                have g58 := im_cm I49.1.1
                rw [I49.2.2.2] at g58
                show av_wp _ cd_202 63 [some (.inr (.inr (.inl (some (77))))), some (.inl l), some (.inl y), some (.inl k11), some (.inl k12)] [.inl (1)] h47 _
                refine av_wp_seq 2 (pc' := 67) (lv' := [some (.inr (.inr (.inl (some (77))))), some (.inl l), some (.inl y), some (.inl k11), some (.inl k12)]) (st' := [.inr (.inr (.inl (some (77))))]) (h' := h47) rfl ?_
                obtain ⟨v59, e60⟩ : ∃ v, hF h47 77 60 = v := ⟨_, rfl⟩
                have y61 := e60.symm.trans c51
                have g62 := cn_fs (P := (PRT (U (Int.toNat k12)) (ro (Int.toNat l)) (bxx U S (ro (Int.toNat l)) (Int.toNat k12)) (ro (Int.toNat y)) (bxx U S (ro (Int.toNat y)) (Int.toNat k12)) (S (Int.toNat k12)))) (k := Int.toNat (cbv (U (Int.toNat k12)) (S (Int.toNat k12))))
                rw [← y61] at g62
                have g62d := cbv_d (U (Int.toNat k12)) (S (Int.toNat k12))
                have g62o := z48
                unfold okx at g62o
                refine wq_gi (p' := 70) rfl rfl (congrArg Prod.fst (ly_k I49.1.1.1 77 rfl)) rfl (e60) ?_
                refine wq_k1 (p' := 73) rfl rfl ⟨by omega, by omega⟩ (fun c63 => ?_) (fun c64 => ?_)
                · have c63 : v59 ≤ (0) := c63
                  refine av_wp_seq 2 (pc' := 24) (lv' := [some (.inr (.inr (.inl (some (77))))), some (.inl l), some (.inl y), some (.inl k11), some (.inl (k12 + (1)))]) (st' := []) (h' := h47) rfl ?_
                  exact I22 _ (by omega) (k11) ((k12 + (1))) (n44) (a45) (m46) h47 (by have pr := ptv_r (S := S) (Q := (PTQ U S (ro (Int.toNat l)) (ro (Int.toNat y)))) (Int.toNat k12); rw [← g24] at pr; rw [show Int.toNat (k12 + (1)) = Int.toNat k12 + 1 by omega, ptv_n (fun z => by have z2 := z.2.2; omega)]; exact g24) (by omega) (by omega) (by omega) (by omega) (by omega) I49 F50 rfl
                · have c64 : (0) < v59 := c64
                  refine av_wp_seq 4 (pc' := 24) (lv' := [some (.inr (.inr (.inl (some (77))))), some (.inl l), some (.inl y), some (.inl k12), some (.inl (k12 + (1)))]) (st' := []) (h' := h47) rfl ?_
                  exact I22 _ (by omega) (k12) ((k12 + (1))) (n44) (a45) (m46) h47 (by have pr := ptv_r (S := S) (Q := (PTQ U S (ro (Int.toNat l)) (ro (Int.toNat y)))) (Int.toNat k12); rw [← g24] at pr; rw [show Int.toNat (k12 + (1)) = Int.toNat k12 + 1 by omega, ptv_y (by rw [← g24]; omega) ⟨by omega, by omega⟩]; omega) (by omega) (by omega) (by omega) (by omega) (by omega) I49 F50 rfl
            · have c36 : (0) ≤ k11 := c36
              refine av_wp_seq 1 (pc' := 40) (lv' := [some (.inr (.inr (.inl (some (77))))), some (.inl l), some (.inl y), some (.inl k11), some (.inl k12)]) (st' := [.inr (.inr (.inl (some (77))))]) (h' := h13) rfl ?_
              refine wq_gr (p' := 43) rfl rfl (congrArg Prod.fst (ly_k I14.1.1.1 77 rfl)) rfl (ly_g I14.1.1.1 77 3 81 rfl) ?_
              refine av_wp_seq 1 (pc' := 45) (lv' := [some (.inr (.inr (.inl (some (77))))), some (.inl l), some (.inl y), some (.inl k11), some (.inl k12)]) (st' := [.inl k12, .inr (.inr (.inl (some (81))))]) (h' := h13) rfl ?_
              obtain ⟨v65, e66⟩ : ∃ v, hA h13 81 (Int.toNat (k12)) = v := ⟨_, rfl⟩
              have g67 := im_many I14.1.1 (Int.toNat (k12))
              rw [e66] at g67
              have y68 : (S (Int.toNat k12) : Int) = v65 := (RX.1 (Int.toNat k12) (by omega)).1.symm.trans ((congrFun (F15.2.2.2.2.2.2 81 rfl) _).symm.trans e66)
              refine wq_al (p' := 46) (n := 80) rfl rfl (ly_k I14.1.1.1 81 rfl) (by omega) (e66) ?_
              refine av_wp_seq 1 (pc' := 47) (lv' := [some (.inr (.inr (.inl (some (77))))), some (.inl l), some (.inl y), some (.inl k11), some (.inl k12)]) (st' := [.inr (.inr (.inl (some (77)))), .inl v65]) (h' := h13) rfl ?_
              refine wq_gr (p' := 50) rfl rfl (congrArg Prod.fst (ly_k I14.1.1.1 77 rfl)) rfl (ly_g I14.1.1.1 77 3 81 rfl) ?_
              refine av_wp_seq 1 (pc' := 51) (lv' := [some (.inr (.inr (.inl (some (77))))), some (.inl l), some (.inl y), some (.inl k11), some (.inl k12)]) (st' := [.inl k11, .inr (.inr (.inl (some (81)))), .inl v65]) (h' := h13) rfl ?_
              obtain ⟨v69, e70⟩ : ∃ v, hA h13 81 (Int.toNat (k11)) = v := ⟨_, rfl⟩
              have g71 := im_many I14.1.1 (Int.toNat (k11))
              rw [e70] at g71
              have y72 : (S (Int.toNat k11) : Int) = v69 := (RX.1 (Int.toNat k11) (by omega)).1.symm.trans ((congrFun (F15.2.2.2.2.2.2 81 rfl) _).symm.trans e70)
              refine wq_al (p' := 52) (n := 80) rfl rfl (ly_k I14.1.1.1 81 rfl) (by omega) (e70) ?_
              refine wq_k2 (p' := 55) rfl rfl ⟨by omega, by omega⟩ ⟨by omega, by omega⟩ (fun c73 => ?_) (fun c74 => ?_)
              · have c73 : v69 ≤ v65 := c73
                refine av_wp_seq 2 (pc' := 24) (lv' := [some (.inr (.inr (.inl (some (77))))), some (.inl l), some (.inl y), some (.inl k11), some (.inl (k12 + (1)))]) (st' := []) (h' := h13) rfl ?_
                exact I22 _ (by omega) (k11) ((k12 + (1))) (n16) (a17) (m18) h13 (by have pr := ptv_r (S := S) (Q := (PTQ U S (ro (Int.toNat l)) (ro (Int.toNat y)))) (Int.toNat k12); rw [← g24] at pr; rw [show Int.toNat (k12 + (1)) = Int.toNat k12 + 1 by omega, ptv_n (fun z => by have z1 := z.1; rw [← g24] at z1; omega)]; exact g24) (by omega) (by omega) (by omega) (by omega) (by omega) I14 F15 rfl
              · have c74 : v65 < v69 := c74
                refine av_wp_seq 4 (pc' := 60) (lv' := [some (.inr (.inr (.inl (some (77))))), some (.inl l), some (.inl y), some (.inl k11), some (.inl k12)]) (st' := [.inl y, .inl l, .inl k12, .inr (.inr (.inl (some (77))))]) (h' := h13) rfl ?_
                refine wq_cv (p' := 63) (av_qc (.invokevirtual 467) 200 3 0 8) 7 cd_200 [.inl y, .inl l, .inl k12] (77) 8 [some (.inr (.inr (.inl (some (77))))), some (.inl k12), some (.inl l), some (.inl y), none, none, none] rfl rfl rfl pp_200 rfl rfl rfl (congrArg Prod.fst (ly_k I14.1.1.1 77 rfl)) rfl rfl rfl rfl ?_
                refine cx_200 I14 F15 RX (k12) (by omega) (l) (by omega) (y) (by omega) (fun n75 a76 m77 h78 z79 I80 F81 => ?_) (fun n82 a83 m84 h85 z86 I87 F88 c89 c90 => ?_)
                · have g91 := im_n I80.1.1
                  rw [I80.2.1] at g91
                  have g92 := im_a I80.1.1
                  rw [I80.2.2.1] at g92
                  have g93 := im_cm I80.1.1
                  rw [I80.2.2.2] at g93
                  show av_wp _ cd_202 63 [some (.inr (.inr (.inl (some (77))))), some (.inl l), some (.inl y), some (.inl k11), some (.inl k12)] [.inl (0)] h78 _
                  refine av_wp_seq 3 (pc' := 24) (lv' := [some (.inr (.inr (.inl (some (77))))), some (.inl l), some (.inl y), some (.inl k11), some (.inl (k12 + (1)))]) (st' := []) (h' := h78) rfl ?_
                  exact I22 _ (by omega) (k11) ((k12 + (1))) (n75) (a76) (m77) h78 (by have pr := ptv_r (S := S) (Q := (PTQ U S (ro (Int.toNat l)) (ro (Int.toNat y)))) (Int.toNat k12); rw [← g24] at pr; rw [show Int.toNat (k12 + (1)) = Int.toNat k12 + 1 by omega, ptv_n (fun z => z79 (by unfold okx; have z1 := z.2.1; have zc := cbf_1 (U (Int.toNat k12)) (S (Int.toNat k12)); have zd := cbv_d (U (Int.toNat k12)) (S (Int.toNat k12)); omega))]; exact g24) (by omega) (by omega) (by omega) (by omega) (by omega) I80 F81 rfl
                · have g94 := im_n I87.1.1
                  rw [I87.2.1] at g94
                  have g95 := im_a I87.1.1
                  rw [I87.2.2.1] at g95
                  have g96 := im_cm I87.1.1
                  rw [I87.2.2.2] at g96
                  show av_wp _ cd_202 63 [some (.inr (.inr (.inl (some (77))))), some (.inl l), some (.inl y), some (.inl k11), some (.inl k12)] [.inl (1)] h85 _
                  refine av_wp_seq 2 (pc' := 67) (lv' := [some (.inr (.inr (.inl (some (77))))), some (.inl l), some (.inl y), some (.inl k11), some (.inl k12)]) (st' := [.inr (.inr (.inl (some (77))))]) (h' := h85) rfl ?_
                  obtain ⟨v97, e98⟩ : ∃ v, hF h85 77 60 = v := ⟨_, rfl⟩
                  have y99 := e98.symm.trans c89
                  have g100 := cn_fs (P := (PRT (U (Int.toNat k12)) (ro (Int.toNat l)) (bxx U S (ro (Int.toNat l)) (Int.toNat k12)) (ro (Int.toNat y)) (bxx U S (ro (Int.toNat y)) (Int.toNat k12)) (S (Int.toNat k12)))) (k := Int.toNat (cbv (U (Int.toNat k12)) (S (Int.toNat k12))))
                  rw [← y99] at g100
                  have g100d := cbv_d (U (Int.toNat k12)) (S (Int.toNat k12))
                  have g100o := z86
                  unfold okx at g100o
                  refine wq_gi (p' := 70) rfl rfl (congrArg Prod.fst (ly_k I87.1.1.1 77 rfl)) rfl (e98) ?_
                  refine wq_k1 (p' := 73) rfl rfl ⟨by omega, by omega⟩ (fun c101 => ?_) (fun c102 => ?_)
                  · have c101 : v97 ≤ (0) := c101
                    refine av_wp_seq 2 (pc' := 24) (lv' := [some (.inr (.inr (.inl (some (77))))), some (.inl l), some (.inl y), some (.inl k11), some (.inl (k12 + (1)))]) (st' := []) (h' := h85) rfl ?_
                    exact I22 _ (by omega) (k11) ((k12 + (1))) (n82) (a83) (m84) h85 (by have pr := ptv_r (S := S) (Q := (PTQ U S (ro (Int.toNat l)) (ro (Int.toNat y)))) (Int.toNat k12); rw [← g24] at pr; rw [show Int.toNat (k12 + (1)) = Int.toNat k12 + 1 by omega, ptv_n (fun z => by have z2 := z.2.2; omega)]; exact g24) (by omega) (by omega) (by omega) (by omega) (by omega) I87 F88 rfl
                  · have c102 : (0) < v97 := c102
                    refine av_wp_seq 4 (pc' := 24) (lv' := [some (.inr (.inr (.inl (some (77))))), some (.inl l), some (.inl y), some (.inl k12), some (.inl (k12 + (1)))]) (st' := []) (h' := h85) rfl ?_
                    exact I22 _ (by omega) (k12) ((k12 + (1))) (n82) (a83) (m84) h85 (by have pr := ptv_r (S := S) (Q := (PTQ U S (ro (Int.toNat l)) (ro (Int.toNat y)))) (Int.toNat k12); rw [← g24] at pr; rw [show Int.toNat (k12 + (1)) = Int.toNat k12 + 1 by omega, ptv_y (by rw [← g24]; omega) ⟨by omega, by omega⟩]; omega) (by omega) (by omega) (by omega) (by omega) (by omega) I87 F88 rfl
      exact L21 _ ((-1)) ((0)) (n) (a) (m) h rfl (by omega) (by omega) (by omega) (by omega) (by omega) I F rfl
    · have c10 : v6 = (0) := c10
      refine av_wp_seq 1 (pc' := 18) (lv' := [some (.inr (.inr (.inl (some (77))))), some (.inl l), some (.inl y), none, none]) (st' := [.inl (-2)]) (h' := h) rfl ?_
      refine av_wp_ret (v := some (.inl (-2))) rfl rfl rfl ?_
      exact hq _ _ _ _ h (Or.inr ⟨by omega, rfl⟩) I F


