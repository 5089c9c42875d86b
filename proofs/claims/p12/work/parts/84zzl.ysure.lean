/-! SURE, exactly: the reference -/
set_option maxRecDepth 100000 in
set_option maxHeartbeats 4000000 in
theorem cx_193 {g h : av_H} {n a m : Int} (I : IMF n a m h) (F : FM g h) {U : Nat → Nat → Int} {S : Nat → Nat} {ro : Nat → Nat → Int} (RX : RXX g U S ro) (x : Int) (qx : -2147483648 ≤ x ∧ x ≤ 2147483647) (l : Int) (ql : -2147483648 ≤ l ∧ l ≤ 2147483647) (w : Int) (qw : -2147483648 ≤ w ∧ w ≤ 2147483647) {Q : Option av_V → av_H → Prop} (hq : ∀ (v : Int) n' a' m' h', RSP (okx U S (hA g 78 0) (hA g 79 0) x l 0 ∧ (0 ≤ w ∧ w ≤ 4)) (-2) (ta (fun q => (bgn (U (Int.toNat x)) (ro (Int.toNat l)) (bxx U S (ro (Int.toNat l)) (Int.toNat x)) (S (Int.toNat x)) q).2.2) (Int.toNat (cbv (U (Int.toNat x)) (S (Int.toNat x)))) (Int.toNat w)) v → IMF n' a' m' h' → FM g h' → Q (some (.inl v)) h') : av_wp none cd_193 0 [some (.inr (.inr (.inl (some (77))))), some (.inl x), some (.inl l), some (.inl w), none, none, none, none, none, none] [] h Q := by
  have gn := im_n I.1.1
  rw [I.2.1] at gn
  have ga := im_a I.1.1
  rw [I.2.2.1] at ga
  have gm := im_cm I.1.1
  rw [I.2.2.2] at gm
  have G0 := I.1.1.2.1
  have G16 : 0 ≤ hA g 78 0 ∧ hA g 78 0 ≤ 16 := by rw [← F.2.2.2.2.2.2 78 rfl]; exact G0.2.1
  have G8 : 0 ≤ hA g 79 0 ∧ hA g 79 0 ≤ 8 := by rw [← F.2.2.2.2.2.2 79 rfl]; exact G0.2.2.1
  have G6 : 0 ≤ hA g 80 0 ∧ hA g 80 0 ≤ 6 := by rw [← F.2.2.2.2.2.2 80 rfl]; exact G0.2.2.2.1
  refine av_wp_seq 3 (pc' := 3) (lv' := [some (.inr (.inr (.inl (some (77))))), some (.inl x), some (.inl l), some (.inl w), none, none, none, none, none, none]) (st' := [.inl (4), .inl (0), .inl w]) (h' := h) rfl ?_
  refine wq_cs (p' := 6) (av_qc (.invokestatic 176) 127 3 2 8) 3 cd_127 [.inl w, .inl (0), .inl (4)] [.inl (4), .inl (0), .inl w] [some (.inl w), some (.inl (0)), some (.inl (4))] rfl rfl rfl pp_127 (fun _ => rfl) rfl rfl ?_
  refine ct_127 (g := h) (w) (by omega) ((0)) (by omega) ((4)) (by omega) (fun v1 p2 => ?_)
  show av_wp _ cd_193 6 [some (.inr (.inr (.inl (some (77))))), some (.inl x), some (.inl l), some (.inl w), none, none, none, none, none, none] [.inl v1] h _
  refine wq_k1 (p' := 9) rfl rfl ⟨by omega, by omega⟩ (fun c3 => ?_) (fun c4 => ?_)
  · have c3 : v1 = (0) := c3
    refine av_wp_seq 1 (pc' := 21) (lv' := [some (.inr (.inr (.inl (some (77))))), some (.inl x), some (.inl l), some (.inl w), none, none, none, none, none, none]) (st' := [.inl (-2)]) (h' := h) rfl ?_
    refine av_wp_ret (v := some (.inl (-2))) rfl rfl rfl ?_
    exact hq _ _ _ _ h (Or.inr ⟨fun z => by have z1 := z.1; unfold okx at z1; omega, rfl⟩) I F
  · have c4 : v1 ≠ (0) := c4
    refine av_wp_seq 4 (pc' := 13) (lv' := [some (.inr (.inr (.inl (some (77))))), some (.inl x), some (.inl l), some (.inl w), none, none, none, none, none, none]) (st' := [.inl (0), .inl l, .inl x, .inr (.inr (.inl (some (77))))]) (h' := h) rfl ?_
    refine wq_cv (p' := 16) (av_qc (.invokevirtual 446) 186 3 0 8) 4 cd_186 [.inl (0), .inl l, .inl x] (77) 8 [some (.inr (.inr (.inl (some (77))))), some (.inl x), some (.inl l), some (.inl (0))] rfl rfl rfl pp_186 rfl rfl rfl (congrArg Prod.fst (ly_k I.1.1.1 77 rfl)) rfl rfl rfl rfl ?_
    refine cx_186 I F RX (x) (by omega) (l) (by omega) ((0)) (by omega) (fun n5 a6 m7 h8 z9 I10 F11 => ?_) (fun n12 a13 m14 h15 z16 z17 z18 e19 e20 A21 O22 B23 L24 I25 F26 => ?_)
    · have g27 := im_n I10.1.1
      rw [I10.2.1] at g27
      have g28 := im_a I10.1.1
      rw [I10.2.2.1] at g28
      have g29 := im_cm I10.1.1
      rw [I10.2.2.2] at g29
      show av_wp _ cd_193 16 [some (.inr (.inr (.inl (some (77))))), some (.inl x), some (.inl l), some (.inl w), none, none, none, none, none, none] [.inl (0)] h8 _
      refine av_wp_seq 2 (pc' := 21) (lv' := [some (.inr (.inr (.inl (some (77))))), some (.inl x), some (.inl l), some (.inl w), none, none, none, none, none, none]) (st' := [.inl (-2)]) (h' := h8) rfl ?_
      refine av_wp_ret (v := some (.inl (-2))) rfl rfl rfl ?_
      exact hq _ _ _ _ h8 (Or.inr ⟨fun z => by have z1 := z.1; unfold okx at z1; omega, rfl⟩) I10 F11
    · have g30 := im_n I25.1.1
      rw [I25.2.1] at g30
      have g31 := im_a I25.1.1
      rw [I25.2.2.1] at g31
      have g32 := im_cm I25.1.1
      rw [I25.2.2.2] at g32
      have H33 : ∀ x_ : Int, 0 ≤ x_ → x_ ≤ 1023 → (bgn (U (Int.toNat x)) (ro (Int.toNat l)) (bxx U S (ro (Int.toNat l)) (Int.toNat x)) (S (Int.toNat x)) x_).2.2 = 9999 ∨ (0 ≤ (bgn (U (Int.toNat x)) (ro (Int.toNat l)) (bxx U S (ro (Int.toNat l)) (Int.toNat x)) (S (Int.toNat x)) x_).2.2 ∧ (bgn (U (Int.toNat x)) (ro (Int.toNat l)) (bxx U S (ro (Int.toNat l)) (Int.toNat x)) (S (Int.toNat x)) x_).2.2 < 9999) := fun x_ h0 h1 => bgn_0 (HBd_arr (RX.2.1 (Int.toNat x) (Int.toNat l) (by omega) (by omega)) h0 h1)
      have g34 := cbv_d (U (Int.toNat x)) (S (Int.toNat x))
      show av_wp _ cd_193 16 [some (.inr (.inr (.inl (some (77))))), some (.inl x), some (.inl l), some (.inl w), none, none, none, none, none, none] [.inl (1)] h15 _
      refine av_wp_seq 12 (pc' := 38) (lv' := [some (.inr (.inr (.inl (some (77))))), some (.inl x), some (.inl l), some (.inl w), some (.inl (0)), some (.inl (-1)), some (.inl (-1)), some (.inl (-1)), some (.inl (-1)), none]) (st' := [.inl (0)]) (h' := h15) rfl ?_
      refine av_wp_seq 1 (pc' := 40) (lv' := [some (.inr (.inr (.inl (some (77))))), some (.inl x), some (.inl l), some (.inl w), some (.inl (0)), some (.inl (-1)), some (.inl (-1)), some (.inl (-1)), some (.inl (-1)), some (.inl (0))]) (st' := []) (h' := h15) rfl ?_
      have L46 : ∀ (m45 : Nat) (k35 : Int) (k36 : Int) (k37 : Int) (k38 : Int) (k39 : Int) (k40 : Int) (h41 : av_H), k35 = ta (fun q => (bgn (U (Int.toNat x)) (ro (Int.toNat l)) (bxx U S (ro (Int.toNat l)) (Int.toNat x)) (S (Int.toNat x)) q).2.2) (Int.toNat k40) 0 ∧ k36 = ta (fun q => (bgn (U (Int.toNat x)) (ro (Int.toNat l)) (bxx U S (ro (Int.toNat l)) (Int.toNat x)) (S (Int.toNat x)) q).2.2) (Int.toNat k40) 1 ∧ k37 = ta (fun q => (bgn (U (Int.toNat x)) (ro (Int.toNat l)) (bxx U S (ro (Int.toNat l)) (Int.toNat x)) (S (Int.toNat x)) q).2.2) (Int.toNat k40) 2 ∧ k38 = ta (fun q => (bgn (U (Int.toNat x)) (ro (Int.toNat l)) (bxx U S (ro (Int.toNat l)) (Int.toNat x)) (S (Int.toNat x)) q).2.2) (Int.toNat k40) 3 ∧ k39 = ta (fun q => (bgn (U (Int.toNat x)) (ro (Int.toNat l)) (bxx U S (ro (Int.toNat l)) (Int.toNat x)) (S (Int.toNat x)) q).2.2) (Int.toNat k40) 4 → k40 ≤ (cbv (U (Int.toNat x)) (S (Int.toNat x))) → k35 ≤ k40 → (0 ≤ k35 ∧ k35 ≤ 1024) → (-1 ≤ k36 ∧ k36 ≤ 1023) → (-1 ≤ k37 ∧ k37 ≤ 1023) → (-1 ≤ k38 ∧ k38 ≤ 9998) → (-1 ≤ k39 ∧ k39 ≤ 9998) → (0 ≤ k40 ∧ k40 ≤ 1024) → IMF n12 a13 m14 h41 → FM g h41 → RBA (U (Int.toNat x)) (ro (Int.toNat l)) (bxx U S (ro (Int.toNat l)) (Int.toNat x)) (S (Int.toNat x)) h41 → (1024 - k40).toNat = m45 → av_wp none cd_193 40 [some (.inr (.inr (.inl (some (77))))), some (.inl x), some (.inl l), some (.inl w), some (.inl k35), some (.inl k36), some (.inl k37), some (.inl k38), some (.inl k39), some (.inl k40)] [] h41 Q := by
        intro m45
        induction m45 using Nat.strongRecOn with
        | _ m45 I47 =>
          intro k35 k36 k37 k38 k39 k40 h41 g49 g50 g51 g52 g53 g54 g55 g56 g57 I42 F43 A44 e48
          refine av_wp_seq 2 (pc' := 43) (lv' := [some (.inr (.inr (.inl (some (77))))), some (.inl x), some (.inl l), some (.inl w), some (.inl k35), some (.inl k36), some (.inl k37), some (.inl k38), some (.inl k39), some (.inl k40)]) (st' := [.inr (.inr (.inl (some (77)))), .inl k40]) (h' := h41) rfl ?_
          refine wq_gi (p' := 46) rfl rfl (congrArg Prod.fst (ly_k I42.1.1.1 77 rfl)) rfl (I42.2.2.2) ?_
          refine wq_k2 (p' := 49) rfl rfl ⟨by omega, by omega⟩ ⟨by omega, by omega⟩ (fun c58 => ?_) (fun c59 => ?_)
          · have c58 : m14 ≤ k40 := c58
            refine av_wp_seq 1 (pc' := 128) (lv' := [some (.inr (.inr (.inl (some (77))))), some (.inl x), some (.inl l), some (.inl w), some (.inl k35), some (.inl k36), some (.inl k37), some (.inl k38), some (.inl k39), some (.inl k40)]) (st' := [.inl w]) (h' := h41) rfl ?_
            refine wq_k1 (p' := 131) rfl rfl ⟨by omega, by omega⟩ (fun c60 => ?_) (fun c61 => ?_)
            · have c60 : w ≠ (0) := c60
              refine av_wp_seq 2 (pc' := 138) (lv' := [some (.inr (.inr (.inl (some (77))))), some (.inl x), some (.inl l), some (.inl w), some (.inl k35), some (.inl k36), some (.inl k37), some (.inl k38), some (.inl k39), some (.inl k40)]) (st' := [.inl (1), .inl w]) (h' := h41) rfl ?_
              refine wq_k2 (p' := 141) rfl rfl ⟨by omega, by omega⟩ ⟨by omega, by omega⟩ (fun c62 => ?_) (fun c63 => ?_)
              · have c62 : w ≠ (1) := c62
                refine av_wp_seq 2 (pc' := 148) (lv' := [some (.inr (.inr (.inl (some (77))))), some (.inl x), some (.inl l), some (.inl w), some (.inl k35), some (.inl k36), some (.inl k37), some (.inl k38), some (.inl k39), some (.inl k40)]) (st' := [.inl (2), .inl w]) (h' := h41) rfl ?_
                refine wq_k2 (p' := 151) rfl rfl ⟨by omega, by omega⟩ ⟨by omega, by omega⟩ (fun c64 => ?_) (fun c65 => ?_)
                · have c64 : w ≠ (2) := c64
                  refine av_wp_seq 2 (pc' := 158) (lv' := [some (.inr (.inr (.inl (some (77))))), some (.inl x), some (.inl l), some (.inl w), some (.inl k35), some (.inl k36), some (.inl k37), some (.inl k38), some (.inl k39), some (.inl k40)]) (st' := [.inl (3), .inl w]) (h' := h41) rfl ?_
                  refine wq_k2 (p' := 161) rfl rfl ⟨by omega, by omega⟩ ⟨by omega, by omega⟩ (fun c66 => ?_) (fun c67 => ?_)
                  · have c66 : w ≠ (3) := c66
                    refine av_wp_seq 1 (pc' := 168) (lv' := [some (.inr (.inr (.inl (some (77))))), some (.inl x), some (.inl l), some (.inl w), some (.inl k35), some (.inl k36), some (.inl k37), some (.inl k38), some (.inl k39), some (.inl k40)]) (st' := [.inl k39]) (h' := h41) rfl ?_
                    refine av_wp_ret (v := some (.inl k39)) rfl rfl rfl ?_
                    exact hq _ _ _ _ h41 (Or.inl ⟨⟨by unfold okx; omega, by omega⟩, by rw [show Int.toNat w = 4 by omega, show Int.toNat (cbv (U (Int.toNat x)) (S (Int.toNat x))) = Int.toNat k40 by omega]; exact g49.2.2.2.2⟩) I42 F43
                  · have c67 : w = (3) := c67
                    refine av_wp_seq 2 (pc' := 168) (lv' := [some (.inr (.inr (.inl (some (77))))), some (.inl x), some (.inl l), some (.inl w), some (.inl k35), some (.inl k36), some (.inl k37), some (.inl k38), some (.inl k39), some (.inl k40)]) (st' := [.inl k38]) (h' := h41) rfl ?_
                    refine av_wp_ret (v := some (.inl k38)) rfl rfl rfl ?_
                    exact hq _ _ _ _ h41 (Or.inl ⟨⟨by unfold okx; omega, by omega⟩, by rw [show Int.toNat w = 3 by omega, show Int.toNat (cbv (U (Int.toNat x)) (S (Int.toNat x))) = Int.toNat k40 by omega]; exact g49.2.2.2.1⟩) I42 F43
                · have c65 : w = (2) := c65
                  refine av_wp_seq 2 (pc' := 168) (lv' := [some (.inr (.inr (.inl (some (77))))), some (.inl x), some (.inl l), some (.inl w), some (.inl k35), some (.inl k36), some (.inl k37), some (.inl k38), some (.inl k39), some (.inl k40)]) (st' := [.inl k37]) (h' := h41) rfl ?_
                  refine av_wp_ret (v := some (.inl k37)) rfl rfl rfl ?_
                  exact hq _ _ _ _ h41 (Or.inl ⟨⟨by unfold okx; omega, by omega⟩, by rw [show Int.toNat w = 2 by omega, show Int.toNat (cbv (U (Int.toNat x)) (S (Int.toNat x))) = Int.toNat k40 by omega]; exact g49.2.2.1⟩) I42 F43
              · have c63 : w = (1) := c63
                refine av_wp_seq 2 (pc' := 168) (lv' := [some (.inr (.inr (.inl (some (77))))), some (.inl x), some (.inl l), some (.inl w), some (.inl k35), some (.inl k36), some (.inl k37), some (.inl k38), some (.inl k39), some (.inl k40)]) (st' := [.inl k36]) (h' := h41) rfl ?_
                refine av_wp_ret (v := some (.inl k36)) rfl rfl rfl ?_
                exact hq _ _ _ _ h41 (Or.inl ⟨⟨by unfold okx; omega, by omega⟩, by rw [show Int.toNat w = 1 by omega, show Int.toNat (cbv (U (Int.toNat x)) (S (Int.toNat x))) = Int.toNat k40 by omega]; exact g49.2.1⟩) I42 F43
            · have c61 : w = (0) := c61
              refine av_wp_seq 2 (pc' := 168) (lv' := [some (.inr (.inr (.inl (some (77))))), some (.inl x), some (.inl l), some (.inl w), some (.inl k35), some (.inl k36), some (.inl k37), some (.inl k38), some (.inl k39), some (.inl k40)]) (st' := [.inl k35]) (h' := h41) rfl ?_
              refine av_wp_ret (v := some (.inl k35)) rfl rfl rfl ?_
              exact hq _ _ _ _ h41 (Or.inl ⟨⟨by unfold okx; omega, by omega⟩, by rw [show Int.toNat w = 0 by omega, show Int.toNat (cbv (U (Int.toNat x)) (S (Int.toNat x))) = Int.toNat k40 by omega]; exact g49.1⟩) I42 F43
          · have c59 : k40 < m14 := c59
            refine av_wp_seq 2 (pc' := 52) (lv' := [some (.inr (.inr (.inl (some (77))))), some (.inl x), some (.inl l), some (.inl w), some (.inl k35), some (.inl k36), some (.inl k37), some (.inl k38), some (.inl k39), some (.inl k40)]) (st' := [.inl k40, .inr (.inr (.inl (some (77))))]) (h' := h41) rfl ?_
            refine wq_cv (p' := 55) (av_qc (.invokevirtual 431) 181 1 0 8) 2 cd_181 [.inl k40] (77) 8 [some (.inr (.inr (.inl (some (77))))), some (.inl k40)] rfl rfl rfl pp_181 rfl rfl rfl (congrArg Prod.fst (ly_k I42.1.1.1 77 rfl)) rfl rfl rfl rfl ?_
            refine cy_181 I42 F43 e19 A44 (RX.2.1 (Int.toNat x) (Int.toNat l) (by omega) (by omega)) (k40) (by omega) (fun h68 I69 F70 Z71 A72 O73 B74 L75 => ?_)
            show av_wp _ cd_193 55 [some (.inr (.inr (.inl (some (77))))), some (.inl x), some (.inl l), some (.inl w), some (.inl k35), some (.inl k36), some (.inl k37), some (.inl k38), some (.inl k39), some (.inl k40)] [] h68 _
            refine av_wp_seq 1 (pc' := 56) (lv' := [some (.inr (.inr (.inl (some (77))))), some (.inl x), some (.inl l), some (.inl w), some (.inl k35), some (.inl k36), some (.inl k37), some (.inl k38), some (.inl k39), some (.inl k40)]) (st' := [.inr (.inr (.inl (some (77))))]) (h' := h68) rfl ?_
            obtain ⟨v76, e77⟩ : ∃ v, hF h68 77 50 = v := ⟨_, rfl⟩
            have g78 := im_has I69.1.1
            rw [e77] at g78
            refine wq_gb (p' := 59) rfl rfl (congrArg Prod.fst (ly_k I69.1.1.1 77 rfl)) rfl (e77) ?_
            refine wq_k1 (p' := 62) rfl rfl ⟨by omega, by omega⟩ (fun c79 => ?_) (fun c80 => ?_)
            · have c79 : v76 ≠ (0) := c79
              refine av_wp_seq 2 (pc' := 79) (lv' := [some (.inr (.inr (.inl (some (77))))), some (.inl x), some (.inl l), some (.inl w), some (.inl (k35 + (1))), some (.inl k36), some (.inl k37), some (.inl k38), some (.inl k39), some (.inl k40)]) (st' := [.inl k36]) (h' := h68) rfl ?_
              refine wq_k1 (p' := 82) rfl rfl ⟨by omega, by omega⟩ (fun c81 => ?_) (fun c82 => ?_)
              · have c81 : (0) ≤ k36 := c81
                refine av_wp_seq 1 (pc' := 88) (lv' := [some (.inr (.inr (.inl (some (77))))), some (.inl x), some (.inl l), some (.inl w), some (.inl (k35 + (1))), some (.inl k36), some (.inl k37), some (.inl k38), some (.inl k39), some (.inl k40)]) (st' := [.inl k38]) (h' := h68) rfl ?_
                refine wq_k1 (p' := 91) rfl rfl ⟨by omega, by omega⟩ (fun c83 => ?_) (fun c84 => ?_)
                · have c83 : k38 < (0) := c83
                  refine av_wp_seq 1 (pc' := 101) (lv' := [some (.inr (.inr (.inl (some (77))))), some (.inl x), some (.inl l), some (.inl w), some (.inl (k35 + (1))), some (.inl k36), some (.inl k37), some (.inl k38), some (.inl k39), some (.inl k40)]) (st' := [.inr (.inr (.inl (some (77))))]) (h' := h68) rfl ?_
                  obtain ⟨v85, e86⟩ : ∃ v, hF h68 77 53 = v := ⟨_, rfl⟩
                  have y87 : (bgn (U (Int.toNat x)) (ro (Int.toNat l)) (bxx U S (ro (Int.toNat l)) (Int.toNat x)) (S (Int.toNat x)) k40).2.2 = v85 := (BRR_ye B74 e77 (by omega)).2.2.2.symm.trans e86
                  have g88 := H33 k40 (by omega) (by omega)
                  rw [show (bgn (U (Int.toNat x)) (ro (Int.toNat l)) (bxx U S (ro (Int.toNat l)) (Int.toNat x)) (S (Int.toNat x)) k40).2.2 = v85 from y87] at g88
                  have z89 : v85 ≠ 9999 := fun z => (BRR_ye B74 e77 (by omega)).1 (y87.trans z)
                  refine wq_gi (p' := 104) rfl rfl (congrArg Prod.fst (ly_k I69.1.1.1 77 rfl)) rfl (e86) ?_
                  refine av_wp_seq 2 (pc' := 107) (lv' := [some (.inr (.inr (.inl (some (77))))), some (.inl x), some (.inl l), some (.inl w), some (.inl (k35 + (1))), some (.inl k36), some (.inl k37), some (.inl v85), some (.inl k39), some (.inl k40)]) (st' := [.inr (.inr (.inl (some (77))))]) (h' := h68) rfl ?_
                  obtain ⟨v90, e91⟩ : ∃ v, hF h68 77 53 = v := ⟨_, rfl⟩
                  have y92 : (bgn (U (Int.toNat x)) (ro (Int.toNat l)) (bxx U S (ro (Int.toNat l)) (Int.toNat x)) (S (Int.toNat x)) k40).2.2 = v90 := (BRR_ye B74 e77 (by omega)).2.2.2.symm.trans e91
                  have g93 := H33 k40 (by omega) (by omega)
                  rw [show (bgn (U (Int.toNat x)) (ro (Int.toNat l)) (bxx U S (ro (Int.toNat l)) (Int.toNat x)) (S (Int.toNat x)) k40).2.2 = v90 from y92] at g93
                  have z94 : v90 ≠ 9999 := fun z => (BRR_ye B74 e77 (by omega)).1 (y92.trans z)
                  refine wq_gi (p' := 110) rfl rfl (congrArg Prod.fst (ly_k I69.1.1.1 77 rfl)) rfl (e91) ?_
                  refine av_wp_seq 1 (pc' := 112) (lv' := [some (.inr (.inr (.inl (some (77))))), some (.inl x), some (.inl l), some (.inl w), some (.inl (k35 + (1))), some (.inl k36), some (.inl k37), some (.inl v85), some (.inl k39), some (.inl k40)]) (st' := [.inl k39, .inl v90]) (h' := h68) rfl ?_
                  refine wq_k2 (p' := 115) rfl rfl ⟨by omega, by omega⟩ ⟨by omega, by omega⟩ (fun c95 => ?_) (fun c96 => ?_)
                  · have c95 : v90 ≤ k39 := c95
                    refine av_wp_seq 2 (pc' := 40) (lv' := [some (.inr (.inr (.inl (some (77))))), some (.inl x), some (.inl l), some (.inl w), some (.inl (k35 + (1))), some (.inl k36), some (.inl k37), some (.inl v85), some (.inl k39), some (.inl (k40 + (1)))]) (st' := []) (h' := h68) rfl ?_
                    exact I47 _ (by omega) ((k35 + (1))) (k36) (k37) (v85) (k39) ((k40 + (1))) h68 (by have tr := ta_r (f := (fun q => (bgn (U (Int.toNat x)) (ro (Int.toNat l)) (bxx U S (ro (Int.toNat l)) (Int.toNat x)) (S (Int.toNat x)) q).2.2)) H33 (Int.toNat k40) (by omega); have JJ := g49; obtain ⟨w0, w1, w2, w3, w4⟩ := JJ; obtain ⟨y0, y1, y2, y3, y4⟩ := ta_bs (f := (fun q => (bgn (U (Int.toNat x)) (ro (Int.toNat l)) (bxx U S (ro (Int.toNat l)) (Int.toNat x)) (S (Int.toNat x)) q).2.2)) (show (bgn (U (Int.toNat x)) (ro (Int.toNat l)) (bxx U S (ro (Int.toNat l)) (Int.toNat x)) (S (Int.toNat x)) ((Int.toNat k40 : Nat) : Int)).2.2 = v90 by rw [show ((Int.toNat k40 : Nat) : Int) = k40 by omega]; exact y92) (by omega); rw [show Int.toNat (k40 + (1)) = Int.toNat k40 + 1 by omega, y0, y1, y2, y3, y4]; rw [← w0, ← w1, ← w2, ← w3, ← w4] at tr ⊢; (try unfold mn2); (try unfold mx2); refine ⟨?_, ?_, ?_, ?_, ?_⟩ <;> first | omega | (split <;> omega) | ((repeat' split) <;> omega)) (by omega) (by omega) (by omega) (by omega) (by omega) (by omega) (by omega) (by omega) I69 F70 A72 rfl
                  · have c96 : k39 < v90 := c96
                    refine av_wp_seq 1 (pc' := 116) (lv' := [some (.inr (.inr (.inl (some (77))))), some (.inl x), some (.inl l), some (.inl w), some (.inl (k35 + (1))), some (.inl k36), some (.inl k37), some (.inl v85), some (.inl k39), some (.inl k40)]) (st' := [.inr (.inr (.inl (some (77))))]) (h' := h68) rfl ?_
                    obtain ⟨v97, e98⟩ : ∃ v, hF h68 77 53 = v := ⟨_, rfl⟩
                    have y99 : (bgn (U (Int.toNat x)) (ro (Int.toNat l)) (bxx U S (ro (Int.toNat l)) (Int.toNat x)) (S (Int.toNat x)) k40).2.2 = v97 := (BRR_ye B74 e77 (by omega)).2.2.2.symm.trans e98
                    have g100 := H33 k40 (by omega) (by omega)
                    rw [show (bgn (U (Int.toNat x)) (ro (Int.toNat l)) (bxx U S (ro (Int.toNat l)) (Int.toNat x)) (S (Int.toNat x)) k40).2.2 = v97 from y99] at g100
                    have z101 : v97 ≠ 9999 := fun z => (BRR_ye B74 e77 (by omega)).1 (y99.trans z)
                    refine wq_gi (p' := 119) rfl rfl (congrArg Prod.fst (ly_k I69.1.1.1 77 rfl)) rfl (e98) ?_
                    refine av_wp_seq 3 (pc' := 40) (lv' := [some (.inr (.inr (.inl (some (77))))), some (.inl x), some (.inl l), some (.inl w), some (.inl (k35 + (1))), some (.inl k36), some (.inl k37), some (.inl v85), some (.inl v97), some (.inl (k40 + (1)))]) (st' := []) (h' := h68) rfl ?_
                    exact I47 _ (by omega) ((k35 + (1))) (k36) (k37) (v85) (v97) ((k40 + (1))) h68 (by have tr := ta_r (f := (fun q => (bgn (U (Int.toNat x)) (ro (Int.toNat l)) (bxx U S (ro (Int.toNat l)) (Int.toNat x)) (S (Int.toNat x)) q).2.2)) H33 (Int.toNat k40) (by omega); have JJ := g49; obtain ⟨w0, w1, w2, w3, w4⟩ := JJ; obtain ⟨y0, y1, y2, y3, y4⟩ := ta_bs (f := (fun q => (bgn (U (Int.toNat x)) (ro (Int.toNat l)) (bxx U S (ro (Int.toNat l)) (Int.toNat x)) (S (Int.toNat x)) q).2.2)) (show (bgn (U (Int.toNat x)) (ro (Int.toNat l)) (bxx U S (ro (Int.toNat l)) (Int.toNat x)) (S (Int.toNat x)) ((Int.toNat k40 : Nat) : Int)).2.2 = v97 by rw [show ((Int.toNat k40 : Nat) : Int) = k40 by omega]; exact y99) (by omega); rw [show Int.toNat (k40 + (1)) = Int.toNat k40 + 1 by omega, y0, y1, y2, y3, y4]; rw [← w0, ← w1, ← w2, ← w3, ← w4] at tr ⊢; (try unfold mn2); (try unfold mx2); refine ⟨?_, ?_, ?_, ?_, ?_⟩ <;> first | omega | (split <;> omega) | ((repeat' split) <;> omega)) (by omega) (by omega) (by omega) (by omega) (by omega) (by omega) (by omega) (by omega) I69 F70 A72 rfl
                · have c84 : (0) ≤ k38 := c84
                  refine av_wp_seq 1 (pc' := 92) (lv' := [some (.inr (.inr (.inl (some (77))))), some (.inl x), some (.inl l), some (.inl w), some (.inl (k35 + (1))), some (.inl k36), some (.inl k37), some (.inl k38), some (.inl k39), some (.inl k40)]) (st' := [.inr (.inr (.inl (some (77))))]) (h' := h68) rfl ?_
                  obtain ⟨v102, e103⟩ : ∃ v, hF h68 77 53 = v := ⟨_, rfl⟩
                  have y104 : (bgn (U (Int.toNat x)) (ro (Int.toNat l)) (bxx U S (ro (Int.toNat l)) (Int.toNat x)) (S (Int.toNat x)) k40).2.2 = v102 := (BRR_ye B74 e77 (by omega)).2.2.2.symm.trans e103
                  have g105 := H33 k40 (by omega) (by omega)
                  rw [show (bgn (U (Int.toNat x)) (ro (Int.toNat l)) (bxx U S (ro (Int.toNat l)) (Int.toNat x)) (S (Int.toNat x)) k40).2.2 = v102 from y104] at g105
                  have z106 : v102 ≠ 9999 := fun z => (BRR_ye B74 e77 (by omega)).1 (y104.trans z)
                  refine wq_gi (p' := 95) rfl rfl (congrArg Prod.fst (ly_k I69.1.1.1 77 rfl)) rfl (e103) ?_
                  refine av_wp_seq 1 (pc' := 97) (lv' := [some (.inr (.inr (.inl (some (77))))), some (.inl x), some (.inl l), some (.inl w), some (.inl (k35 + (1))), some (.inl k36), some (.inl k37), some (.inl k38), some (.inl k39), some (.inl k40)]) (st' := [.inl k38, .inl v102]) (h' := h68) rfl ?_
                  refine wq_k2 (p' := 100) rfl rfl ⟨by omega, by omega⟩ ⟨by omega, by omega⟩ (fun c107 => ?_) (fun c108 => ?_)
                  · have c107 : k38 ≤ v102 := c107
                    refine av_wp_seq 1 (pc' := 107) (lv' := [some (.inr (.inr (.inl (some (77))))), some (.inl x), some (.inl l), some (.inl w), some (.inl (k35 + (1))), some (.inl k36), some (.inl k37), some (.inl k38), some (.inl k39), some (.inl k40)]) (st' := [.inr (.inr (.inl (some (77))))]) (h' := h68) rfl ?_
                    obtain ⟨v109, e110⟩ : ∃ v, hF h68 77 53 = v := ⟨_, rfl⟩
                    have y111 : (bgn (U (Int.toNat x)) (ro (Int.toNat l)) (bxx U S (ro (Int.toNat l)) (Int.toNat x)) (S (Int.toNat x)) k40).2.2 = v109 := (BRR_ye B74 e77 (by omega)).2.2.2.symm.trans e110
                    have g112 := H33 k40 (by omega) (by omega)
                    rw [show (bgn (U (Int.toNat x)) (ro (Int.toNat l)) (bxx U S (ro (Int.toNat l)) (Int.toNat x)) (S (Int.toNat x)) k40).2.2 = v109 from y111] at g112
                    have z113 : v109 ≠ 9999 := fun z => (BRR_ye B74 e77 (by omega)).1 (y111.trans z)
                    refine wq_gi (p' := 110) rfl rfl (congrArg Prod.fst (ly_k I69.1.1.1 77 rfl)) rfl (e110) ?_
                    refine av_wp_seq 1 (pc' := 112) (lv' := [some (.inr (.inr (.inl (some (77))))), some (.inl x), some (.inl l), some (.inl w), some (.inl (k35 + (1))), some (.inl k36), some (.inl k37), some (.inl k38), some (.inl k39), some (.inl k40)]) (st' := [.inl k39, .inl v109]) (h' := h68) rfl ?_
                    refine wq_k2 (p' := 115) rfl rfl ⟨by omega, by omega⟩ ⟨by omega, by omega⟩ (fun c114 => ?_) (fun c115 => ?_)
                    · have c114 : v109 ≤ k39 := c114
                      refine av_wp_seq 2 (pc' := 40) (lv' := [some (.inr (.inr (.inl (some (77))))), some (.inl x), some (.inl l), some (.inl w), some (.inl (k35 + (1))), some (.inl k36), some (.inl k37), some (.inl k38), some (.inl k39), some (.inl (k40 + (1)))]) (st' := []) (h' := h68) rfl ?_
                      exact I47 _ (by omega) ((k35 + (1))) (k36) (k37) (k38) (k39) ((k40 + (1))) h68 (by have tr := ta_r (f := (fun q => (bgn (U (Int.toNat x)) (ro (Int.toNat l)) (bxx U S (ro (Int.toNat l)) (Int.toNat x)) (S (Int.toNat x)) q).2.2)) H33 (Int.toNat k40) (by omega); have JJ := g49; obtain ⟨w0, w1, w2, w3, w4⟩ := JJ; obtain ⟨y0, y1, y2, y3, y4⟩ := ta_bs (f := (fun q => (bgn (U (Int.toNat x)) (ro (Int.toNat l)) (bxx U S (ro (Int.toNat l)) (Int.toNat x)) (S (Int.toNat x)) q).2.2)) (show (bgn (U (Int.toNat x)) (ro (Int.toNat l)) (bxx U S (ro (Int.toNat l)) (Int.toNat x)) (S (Int.toNat x)) ((Int.toNat k40 : Nat) : Int)).2.2 = v109 by rw [show ((Int.toNat k40 : Nat) : Int) = k40 by omega]; exact y111) (by omega); rw [show Int.toNat (k40 + (1)) = Int.toNat k40 + 1 by omega, y0, y1, y2, y3, y4]; rw [← w0, ← w1, ← w2, ← w3, ← w4] at tr ⊢; (try unfold mn2); (try unfold mx2); refine ⟨?_, ?_, ?_, ?_, ?_⟩ <;> first | omega | (split <;> omega) | ((repeat' split) <;> omega)) (by omega) (by omega) (by omega) (by omega) (by omega) (by omega) (by omega) (by omega) I69 F70 A72 rfl
                    · have c115 : k39 < v109 := c115
                      refine av_wp_seq 1 (pc' := 116) (lv' := [some (.inr (.inr (.inl (some (77))))), some (.inl x), some (.inl l), some (.inl w), some (.inl (k35 + (1))), some (.inl k36), some (.inl k37), some (.inl k38), some (.inl k39), some (.inl k40)]) (st' := [.inr (.inr (.inl (some (77))))]) (h' := h68) rfl ?_
                      obtain ⟨v116, e117⟩ : ∃ v, hF h68 77 53 = v := ⟨_, rfl⟩
                      have y118 : (bgn (U (Int.toNat x)) (ro (Int.toNat l)) (bxx U S (ro (Int.toNat l)) (Int.toNat x)) (S (Int.toNat x)) k40).2.2 = v116 := (BRR_ye B74 e77 (by omega)).2.2.2.symm.trans e117
                      have g119 := H33 k40 (by omega) (by omega)
                      rw [show (bgn (U (Int.toNat x)) (ro (Int.toNat l)) (bxx U S (ro (Int.toNat l)) (Int.toNat x)) (S (Int.toNat x)) k40).2.2 = v116 from y118] at g119
                      have z120 : v116 ≠ 9999 := fun z => (BRR_ye B74 e77 (by omega)).1 (y118.trans z)
                      refine wq_gi (p' := 119) rfl rfl (congrArg Prod.fst (ly_k I69.1.1.1 77 rfl)) rfl (e117) ?_
                      refine av_wp_seq 3 (pc' := 40) (lv' := [some (.inr (.inr (.inl (some (77))))), some (.inl x), some (.inl l), some (.inl w), some (.inl (k35 + (1))), some (.inl k36), some (.inl k37), some (.inl k38), some (.inl v116), some (.inl (k40 + (1)))]) (st' := []) (h' := h68) rfl ?_
                      exact I47 _ (by omega) ((k35 + (1))) (k36) (k37) (k38) (v116) ((k40 + (1))) h68 (by have tr := ta_r (f := (fun q => (bgn (U (Int.toNat x)) (ro (Int.toNat l)) (bxx U S (ro (Int.toNat l)) (Int.toNat x)) (S (Int.toNat x)) q).2.2)) H33 (Int.toNat k40) (by omega); have JJ := g49; obtain ⟨w0, w1, w2, w3, w4⟩ := JJ; obtain ⟨y0, y1, y2, y3, y4⟩ := ta_bs (f := (fun q => (bgn (U (Int.toNat x)) (ro (Int.toNat l)) (bxx U S (ro (Int.toNat l)) (Int.toNat x)) (S (Int.toNat x)) q).2.2)) (show (bgn (U (Int.toNat x)) (ro (Int.toNat l)) (bxx U S (ro (Int.toNat l)) (Int.toNat x)) (S (Int.toNat x)) ((Int.toNat k40 : Nat) : Int)).2.2 = v116 by rw [show ((Int.toNat k40 : Nat) : Int) = k40 by omega]; exact y118) (by omega); rw [show Int.toNat (k40 + (1)) = Int.toNat k40 + 1 by omega, y0, y1, y2, y3, y4]; rw [← w0, ← w1, ← w2, ← w3, ← w4] at tr ⊢; (try unfold mn2); (try unfold mx2); refine ⟨?_, ?_, ?_, ?_, ?_⟩ <;> first | omega | (split <;> omega) | ((repeat' split) <;> omega)) (by omega) (by omega) (by omega) (by omega) (by omega) (by omega) (by omega) (by omega) I69 F70 A72 rfl
                  · have c108 : v102 < k38 := c108
                    refine av_wp_seq 1 (pc' := 101) (lv' := [some (.inr (.inr (.inl (some (77))))), some (.inl x), some (.inl l), some (.inl w), some (.inl (k35 + (1))), some (.inl k36), some (.inl k37), some (.inl k38), some (.inl k39), some (.inl k40)]) (st' := [.inr (.inr (.inl (some (77))))]) (h' := h68) rfl ?_
                    obtain ⟨v121, e122⟩ : ∃ v, hF h68 77 53 = v := ⟨_, rfl⟩
                    have y123 : (bgn (U (Int.toNat x)) (ro (Int.toNat l)) (bxx U S (ro (Int.toNat l)) (Int.toNat x)) (S (Int.toNat x)) k40).2.2 = v121 := (BRR_ye B74 e77 (by omega)).2.2.2.symm.trans e122
                    have g124 := H33 k40 (by omega) (by omega)
                    rw [show (bgn (U (Int.toNat x)) (ro (Int.toNat l)) (bxx U S (ro (Int.toNat l)) (Int.toNat x)) (S (Int.toNat x)) k40).2.2 = v121 from y123] at g124
                    have z125 : v121 ≠ 9999 := fun z => (BRR_ye B74 e77 (by omega)).1 (y123.trans z)
                    refine wq_gi (p' := 104) rfl rfl (congrArg Prod.fst (ly_k I69.1.1.1 77 rfl)) rfl (e122) ?_
                    refine av_wp_seq 2 (pc' := 107) (lv' := [some (.inr (.inr (.inl (some (77))))), some (.inl x), some (.inl l), some (.inl w), some (.inl (k35 + (1))), some (.inl k36), some (.inl k37), some (.inl v121), some (.inl k39), some (.inl k40)]) (st' := [.inr (.inr (.inl (some (77))))]) (h' := h68) rfl ?_
                    obtain ⟨v126, e127⟩ : ∃ v, hF h68 77 53 = v := ⟨_, rfl⟩
                    have y128 : (bgn (U (Int.toNat x)) (ro (Int.toNat l)) (bxx U S (ro (Int.toNat l)) (Int.toNat x)) (S (Int.toNat x)) k40).2.2 = v126 := (BRR_ye B74 e77 (by omega)).2.2.2.symm.trans e127
                    have g129 := H33 k40 (by omega) (by omega)
                    rw [show (bgn (U (Int.toNat x)) (ro (Int.toNat l)) (bxx U S (ro (Int.toNat l)) (Int.toNat x)) (S (Int.toNat x)) k40).2.2 = v126 from y128] at g129
                    have z130 : v126 ≠ 9999 := fun z => (BRR_ye B74 e77 (by omega)).1 (y128.trans z)
                    refine wq_gi (p' := 110) rfl rfl (congrArg Prod.fst (ly_k I69.1.1.1 77 rfl)) rfl (e127) ?_
                    refine av_wp_seq 1 (pc' := 112) (lv' := [some (.inr (.inr (.inl (some (77))))), some (.inl x), some (.inl l), some (.inl w), some (.inl (k35 + (1))), some (.inl k36), some (.inl k37), some (.inl v121), some (.inl k39), some (.inl k40)]) (st' := [.inl k39, .inl v126]) (h' := h68) rfl ?_
                    refine wq_k2 (p' := 115) rfl rfl ⟨by omega, by omega⟩ ⟨by omega, by omega⟩ (fun c131 => ?_) (fun c132 => ?_)
                    · have c131 : v126 ≤ k39 := c131
                      refine av_wp_seq 2 (pc' := 40) (lv' := [some (.inr (.inr (.inl (some (77))))), some (.inl x), some (.inl l), some (.inl w), some (.inl (k35 + (1))), some (.inl k36), some (.inl k37), some (.inl v121), some (.inl k39), some (.inl (k40 + (1)))]) (st' := []) (h' := h68) rfl ?_
                      exact I47 _ (by omega) ((k35 + (1))) (k36) (k37) (v121) (k39) ((k40 + (1))) h68 (by have tr := ta_r (f := (fun q => (bgn (U (Int.toNat x)) (ro (Int.toNat l)) (bxx U S (ro (Int.toNat l)) (Int.toNat x)) (S (Int.toNat x)) q).2.2)) H33 (Int.toNat k40) (by omega); have JJ := g49; obtain ⟨w0, w1, w2, w3, w4⟩ := JJ; obtain ⟨y0, y1, y2, y3, y4⟩ := ta_bs (f := (fun q => (bgn (U (Int.toNat x)) (ro (Int.toNat l)) (bxx U S (ro (Int.toNat l)) (Int.toNat x)) (S (Int.toNat x)) q).2.2)) (show (bgn (U (Int.toNat x)) (ro (Int.toNat l)) (bxx U S (ro (Int.toNat l)) (Int.toNat x)) (S (Int.toNat x)) ((Int.toNat k40 : Nat) : Int)).2.2 = v126 by rw [show ((Int.toNat k40 : Nat) : Int) = k40 by omega]; exact y128) (by omega); rw [show Int.toNat (k40 + (1)) = Int.toNat k40 + 1 by omega, y0, y1, y2, y3, y4]; rw [← w0, ← w1, ← w2, ← w3, ← w4] at tr ⊢; (try unfold mn2); (try unfold mx2); refine ⟨?_, ?_, ?_, ?_, ?_⟩ <;> first | omega | (split <;> omega) | ((repeat' split) <;> omega)) (by omega) (by omega) (by omega) (by omega) (by omega) (by omega) (by omega) (by omega) I69 F70 A72 rfl
                    · have c132 : k39 < v126 := c132
                      refine av_wp_seq 1 (pc' := 116) (lv' := [some (.inr (.inr (.inl (some (77))))), some (.inl x), some (.inl l), some (.inl w), some (.inl (k35 + (1))), some (.inl k36), some (.inl k37), some (.inl v121), some (.inl k39), some (.inl k40)]) (st' := [.inr (.inr (.inl (some (77))))]) (h' := h68) rfl ?_
                      obtain ⟨v133, e134⟩ : ∃ v, hF h68 77 53 = v := ⟨_, rfl⟩
                      have y135 : (bgn (U (Int.toNat x)) (ro (Int.toNat l)) (bxx U S (ro (Int.toNat l)) (Int.toNat x)) (S (Int.toNat x)) k40).2.2 = v133 := (BRR_ye B74 e77 (by omega)).2.2.2.symm.trans e134
                      have g136 := H33 k40 (by omega) (by omega)
                      rw [show (bgn (U (Int.toNat x)) (ro (Int.toNat l)) (bxx U S (ro (Int.toNat l)) (Int.toNat x)) (S (Int.toNat x)) k40).2.2 = v133 from y135] at g136
                      have z137 : v133 ≠ 9999 := fun z => (BRR_ye B74 e77 (by omega)).1 (y135.trans z)
                      refine wq_gi (p' := 119) rfl rfl (congrArg Prod.fst (ly_k I69.1.1.1 77 rfl)) rfl (e134) ?_
                      refine av_wp_seq 3 (pc' := 40) (lv' := [some (.inr (.inr (.inl (some (77))))), some (.inl x), some (.inl l), some (.inl w), some (.inl (k35 + (1))), some (.inl k36), some (.inl k37), some (.inl v121), some (.inl v133), some (.inl (k40 + (1)))]) (st' := []) (h' := h68) rfl ?_
                      exact I47 _ (by omega) ((k35 + (1))) (k36) (k37) (v121) (v133) ((k40 + (1))) h68 (by have tr := ta_r (f := (fun q => (bgn (U (Int.toNat x)) (ro (Int.toNat l)) (bxx U S (ro (Int.toNat l)) (Int.toNat x)) (S (Int.toNat x)) q).2.2)) H33 (Int.toNat k40) (by omega); have JJ := g49; obtain ⟨w0, w1, w2, w3, w4⟩ := JJ; obtain ⟨y0, y1, y2, y3, y4⟩ := ta_bs (f := (fun q => (bgn (U (Int.toNat x)) (ro (Int.toNat l)) (bxx U S (ro (Int.toNat l)) (Int.toNat x)) (S (Int.toNat x)) q).2.2)) (show (bgn (U (Int.toNat x)) (ro (Int.toNat l)) (bxx U S (ro (Int.toNat l)) (Int.toNat x)) (S (Int.toNat x)) ((Int.toNat k40 : Nat) : Int)).2.2 = v133 by rw [show ((Int.toNat k40 : Nat) : Int) = k40 by omega]; exact y135) (by omega); rw [show Int.toNat (k40 + (1)) = Int.toNat k40 + 1 by omega, y0, y1, y2, y3, y4]; rw [← w0, ← w1, ← w2, ← w3, ← w4] at tr ⊢; (try unfold mn2); (try unfold mx2); refine ⟨?_, ?_, ?_, ?_, ?_⟩ <;> first | omega | (split <;> omega) | ((repeat' split) <;> omega)) (by omega) (by omega) (by omega) (by omega) (by omega) (by omega) (by omega) (by omega) I69 F70 A72 rfl
              · have c82 : k36 < (0) := c82
                refine av_wp_seq 3 (pc' := 88) (lv' := [some (.inr (.inr (.inl (some (77))))), some (.inl x), some (.inl l), some (.inl w), some (.inl (k35 + (1))), some (.inl k40), some (.inl k37), some (.inl k38), some (.inl k39), some (.inl k40)]) (st' := [.inl k38]) (h' := h68) rfl ?_
                refine wq_k1 (p' := 91) rfl rfl ⟨by omega, by omega⟩ (fun c138 => ?_) (fun c139 => ?_)
                · have c138 : k38 < (0) := c138
                  refine av_wp_seq 1 (pc' := 101) (lv' := [some (.inr (.inr (.inl (some (77))))), some (.inl x), some (.inl l), some (.inl w), some (.inl (k35 + (1))), some (.inl k40), some (.inl k37), some (.inl k38), some (.inl k39), some (.inl k40)]) (st' := [.inr (.inr (.inl (some (77))))]) (h' := h68) rfl ?_
                  obtain ⟨v140, e141⟩ : ∃ v, hF h68 77 53 = v := ⟨_, rfl⟩
                  have y142 : (bgn (U (Int.toNat x)) (ro (Int.toNat l)) (bxx U S (ro (Int.toNat l)) (Int.toNat x)) (S (Int.toNat x)) k40).2.2 = v140 := (BRR_ye B74 e77 (by omega)).2.2.2.symm.trans e141
                  have g143 := H33 k40 (by omega) (by omega)
                  rw [show (bgn (U (Int.toNat x)) (ro (Int.toNat l)) (bxx U S (ro (Int.toNat l)) (Int.toNat x)) (S (Int.toNat x)) k40).2.2 = v140 from y142] at g143
                  have z144 : v140 ≠ 9999 := fun z => (BRR_ye B74 e77 (by omega)).1 (y142.trans z)
                  refine wq_gi (p' := 104) rfl rfl (congrArg Prod.fst (ly_k I69.1.1.1 77 rfl)) rfl (e141) ?_
                  refine av_wp_seq 2 (pc' := 107) (lv' := [some (.inr (.inr (.inl (some (77))))), some (.inl x), some (.inl l), some (.inl w), some (.inl (k35 + (1))), some (.inl k40), some (.inl k37), some (.inl v140), some (.inl k39), some (.inl k40)]) (st' := [.inr (.inr (.inl (some (77))))]) (h' := h68) rfl ?_
                  obtain ⟨v145, e146⟩ : ∃ v, hF h68 77 53 = v := ⟨_, rfl⟩
                  have y147 : (bgn (U (Int.toNat x)) (ro (Int.toNat l)) (bxx U S (ro (Int.toNat l)) (Int.toNat x)) (S (Int.toNat x)) k40).2.2 = v145 := (BRR_ye B74 e77 (by omega)).2.2.2.symm.trans e146
                  have g148 := H33 k40 (by omega) (by omega)
                  rw [show (bgn (U (Int.toNat x)) (ro (Int.toNat l)) (bxx U S (ro (Int.toNat l)) (Int.toNat x)) (S (Int.toNat x)) k40).2.2 = v145 from y147] at g148
                  have z149 : v145 ≠ 9999 := fun z => (BRR_ye B74 e77 (by omega)).1 (y147.trans z)
                  refine wq_gi (p' := 110) rfl rfl (congrArg Prod.fst (ly_k I69.1.1.1 77 rfl)) rfl (e146) ?_
                  refine av_wp_seq 1 (pc' := 112) (lv' := [some (.inr (.inr (.inl (some (77))))), some (.inl x), some (.inl l), some (.inl w), some (.inl (k35 + (1))), some (.inl k40), some (.inl k37), some (.inl v140), some (.inl k39), some (.inl k40)]) (st' := [.inl k39, .inl v145]) (h' := h68) rfl ?_
                  refine wq_k2 (p' := 115) rfl rfl ⟨by omega, by omega⟩ ⟨by omega, by omega⟩ (fun c150 => ?_) (fun c151 => ?_)
                  · have c150 : v145 ≤ k39 := c150
                    refine av_wp_seq 2 (pc' := 40) (lv' := [some (.inr (.inr (.inl (some (77))))), some (.inl x), some (.inl l), some (.inl w), some (.inl (k35 + (1))), some (.inl k40), some (.inl k37), some (.inl v140), some (.inl k39), some (.inl (k40 + (1)))]) (st' := []) (h' := h68) rfl ?_
                    exact I47 _ (by omega) ((k35 + (1))) (k40) (k37) (v140) (k39) ((k40 + (1))) h68 (by have tr := ta_r (f := (fun q => (bgn (U (Int.toNat x)) (ro (Int.toNat l)) (bxx U S (ro (Int.toNat l)) (Int.toNat x)) (S (Int.toNat x)) q).2.2)) H33 (Int.toNat k40) (by omega); have JJ := g49; obtain ⟨w0, w1, w2, w3, w4⟩ := JJ; obtain ⟨y0, y1, y2, y3, y4⟩ := ta_bs (f := (fun q => (bgn (U (Int.toNat x)) (ro (Int.toNat l)) (bxx U S (ro (Int.toNat l)) (Int.toNat x)) (S (Int.toNat x)) q).2.2)) (show (bgn (U (Int.toNat x)) (ro (Int.toNat l)) (bxx U S (ro (Int.toNat l)) (Int.toNat x)) (S (Int.toNat x)) ((Int.toNat k40 : Nat) : Int)).2.2 = v145 by rw [show ((Int.toNat k40 : Nat) : Int) = k40 by omega]; exact y147) (by omega); rw [show Int.toNat (k40 + (1)) = Int.toNat k40 + 1 by omega, y0, y1, y2, y3, y4]; rw [← w0, ← w1, ← w2, ← w3, ← w4] at tr ⊢; (try unfold mn2); (try unfold mx2); refine ⟨?_, ?_, ?_, ?_, ?_⟩ <;> first | omega | (split <;> omega) | ((repeat' split) <;> omega)) (by omega) (by omega) (by omega) (by omega) (by omega) (by omega) (by omega) (by omega) I69 F70 A72 rfl
                  · have c151 : k39 < v145 := c151
                    refine av_wp_seq 1 (pc' := 116) (lv' := [some (.inr (.inr (.inl (some (77))))), some (.inl x), some (.inl l), some (.inl w), some (.inl (k35 + (1))), some (.inl k40), some (.inl k37), some (.inl v140), some (.inl k39), some (.inl k40)]) (st' := [.inr (.inr (.inl (some (77))))]) (h' := h68) rfl ?_
                    obtain ⟨v152, e153⟩ : ∃ v, hF h68 77 53 = v := ⟨_, rfl⟩
                    have y154 : (bgn (U (Int.toNat x)) (ro (Int.toNat l)) (bxx U S (ro (Int.toNat l)) (Int.toNat x)) (S (Int.toNat x)) k40).2.2 = v152 := (BRR_ye B74 e77 (by omega)).2.2.2.symm.trans e153
                    have g155 := H33 k40 (by omega) (by omega)
                    rw [show (bgn (U (Int.toNat x)) (ro (Int.toNat l)) (bxx U S (ro (Int.toNat l)) (Int.toNat x)) (S (Int.toNat x)) k40).2.2 = v152 from y154] at g155
                    have z156 : v152 ≠ 9999 := fun z => (BRR_ye B74 e77 (by omega)).1 (y154.trans z)
                    refine wq_gi (p' := 119) rfl rfl (congrArg Prod.fst (ly_k I69.1.1.1 77 rfl)) rfl (e153) ?_
                    refine av_wp_seq 3 (pc' := 40) (lv' := [some (.inr (.inr (.inl (some (77))))), some (.inl x), some (.inl l), some (.inl w), some (.inl (k35 + (1))), some (.inl k40), some (.inl k37), some (.inl v140), some (.inl v152), some (.inl (k40 + (1)))]) (st' := []) (h' := h68) rfl ?_
                    exact I47 _ (by omega) ((k35 + (1))) (k40) (k37) (v140) (v152) ((k40 + (1))) h68 (by have tr := ta_r (f := (fun q => (bgn (U (Int.toNat x)) (ro (Int.toNat l)) (bxx U S (ro (Int.toNat l)) (Int.toNat x)) (S (Int.toNat x)) q).2.2)) H33 (Int.toNat k40) (by omega); have JJ := g49; obtain ⟨w0, w1, w2, w3, w4⟩ := JJ; obtain ⟨y0, y1, y2, y3, y4⟩ := ta_bs (f := (fun q => (bgn (U (Int.toNat x)) (ro (Int.toNat l)) (bxx U S (ro (Int.toNat l)) (Int.toNat x)) (S (Int.toNat x)) q).2.2)) (show (bgn (U (Int.toNat x)) (ro (Int.toNat l)) (bxx U S (ro (Int.toNat l)) (Int.toNat x)) (S (Int.toNat x)) ((Int.toNat k40 : Nat) : Int)).2.2 = v152 by rw [show ((Int.toNat k40 : Nat) : Int) = k40 by omega]; exact y154) (by omega); rw [show Int.toNat (k40 + (1)) = Int.toNat k40 + 1 by omega, y0, y1, y2, y3, y4]; rw [← w0, ← w1, ← w2, ← w3, ← w4] at tr ⊢; (try unfold mn2); (try unfold mx2); refine ⟨?_, ?_, ?_, ?_, ?_⟩ <;> first | omega | (split <;> omega) | ((repeat' split) <;> omega)) (by omega) (by omega) (by omega) (by omega) (by omega) (by omega) (by omega) (by omega) I69 F70 A72 rfl
                · have c139 : (0) ≤ k38 := c139
                  refine av_wp_seq 1 (pc' := 92) (lv' := [some (.inr (.inr (.inl (some (77))))), some (.inl x), some (.inl l), some (.inl w), some (.inl (k35 + (1))), some (.inl k40), some (.inl k37), some (.inl k38), some (.inl k39), some (.inl k40)]) (st' := [.inr (.inr (.inl (some (77))))]) (h' := h68) rfl ?_
                  obtain ⟨v157, e158⟩ : ∃ v, hF h68 77 53 = v := ⟨_, rfl⟩
                  have y159 : (bgn (U (Int.toNat x)) (ro (Int.toNat l)) (bxx U S (ro (Int.toNat l)) (Int.toNat x)) (S (Int.toNat x)) k40).2.2 = v157 := (BRR_ye B74 e77 (by omega)).2.2.2.symm.trans e158
                  have g160 := H33 k40 (by omega) (by omega)
                  rw [show (bgn (U (Int.toNat x)) (ro (Int.toNat l)) (bxx U S (ro (Int.toNat l)) (Int.toNat x)) (S (Int.toNat x)) k40).2.2 = v157 from y159] at g160
                  have z161 : v157 ≠ 9999 := fun z => (BRR_ye B74 e77 (by omega)).1 (y159.trans z)
                  refine wq_gi (p' := 95) rfl rfl (congrArg Prod.fst (ly_k I69.1.1.1 77 rfl)) rfl (e158) ?_
                  refine av_wp_seq 1 (pc' := 97) (lv' := [some (.inr (.inr (.inl (some (77))))), some (.inl x), some (.inl l), some (.inl w), some (.inl (k35 + (1))), some (.inl k40), some (.inl k37), some (.inl k38), some (.inl k39), some (.inl k40)]) (st' := [.inl k38, .inl v157]) (h' := h68) rfl ?_
                  refine wq_k2 (p' := 100) rfl rfl ⟨by omega, by omega⟩ ⟨by omega, by omega⟩ (fun c162 => ?_) (fun c163 => ?_)
                  · have c162 : k38 ≤ v157 := c162
                    refine av_wp_seq 1 (pc' := 107) (lv' := [some (.inr (.inr (.inl (some (77))))), some (.inl x), some (.inl l), some (.inl w), some (.inl (k35 + (1))), some (.inl k40), some (.inl k37), some (.inl k38), some (.inl k39), some (.inl k40)]) (st' := [.inr (.inr (.inl (some (77))))]) (h' := h68) rfl ?_
                    obtain ⟨v164, e165⟩ : ∃ v, hF h68 77 53 = v := ⟨_, rfl⟩
                    have y166 : (bgn (U (Int.toNat x)) (ro (Int.toNat l)) (bxx U S (ro (Int.toNat l)) (Int.toNat x)) (S (Int.toNat x)) k40).2.2 = v164 := (BRR_ye B74 e77 (by omega)).2.2.2.symm.trans e165
                    have g167 := H33 k40 (by omega) (by omega)
                    rw [show (bgn (U (Int.toNat x)) (ro (Int.toNat l)) (bxx U S (ro (Int.toNat l)) (Int.toNat x)) (S (Int.toNat x)) k40).2.2 = v164 from y166] at g167
                    have z168 : v164 ≠ 9999 := fun z => (BRR_ye B74 e77 (by omega)).1 (y166.trans z)
                    refine wq_gi (p' := 110) rfl rfl (congrArg Prod.fst (ly_k I69.1.1.1 77 rfl)) rfl (e165) ?_
                    refine av_wp_seq 1 (pc' := 112) (lv' := [some (.inr (.inr (.inl (some (77))))), some (.inl x), some (.inl l), some (.inl w), some (.inl (k35 + (1))), some (.inl k40), some (.inl k37), some (.inl k38), some (.inl k39), some (.inl k40)]) (st' := [.inl k39, .inl v164]) (h' := h68) rfl ?_
                    refine wq_k2 (p' := 115) rfl rfl ⟨by omega, by omega⟩ ⟨by omega, by omega⟩ (fun c169 => ?_) (fun c170 => ?_)
                    · have c169 : v164 ≤ k39 := c169
                      refine av_wp_seq 2 (pc' := 40) (lv' := [some (.inr (.inr (.inl (some (77))))), some (.inl x), some (.inl l), some (.inl w), some (.inl (k35 + (1))), some (.inl k40), some (.inl k37), some (.inl k38), some (.inl k39), some (.inl (k40 + (1)))]) (st' := []) (h' := h68) rfl ?_
                      exact I47 _ (by omega) ((k35 + (1))) (k40) (k37) (k38) (k39) ((k40 + (1))) h68 (by have tr := ta_r (f := (fun q => (bgn (U (Int.toNat x)) (ro (Int.toNat l)) (bxx U S (ro (Int.toNat l)) (Int.toNat x)) (S (Int.toNat x)) q).2.2)) H33 (Int.toNat k40) (by omega); have JJ := g49; obtain ⟨w0, w1, w2, w3, w4⟩ := JJ; obtain ⟨y0, y1, y2, y3, y4⟩ := ta_bs (f := (fun q => (bgn (U (Int.toNat x)) (ro (Int.toNat l)) (bxx U S (ro (Int.toNat l)) (Int.toNat x)) (S (Int.toNat x)) q).2.2)) (show (bgn (U (Int.toNat x)) (ro (Int.toNat l)) (bxx U S (ro (Int.toNat l)) (Int.toNat x)) (S (Int.toNat x)) ((Int.toNat k40 : Nat) : Int)).2.2 = v164 by rw [show ((Int.toNat k40 : Nat) : Int) = k40 by omega]; exact y166) (by omega); rw [show Int.toNat (k40 + (1)) = Int.toNat k40 + 1 by omega, y0, y1, y2, y3, y4]; rw [← w0, ← w1, ← w2, ← w3, ← w4] at tr ⊢; (try unfold mn2); (try unfold mx2); refine ⟨?_, ?_, ?_, ?_, ?_⟩ <;> first | omega | (split <;> omega) | ((repeat' split) <;> omega)) (by omega) (by omega) (by omega) (by omega) (by omega) (by omega) (by omega) (by omega) I69 F70 A72 rfl
                    · have c170 : k39 < v164 := c170
                      refine av_wp_seq 1 (pc' := 116) (lv' := [some (.inr (.inr (.inl (some (77))))), some (.inl x), some (.inl l), some (.inl w), some (.inl (k35 + (1))), some (.inl k40), some (.inl k37), some (.inl k38), some (.inl k39), some (.inl k40)]) (st' := [.inr (.inr (.inl (some (77))))]) (h' := h68) rfl ?_
                      obtain ⟨v171, e172⟩ : ∃ v, hF h68 77 53 = v := ⟨_, rfl⟩
                      have y173 : (bgn (U (Int.toNat x)) (ro (Int.toNat l)) (bxx U S (ro (Int.toNat l)) (Int.toNat x)) (S (Int.toNat x)) k40).2.2 = v171 := (BRR_ye B74 e77 (by omega)).2.2.2.symm.trans e172
                      have g174 := H33 k40 (by omega) (by omega)
                      rw [show (bgn (U (Int.toNat x)) (ro (Int.toNat l)) (bxx U S (ro (Int.toNat l)) (Int.toNat x)) (S (Int.toNat x)) k40).2.2 = v171 from y173] at g174
                      have z175 : v171 ≠ 9999 := fun z => (BRR_ye B74 e77 (by omega)).1 (y173.trans z)
                      refine wq_gi (p' := 119) rfl rfl (congrArg Prod.fst (ly_k I69.1.1.1 77 rfl)) rfl (e172) ?_
                      refine av_wp_seq 3 (pc' := 40) (lv' := [some (.inr (.inr (.inl (some (77))))), some (.inl x), some (.inl l), some (.inl w), some (.inl (k35 + (1))), some (.inl k40), some (.inl k37), some (.inl k38), some (.inl v171), some (.inl (k40 + (1)))]) (st' := []) (h' := h68) rfl ?_
                      exact I47 _ (by omega) ((k35 + (1))) (k40) (k37) (k38) (v171) ((k40 + (1))) h68 (by have tr := ta_r (f := (fun q => (bgn (U (Int.toNat x)) (ro (Int.toNat l)) (bxx U S (ro (Int.toNat l)) (Int.toNat x)) (S (Int.toNat x)) q).2.2)) H33 (Int.toNat k40) (by omega); have JJ := g49; obtain ⟨w0, w1, w2, w3, w4⟩ := JJ; obtain ⟨y0, y1, y2, y3, y4⟩ := ta_bs (f := (fun q => (bgn (U (Int.toNat x)) (ro (Int.toNat l)) (bxx U S (ro (Int.toNat l)) (Int.toNat x)) (S (Int.toNat x)) q).2.2)) (show (bgn (U (Int.toNat x)) (ro (Int.toNat l)) (bxx U S (ro (Int.toNat l)) (Int.toNat x)) (S (Int.toNat x)) ((Int.toNat k40 : Nat) : Int)).2.2 = v171 by rw [show ((Int.toNat k40 : Nat) : Int) = k40 by omega]; exact y173) (by omega); rw [show Int.toNat (k40 + (1)) = Int.toNat k40 + 1 by omega, y0, y1, y2, y3, y4]; rw [← w0, ← w1, ← w2, ← w3, ← w4] at tr ⊢; (try unfold mn2); (try unfold mx2); refine ⟨?_, ?_, ?_, ?_, ?_⟩ <;> first | omega | (split <;> omega) | ((repeat' split) <;> omega)) (by omega) (by omega) (by omega) (by omega) (by omega) (by omega) (by omega) (by omega) I69 F70 A72 rfl
                  · have c163 : v157 < k38 := c163
                    refine av_wp_seq 1 (pc' := 101) (lv' := [some (.inr (.inr (.inl (some (77))))), some (.inl x), some (.inl l), some (.inl w), some (.inl (k35 + (1))), some (.inl k40), some (.inl k37), some (.inl k38), some (.inl k39), some (.inl k40)]) (st' := [.inr (.inr (.inl (some (77))))]) (h' := h68) rfl ?_
                    obtain ⟨v176, e177⟩ : ∃ v, hF h68 77 53 = v := ⟨_, rfl⟩
                    have y178 : (bgn (U (Int.toNat x)) (ro (Int.toNat l)) (bxx U S (ro (Int.toNat l)) (Int.toNat x)) (S (Int.toNat x)) k40).2.2 = v176 := (BRR_ye B74 e77 (by omega)).2.2.2.symm.trans e177
                    have g179 := H33 k40 (by omega) (by omega)
                    rw [show (bgn (U (Int.toNat x)) (ro (Int.toNat l)) (bxx U S (ro (Int.toNat l)) (Int.toNat x)) (S (Int.toNat x)) k40).2.2 = v176 from y178] at g179
                    have z180 : v176 ≠ 9999 := fun z => (BRR_ye B74 e77 (by omega)).1 (y178.trans z)
                    refine wq_gi (p' := 104) rfl rfl (congrArg Prod.fst (ly_k I69.1.1.1 77 rfl)) rfl (e177) ?_
                    refine av_wp_seq 2 (pc' := 107) (lv' := [some (.inr (.inr (.inl (some (77))))), some (.inl x), some (.inl l), some (.inl w), some (.inl (k35 + (1))), some (.inl k40), some (.inl k37), some (.inl v176), some (.inl k39), some (.inl k40)]) (st' := [.inr (.inr (.inl (some (77))))]) (h' := h68) rfl ?_
                    obtain ⟨v181, e182⟩ : ∃ v, hF h68 77 53 = v := ⟨_, rfl⟩
                    have y183 : (bgn (U (Int.toNat x)) (ro (Int.toNat l)) (bxx U S (ro (Int.toNat l)) (Int.toNat x)) (S (Int.toNat x)) k40).2.2 = v181 := (BRR_ye B74 e77 (by omega)).2.2.2.symm.trans e182
                    have g184 := H33 k40 (by omega) (by omega)
                    rw [show (bgn (U (Int.toNat x)) (ro (Int.toNat l)) (bxx U S (ro (Int.toNat l)) (Int.toNat x)) (S (Int.toNat x)) k40).2.2 = v181 from y183] at g184
                    have z185 : v181 ≠ 9999 := fun z => (BRR_ye B74 e77 (by omega)).1 (y183.trans z)
                    refine wq_gi (p' := 110) rfl rfl (congrArg Prod.fst (ly_k I69.1.1.1 77 rfl)) rfl (e182) ?_
                    refine av_wp_seq 1 (pc' := 112) (lv' := [some (.inr (.inr (.inl (some (77))))), some (.inl x), some (.inl l), some (.inl w), some (.inl (k35 + (1))), some (.inl k40), some (.inl k37), some (.inl v176), some (.inl k39), some (.inl k40)]) (st' := [.inl k39, .inl v181]) (h' := h68) rfl ?_
                    refine wq_k2 (p' := 115) rfl rfl ⟨by omega, by omega⟩ ⟨by omega, by omega⟩ (fun c186 => ?_) (fun c187 => ?_)
                    · have c186 : v181 ≤ k39 := c186
                      refine av_wp_seq 2 (pc' := 40) (lv' := [some (.inr (.inr (.inl (some (77))))), some (.inl x), some (.inl l), some (.inl w), some (.inl (k35 + (1))), some (.inl k40), some (.inl k37), some (.inl v176), some (.inl k39), some (.inl (k40 + (1)))]) (st' := []) (h' := h68) rfl ?_
                      exact I47 _ (by omega) ((k35 + (1))) (k40) (k37) (v176) (k39) ((k40 + (1))) h68 (by have tr := ta_r (f := (fun q => (bgn (U (Int.toNat x)) (ro (Int.toNat l)) (bxx U S (ro (Int.toNat l)) (Int.toNat x)) (S (Int.toNat x)) q).2.2)) H33 (Int.toNat k40) (by omega); have JJ := g49; obtain ⟨w0, w1, w2, w3, w4⟩ := JJ; obtain ⟨y0, y1, y2, y3, y4⟩ := ta_bs (f := (fun q => (bgn (U (Int.toNat x)) (ro (Int.toNat l)) (bxx U S (ro (Int.toNat l)) (Int.toNat x)) (S (Int.toNat x)) q).2.2)) (show (bgn (U (Int.toNat x)) (ro (Int.toNat l)) (bxx U S (ro (Int.toNat l)) (Int.toNat x)) (S (Int.toNat x)) ((Int.toNat k40 : Nat) : Int)).2.2 = v181 by rw [show ((Int.toNat k40 : Nat) : Int) = k40 by omega]; exact y183) (by omega); rw [show Int.toNat (k40 + (1)) = Int.toNat k40 + 1 by omega, y0, y1, y2, y3, y4]; rw [← w0, ← w1, ← w2, ← w3, ← w4] at tr ⊢; (try unfold mn2); (try unfold mx2); refine ⟨?_, ?_, ?_, ?_, ?_⟩ <;> first | omega | (split <;> omega) | ((repeat' split) <;> omega)) (by omega) (by omega) (by omega) (by omega) (by omega) (by omega) (by omega) (by omega) I69 F70 A72 rfl
                    · have c187 : k39 < v181 := c187
                      refine av_wp_seq 1 (pc' := 116) (lv' := [some (.inr (.inr (.inl (some (77))))), some (.inl x), some (.inl l), some (.inl w), some (.inl (k35 + (1))), some (.inl k40), some (.inl k37), some (.inl v176), some (.inl k39), some (.inl k40)]) (st' := [.inr (.inr (.inl (some (77))))]) (h' := h68) rfl ?_
                      obtain ⟨v188, e189⟩ : ∃ v, hF h68 77 53 = v := ⟨_, rfl⟩
                      have y190 : (bgn (U (Int.toNat x)) (ro (Int.toNat l)) (bxx U S (ro (Int.toNat l)) (Int.toNat x)) (S (Int.toNat x)) k40).2.2 = v188 := (BRR_ye B74 e77 (by omega)).2.2.2.symm.trans e189
                      have g191 := H33 k40 (by omega) (by omega)
                      rw [show (bgn (U (Int.toNat x)) (ro (Int.toNat l)) (bxx U S (ro (Int.toNat l)) (Int.toNat x)) (S (Int.toNat x)) k40).2.2 = v188 from y190] at g191
                      have z192 : v188 ≠ 9999 := fun z => (BRR_ye B74 e77 (by omega)).1 (y190.trans z)
                      refine wq_gi (p' := 119) rfl rfl (congrArg Prod.fst (ly_k I69.1.1.1 77 rfl)) rfl (e189) ?_
                      refine av_wp_seq 3 (pc' := 40) (lv' := [some (.inr (.inr (.inl (some (77))))), some (.inl x), some (.inl l), some (.inl w), some (.inl (k35 + (1))), some (.inl k40), some (.inl k37), some (.inl v176), some (.inl v188), some (.inl (k40 + (1)))]) (st' := []) (h' := h68) rfl ?_
                      exact I47 _ (by omega) ((k35 + (1))) (k40) (k37) (v176) (v188) ((k40 + (1))) h68 (by have tr := ta_r (f := (fun q => (bgn (U (Int.toNat x)) (ro (Int.toNat l)) (bxx U S (ro (Int.toNat l)) (Int.toNat x)) (S (Int.toNat x)) q).2.2)) H33 (Int.toNat k40) (by omega); have JJ := g49; obtain ⟨w0, w1, w2, w3, w4⟩ := JJ; obtain ⟨y0, y1, y2, y3, y4⟩ := ta_bs (f := (fun q => (bgn (U (Int.toNat x)) (ro (Int.toNat l)) (bxx U S (ro (Int.toNat l)) (Int.toNat x)) (S (Int.toNat x)) q).2.2)) (show (bgn (U (Int.toNat x)) (ro (Int.toNat l)) (bxx U S (ro (Int.toNat l)) (Int.toNat x)) (S (Int.toNat x)) ((Int.toNat k40 : Nat) : Int)).2.2 = v188 by rw [show ((Int.toNat k40 : Nat) : Int) = k40 by omega]; exact y190) (by omega); rw [show Int.toNat (k40 + (1)) = Int.toNat k40 + 1 by omega, y0, y1, y2, y3, y4]; rw [← w0, ← w1, ← w2, ← w3, ← w4] at tr ⊢; (try unfold mn2); (try unfold mx2); refine ⟨?_, ?_, ?_, ?_, ?_⟩ <;> first | omega | (split <;> omega) | ((repeat' split) <;> omega)) (by omega) (by omega) (by omega) (by omega) (by omega) (by omega) (by omega) (by omega) I69 F70 A72 rfl
            · have c80 : v76 = (0) := c80
              refine av_wp_seq 1 (pc' := 64) (lv' := [some (.inr (.inr (.inl (some (77))))), some (.inl x), some (.inl l), some (.inl w), some (.inl k35), some (.inl k36), some (.inl k37), some (.inl k38), some (.inl k39), some (.inl k40)]) (st' := [.inl k37]) (h' := h68) rfl ?_
              refine wq_k1 (p' := 67) rfl rfl ⟨by omega, by omega⟩ (fun c193 => ?_) (fun c194 => ?_)
              · have c193 : (0) ≤ k37 := c193
                refine av_wp_seq 2 (pc' := 40) (lv' := [some (.inr (.inr (.inl (some (77))))), some (.inl x), some (.inl l), some (.inl w), some (.inl k35), some (.inl k36), some (.inl k37), some (.inl k38), some (.inl k39), some (.inl (k40 + (1)))]) (st' := []) (h' := h68) rfl ?_
                exact I47 _ (by omega) (k35) (k36) (k37) (k38) (k39) ((k40 + (1))) h68 (by have tr := ta_r (f := (fun q => (bgn (U (Int.toNat x)) (ro (Int.toNat l)) (bxx U S (ro (Int.toNat l)) (Int.toNat x)) (S (Int.toNat x)) q).2.2)) H33 (Int.toNat k40) (by omega); have JJ := g49; obtain ⟨w0, w1, w2, w3, w4⟩ := JJ; obtain ⟨y0, y1, y2, y3, y4⟩ := ta_9s (f := (fun q => (bgn (U (Int.toNat x)) (ro (Int.toNat l)) (bxx U S (ro (Int.toNat l)) (Int.toNat x)) (S (Int.toNat x)) q).2.2)) (show (bgn (U (Int.toNat x)) (ro (Int.toNat l)) (bxx U S (ro (Int.toNat l)) (Int.toNat x)) (S (Int.toNat x)) ((Int.toNat k40 : Nat) : Int)).2.2 = 9999 by rw [show ((Int.toNat k40 : Nat) : Int) = k40 by omega]; exact BRR_no B74 e77 (by omega)); rw [show Int.toNat (k40 + (1)) = Int.toNat k40 + 1 by omega, y0, y1, y2, y3, y4]; rw [← w0, ← w1, ← w2, ← w3, ← w4] at tr ⊢; (try unfold mn2); (try unfold mx2); refine ⟨?_, ?_, ?_, ?_, ?_⟩ <;> first | omega | (split <;> omega) | ((repeat' split) <;> omega)) (by omega) (by omega) (by omega) (by omega) (by omega) (by omega) (by omega) (by omega) I69 F70 A72 rfl
              · have c194 : k37 < (0) := c194
                refine av_wp_seq 5 (pc' := 40) (lv' := [some (.inr (.inr (.inl (some (77))))), some (.inl x), some (.inl l), some (.inl w), some (.inl k35), some (.inl k36), some (.inl k40), some (.inl k38), some (.inl k39), some (.inl (k40 + (1)))]) (st' := []) (h' := h68) rfl ?_
                exact I47 _ (by omega) (k35) (k36) (k40) (k38) (k39) ((k40 + (1))) h68 (by have tr := ta_r (f := (fun q => (bgn (U (Int.toNat x)) (ro (Int.toNat l)) (bxx U S (ro (Int.toNat l)) (Int.toNat x)) (S (Int.toNat x)) q).2.2)) H33 (Int.toNat k40) (by omega); have JJ := g49; obtain ⟨w0, w1, w2, w3, w4⟩ := JJ; obtain ⟨y0, y1, y2, y3, y4⟩ := ta_9s (f := (fun q => (bgn (U (Int.toNat x)) (ro (Int.toNat l)) (bxx U S (ro (Int.toNat l)) (Int.toNat x)) (S (Int.toNat x)) q).2.2)) (show (bgn (U (Int.toNat x)) (ro (Int.toNat l)) (bxx U S (ro (Int.toNat l)) (Int.toNat x)) (S (Int.toNat x)) ((Int.toNat k40 : Nat) : Int)).2.2 = 9999 by rw [show ((Int.toNat k40 : Nat) : Int) = k40 by omega]; exact BRR_no B74 e77 (by omega)); rw [show Int.toNat (k40 + (1)) = Int.toNat k40 + 1 by omega, y0, y1, y2, y3, y4]; rw [← w0, ← w1, ← w2, ← w3, ← w4] at tr ⊢; (try unfold mn2); (try unfold mx2); refine ⟨?_, ?_, ?_, ?_, ?_⟩ <;> first | omega | (split <;> omega) | ((repeat' split) <;> omega)) (by omega) (by omega) (by omega) (by omega) (by omega) (by omega) (by omega) (by omega) I69 F70 A72 rfl
      exact L46 _ ((0)) ((-1)) ((-1)) ((-1)) ((-1)) ((0)) h15 ⟨rfl, rfl, rfl, rfl, rfl⟩ (by omega) (by omega) (by omega) (by omega) (by omega) (by omega) (by omega) (by omega) I25 F26 A21 rfl

