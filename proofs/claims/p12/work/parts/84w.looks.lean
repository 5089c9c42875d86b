/-! THE REFERENCE LOOKS, exactly -/
set_option maxRecDepth 100000 in
set_option maxHeartbeats 4000000 in
theorem cx_181 {g h : av_H} {n a m : Int} (I : IMF n a m h) (F : FM g h) {u ro : Nat → Int} {a0 : Nat → Nat → Int} {s : Nat} (en : n = (s : Int)) (LSx : LST u ro a0 s (hA h)) (LHx : LH2 u s (hA h 105) (hA h 106) (hA h 98)) (al : AQL (cmv (hA h 105) (hA h 106) (hA h 98)) (Int.toNat (4 * n)) h) (W : UW u s) (R : RLW ro) (H : HBd s a0) (U2 : ∀ j, u j ≤ 2000 ∨ j % 21 = 20) (U1 : ∀ j, -1 ≤ u j) (R9 : ∀ j, -2 ≤ ro j ∧ ro j ≤ 999) (x : Int) (qx : 0 ≤ x ∧ x ≤ 1023) (HXx : HX u s x a0) {Q : Option av_V → av_H → Prop} (hq : ∀ h', IMF n a m h' → FM g h' → ZE [109, 110, 111, 112, 113, 114, 115] [50, 51, 52, 53] h h' → FOI u ro a0 s s (hA h') → BRR (brg u ro a0 s) h' → LR u ro a0 s (hA h') → Q none h') : av_wp none cd_181 0 [some (.inr (.inr (.inl (some (77))))), some (.inl x)] [] h Q := by
  have gn := im_n I.1.1
  rw [I.2.1] at gn
  have ga := im_a I.1.1
  rw [I.2.2.1] at ga
  have gm := im_cm I.1.1
  rw [I.2.2.2] at gm
  refine av_wp_seq 2 (pc' := 2) (lv' := [some (.inr (.inr (.inl (some (77))))), some (.inl x)]) (st' := [.inl x, .inr (.inr (.inl (some (77))))]) (h' := h) rfl ?_
  refine wq_cv (p' := 5) (av_qc (.invokevirtual 412) 165 1 0 8) 5 cd_165 [.inl x] (77) 8 [some (.inr (.inr (.inl (some (77))))), some (.inl x), none, none, none] rfl rfl rfl pp_165 rfl rfl rfl (congrArg Prod.fst (ly_k I.1.1.1 77 rfl)) rfl rfl rfl rfl ?_
  refine cx_165 (v := (cmv (hA h 105) (hA h 106) (hA h 98))) I F (x) (by omega) al.2 (I.2.2.1.symm.trans al.1) (fun h1 I2 F3 Z4 H5 => ?_)
  rw [show Int.toNat n = s by omega] at H5
  have X := LR_of LSx (A' := hA h1) (fun q q1 q2 => Z4.1 q (by rcases (show q = 95 ∨ q = 96 ∨ q = 97 ∨ q = 98 ∨ q = 99 ∨ q = 100 ∨ q = 101 ∨ q = 102 ∨ q = 103 ∨ q = 104 by omega) with z | z | z | z | z | z | z | z | z | z <;> subst z <;> rfl)) (HX_q HXx LHx H5)
  have Z1 := ZE_l1 Z4
  show av_wp _ cd_181 5 [some (.inr (.inr (.inl (some (77))))), some (.inl x)] [] h1 _
  refine av_wp_seq 1 (pc' := 6) (lv' := [some (.inr (.inr (.inl (some (77))))), some (.inl x)]) (st' := [.inr (.inr (.inl (some (77))))]) (h' := h1) rfl ?_
  refine wq_cv (p' := 9) (av_qc (.invokevirtual 415) 174 0 0 8) 3 cd_174 [] (77) 8 [some (.inr (.inr (.inl (some (77))))), none, none] rfl rfl rfl pp_174 rfl rfl rfl (congrArg Prod.fst (ly_k I2.1.1.1 77 rfl)) rfl rfl rfl rfl ?_
  refine cx_174 I2 F3 en X W R H (fun h6 I7 F8 Z9 Y10 => ?_)
  have X2 := LR_z X Z9
  have Z2 := ZE_tr Z1 (ZE_l2 Z9)
  show av_wp _ cd_181 9 [some (.inr (.inr (.inl (some (77))))), some (.inl x)] [] h6 _
  refine av_wp_seq 1 (pc' := 10) (lv' := [some (.inr (.inr (.inl (some (77))))), some (.inl x)]) (st' := [.inr (.inr (.inl (some (77))))]) (h' := h6) rfl ?_
  refine wq_cv (p' := 13) (av_qc (.invokevirtual 418) 180 0 0 8) 4 cd_180 [] (77) 8 [some (.inr (.inr (.inl (some (77))))), none, none, none] rfl rfl rfl pp_180 rfl rfl rfl (congrArg Prod.fst (ly_k I7.1.1.1 77 rfl)) rfl rfl rfl rfl ?_
  refine cx_180 I7 F8 en X2 W R H U2 U1 R9 Y10 (fun h11 I12 F13 Z14 B15 => ?_)
  have Z3 := ZE_tr Z2 (ZE_l3 Z14)
  show av_wp _ cd_181 13 [some (.inr (.inr (.inl (some (77))))), some (.inl x)] [] h11 _
  refine av_wp_ret (v := none) rfl rfl rfl ?_
  exact hq h11 I12 F13 Z3 (FOI_z Y10 Z14) B15 (LR_z0 X2 Z14)

