/-! THE REFERENCE'S HOUR, exactly -/
set_option maxRecDepth 100000 in
set_option maxHeartbeats 4000000 in
theorem cx_188 {g h : av_H} {n a m : Int} (I : IMF n a m h) (F : FM g h) (x : Int) (qx : 0 ≤ x ∧ x ≤ 15) (qg : x < hA g 78 0) {Q : Option av_V → av_H → Prop} (hq : ∀ n' a' m' h', hA g 81 (Int.toNat x) = n' → BC (Int.toNat x) (fun a => bmul a * (n').toNat) (hA g) h' → AQL (cmv (hA h' 105) (hA h' 106) (hA h' 98)) (4 * n').toNat h' → 1 ≤ m' → m' = cmf (hA h' 105) (hA h' 106) (hA h' 98) (4 * n').toNat → IMF n' a' m' h' → FM g h' → Q none h') : av_wp none cd_188 0 [some (.inr (.inr (.inl (some (77))))), some (.inl x), none] [] h Q := by
  have gn := im_n I.1.1
  rw [I.2.1] at gn
  have ga := im_a I.1.1
  rw [I.2.2.1] at ga
  have gm := im_cm I.1.1
  rw [I.2.2.2] at gm
  refine av_wp_seq 2 (pc' := 2) (lv' := [some (.inr (.inr (.inl (some (77))))), some (.inl x), some (.inl (0))]) (st' := []) (h' := h) rfl ?_
  have L6 : ∀ (m5 : Nat) (k1 : Int) (h2 : av_H), (0 ≤ k1 ∧ k1 ≤ 16) → IMF n a m h2 → FM g h2 → (16 - k1).toNat = m5 → av_wp none cd_188 2 [some (.inr (.inr (.inl (some (77))))), some (.inl x), some (.inl k1)] [] h2 Q := by
    intro m5
    induction m5 using Nat.strongRecOn with
    | _ m5 I7 =>
      intro k1 h2 g9 I3 F4 e8
      refine av_wp_seq 2 (pc' := 5) (lv' := [some (.inr (.inr (.inl (some (77))))), some (.inl x), some (.inl k1)]) (st' := [.inl (16), .inl k1]) (h' := h2) rfl ?_
      refine wq_k2 (p' := 8) rfl rfl ⟨by omega, by omega⟩ ⟨by omega, by omega⟩ (fun c10 => ?_) (fun c11 => ?_)
      · have c10 : (16) ≤ k1 := c10
        refine av_wp_seq 2 (pc' := 23) (lv' := [some (.inr (.inr (.inl (some (77))))), some (.inl x), some (.inl k1)]) (st' := [.inl x, .inr (.inr (.inl (some (77))))]) (h' := h2) rfl ?_
        refine wq_cv (p' := 26) (av_qc (.invokevirtual 434) 162 1 0 8) 5 cd_162 [.inl x] (77) 8 [some (.inr (.inr (.inl (some (77))))), some (.inl x), none, none, none] rfl rfl rfl pp_162 rfl rfl rfl (congrArg Prod.fst (ly_k I3.1.1.1 77 rfl)) rfl rfl rfl rfl ?_
        refine ct_162 I3.1 (x) (by have z1 := congrFun (F4.2.2.2.2.2.2 78 rfl) 0; omega) (fun n12 h13 i14 e15 b16 F17 => ?_)
        have B19 := BC_g b16.2 F4
        have B19n : hA g 81 (Int.toNat (x)) = n12 := (congrFun (F4.2.2.2.2.2.2 81 rfl) _).symm.trans b16.1
        have F18 := FM_tr F4 F17
        show av_wp _ cd_188 26 [some (.inr (.inr (.inl (some (77))))), some (.inl x), some (.inl k1)] [] h13 _
        refine av_wp_seq 1 (pc' := 27) (lv' := [some (.inr (.inr (.inl (some (77))))), some (.inl x), some (.inl k1)]) (st' := [.inr (.inr (.inl (some (77))))]) (h' := h13) rfl ?_
        refine wq_cv (p' := 30) (av_qc (.invokevirtual 424) 163 0 0 8) 4 cd_163 [] (77) 8 [some (.inr (.inr (.inl (some (77))))), none, none, none] rfl rfl rfl pp_163 rfl rfl rfl (congrArg Prod.fst (ly_k i14.1.1 77 rfl)) rfl rfl rfl rfl ?_
        refine cx_163 i14 e15 F18 (fun a20 m21 h22 z23 A24 Z25 I26 F27 => ?_)
        rw [← Z25.1 105 rfl, ← Z25.1 106 rfl, ← Z25.1 98 rfl] at z23 A24
        have B28 := BC_z B19 Z25
        show av_wp _ cd_188 30 [some (.inr (.inr (.inl (some (77))))), some (.inl x), some (.inl k1)] [] h22 _
        refine av_wp_ret (v := none) rfl rfl rfl ?_
        exact hq _ _ _ h22 B19n B28 A24 z23.1 z23.2 I26 F27
      · have c11 : k1 < (16) := c11
        refine av_wp_seq 1 (pc' := 9) (lv' := [some (.inr (.inr (.inl (some (77))))), some (.inl x), some (.inl k1)]) (st' := [.inr (.inr (.inl (some (77))))]) (h' := h2) rfl ?_
        refine wq_gr (p' := 12) rfl rfl (congrArg Prod.fst (ly_k I3.1.1.1 77 rfl)) rfl (ly_g I3.1.1.1 77 54 116 rfl) ?_
        refine av_wp_seq 2 (pc' := 14) (lv' := [some (.inr (.inr (.inl (some (77))))), some (.inl x), some (.inl k1)]) (st' := [.inl (0), .inl k1, .inr (.inr (.inl (some (116))))]) (h' := h2) rfl ?_
        refine im_zs (p' := 15) (l := 16) rfl rfl I3 F4 (ly_k I3.1.1.1 116 rfl) (by omega) (by omega) (by omega) (fun h29 I30 F31 => ?_)
        refine av_wp_seq 2 (pc' := 2) (lv' := [some (.inr (.inr (.inl (some (77))))), some (.inl x), some (.inl (k1 + (1)))]) (st' := []) (h' := h29) rfl ?_
        exact I7 _ (by omega) ((k1 + (1))) h29 (by omega) I30 F31 rfl
  exact L6 _ ((0)) h (by omega) I F rfl

set_option maxRecDepth 100000 in
set_option maxHeartbeats 4000000 in
theorem cx_189 {g h : av_H} {n a m : Int} (I : IMF n a m h) (F : FM g h) (x : Int) (qx : -2147483648 ≤ x ∧ x ≤ 2147483647) (y : Int) (qy : -2147483648 ≤ y ∧ y ≤ 2147483647) (k : Int) (qk : -2147483648 ≤ k ∧ k ≤ 2147483647) (w : Int) (qw : -2147483648 ≤ w ∧ w ≤ 2147483647) {Q : Option av_V → av_H → Prop} (hq0 : ∀ n' a' m' h', (x < 0 ∨ hA g 78 0 ≤ x ∨ y < 0 ∨ w < 0 ∨ 2 < w) → IMF n' a' m' h' → FM g h' → Q (some (.inl (-2))) h') (hq00 : ∀ n' a' m' h' lo hi ls, ((0 ≤ x ∧ x < hA g 78 0) ∧ 0 ≤ y ∧ 0 ≤ w ∧ w ≤ 2) → BL (hA g) (Int.toNat x) lo hi ls → (1024 < cmf lo hi ls (4 * (hA g 81 (Int.toNat x)).toNat) ∨ cmf lo hi ls (4 * (hA g 81 (Int.toNat x)).toNat) ≤ y ∨ k < 0 ∨ hA g 81 (Int.toNat x) ≤ k) → IMF n' a' m' h' → FM g h' → Q (some (.inl (-2))) h') (hq1 : ∀ (v : Int) n' a' m' h' lo hi ls, (0 ≤ x ∧ x < hA g 78 0) → BL (hA g) (Int.toNat x) lo hi ls → (cmf lo hi ls (4 * (hA g 81 (Int.toNat x)).toNat) ≤ 1024 ∧ 0 ≤ y ∧ y < cmf lo hi ls (4 * (hA g 81 (Int.toNat x)).toNat)) → (0 ≤ k ∧ k < hA g 81 (Int.toNat x)) → (0 ≤ w ∧ w ≤ 2) → v = hrq lo ls (dgt (one1 (cmv lo hi ls)) y) (Int.toNat k) (Int.toNat w) → IMF n' a' m' h' → FM g h' → Q (some (.inl v)) h') : av_wp none cd_189 0 [some (.inr (.inr (.inl (some (77))))), some (.inl x), some (.inl y), some (.inl k), some (.inl w)] [] h Q := by
  have gn := im_n I.1.1
  rw [I.2.1] at gn
  have ga := im_a I.1.1
  rw [I.2.2.1] at ga
  have gm := im_cm I.1.1
  rw [I.2.2.2] at gm
  refine av_wp_seq 2 (pc' := 2) (lv' := [some (.inr (.inr (.inl (some (77))))), some (.inl x), some (.inl y), some (.inl k), some (.inl w)]) (st' := [.inl x, .inr (.inr (.inl (some (77))))]) (h' := h) rfl ?_
  refine wq_cv (p' := 5) (av_qc (.invokevirtual 299) 149 1 0 8) 2 cd_149 [.inl x] (77) 8 [some (.inr (.inr (.inl (some (77))))), some (.inl x)] rfl rfl rfl pp_149 rfl rfl rfl (congrArg Prod.fst (ly_k I.1.1.1 77 rfl)) rfl rfl rfl rfl ?_
  refine cx_149 I.1 (x) (by omega) (fun v1 p2 => ?_)
  have g3 := I.1.1.2.1.2.1
  have g4 := congrFun (F.2.2.2.2.2.2 78 rfl) 0
  show av_wp _ cd_189 5 [some (.inr (.inr (.inl (some (77))))), some (.inl x), some (.inl y), some (.inl k), some (.inl w)] [.inl v1] h _
  refine wq_k1 (p' := 8) rfl rfl ⟨by omega, by omega⟩ (fun c5 => ?_) (fun c6 => ?_)
  · have c5 : v1 = (0) := c5
    refine av_wp_seq 1 (pc' := 24) (lv' := [some (.inr (.inr (.inl (some (77))))), some (.inl x), some (.inl y), some (.inl k), some (.inl w)]) (st' := [.inl (-2)]) (h' := h) rfl ?_
    refine av_wp_ret (v := some (.inl (-2))) rfl rfl rfl ?_
    exact hq0 _ _ _ h (by omega) I F
  · have c6 : v1 ≠ (0) := c6
    refine av_wp_seq 1 (pc' := 9) (lv' := [some (.inr (.inr (.inl (some (77))))), some (.inl x), some (.inl y), some (.inl k), some (.inl w)]) (st' := [.inl y]) (h' := h) rfl ?_
    refine wq_k1 (p' := 12) rfl rfl ⟨by omega, by omega⟩ (fun c7 => ?_) (fun c8 => ?_)
    · have c7 : y < (0) := c7
      refine av_wp_seq 1 (pc' := 24) (lv' := [some (.inr (.inr (.inl (some (77))))), some (.inl x), some (.inl y), some (.inl k), some (.inl w)]) (st' := [.inl (-2)]) (h' := h) rfl ?_
      refine av_wp_ret (v := some (.inl (-2))) rfl rfl rfl ?_
      exact hq0 _ _ _ h (by omega) I F
    · have c8 : (0) ≤ y := c8
      refine av_wp_seq 3 (pc' := 16) (lv' := [some (.inr (.inr (.inl (some (77))))), some (.inl x), some (.inl y), some (.inl k), some (.inl w)]) (st' := [.inl (2), .inl (0), .inl w]) (h' := h) rfl ?_
      refine wq_cs (p' := 19) (av_qc (.invokestatic 176) 127 3 2 8) 3 cd_127 [.inl w, .inl (0), .inl (2)] [.inl (2), .inl (0), .inl w] [some (.inl w), some (.inl (0)), some (.inl (2))] rfl rfl rfl pp_127 (fun _ => rfl) rfl rfl ?_
      refine ct_127 (g := h) (w) (by omega) ((0)) (by omega) ((2)) (by omega) (fun v9 p10 => ?_)
      show av_wp _ cd_189 19 [some (.inr (.inr (.inl (some (77))))), some (.inl x), some (.inl y), some (.inl k), some (.inl w)] [.inl v9] h _
      refine wq_k1 (p' := 22) rfl rfl ⟨by omega, by omega⟩ (fun c11 => ?_) (fun c12 => ?_)
      · have c11 : v9 ≠ (0) := c11
        refine av_wp_seq 2 (pc' := 27) (lv' := [some (.inr (.inr (.inl (some (77))))), some (.inl x), some (.inl y), some (.inl k), some (.inl w)]) (st' := [.inl x, .inr (.inr (.inl (some (77))))]) (h' := h) rfl ?_
        refine wq_cv (p' := 30) (av_qc (.invokevirtual 443) 188 1 0 8) 3 cd_188 [.inl x] (77) 8 [some (.inr (.inr (.inl (some (77))))), some (.inl x), none] rfl rfl rfl pp_188 rfl rfl rfl (congrArg Prod.fst (ly_k I.1.1.1 77 rfl)) rfl rfl rfl rfl ?_
        refine cx_188 I F (x) (by omega) (by omega) (fun n13 a14 m15 h16 b17 B18 A19 q20 q21 I22 F23 => ?_)
        have g24 := im_n I22.1.1
        rw [I22.2.1] at g24
        have g25 := im_a I22.1.1
        rw [I22.2.2.1] at g25
        have g26 := im_cm I22.1.1
        rw [I22.2.2.2] at g26
        have L27 := BL_of b17 B18
        show av_wp _ cd_189 30 [some (.inr (.inr (.inl (some (77))))), some (.inl x), some (.inl y), some (.inl k), some (.inl w)] [] h16 _
        refine av_wp_seq 1 (pc' := 31) (lv' := [some (.inr (.inr (.inl (some (77))))), some (.inl x), some (.inl y), some (.inl k), some (.inl w)]) (st' := [.inr (.inr (.inl (some (77))))]) (h' := h16) rfl ?_
        refine wq_cv (p' := 34) (av_qc (.invokevirtual 427) 164 0 0 8) 1 cd_164 [] (77) 8 [some (.inr (.inr (.inl (some (77)))))] rfl rfl rfl pp_164 rfl rfl rfl (congrArg Prod.fst (ly_k I22.1.1.1 77 rfl)) rfl rfl rfl rfl ?_
        refine ct_164 I22 F23 (fun v28 p29 => ?_)
        show av_wp _ cd_189 34 [some (.inr (.inr (.inl (some (77))))), some (.inl x), some (.inl y), some (.inl k), some (.inl w)] [.inl v28] h16 _
        refine wq_k1 (p' := 37) rfl rfl ⟨by omega, by omega⟩ (fun c30 => ?_) (fun c31 => ?_)
        · have c30 : v28 = (0) := c30
          refine av_wp_seq 1 (pc' := 59) (lv' := [some (.inr (.inr (.inl (some (77))))), some (.inl x), some (.inl y), some (.inl k), some (.inl w)]) (st' := [.inl (-2)]) (h' := h16) rfl ?_
          refine av_wp_ret (v := some (.inl (-2))) rfl rfl rfl ?_
          exact hq00 _ _ _ h16 _ _ _ (by omega) L27 (by rw [← show (4 * n13).toNat = 4 * (hA g 81 (Int.toNat x)).toNat by omega, ← q21]; omega) I22 F23
        · have c31 : v28 ≠ (0) := c31
          refine av_wp_seq 2 (pc' := 39) (lv' := [some (.inr (.inr (.inl (some (77))))), some (.inl x), some (.inl y), some (.inl k), some (.inl w)]) (st' := [.inr (.inr (.inl (some (77)))), .inl y]) (h' := h16) rfl ?_
          refine wq_gi (p' := 42) rfl rfl (congrArg Prod.fst (ly_k I22.1.1.1 77 rfl)) rfl (I22.2.2.2) ?_
          refine wq_k2 (p' := 45) rfl rfl ⟨by omega, by omega⟩ ⟨by omega, by omega⟩ (fun c32 => ?_) (fun c33 => ?_)
          · have c32 : m15 ≤ y := c32
            refine av_wp_seq 1 (pc' := 59) (lv' := [some (.inr (.inr (.inl (some (77))))), some (.inl x), some (.inl y), some (.inl k), some (.inl w)]) (st' := [.inl (-2)]) (h' := h16) rfl ?_
            refine av_wp_ret (v := some (.inl (-2))) rfl rfl rfl ?_
            exact hq00 _ _ _ h16 _ _ _ (by omega) L27 (by rw [← show (4 * n13).toNat = 4 * (hA g 81 (Int.toNat x)).toNat by omega, ← q21]; omega) I22 F23
          · have c33 : y < m15 := c33
            refine av_wp_seq 1 (pc' := 46) (lv' := [some (.inr (.inr (.inl (some (77))))), some (.inl x), some (.inl y), some (.inl k), some (.inl w)]) (st' := [.inl k]) (h' := h16) rfl ?_
            refine wq_k1 (p' := 49) rfl rfl ⟨by omega, by omega⟩ (fun c34 => ?_) (fun c35 => ?_)
            · have c34 : k < (0) := c34
              refine av_wp_seq 1 (pc' := 59) (lv' := [some (.inr (.inr (.inl (some (77))))), some (.inl x), some (.inl y), some (.inl k), some (.inl w)]) (st' := [.inl (-2)]) (h' := h16) rfl ?_
              refine av_wp_ret (v := some (.inl (-2))) rfl rfl rfl ?_
              exact hq00 _ _ _ h16 _ _ _ (by omega) L27 (by rw [← show (4 * n13).toNat = 4 * (hA g 81 (Int.toNat x)).toNat by omega, ← q21]; omega) I22 F23
            · have c35 : (0) ≤ k := c35
              refine av_wp_seq 2 (pc' := 51) (lv' := [some (.inr (.inr (.inl (some (77))))), some (.inl x), some (.inl y), some (.inl k), some (.inl w)]) (st' := [.inr (.inr (.inl (some (77)))), .inl k]) (h' := h16) rfl ?_
              refine wq_gi (p' := 54) rfl rfl (congrArg Prod.fst (ly_k I22.1.1.1 77 rfl)) rfl (I22.2.1) ?_
              refine wq_k2 (p' := 57) rfl rfl ⟨by omega, by omega⟩ ⟨by omega, by omega⟩ (fun c36 => ?_) (fun c37 => ?_)
              · have c36 : k < n13 := c36
                refine av_wp_seq 2 (pc' := 62) (lv' := [some (.inr (.inr (.inl (some (77))))), some (.inl x), some (.inl y), some (.inl k), some (.inl w)]) (st' := [.inl y, .inr (.inr (.inl (some (77))))]) (h' := h16) rfl ?_
                refine wq_cv (p' := 65) (av_qc (.invokevirtual 412) 165 1 0 8) 5 cd_165 [.inl y] (77) 8 [some (.inr (.inr (.inl (some (77))))), some (.inl y), none, none, none] rfl rfl rfl pp_165 rfl rfl rfl (congrArg Prod.fst (ly_k I22.1.1.1 77 rfl)) rfl rfl rfl rfl ?_
                refine cx_165 (v := cmv (hA h16 105) (hA h16 106) (hA h16 98)) I22 F23 (y) (by omega) A19.2 (I22.2.2.1.symm.trans A19.1) (fun h38 I39 F40 Z41 H42 => ?_)
                show av_wp _ cd_189 65 [some (.inr (.inr (.inl (some (77))))), some (.inl x), some (.inl y), some (.inl k), some (.inl w)] [] h38 _
                refine av_wp_seq 3 (pc' := 69) (lv' := [some (.inr (.inr (.inl (some (77))))), some (.inl x), some (.inl y), some (.inl k), some (.inl w)]) (st' := [.inl w, .inl k, .inr (.inr (.inl (some (77))))]) (h' := h38) rfl ?_
                refine wq_cv (p' := 72) (av_qc (.invokevirtual 363) 166 2 0 8) 3 cd_166 [.inl w, .inl k] (77) 8 [some (.inr (.inr (.inl (some (77))))), some (.inl k), some (.inl w)] rfl rfl rfl pp_166 rfl rfl rfl (congrArg Prod.fst (ly_k I39.1.1.1 77 rfl)) rfl rfl rfl rfl ?_
                refine cx_166 I39 F40 (k) (by omega) (w) (by omega) (fun v43 p44 => ?_)
                show av_wp _ cd_189 72 [some (.inr (.inr (.inl (some (77))))), some (.inl x), some (.inl y), some (.inl k), some (.inl w)] [.inl v43] h38 _
                refine av_wp_ret (v := some (.inl v43)) rfl rfl rfl ?_
                exact hq1 _ _ _ _ h38 _ _ _ (by omega) L27 (by rw [← show (4 * n13).toNat = 4 * (hA g 81 (Int.toNat x)).toNat by omega, ← q21]; omega) (by omega) (by omega) (hq_w H42 (by omega) (by omega) p44) I39 F40
              · have c37 : n13 ≤ k := c37
                refine av_wp_seq 1 (pc' := 59) (lv' := [some (.inr (.inr (.inl (some (77))))), some (.inl x), some (.inl y), some (.inl k), some (.inl w)]) (st' := [.inl (-2)]) (h' := h16) rfl ?_
                refine av_wp_ret (v := some (.inl (-2))) rfl rfl rfl ?_
                exact hq00 _ _ _ h16 _ _ _ (by omega) L27 (by rw [← show (4 * n13).toNat = 4 * (hA g 81 (Int.toNat x)).toNat by omega, ← q21]; omega) I22 F23
      · have c12 : v9 = (0) := c12
        refine av_wp_seq 1 (pc' := 24) (lv' := [some (.inr (.inr (.inl (some (77))))), some (.inl x), some (.inl y), some (.inl k), some (.inl w)]) (st' := [.inl (-2)]) (h' := h) rfl ?_
        refine av_wp_ret (v := some (.inl (-2))) rfl rfl rfl ?_
        exact hq0 _ _ _ h (by omega) I F

