section
/-! THE REFERENCE'S HOURS, exactly -/
set_option maxRecDepth 100000 in
set_option maxHeartbeats 4000000 in
theorem cx_166 {g h : av_H} {n a m : Int} (I : IMF n a m h) (F : FM g h) (k : Int) (qk : 0 ≤ k ∧ k ≤ 11) (w : Int) (qw : -2147483648 ≤ w ∧ w ≤ 2147483647) {Q : Option av_V → av_H → Prop} (hq : ∀ v : Int, ((w = 0 ∧ v = hA h 109 (Int.toNat k)) ∨ (w = 1 ∧ v = hA h 110 (Int.toNat k)) ∨ (w ≠ 0 ∧ w ≠ 1 ∧ v = hA h 111 (Int.toNat k))) → Q (some (.inl v)) h) : av_wp none cd_166 0 [some (.inr (.inr (.inl (some (77))))), some (.inl k), some (.inl w)] [] h Q := by
  have gn := im_n I.1.1
  rw [I.2.1] at gn
  have ga := im_a I.1.1
  rw [I.2.2.1] at ga
  have gm := im_cm I.1.1
  rw [I.2.2.2] at gm
  have Z := ZE_rf (L := [109, 110, 111]) (K := []) h
  refine av_wp_sqF ck_166 1 (pc' := 1) (lv' := [some (.inr (.inr (.inl (some (77))))), some (.inl k), some (.inl w)]) (st' := [.inl w]) (h' := h) rfl ?_
  refine wq_k1 (p' := 4) (ck_166 _ _ rfl) rfl ⟨by omega, by omega⟩ (fun c1 => ?_) (fun c2 => ?_)
  · have c1 : w ≠ (0) := c1
    refine av_wp_sqF ck_166 2 (pc' := 15) (lv' := [some (.inr (.inr (.inl (some (77))))), some (.inl k), some (.inl w)]) (st' := [.inl (1), .inl w]) (h' := h) rfl ?_
    refine wq_k2 (p' := 18) (ck_166 _ _ rfl) rfl ⟨by omega, by omega⟩ ⟨by omega, by omega⟩ (fun c3 => ?_) (fun c4 => ?_)
    · have c3 : w ≠ (1) := c3
      refine av_wp_sqF ck_166 1 (pc' := 28) (lv' := [some (.inr (.inr (.inl (some (77))))), some (.inl k), some (.inl w)]) (st' := [.inr (.inr (.inl (some (77))))]) (h' := h) rfl ?_
      refine wq_gr (p' := 31) (ck_166 _ _ rfl) rfl (congrArg Prod.fst (ly_k I.1.1.1 77 rfl)) rfl (ly_g I.1.1.1 77 45 111 rfl) ?_
      refine av_wp_sqF ck_166 1 (pc' := 32) (lv' := [some (.inr (.inr (.inl (some (77))))), some (.inl k), some (.inl w)]) (st' := [.inl k, .inr (.inr (.inl (some (111))))]) (h' := h) rfl ?_
      obtain ⟨v5, e6⟩ : ∃ v, hA h 111 (Int.toNat (k)) = v := ⟨_, rfl⟩
      have w8 := e6
      refine wq_al (p' := 33) (n := 12) (ck_166 _ _ rfl) rfl (ly_k I.1.1.1 111 rfl) (by omega) (e6) ?_
      refine av_wp_ret (v := some (.inl v5)) (ck_166 _ _ rfl) rfl rfl ?_
      exact hq _ (by omega)
    · have c4 : w = (1) := c4
      refine av_wp_sqF ck_166 1 (pc' := 19) (lv' := [some (.inr (.inr (.inl (some (77))))), some (.inl k), some (.inl w)]) (st' := [.inr (.inr (.inl (some (77))))]) (h' := h) rfl ?_
      refine wq_gr (p' := 22) (ck_166 _ _ rfl) rfl (congrArg Prod.fst (ly_k I.1.1.1 77 rfl)) rfl (ly_g I.1.1.1 77 44 110 rfl) ?_
      refine av_wp_sqF ck_166 1 (pc' := 23) (lv' := [some (.inr (.inr (.inl (some (77))))), some (.inl k), some (.inl w)]) (st' := [.inl k, .inr (.inr (.inl (some (110))))]) (h' := h) rfl ?_
      obtain ⟨v9, e10⟩ : ∃ v, hA h 110 (Int.toNat (k)) = v := ⟨_, rfl⟩
      have w12 := e10
      refine wq_al (p' := 24) (n := 12) (ck_166 _ _ rfl) rfl (ly_k I.1.1.1 110 rfl) (by omega) (e10) ?_
      refine av_wp_sqF ck_166 1 (pc' := 33) (lv' := [some (.inr (.inr (.inl (some (77))))), some (.inl k), some (.inl w)]) (st' := [.inl v9]) (h' := h) rfl ?_
      refine av_wp_ret (v := some (.inl v9)) (ck_166 _ _ rfl) rfl rfl ?_
      exact hq _ (by omega)
  · have c2 : w = (0) := c2
    refine av_wp_sqF ck_166 1 (pc' := 5) (lv' := [some (.inr (.inr (.inl (some (77))))), some (.inl k), some (.inl w)]) (st' := [.inr (.inr (.inl (some (77))))]) (h' := h) rfl ?_
    refine wq_gr (p' := 8) (ck_166 _ _ rfl) rfl (congrArg Prod.fst (ly_k I.1.1.1 77 rfl)) rfl (ly_g I.1.1.1 77 43 109 rfl) ?_
    refine av_wp_sqF ck_166 1 (pc' := 9) (lv' := [some (.inr (.inr (.inl (some (77))))), some (.inl k), some (.inl w)]) (st' := [.inl k, .inr (.inr (.inl (some (109))))]) (h' := h) rfl ?_
    obtain ⟨v13, e14⟩ : ∃ v, hA h 109 (Int.toNat (k)) = v := ⟨_, rfl⟩
    have w16 := e14
    refine wq_al (p' := 10) (n := 12) (ck_166 _ _ rfl) rfl (ly_k I.1.1.1 109 rfl) (by omega) (e14) ?_
    refine av_wp_sqF ck_166 1 (pc' := 33) (lv' := [some (.inr (.inr (.inl (some (77))))), some (.inl k), some (.inl w)]) (st' := [.inl v13]) (h' := h) rfl ?_
    refine av_wp_ret (v := some (.inl v13)) (ck_166 _ _ rfl) rfl rfl ?_
    exact hq _ (by omega)

set_option maxRecDepth 100000 in
set_option maxHeartbeats 4000000 in
theorem cx_165 {g h : av_H} {n a m : Int} (I : IMF n a m h) (F : FM g h) {v : Nat → Int} (x : Int) (qx : 0 ≤ x ∧ x ≤ 1023) (al : ∀ q, q < (Int.toNat (4 * n)) → 2 ≤ v q → hA h 107 (cnt v q) = (q : Int) ∧ hA h 108 (cnt v q) = v q) (an : a = (cnt v (Int.toNat (4 * n)) : Int)) {Q : Option av_V → av_H → Prop} (hq : ∀ h', IMF n a m h' → FM g h' → ZE [109, 110, 111, 112] [] h h' → HQ (hA h 105) (hA h 98) (dgt (one1 v) x) (Int.toNat n) (hA h') → Q none h') : av_wp none cd_165 0 [some (.inr (.inr (.inl (some (77))))), some (.inl x), none, none, none] [] h Q := by
  have gn := im_n I.1.1
  rw [I.2.1] at gn
  have ga := im_a I.1.1
  rw [I.2.2.1] at ga
  have gm := im_cm I.1.1
  rw [I.2.2.2] at gm
  have Z := ZE_rf (L := [109, 110, 111, 112]) (K := []) h
  refine av_wp_sqF ck_165 2 (pc' := 2) (lv' := [some (.inr (.inr (.inl (some (77))))), some (.inl x), some (.inl (0)), none, none]) (st' := []) (h' := h) rfl ?_
  have L8 : ∀ (m7 : Nat) (k1 : Int) (h2 : av_H), (0 ≤ k1 ∧ k1 ≤ 48) → IMF n a m h2 → FM g h2 → ZE [109, 110, 111, 112] [] h h2 → FI 48 (fun _ => 0) (hA h 112) k1 (hA h2 112) → (48 - k1).toNat = m7 → av_wp none cd_165 2 [some (.inr (.inr (.inl (some (77))))), some (.inl x), some (.inl k1), none, none] [] h2 Q := by
    intro m7
    induction m7 using Nat.strongRecOn with
    | _ m7 I9 =>
      intro k1 h2 g11 I3 F4 Z5 X6 e10
      refine av_wp_sqF ck_165 2 (pc' := 5) (lv' := [some (.inr (.inr (.inl (some (77))))), some (.inl x), some (.inl k1), none, none]) (st' := [.inl (48), .inl k1]) (h' := h2) rfl ?_
      refine wq_k2 (p' := 8) (ck_165 _ _ rfl) rfl ⟨by omega, by omega⟩ ⟨by omega, by omega⟩ (fun c12 => ?_) (fun c13 => ?_)
      · have c12 : (48) ≤ k1 := c12
        refine av_wp_sqF ck_165 4 (pc' := 25) (lv' := [some (.inr (.inr (.inl (some (77))))), some (.inl x), some (.inl x), some (.inl (0)), none]) (st' := []) (h' := h2) rfl ?_
        have L22 : ∀ (m21 : Nat) (k14 : Int) (k15 : Int) (h16 : av_H), k15 ≤ a → (0 ≤ k15 ∧ k15 ≤ 48) → (0 ≤ k14 ∧ k14 ≤ 1023) → IMF n a m h16 → FM g h16 → ZE [109, 110, 111, 112] [] h h16 → PQI v (Int.toNat (4 * n)) x (Int.toNat k15) k14 (hA h16 112) → (48 - k15).toNat = m21 → av_wp none cd_165 25 [some (.inr (.inr (.inl (some (77))))), some (.inl x), some (.inl k14), some (.inl k15), none] [] h16 Q := by
          intro m21
          induction m21 using Nat.strongRecOn with
          | _ m21 I23 =>
            intro k14 k15 h16 g25 g26 g27 I17 F18 Z19 X20 e24
            refine av_wp_sqF ck_165 2 (pc' := 27) (lv' := [some (.inr (.inr (.inl (some (77))))), some (.inl x), some (.inl k14), some (.inl k15), none]) (st' := [.inr (.inr (.inl (some (77)))), .inl k15]) (h' := h16) rfl ?_
            refine wq_gi (p' := 30) (ck_165 _ _ rfl) rfl (congrArg Prod.fst (ly_k I17.1.1.1 77 rfl)) rfl (I17.2.2.1) ?_
            refine wq_k2 (p' := 33) (ck_165 _ _ rfl) rfl ⟨by omega, by omega⟩ ⟨by omega, by omega⟩ (fun c28 => ?_) (fun c29 => ?_)
            · have c28 : a ≤ k15 := c28
              refine av_wp_sqF ck_165 2 (pc' := 69) (lv' := [some (.inr (.inr (.inl (some (77))))), some (.inl x), some (.inl k14), some (.inl (0)), none]) (st' := []) (h' := h16) rfl ?_
              have L39 : ∀ (m38 : Nat) (k30 : Int) (a31 : Option av_V) (h32 : av_H), av_lg a31 = false → k30 ≤ n → (0 ≤ k30 ∧ k30 ≤ 12) → IMF n a m h32 → FM g h32 → ZE [109, 110, 111, 112] [] h h32 → HQ (hA h 105) (hA h 98) (dgt (one1 v) x) (Int.toNat k30) (hA h32) → (∀ q, q < (Int.toNat (4 * n)) → hA h32 112 q = (dgt (one1 v) x) q) → (12 - k30).toNat = m38 → av_wp none cd_165 69 [some (.inr (.inr (.inl (some (77))))), some (.inl x), some (.inl k14), some (.inl k30), a31] [] h32 Q := by
                intro m38
                induction m38 using Nat.strongRecOn with
                | _ m38 I40 =>
                  intro k30 a31 h32 g42 g43 g44 I33 F34 Z35 X36 X37 e41
                  have la31 := g42
                  refine av_wp_sqF ck_165 2 (pc' := 71) (lv' := [some (.inr (.inr (.inl (some (77))))), some (.inl x), some (.inl k14), some (.inl k30), a31]) (st' := [.inr (.inr (.inl (some (77)))), .inl k30]) (h' := h32) rfl ?_
                  refine wq_gi (p' := 74) (ck_165 _ _ rfl) rfl (congrArg Prod.fst (ly_k I33.1.1.1 77 rfl)) rfl (I33.2.1) ?_
                  refine wq_k2 (p' := 77) (ck_165 _ _ rfl) rfl ⟨by omega, by omega⟩ ⟨by omega, by omega⟩ (fun c45 => ?_) (fun c46 => ?_)
                  · have c45 : n ≤ k30 := c45
                    refine av_wp_ret (v := none) (ck_165 _ _ rfl) rfl rfl ?_
                    have z47 : Int.toNat k30 = Int.toNat n := by omega
                    rw [z47] at X36
                    exact hq h32 I33 F34 Z35 X36
                  · have c46 : k30 < n := c46
                    refine av_wp_sqF ck_165 1 (pc' := 78) (lv' := [some (.inr (.inr (.inl (some (77))))), some (.inl x), some (.inl k14), some (.inl k30), a31]) (st' := [.inr (.inr (.inl (some (77))))]) (h' := h32) rfl ?_
                    refine wq_gr (p' := 81) (ck_165 _ _ rfl) rfl (congrArg Prod.fst (ly_k I33.1.1.1 77 rfl)) rfl (ly_g I33.1.1.1 77 32 98 rfl) ?_
                    refine av_wp_sqF ck_165 1 (pc' := 82) (lv' := [some (.inr (.inr (.inl (some (77))))), some (.inl x), some (.inl k14), some (.inl k30), a31]) (st' := [.inl k30, .inr (.inr (.inl (some (98))))]) (h' := h32) rfl ?_
                    obtain ⟨v48, e49⟩ : ∃ v, hA h32 98 (Int.toNat (k30)) = v := ⟨_, rfl⟩
                    have g50 : 0 ≤ hA h32 98 (Int.toNat (k30)) ∧ hA h32 98 (Int.toNat (k30)) ≤ 2 := im_w I33.1.1 98 (by decide) (by decide) _
                    rw [e49] at g50
                    have y51 : hA h 98 (Int.toNat (k30)) = v48 := (congrFun (Z35.1 98 rfl) _).symm.trans e49
                    refine wq_al (p' := 83) (n := 12) (ck_165 _ _ rfl) rfl (ly_k I33.1.1.1 98 rfl) (by omega) (e49) ?_
                    refine av_wp_sqF ck_165 1 (pc' := 84) (lv' := [some (.inr (.inr (.inl (some (77))))), some (.inl x), some (.inl k14), some (.inl k30), a31]) (st' := [.inl (2), .inl v48]) (h' := h32) rfl ?_
                    refine wq_k2 (p' := 87) (ck_165 _ _ rfl) rfl ⟨by omega, by omega⟩ ⟨by omega, by omega⟩ (fun c52 => ?_) (fun c53 => ?_)
                    · have c52 : v48 = (2) := c52
                      refine av_wp_sqF ck_165 4 (pc' := 109) (lv' := [some (.inr (.inr (.inl (some (77))))), some (.inl x), some (.inl k14), some (.inl k30), some (.inl (1))]) (st' := [.inr (.inr (.inl (some (77))))]) (h' := h32) rfl ?_
                      refine wq_gr (p' := 112) (ck_165 _ _ rfl) rfl (congrArg Prod.fst (ly_k I33.1.1.1 77 rfl)) rfl (ly_g I33.1.1.1 77 43 109 rfl) ?_
                      refine av_wp_sqF ck_165 2 (pc' := 114) (lv' := [some (.inr (.inr (.inl (some (77))))), some (.inl x), some (.inl k14), some (.inl k30), some (.inl (1))]) (st' := [.inr (.inr (.inl (some (77)))), .inl k30, .inr (.inr (.inl (some (109))))]) (h' := h32) rfl ?_
                      refine wq_gr (p' := 117) (ck_165 _ _ rfl) rfl (congrArg Prod.fst (ly_k I33.1.1.1 77 rfl)) rfl (ly_g I33.1.1.1 77 39 105 rfl) ?_
                      refine av_wp_sqF ck_165 3 (pc' := 120) (lv' := [some (.inr (.inr (.inl (some (77))))), some (.inl x), some (.inl k14), some (.inl k30), some (.inl (1))]) (st' := [.inl ((3) * k30), .inr (.inr (.inl (some (105)))), .inl k30, .inr (.inr (.inl (some (109))))]) (h' := h32) rfl ?_
                      obtain ⟨v54, e55⟩ : ∃ v, hA h32 105 (Int.toNat (((3) * k30))) = v := ⟨_, rfl⟩
                      have g56 : 0 ≤ hA h32 105 (Int.toNat (((3) * k30))) ∧ hA h32 105 (Int.toNat (((3) * k30))) ≤ 1999 := im_w I33.1.1 105 (by decide) (by decide) _
                      rw [e55] at g56
                      have y57 : hA h 105 (Int.toNat (((3) * k30))) = v54 := (congrFun (Z35.1 105 rfl) _).symm.trans e55
                      refine wq_al (p' := 121) (n := 36) (ck_165 _ _ rfl) rfl (ly_k I33.1.1.1 105 rfl) (by omega) (e55) ?_
                      refine av_wp_sqF ck_165 1 (pc' := 122) (lv' := [some (.inr (.inr (.inl (some (77))))), some (.inl x), some (.inl k14), some (.inl k30), some (.inl (1))]) (st' := [.inr (.inr (.inl (some (77)))), .inl v54, .inl k30, .inr (.inr (.inl (some (109))))]) (h' := h32) rfl ?_
                      refine wq_gr (p' := 125) (ck_165 _ _ rfl) rfl (congrArg Prod.fst (ly_k I33.1.1.1 77 rfl)) rfl (ly_g I33.1.1.1 77 46 112 rfl) ?_
                      refine av_wp_sqF ck_165 3 (pc' := 128) (lv' := [some (.inr (.inr (.inl (some (77))))), some (.inl x), some (.inl k14), some (.inl k30), some (.inl (1))]) (st' := [.inl ((4) * k30), .inr (.inr (.inl (some (112)))), .inl v54, .inl k30, .inr (.inr (.inl (some (109))))]) (h' := h32) rfl ?_
                      obtain ⟨v58, e59⟩ : ∃ v, hA h32 112 (Int.toNat (((4) * k30))) = v := ⟨_, rfl⟩
                      have y61 : (dgt (one1 v) x) (Int.toNat (((4) * k30))) = v58 := (X37 _ (by omega)).symm.trans e59
                      have g62 := dgt_r (one1_p v) qx.1 (Int.toNat (((4) * k30)))
                      rw [y61] at g62
                      refine wq_al (p' := 129) (n := 48) (ck_165 _ _ rfl) rfl (ly_k I33.1.1.1 112 rfl) (by omega) (e59) ?_
                      refine av_wp_sqF ck_165 1 (pc' := 130) (lv' := [some (.inr (.inr (.inl (some (77))))), some (.inl x), some (.inl k14), some (.inl k30), some (.inl (1))]) (st' := [.inl (v54 + v58), .inl k30, .inr (.inr (.inl (some (109))))]) (h' := h32) rfl ?_
                      refine xm_as (p' := 131) (l := 12) rfl rfl I33 F34 (ly_k I33.1.1.1 109 rfl) (by omega) (by omega) (fun h63 I64 F65 e66 => ?_)
                      have Z67 := ZE_a Z35 e66 rfl
                      have X68 : ∀ q, q < (Int.toNat (4 * n)) → hA h63 112 q = (dgt (one1 v) x) q := fun q hq => (congrFun (hA_en e66 (by decide)) q).trans (X37 q hq)
                      have w69 := hq_a (lo := hA h 105) (ls := hA h 98) (d := (dgt (one1 v) x)) (k := k30) (by omega) y57 y61
                      refine av_wp_sqF ck_165 1 (pc' := 132) (lv' := [some (.inr (.inr (.inl (some (77))))), some (.inl x), some (.inl k14), some (.inl k30), some (.inl (1))]) (st' := [.inr (.inr (.inl (some (77))))]) (h' := h63) rfl ?_
                      refine wq_gr (p' := 135) (ck_165 _ _ rfl) rfl (congrArg Prod.fst (ly_k I64.1.1.1 77 rfl)) rfl (ly_g I64.1.1.1 77 44 110 rfl) ?_
                      refine av_wp_sqF ck_165 5 (pc' := 173) (lv' := [some (.inr (.inr (.inl (some (77))))), some (.inl x), some (.inl k14), some (.inl k30), some (.inl (1))]) (st' := [.inl (-1), .inl k30, .inr (.inr (.inl (some (110))))]) (h' := h63) rfl ?_
                      refine xm_as (p' := 174) (l := 12) rfl rfl I64 F65 (ly_k I64.1.1.1 110 rfl) (by omega) (by omega) (fun h70 I71 F72 e73 => ?_)
                      have Z74 := ZE_a Z67 e73 rfl
                      have X75 : ∀ q, q < (Int.toNat (4 * n)) → hA h70 112 q = (dgt (one1 v) x) q := fun q hq => (congrFun (hA_en e73 (by decide)) q).trans (X68 q hq)
                      have w76 := hq_l (lo := hA h 105) (ls := hA h 98) (d := (dgt (one1 v) x)) (k := k30) (i := 1) (by omega) y51 (by omega) (by omega)
                      refine av_wp_sqF ck_165 1 (pc' := 175) (lv' := [some (.inr (.inr (.inl (some (77))))), some (.inl x), some (.inl k14), some (.inl k30), some (.inl (1))]) (st' := [.inr (.inr (.inl (some (77))))]) (h' := h70) rfl ?_
                      refine wq_gr (p' := 178) (ck_165 _ _ rfl) rfl (congrArg Prod.fst (ly_k I71.1.1.1 77 rfl)) rfl (ly_g I71.1.1.1 77 45 111 rfl) ?_
                      refine av_wp_sqF ck_165 5 (pc' := 216) (lv' := [some (.inr (.inr (.inl (some (77))))), some (.inl x), some (.inl k14), some (.inl k30), some (.inl (1))]) (st' := [.inl (-1), .inl k30, .inr (.inr (.inl (some (111))))]) (h' := h70) rfl ?_
                      refine xm_as (p' := 217) (l := 12) rfl rfl I71 F72 (ly_k I71.1.1.1 111 rfl) (by omega) (by omega) (fun h77 I78 F79 e80 => ?_)
                      have Z81 := ZE_a Z74 e80 rfl
                      have X82 : ∀ q, q < (Int.toNat (4 * n)) → hA h77 112 q = (dgt (one1 v) x) q := fun q hq => (congrFun (hA_en e80 (by decide)) q).trans (X75 q hq)
                      have w83 := hq_l (lo := hA h 105) (ls := hA h 98) (d := (dgt (one1 v) x)) (k := k30) (i := 2) (by omega) y51 (by omega) (by omega)
                      refine av_wp_sqF ck_165 2 (pc' := 69) (lv' := [some (.inr (.inr (.inl (some (77))))), some (.inl x), some (.inl k14), some (.inl (k30 + (1))), some (.inl (1))]) (st' := []) (h' := h77) rfl ?_
                      exact I40 _ (by omega) ((k30 + (1))) (some (.inl (1))) h77 rfl (by omega) (by omega) I78 F79 Z81 (by rw [show Int.toNat (k30 + (1)) = Int.toNat k30 + 1 by omega]; exact HQ_s X36 (hA_eu e66) ⟨hA_en e66 (by decide), hA_en e66 (by decide)⟩ (hA_eu e73) ⟨hA_en e73 (by decide), hA_en e73 (by decide)⟩ (hA_eu e80) ⟨hA_en e80 (by decide), hA_en e80 (by decide)⟩ rfl rfl rfl w69 w76 w83) X82 rfl
                    · have c53 : v48 ≠ (2) := c53
                      refine av_wp_sqF ck_165 1 (pc' := 88) (lv' := [some (.inr (.inr (.inl (some (77))))), some (.inl x), some (.inl k14), some (.inl k30), a31]) (st' := [.inr (.inr (.inl (some (77))))]) (h' := h32) rfl ?_
                      refine wq_gr (p' := 91) (ck_165 _ _ rfl) rfl (congrArg Prod.fst (ly_k I33.1.1.1 77 rfl)) rfl (ly_g I33.1.1.1 77 46 112 rfl) ?_
                      refine av_wp_sqF ck_165 5 (pc' := 96) (lv' := [some (.inr (.inr (.inl (some (77))))), some (.inl x), some (.inl k14), some (.inl k30), a31]) (st' := [.inl (((4) * k30) + (3)), .inr (.inr (.inl (some (112))))]) (h' := h32) rfl ?_
                      obtain ⟨v84, e85⟩ : ∃ v, hA h32 112 (Int.toNat ((((4) * k30) + (3)))) = v := ⟨_, rfl⟩
                      have y87 : (dgt (one1 v) x) (Int.toNat ((((4) * k30) + (3)))) = v84 := (X37 _ (by omega)).symm.trans e85
                      have g88 := dgt_r (one1_p v) qx.1 (Int.toNat ((((4) * k30) + (3))))
                      rw [y87] at g88
                      refine wq_al (p' := 97) (n := 48) (ck_165 _ _ rfl) rfl (ly_k I33.1.1.1 112 rfl) (by omega) (e85) ?_
                      refine av_wp_sqF ck_165 1 (pc' := 98) (lv' := [some (.inr (.inr (.inl (some (77))))), some (.inl x), some (.inl k14), some (.inl k30), a31]) (st' := [.inl (1), .inl v84]) (h' := h32) rfl ?_
                      refine wq_k2 (p' := 101) (ck_165 _ _ rfl) rfl ⟨by omega, by omega⟩ ⟨by omega, by omega⟩ (fun c89 => ?_) (fun c90 => ?_)
                      · have c89 : v84 ≠ (1) := c89
                        refine av_wp_sqF ck_165 3 (pc' := 109) (lv' := [some (.inr (.inr (.inl (some (77))))), some (.inl x), some (.inl k14), some (.inl k30), some (.inl (0))]) (st' := [.inr (.inr (.inl (some (77))))]) (h' := h32) rfl ?_
                        refine wq_gr (p' := 112) (ck_165 _ _ rfl) rfl (congrArg Prod.fst (ly_k I33.1.1.1 77 rfl)) rfl (ly_g I33.1.1.1 77 43 109 rfl) ?_
                        refine av_wp_sqF ck_165 2 (pc' := 114) (lv' := [some (.inr (.inr (.inl (some (77))))), some (.inl x), some (.inl k14), some (.inl k30), some (.inl (0))]) (st' := [.inr (.inr (.inl (some (77)))), .inl k30, .inr (.inr (.inl (some (109))))]) (h' := h32) rfl ?_
                        refine wq_gr (p' := 117) (ck_165 _ _ rfl) rfl (congrArg Prod.fst (ly_k I33.1.1.1 77 rfl)) rfl (ly_g I33.1.1.1 77 39 105 rfl) ?_
                        refine av_wp_sqF ck_165 3 (pc' := 120) (lv' := [some (.inr (.inr (.inl (some (77))))), some (.inl x), some (.inl k14), some (.inl k30), some (.inl (0))]) (st' := [.inl ((3) * k30), .inr (.inr (.inl (some (105)))), .inl k30, .inr (.inr (.inl (some (109))))]) (h' := h32) rfl ?_
                        obtain ⟨v91, e92⟩ : ∃ v, hA h32 105 (Int.toNat (((3) * k30))) = v := ⟨_, rfl⟩
                        have g93 : 0 ≤ hA h32 105 (Int.toNat (((3) * k30))) ∧ hA h32 105 (Int.toNat (((3) * k30))) ≤ 1999 := im_w I33.1.1 105 (by decide) (by decide) _
                        rw [e92] at g93
                        have y94 : hA h 105 (Int.toNat (((3) * k30))) = v91 := (congrFun (Z35.1 105 rfl) _).symm.trans e92
                        refine wq_al (p' := 121) (n := 36) (ck_165 _ _ rfl) rfl (ly_k I33.1.1.1 105 rfl) (by omega) (e92) ?_
                        refine av_wp_sqF ck_165 1 (pc' := 122) (lv' := [some (.inr (.inr (.inl (some (77))))), some (.inl x), some (.inl k14), some (.inl k30), some (.inl (0))]) (st' := [.inr (.inr (.inl (some (77)))), .inl v91, .inl k30, .inr (.inr (.inl (some (109))))]) (h' := h32) rfl ?_
                        refine wq_gr (p' := 125) (ck_165 _ _ rfl) rfl (congrArg Prod.fst (ly_k I33.1.1.1 77 rfl)) rfl (ly_g I33.1.1.1 77 46 112 rfl) ?_
                        refine av_wp_sqF ck_165 3 (pc' := 128) (lv' := [some (.inr (.inr (.inl (some (77))))), some (.inl x), some (.inl k14), some (.inl k30), some (.inl (0))]) (st' := [.inl ((4) * k30), .inr (.inr (.inl (some (112)))), .inl v91, .inl k30, .inr (.inr (.inl (some (109))))]) (h' := h32) rfl ?_
                        obtain ⟨v95, e96⟩ : ∃ v, hA h32 112 (Int.toNat (((4) * k30))) = v := ⟨_, rfl⟩
                        have y98 : (dgt (one1 v) x) (Int.toNat (((4) * k30))) = v95 := (X37 _ (by omega)).symm.trans e96
                        have g99 := dgt_r (one1_p v) qx.1 (Int.toNat (((4) * k30)))
                        rw [y98] at g99
                        refine wq_al (p' := 129) (n := 48) (ck_165 _ _ rfl) rfl (ly_k I33.1.1.1 112 rfl) (by omega) (e96) ?_
                        refine av_wp_sqF ck_165 1 (pc' := 130) (lv' := [some (.inr (.inr (.inl (some (77))))), some (.inl x), some (.inl k14), some (.inl k30), some (.inl (0))]) (st' := [.inl (v91 + v95), .inl k30, .inr (.inr (.inl (some (109))))]) (h' := h32) rfl ?_
                        refine xm_as (p' := 131) (l := 12) rfl rfl I33 F34 (ly_k I33.1.1.1 109 rfl) (by omega) (by omega) (fun h100 I101 F102 e103 => ?_)
                        have Z104 := ZE_a Z35 e103 rfl
                        have X105 : ∀ q, q < (Int.toNat (4 * n)) → hA h100 112 q = (dgt (one1 v) x) q := fun q hq => (congrFun (hA_en e103 (by decide)) q).trans (X37 q hq)
                        have w106 := hq_a (lo := hA h 105) (ls := hA h 98) (d := (dgt (one1 v) x)) (k := k30) (by omega) y94 y98
                        refine av_wp_sqF ck_165 1 (pc' := 132) (lv' := [some (.inr (.inr (.inl (some (77))))), some (.inl x), some (.inl k14), some (.inl k30), some (.inl (0))]) (st' := [.inr (.inr (.inl (some (77))))]) (h' := h100) rfl ?_
                        refine wq_gr (p' := 135) (ck_165 _ _ rfl) rfl (congrArg Prod.fst (ly_k I101.1.1.1 77 rfl)) rfl (ly_g I101.1.1.1 77 44 110 rfl) ?_
                        refine av_wp_sqF ck_165 4 (pc' := 146) (lv' := [some (.inr (.inr (.inl (some (77))))), some (.inl x), some (.inl k14), some (.inl k30), some (.inl (0))]) (st' := [.inr (.inr (.inl (some (77)))), .inl k30, .inr (.inr (.inl (some (110))))]) (h' := h100) rfl ?_
                        refine wq_gr (p' := 149) (ck_165 _ _ rfl) rfl (congrArg Prod.fst (ly_k I101.1.1.1 77 rfl)) rfl (ly_g I101.1.1.1 77 43 109 rfl) ?_
                        refine av_wp_sqF ck_165 1 (pc' := 150) (lv' := [some (.inr (.inr (.inl (some (77))))), some (.inl x), some (.inl k14), some (.inl k30), some (.inl (0))]) (st' := [.inl k30, .inr (.inr (.inl (some (109)))), .inl k30, .inr (.inr (.inl (some (110))))]) (h' := h100) rfl ?_
                        obtain ⟨v107, e108⟩ : ∃ v, hA h100 109 (Int.toNat (k30)) = v := ⟨_, rfl⟩
                        have y110 : (v91 + v95) = v107 := by rw [← e108, hA_eu e103, u1_eq]
                        refine wq_al (p' := 151) (n := 12) (ck_165 _ _ rfl) rfl (ly_k I101.1.1.1 109 rfl) (by omega) (e108) ?_
                        refine av_wp_sqF ck_165 1 (pc' := 152) (lv' := [some (.inr (.inr (.inl (some (77))))), some (.inl x), some (.inl k14), some (.inl k30), some (.inl (0))]) (st' := [.inr (.inr (.inl (some (77)))), .inl v107, .inl k30, .inr (.inr (.inl (some (110))))]) (h' := h100) rfl ?_
                        refine wq_gr (p' := 155) (ck_165 _ _ rfl) rfl (congrArg Prod.fst (ly_k I101.1.1.1 77 rfl)) rfl (ly_g I101.1.1.1 77 39 105 rfl) ?_
                        refine av_wp_sqF ck_165 5 (pc' := 160) (lv' := [some (.inr (.inr (.inl (some (77))))), some (.inl x), some (.inl k14), some (.inl k30), some (.inl (0))]) (st' := [.inl (((3) * k30) + (1)), .inr (.inr (.inl (some (105)))), .inl v107, .inl k30, .inr (.inr (.inl (some (110))))]) (h' := h100) rfl ?_
                        obtain ⟨v111, e112⟩ : ∃ v, hA h100 105 (Int.toNat ((((3) * k30) + (1)))) = v := ⟨_, rfl⟩
                        have g113 : 0 ≤ hA h100 105 (Int.toNat ((((3) * k30) + (1)))) ∧ hA h100 105 (Int.toNat ((((3) * k30) + (1)))) ≤ 1999 := im_w I101.1.1 105 (by decide) (by decide) _
                        rw [e112] at g113
                        have y114 : hA h 105 (Int.toNat ((((3) * k30) + (1)))) = v111 := (congrFun (Z104.1 105 rfl) _).symm.trans e112
                        refine wq_al (p' := 161) (n := 36) (ck_165 _ _ rfl) rfl (ly_k I101.1.1.1 105 rfl) (by omega) (e112) ?_
                        refine av_wp_sqF ck_165 2 (pc' := 163) (lv' := [some (.inr (.inr (.inl (some (77))))), some (.inl x), some (.inl k14), some (.inl k30), some (.inl (0))]) (st' := [.inr (.inr (.inl (some (77)))), .inl (v107 + v111), .inl k30, .inr (.inr (.inl (some (110))))]) (h' := h100) rfl ?_
                        refine wq_gr (p' := 166) (ck_165 _ _ rfl) rfl (congrArg Prod.fst (ly_k I101.1.1.1 77 rfl)) rfl (ly_g I101.1.1.1 77 46 112 rfl) ?_
                        refine av_wp_sqF ck_165 5 (pc' := 171) (lv' := [some (.inr (.inr (.inl (some (77))))), some (.inl x), some (.inl k14), some (.inl k30), some (.inl (0))]) (st' := [.inl (((4) * k30) + (1)), .inr (.inr (.inl (some (112)))), .inl (v107 + v111), .inl k30, .inr (.inr (.inl (some (110))))]) (h' := h100) rfl ?_
                        obtain ⟨v115, e116⟩ : ∃ v, hA h100 112 (Int.toNat ((((4) * k30) + (1)))) = v := ⟨_, rfl⟩
                        have y118 : (dgt (one1 v) x) (Int.toNat ((((4) * k30) + (1)))) = v115 := (X105 _ (by omega)).symm.trans e116
                        have g119 := dgt_r (one1_p v) qx.1 (Int.toNat ((((4) * k30) + (1))))
                        rw [y118] at g119
                        refine wq_al (p' := 172) (n := 48) (ck_165 _ _ rfl) rfl (ly_k I101.1.1.1 112 rfl) (by omega) (e116) ?_
                        refine av_wp_sqF ck_165 1 (pc' := 173) (lv' := [some (.inr (.inr (.inl (some (77))))), some (.inl x), some (.inl k14), some (.inl k30), some (.inl (0))]) (st' := [.inl ((v107 + v111) + v115), .inl k30, .inr (.inr (.inl (some (110))))]) (h' := h100) rfl ?_
                        refine xm_as (p' := 174) (l := 12) rfl rfl I101 F102 (ly_k I101.1.1.1 110 rfl) (by omega) (by omega) (fun h120 I121 F122 e123 => ?_)
                        have Z124 := ZE_a Z104 e123 rfl
                        have X125 : ∀ q, q < (Int.toNat (4 * n)) → hA h120 112 q = (dgt (one1 v) x) q := fun q hq => (congrFun (hA_en e123 (by decide)) q).trans (X105 q hq)
                        have w126 := hq_s (lo := hA h 105) (ls := hA h 98) (d := (dgt (one1 v) x)) (k := k30) (i := 0) (by omega) y51 (by omega) y87 (by omega) 1 rfl (y110.symm.trans w106) y114 y118
                        refine av_wp_sqF ck_165 1 (pc' := 175) (lv' := [some (.inr (.inr (.inl (some (77))))), some (.inl x), some (.inl k14), some (.inl k30), some (.inl (0))]) (st' := [.inr (.inr (.inl (some (77))))]) (h' := h120) rfl ?_
                        refine wq_gr (p' := 178) (ck_165 _ _ rfl) rfl (congrArg Prod.fst (ly_k I121.1.1.1 77 rfl)) rfl (ly_g I121.1.1.1 77 45 111 rfl) ?_
                        refine av_wp_sqF ck_165 4 (pc' := 189) (lv' := [some (.inr (.inr (.inl (some (77))))), some (.inl x), some (.inl k14), some (.inl k30), some (.inl (0))]) (st' := [.inr (.inr (.inl (some (77)))), .inl k30, .inr (.inr (.inl (some (111))))]) (h' := h120) rfl ?_
                        refine wq_gr (p' := 192) (ck_165 _ _ rfl) rfl (congrArg Prod.fst (ly_k I121.1.1.1 77 rfl)) rfl (ly_g I121.1.1.1 77 44 110 rfl) ?_
                        refine av_wp_sqF ck_165 1 (pc' := 193) (lv' := [some (.inr (.inr (.inl (some (77))))), some (.inl x), some (.inl k14), some (.inl k30), some (.inl (0))]) (st' := [.inl k30, .inr (.inr (.inl (some (110)))), .inl k30, .inr (.inr (.inl (some (111))))]) (h' := h120) rfl ?_
                        obtain ⟨v127, e128⟩ : ∃ v, hA h120 110 (Int.toNat (k30)) = v := ⟨_, rfl⟩
                        have y130 : ((v107 + v111) + v115) = v127 := by rw [← e128, hA_eu e123, u1_eq]
                        refine wq_al (p' := 194) (n := 12) (ck_165 _ _ rfl) rfl (ly_k I121.1.1.1 110 rfl) (by omega) (e128) ?_
                        refine av_wp_sqF ck_165 1 (pc' := 195) (lv' := [some (.inr (.inr (.inl (some (77))))), some (.inl x), some (.inl k14), some (.inl k30), some (.inl (0))]) (st' := [.inr (.inr (.inl (some (77)))), .inl v127, .inl k30, .inr (.inr (.inl (some (111))))]) (h' := h120) rfl ?_
                        refine wq_gr (p' := 198) (ck_165 _ _ rfl) rfl (congrArg Prod.fst (ly_k I121.1.1.1 77 rfl)) rfl (ly_g I121.1.1.1 77 39 105 rfl) ?_
                        refine av_wp_sqF ck_165 5 (pc' := 203) (lv' := [some (.inr (.inr (.inl (some (77))))), some (.inl x), some (.inl k14), some (.inl k30), some (.inl (0))]) (st' := [.inl (((3) * k30) + (2)), .inr (.inr (.inl (some (105)))), .inl v127, .inl k30, .inr (.inr (.inl (some (111))))]) (h' := h120) rfl ?_
                        obtain ⟨v131, e132⟩ : ∃ v, hA h120 105 (Int.toNat ((((3) * k30) + (2)))) = v := ⟨_, rfl⟩
                        have g133 : 0 ≤ hA h120 105 (Int.toNat ((((3) * k30) + (2)))) ∧ hA h120 105 (Int.toNat ((((3) * k30) + (2)))) ≤ 1999 := im_w I121.1.1 105 (by decide) (by decide) _
                        rw [e132] at g133
                        have y134 : hA h 105 (Int.toNat ((((3) * k30) + (2)))) = v131 := (congrFun (Z124.1 105 rfl) _).symm.trans e132
                        refine wq_al (p' := 204) (n := 36) (ck_165 _ _ rfl) rfl (ly_k I121.1.1.1 105 rfl) (by omega) (e132) ?_
                        refine av_wp_sqF ck_165 2 (pc' := 206) (lv' := [some (.inr (.inr (.inl (some (77))))), some (.inl x), some (.inl k14), some (.inl k30), some (.inl (0))]) (st' := [.inr (.inr (.inl (some (77)))), .inl (v127 + v131), .inl k30, .inr (.inr (.inl (some (111))))]) (h' := h120) rfl ?_
                        refine wq_gr (p' := 209) (ck_165 _ _ rfl) rfl (congrArg Prod.fst (ly_k I121.1.1.1 77 rfl)) rfl (ly_g I121.1.1.1 77 46 112 rfl) ?_
                        refine av_wp_sqF ck_165 5 (pc' := 214) (lv' := [some (.inr (.inr (.inl (some (77))))), some (.inl x), some (.inl k14), some (.inl k30), some (.inl (0))]) (st' := [.inl (((4) * k30) + (2)), .inr (.inr (.inl (some (112)))), .inl (v127 + v131), .inl k30, .inr (.inr (.inl (some (111))))]) (h' := h120) rfl ?_
                        obtain ⟨v135, e136⟩ : ∃ v, hA h120 112 (Int.toNat ((((4) * k30) + (2)))) = v := ⟨_, rfl⟩
                        have y138 : (dgt (one1 v) x) (Int.toNat ((((4) * k30) + (2)))) = v135 := (X125 _ (by omega)).symm.trans e136
                        have g139 := dgt_r (one1_p v) qx.1 (Int.toNat ((((4) * k30) + (2))))
                        rw [y138] at g139
                        refine wq_al (p' := 215) (n := 48) (ck_165 _ _ rfl) rfl (ly_k I121.1.1.1 112 rfl) (by omega) (e136) ?_
                        refine av_wp_sqF ck_165 1 (pc' := 216) (lv' := [some (.inr (.inr (.inl (some (77))))), some (.inl x), some (.inl k14), some (.inl k30), some (.inl (0))]) (st' := [.inl ((v127 + v131) + v135), .inl k30, .inr (.inr (.inl (some (111))))]) (h' := h120) rfl ?_
                        refine xm_as (p' := 217) (l := 12) rfl rfl I121 F122 (ly_k I121.1.1.1 111 rfl) (by omega) (by omega) (fun h140 I141 F142 e143 => ?_)
                        have Z144 := ZE_a Z124 e143 rfl
                        have X145 : ∀ q, q < (Int.toNat (4 * n)) → hA h140 112 q = (dgt (one1 v) x) q := fun q hq => (congrFun (hA_en e143 (by decide)) q).trans (X125 q hq)
                        have w146 := hq_s (lo := hA h 105) (ls := hA h 98) (d := (dgt (one1 v) x)) (k := k30) (i := 1) (by omega) y51 (by omega) y87 (by omega) 2 rfl (y130.symm.trans w126) y134 y138
                        refine av_wp_sqF ck_165 2 (pc' := 69) (lv' := [some (.inr (.inr (.inl (some (77))))), some (.inl x), some (.inl k14), some (.inl (k30 + (1))), some (.inl (0))]) (st' := []) (h' := h140) rfl ?_
                        exact I40 _ (by omega) ((k30 + (1))) (some (.inl (0))) h140 rfl (by omega) (by omega) I141 F142 Z144 (by rw [show Int.toNat (k30 + (1)) = Int.toNat k30 + 1 by omega]; exact HQ_s X36 (hA_eu e103) ⟨hA_en e103 (by decide), hA_en e103 (by decide)⟩ (hA_eu e123) ⟨hA_en e123 (by decide), hA_en e123 (by decide)⟩ (hA_eu e143) ⟨hA_en e143 (by decide), hA_en e143 (by decide)⟩ rfl rfl rfl w106 w126 w146) X145 rfl
                      · have c90 : v84 = (1) := c90
                        refine av_wp_sqF ck_165 4 (pc' := 109) (lv' := [some (.inr (.inr (.inl (some (77))))), some (.inl x), some (.inl k14), some (.inl k30), some (.inl (1))]) (st' := [.inr (.inr (.inl (some (77))))]) (h' := h32) rfl ?_
                        refine wq_gr (p' := 112) (ck_165 _ _ rfl) rfl (congrArg Prod.fst (ly_k I33.1.1.1 77 rfl)) rfl (ly_g I33.1.1.1 77 43 109 rfl) ?_
                        refine av_wp_sqF ck_165 2 (pc' := 114) (lv' := [some (.inr (.inr (.inl (some (77))))), some (.inl x), some (.inl k14), some (.inl k30), some (.inl (1))]) (st' := [.inr (.inr (.inl (some (77)))), .inl k30, .inr (.inr (.inl (some (109))))]) (h' := h32) rfl ?_
                        refine wq_gr (p' := 117) (ck_165 _ _ rfl) rfl (congrArg Prod.fst (ly_k I33.1.1.1 77 rfl)) rfl (ly_g I33.1.1.1 77 39 105 rfl) ?_
                        refine av_wp_sqF ck_165 3 (pc' := 120) (lv' := [some (.inr (.inr (.inl (some (77))))), some (.inl x), some (.inl k14), some (.inl k30), some (.inl (1))]) (st' := [.inl ((3) * k30), .inr (.inr (.inl (some (105)))), .inl k30, .inr (.inr (.inl (some (109))))]) (h' := h32) rfl ?_
                        obtain ⟨v147, e148⟩ : ∃ v, hA h32 105 (Int.toNat (((3) * k30))) = v := ⟨_, rfl⟩
                        have g149 : 0 ≤ hA h32 105 (Int.toNat (((3) * k30))) ∧ hA h32 105 (Int.toNat (((3) * k30))) ≤ 1999 := im_w I33.1.1 105 (by decide) (by decide) _
                        rw [e148] at g149
                        have y150 : hA h 105 (Int.toNat (((3) * k30))) = v147 := (congrFun (Z35.1 105 rfl) _).symm.trans e148
                        refine wq_al (p' := 121) (n := 36) (ck_165 _ _ rfl) rfl (ly_k I33.1.1.1 105 rfl) (by omega) (e148) ?_
                        refine av_wp_sqF ck_165 1 (pc' := 122) (lv' := [some (.inr (.inr (.inl (some (77))))), some (.inl x), some (.inl k14), some (.inl k30), some (.inl (1))]) (st' := [.inr (.inr (.inl (some (77)))), .inl v147, .inl k30, .inr (.inr (.inl (some (109))))]) (h' := h32) rfl ?_
                        refine wq_gr (p' := 125) (ck_165 _ _ rfl) rfl (congrArg Prod.fst (ly_k I33.1.1.1 77 rfl)) rfl (ly_g I33.1.1.1 77 46 112 rfl) ?_
                        refine av_wp_sqF ck_165 3 (pc' := 128) (lv' := [some (.inr (.inr (.inl (some (77))))), some (.inl x), some (.inl k14), some (.inl k30), some (.inl (1))]) (st' := [.inl ((4) * k30), .inr (.inr (.inl (some (112)))), .inl v147, .inl k30, .inr (.inr (.inl (some (109))))]) (h' := h32) rfl ?_
                        obtain ⟨v151, e152⟩ : ∃ v, hA h32 112 (Int.toNat (((4) * k30))) = v := ⟨_, rfl⟩
                        have y154 : (dgt (one1 v) x) (Int.toNat (((4) * k30))) = v151 := (X37 _ (by omega)).symm.trans e152
                        have g155 := dgt_r (one1_p v) qx.1 (Int.toNat (((4) * k30)))
                        rw [y154] at g155
                        refine wq_al (p' := 129) (n := 48) (ck_165 _ _ rfl) rfl (ly_k I33.1.1.1 112 rfl) (by omega) (e152) ?_
                        refine av_wp_sqF ck_165 1 (pc' := 130) (lv' := [some (.inr (.inr (.inl (some (77))))), some (.inl x), some (.inl k14), some (.inl k30), some (.inl (1))]) (st' := [.inl (v147 + v151), .inl k30, .inr (.inr (.inl (some (109))))]) (h' := h32) rfl ?_
                        refine xm_as (p' := 131) (l := 12) rfl rfl I33 F34 (ly_k I33.1.1.1 109 rfl) (by omega) (by omega) (fun h156 I157 F158 e159 => ?_)
                        have Z160 := ZE_a Z35 e159 rfl
                        have X161 : ∀ q, q < (Int.toNat (4 * n)) → hA h156 112 q = (dgt (one1 v) x) q := fun q hq => (congrFun (hA_en e159 (by decide)) q).trans (X37 q hq)
                        have w162 := hq_a (lo := hA h 105) (ls := hA h 98) (d := (dgt (one1 v) x)) (k := k30) (by omega) y150 y154
                        refine av_wp_sqF ck_165 1 (pc' := 132) (lv' := [some (.inr (.inr (.inl (some (77))))), some (.inl x), some (.inl k14), some (.inl k30), some (.inl (1))]) (st' := [.inr (.inr (.inl (some (77))))]) (h' := h156) rfl ?_
                        refine wq_gr (p' := 135) (ck_165 _ _ rfl) rfl (congrArg Prod.fst (ly_k I157.1.1.1 77 rfl)) rfl (ly_g I157.1.1.1 77 44 110 rfl) ?_
                        refine av_wp_sqF ck_165 5 (pc' := 173) (lv' := [some (.inr (.inr (.inl (some (77))))), some (.inl x), some (.inl k14), some (.inl k30), some (.inl (1))]) (st' := [.inl (-1), .inl k30, .inr (.inr (.inl (some (110))))]) (h' := h156) rfl ?_
                        refine xm_as (p' := 174) (l := 12) rfl rfl I157 F158 (ly_k I157.1.1.1 110 rfl) (by omega) (by omega) (fun h163 I164 F165 e166 => ?_)
                        have Z167 := ZE_a Z160 e166 rfl
                        have X168 : ∀ q, q < (Int.toNat (4 * n)) → hA h163 112 q = (dgt (one1 v) x) q := fun q hq => (congrFun (hA_en e166 (by decide)) q).trans (X161 q hq)
                        have w169 := hq_m (lo := hA h 105) (ls := hA h 98) (d := (dgt (one1 v) x)) (k := k30) (i := 1) (by omega) y87 (by omega) (by omega)
                        refine av_wp_sqF ck_165 1 (pc' := 175) (lv' := [some (.inr (.inr (.inl (some (77))))), some (.inl x), some (.inl k14), some (.inl k30), some (.inl (1))]) (st' := [.inr (.inr (.inl (some (77))))]) (h' := h163) rfl ?_
                        refine wq_gr (p' := 178) (ck_165 _ _ rfl) rfl (congrArg Prod.fst (ly_k I164.1.1.1 77 rfl)) rfl (ly_g I164.1.1.1 77 45 111 rfl) ?_
                        refine av_wp_sqF ck_165 5 (pc' := 216) (lv' := [some (.inr (.inr (.inl (some (77))))), some (.inl x), some (.inl k14), some (.inl k30), some (.inl (1))]) (st' := [.inl (-1), .inl k30, .inr (.inr (.inl (some (111))))]) (h' := h163) rfl ?_
                        refine xm_as (p' := 217) (l := 12) rfl rfl I164 F165 (ly_k I164.1.1.1 111 rfl) (by omega) (by omega) (fun h170 I171 F172 e173 => ?_)
                        have Z174 := ZE_a Z167 e173 rfl
                        have X175 : ∀ q, q < (Int.toNat (4 * n)) → hA h170 112 q = (dgt (one1 v) x) q := fun q hq => (congrFun (hA_en e173 (by decide)) q).trans (X168 q hq)
                        have w176 := hq_m (lo := hA h 105) (ls := hA h 98) (d := (dgt (one1 v) x)) (k := k30) (i := 2) (by omega) y87 (by omega) (by omega)
                        refine av_wp_sqF ck_165 2 (pc' := 69) (lv' := [some (.inr (.inr (.inl (some (77))))), some (.inl x), some (.inl k14), some (.inl (k30 + (1))), some (.inl (1))]) (st' := []) (h' := h170) rfl ?_
                        exact I40 _ (by omega) ((k30 + (1))) (some (.inl (1))) h170 rfl (by omega) (by omega) I171 F172 Z174 (by rw [show Int.toNat (k30 + (1)) = Int.toNat k30 + 1 by omega]; exact HQ_s X36 (hA_eu e159) ⟨hA_en e159 (by decide), hA_en e159 (by decide)⟩ (hA_eu e166) ⟨hA_en e166 (by decide), hA_en e166 (by decide)⟩ (hA_eu e173) ⟨hA_en e173 (by decide), hA_en e173 (by decide)⟩ rfl rfl rfl w162 w169 w176) X175 rfl
              exact L39 _ ((0)) (none) h16 rfl (by omega) (by omega) I17 F18 Z19 HQ_0 (PQI_e X20 (by omega)) rfl
            · have c29 : k15 < a := c29
              refine av_wp_sqF ck_165 1 (pc' := 34) (lv' := [some (.inr (.inr (.inl (some (77))))), some (.inl x), some (.inl k14), some (.inl k15), none]) (st' := [.inr (.inr (.inl (some (77))))]) (h' := h16) rfl ?_
              refine wq_gr (p' := 37) (ck_165 _ _ rfl) rfl (congrArg Prod.fst (ly_k I17.1.1.1 77 rfl)) rfl (ly_g I17.1.1.1 77 46 112 rfl) ?_
              refine av_wp_sqF ck_165 1 (pc' := 38) (lv' := [some (.inr (.inr (.inl (some (77))))), some (.inl x), some (.inl k14), some (.inl k15), none]) (st' := [.inr (.inr (.inl (some (77)))), .inr (.inr (.inl (some (112))))]) (h' := h16) rfl ?_
              refine wq_gr (p' := 41) (ck_165 _ _ rfl) rfl (congrArg Prod.fst (ly_k I17.1.1.1 77 rfl)) rfl (ly_g I17.1.1.1 77 41 107 rfl) ?_
              refine av_wp_sqF ck_165 1 (pc' := 42) (lv' := [some (.inr (.inr (.inl (some (77))))), some (.inl x), some (.inl k14), some (.inl k15), none]) (st' := [.inl k15, .inr (.inr (.inl (some (107)))), .inr (.inr (.inl (some (112))))]) (h' := h16) rfl ?_
              obtain ⟨v177, e178⟩ : ∃ v, hA h16 107 (Int.toNat (k15)) = v := ⟨_, rfl⟩
              have g179 : 0 ≤ hA h16 107 (Int.toNat (k15)) ∧ hA h16 107 (Int.toNat (k15)) ≤ 47 := im_w I17.1.1 107 (by decide) (by decide) _
              rw [e178] at g179
              have y180 : hA h 107 (Int.toNat (k15)) = v177 := (congrFun (Z19.1 107 rfl) _).symm.trans e178
              refine wq_al (p' := 43) (n := 48) (ck_165 _ _ rfl) rfl (ly_k I17.1.1.1 107 rfl) (by omega) (e178) ?_
              refine av_wp_sqF ck_165 2 (pc' := 45) (lv' := [some (.inr (.inr (.inl (some (77))))), some (.inl x), some (.inl k14), some (.inl k15), none]) (st' := [.inr (.inr (.inl (some (77)))), .inl k14, .inl v177, .inr (.inr (.inl (some (112))))]) (h' := h16) rfl ?_
              refine wq_gr (p' := 48) (ck_165 _ _ rfl) rfl (congrArg Prod.fst (ly_k I17.1.1.1 77 rfl)) rfl (ly_g I17.1.1.1 77 42 108 rfl) ?_
              refine av_wp_sqF ck_165 1 (pc' := 49) (lv' := [some (.inr (.inr (.inl (some (77))))), some (.inl x), some (.inl k14), some (.inl k15), none]) (st' := [.inl k15, .inr (.inr (.inl (some (108)))), .inl k14, .inl v177, .inr (.inr (.inl (some (112))))]) (h' := h16) rfl ?_
              obtain ⟨v181, e182⟩ : ∃ v, hA h16 108 (Int.toNat (k15)) = v := ⟨_, rfl⟩
              have g183 := im_rx I17.1.1 (Int.toNat (k15)) (by have := I17.2.2.1; omega)
              rw [e182] at g183
              have y184 : hA h 108 (Int.toNat (k15)) = v181 := (congrFun (Z19.1 108 rfl) _).symm.trans e182
              refine wq_al (p' := 50) (n := 48) (ck_165 _ _ rfl) rfl (ly_k I17.1.1.1 108 rfl) (by omega) (e182) ?_
              refine wq_rm (p' := 51) (ck_165 _ _ rfl) rfl ⟨by omega, by omega⟩ (by omega) (fun v185 e186 => ?_)
              have e186 := e186 ⟨by omega, by omega⟩
              rw [Int.tmod_eq_emod_of_nonneg (by omega)] at e186
              have g187 := i_mr (x := k14) (y := v181) (by omega) (by omega)
              rw [← e186] at g187
              refine xm_as (p' := 52) (l := 48) rfl rfl I17 F18 (ly_k I17.1.1.1 112 rfl) (by omega) (by omega) (fun h188 I189 F190 e191 => ?_)
              have Z192 := ZE_a Z19 e191 rfl
              refine av_wp_sqF ck_165 2 (pc' := 54) (lv' := [some (.inr (.inr (.inl (some (77))))), some (.inl x), some (.inl k14), some (.inl k15), none]) (st' := [.inr (.inr (.inl (some (77)))), .inl k14]) (h' := h188) rfl ?_
              refine wq_gr (p' := 57) (ck_165 _ _ rfl) rfl (congrArg Prod.fst (ly_k I189.1.1.1 77 rfl)) rfl (ly_g I189.1.1.1 77 42 108 rfl) ?_
              refine av_wp_sqF ck_165 1 (pc' := 58) (lv' := [some (.inr (.inr (.inl (some (77))))), some (.inl x), some (.inl k14), some (.inl k15), none]) (st' := [.inl k15, .inr (.inr (.inl (some (108)))), .inl k14]) (h' := h188) rfl ?_
              obtain ⟨v193, e194⟩ : ∃ v, hA h188 108 (Int.toNat (k15)) = v := ⟨_, rfl⟩
              have g195 := im_rx I189.1.1 (Int.toNat (k15)) (by have := I189.2.2.1; omega)
              rw [e194] at g195
              have y196 : hA h 108 (Int.toNat (k15)) = v193 := (congrFun (Z192.1 108 rfl) _).symm.trans e194
              refine wq_al (p' := 59) (n := 48) (ck_165 _ _ rfl) rfl (ly_k I189.1.1.1 108 rfl) (by omega) (e194) ?_
              refine wq_dv (p' := 60) (ck_165 _ _ rfl) rfl ⟨by omega, by omega⟩ (by omega) (fun v197 e198 => ?_)
              have e198 := e198 ⟨by omega, by omega⟩
              rw [Int.tdiv_eq_ediv_of_nonneg (by omega)] at e198
              have g199 := i_dr (x := k14) (y := v193) (by omega) (by omega)
              rw [← e198] at g199
              refine av_wp_sqF ck_165 3 (pc' := 25) (lv' := [some (.inr (.inr (.inl (some (77))))), some (.inl x), some (.inl v197), some (.inl (k15 + (1))), none]) (st' := []) (h' := h188) rfl ?_
              exact I23 _ (by omega) (v197) ((k15 + (1))) h188 (by omega) (by omega) (by omega) I189 F190 Z192 (by rw [show Int.toNat (k15 + (1)) = Int.toNat k15 + 1 by omega, hA_eu e191]; exact PQI_s (by omega) X20 (by omega) (by omega) al y180 y184 y196 e186 e198) rfl
        exact L22 _ (x) ((0)) h2 (by omega) (by omega) (by omega) I3 F4 Z5 (PQI_0 (by omega) (FI_e X6 (by omega))) rfl
      · have c13 : k1 < (48) := c13
        refine av_wp_sqF ck_165 1 (pc' := 9) (lv' := [some (.inr (.inr (.inl (some (77))))), some (.inl x), some (.inl k1), none, none]) (st' := [.inr (.inr (.inl (some (77))))]) (h' := h2) rfl ?_
        refine wq_gr (p' := 12) (ck_165 _ _ rfl) rfl (congrArg Prod.fst (ly_k I3.1.1.1 77 rfl)) rfl (ly_g I3.1.1.1 77 46 112 rfl) ?_
        refine av_wp_sqF ck_165 2 (pc' := 14) (lv' := [some (.inr (.inr (.inl (some (77))))), some (.inl x), some (.inl k1), none, none]) (st' := [.inl (0), .inl k1, .inr (.inr (.inl (some (112))))]) (h' := h2) rfl ?_
        refine xm_as (p' := 15) (l := 48) rfl rfl I3 F4 (ly_k I3.1.1.1 112 rfl) (by omega) (by omega) (fun h200 I201 F202 e203 => ?_)
        have Z204 := ZE_a Z5 e203 rfl
        refine av_wp_sqF ck_165 2 (pc' := 2) (lv' := [some (.inr (.inr (.inl (some (77))))), some (.inl x), some (.inl (k1 + (1))), none, none]) (st' := []) (h' := h200) rfl ?_
        exact I9 _ (by omega) ((k1 + (1))) h200 (by omega) I201 F202 Z204 (by rw [hA_eu e203]; exact FI_s X6 (by omega) rfl) rfl
  exact L8 _ ((0)) h (by omega) I F Z (FI_0 (fun j _ => rfl)) rfl

set_option maxRecDepth 100000 in
set_option maxHeartbeats 4000000 in
theorem cx_163 {g h : av_H} {n : Int} (I : IM h) (hn : hF h 77 27 = n) (F : FM g h) {Q : Option av_V → av_H → Prop} (hq : ∀ a m h', (1 ≤ m ∧ m = cmf (hA h 105) (hA h 106) (hA h 98) (4 * n).toNat) → AQL (cmv (hA h 105) (hA h 106) (hA h 98)) (4 * n).toNat h' → ZE [107, 108] [28, 29] h h' → IMF n a m h' → FM g h' → Q none h') : av_wp none cd_163 0 [some (.inr (.inr (.inl (some (77))))), none, none, none] [] h Q := by
  have gn := im_n I.1
  rw [hn] at gn
  refine av_wp_sqF ck_163 2 (pc' := 2) (lv' := [some (.inr (.inr (.inl (some (77))))), none, none, none]) (st' := [.inl (0), .inr (.inr (.inl (some (77))))]) (h' := h) rfl ?_
  refine wq_pi (p' := 5) (ck_163 _ _ rfl) rfl (congrArg Prod.fst (ly_k I.1.1 77 rfl)) rfl ?_
  refine av_wp_sqF ck_163 2 (pc' := 7) (lv' := [some (.inr (.inr (.inl (some (77))))), none, none, none]) (st' := [.inl (1), .inr (.inr (.inl (some (77))))]) (h' := hwF h 77 28 (0)) rfl ?_
  refine wq_pi (p' := 10) (ck_163 _ _ rfl) rfl (congrArg Prod.fst (ly_k I.1.1 77 rfl)) rfl ?_
  obtain ⟨J0, F0⟩ := AJX_0 I hn
  generalize hwF (hwF h 77 28 (0)) 77 29 (1) = h0 at J0 F0 ⊢
  have hAL : ∀ k, AQL (cmv (hA h 105) (hA h 106) (hA h 98)) (4 * n).toNat k → AQL (cmv (hA h 105) (hA h 106) (hA h 98)) (4 * n).toNat k := fun _ z => z
  have hZ : ∀ k, ZE [107, 108] [28, 29] h k → ZE [107, 108] [28, 29] h k := fun _ z => z
  generalize hA h 105 = lo at hq hAL J0
  generalize hA h 106 = hi at hq hAL J0
  generalize hA h 98 = ls at hq hAL J0
  have F1 := FM_tr F F0
  refine av_wp_sqF ck_163 2 (pc' := 12) (lv' := [some (.inr (.inr (.inl (some (77))))), some (.inl (0)), none, none]) (st' := []) (h' := h0) rfl ?_
  have L8 : ∀ (m7 : Nat) (k1 : Int) (a2 : Option av_V) (a3 : Option av_V) (h4 : av_H), av_lg a2 = false → av_lg a3 = false → k1 ≤ n → (0 ≤ k1 ∧ k1 ≤ 12) → AJX h n lo hi ls (4 * k1).toNat h4 → FM g h4 → (12 - k1).toNat = m7 → av_wp none cd_163 12 [some (.inr (.inr (.inl (some (77))))), some (.inl k1), a2, a3] [] h4 Q := by
    intro m7
    induction m7 using Nat.strongRecOn with
    | _ m7 I9 =>
      intro k1 a2 a3 h4 g11 g12 g13 g14 J5 F6 e10
      have la2 := g11
      have la3 := g12
      refine av_wp_sqF ck_163 2 (pc' := 14) (lv' := [some (.inr (.inr (.inl (some (77))))), some (.inl k1), a2, a3]) (st' := [.inr (.inr (.inl (some (77)))), .inl k1]) (h' := h4) rfl ?_
      refine wq_gi (p' := 17) (ck_163 _ _ rfl) rfl (congrArg Prod.fst (ly_k J5.1.1.1 77 rfl)) rfl (J5.2.1) ?_
      refine wq_k2 (p' := 20) (ck_163 _ _ rfl) rfl ⟨by omega, by omega⟩ ⟨by omega, by omega⟩ (fun c15 => ?_) (fun c16 => ?_)
      · have c15 : n ≤ k1 := c15
        refine av_wp_ret (v := none) (ck_163 _ _ rfl) rfl rfl ?_
        have J17 := AJX_eq (t' := (4 * n).toNat) J5 (by omega)
        exact hq _ _ h4 ⟨J17.2.2.2.1, J17.2.2.2.2.1⟩ (hAL _ J17.2.2.2.2.2.2.2.2.1) (hZ _ J17.2.2.2.2.2.2.2.2.2) ⟨J17.1, J17.2.1, rfl, rfl⟩ F6
      · have c16 : k1 < n := c16
        refine av_wp_sqF ck_163 2 (pc' := 22) (lv' := [some (.inr (.inr (.inl (some (77))))), some (.inl k1), some (.inl (0)), a3]) (st' := []) (h' := h4) rfl ?_
        have L24 : ∀ (m23 : Nat) (k18 : Int) (a19 : Option av_V) (h20 : av_H), av_lg a19 = false → (0 ≤ k18 ∧ k18 ≤ 4) → AJX h n lo hi ls (4 * k1 + k18).toNat h20 → FM g h20 → (4 - k18).toNat = m23 → av_wp none cd_163 22 [some (.inr (.inr (.inl (some (77))))), some (.inl k1), some (.inl k18), a19] [] h20 Q := by
          intro m23
          induction m23 using Nat.strongRecOn with
          | _ m23 I25 =>
            intro k18 a19 h20 g27 g28 J21 F22 e26
            have la19 := g27
            refine av_wp_sqF ck_163 2 (pc' := 24) (lv' := [some (.inr (.inr (.inl (some (77))))), some (.inl k1), some (.inl k18), a19]) (st' := [.inl (4), .inl k18]) (h' := h20) rfl ?_
            refine wq_k2 (p' := 27) (ck_163 _ _ rfl) rfl ⟨by omega, by omega⟩ ⟨by omega, by omega⟩ (fun c29 => ?_) (fun c30 => ?_)
            · have c29 : (4) ≤ k18 := c29
              refine av_wp_sqF ck_163 2 (pc' := 12) (lv' := [some (.inr (.inr (.inl (some (77))))), some (.inl (k1 + (1))), some (.inl k18), a19]) (st' := []) (h' := h20) rfl ?_
              exact I9 _ (by omega) ((k1 + (1))) (some (.inl k18)) (a19) h20 rfl la19 (by omega) (by omega) (AJX_eq J21 (by omega)) F22 rfl
            · have c30 : k18 < (4) := c30
              refine av_wp_sqF ck_163 2 (pc' := 29) (lv' := [some (.inr (.inr (.inl (some (77))))), some (.inl k1), some (.inl k18), a19]) (st' := [.inl (3), .inl k18]) (h' := h20) rfl ?_
              refine wq_k2 (p' := 32) (ck_163 _ _ rfl) rfl ⟨by omega, by omega⟩ ⟨by omega, by omega⟩ (fun c31 => ?_) (fun c32 => ?_)
              · have c31 : (3) ≤ k18 := c31
                refine av_wp_sqF ck_163 1 (pc' := 59) (lv' := [some (.inr (.inr (.inl (some (77))))), some (.inl k1), some (.inl k18), a19]) (st' := [.inr (.inr (.inl (some (77))))]) (h' := h20) rfl ?_
                refine wq_gr (p' := 62) (ck_163 _ _ rfl) rfl (congrArg Prod.fst (ly_k J21.1.1.1 77 rfl)) rfl (ly_g J21.1.1.1 77 32 98 rfl) ?_
                refine av_wp_sqF ck_163 1 (pc' := 63) (lv' := [some (.inr (.inr (.inl (some (77))))), some (.inl k1), some (.inl k18), a19]) (st' := [.inl k1, .inr (.inr (.inl (some (98))))]) (h' := h20) rfl ?_
                obtain ⟨v33, e34⟩ : ∃ v, hA h20 98 (Int.toNat (k1)) = v := ⟨_, rfl⟩
                have g35 : 0 ≤ hA h20 98 (Int.toNat (k1)) ∧ hA h20 98 (Int.toNat (k1)) ≤ 2 := im_w J21.1.1 98 (by decide) (by decide) _
                rw [e34] at g35
                refine wq_al (p' := 64) (n := 12) (ck_163 _ _ rfl) rfl (ly_k J21.1.1.1 98 rfl) (by omega) (e34) ?_
                refine av_wp_sqF ck_163 1 (pc' := 65) (lv' := [some (.inr (.inr (.inl (some (77))))), some (.inl k1), some (.inl k18), a19]) (st' := [.inl (1), .inl v33]) (h' := h20) rfl ?_
                refine wq_k2 (p' := 68) (ck_163 _ _ rfl) rfl ⟨by omega, by omega⟩ ⟨by omega, by omega⟩ (fun c36 => ?_) (fun c37 => ?_)
                · have c36 : v33 ≠ (1) := c36
                  refine av_wp_sqF ck_163 2 (pc' := 74) (lv' := [some (.inr (.inr (.inl (some (77))))), some (.inl k1), some (.inl k18), some (.inl (1))]) (st' := []) (h' := h20) rfl ?_
                  have u38 : cmv lo hi ls (4 * k1 + k18).toNat = (1) := cmv_c (by omega) (by omega) ((congrFun J21.2.2.2.2.2.2.2.1.symm _).trans e34) (by omega)
                  refine av_wp_sqF ck_163 3 (pc' := 79) (lv' := [some (.inr (.inr (.inl (some (77))))), some (.inl k1), some (.inl k18), some (.inl (1))]) (st' := []) (h' := h20) rfl ?_
                  have J39 := AJX_skip J21 u38 (by omega)
                  refine av_wp_sqF ck_163 3 (pc' := 22) (lv' := [some (.inr (.inr (.inl (some (77))))), some (.inl k1), some (.inl (k18 + (1))), some (.inl (1))]) (st' := []) (h' := h20) rfl ?_
                  exact I25 _ (by omega) ((k18 + (1))) (some (.inl (1))) h20 rfl (by omega) (AJX_eq J39 (by omega)) F22 rfl
                · have c37 : v33 = (1) := c37
                  refine av_wp_sqF ck_163 3 (pc' := 74) (lv' := [some (.inr (.inr (.inl (some (77))))), some (.inl k1), some (.inl k18), some (.inl (2))]) (st' := []) (h' := h20) rfl ?_
                  have u40 : cmv lo hi ls (4 * k1 + k18).toNat = (2) := cmv_b (by omega) (by omega) ((congrFun J21.2.2.2.2.2.2.2.1.symm _).trans e34) (by omega)
                  refine av_wp_sqF ck_163 3 (pc' := 82) (lv' := [some (.inr (.inr (.inl (some (77))))), some (.inl k1), some (.inl k18), some (.inl (2))]) (st' := []) (h' := h20) rfl ?_
                  have g41 := im_a J21.1.1
                  have g42 := im_cm J21.1.1
                  have g43 := J21.2.2.1
                  have g44 : 0 ≤ (hF h20 77 29) * (2) := Int.mul_nonneg (by omega) (by omega)
                  have g45 : (hF h20 77 29) * (2) ≤ 1025 * 2000 := Int.mul_le_mul (by omega) (by omega) (by omega) (by omega)
                  refine av_wp_sqF ck_163 1 (pc' := 83) (lv' := [some (.inr (.inr (.inl (some (77))))), some (.inl k1), some (.inl k18), some (.inl (2))]) (st' := [.inr (.inr (.inl (some (77))))]) (h' := h20) rfl ?_
                  refine wq_gr (p' := 86) (ck_163 _ _ rfl) rfl (congrArg Prod.fst (ly_k J21.1.1.1 77 rfl)) rfl (ly_g J21.1.1.1 77 41 107 rfl) ?_
                  refine av_wp_sqF ck_163 1 (pc' := 87) (lv' := [some (.inr (.inr (.inl (some (77))))), some (.inl k1), some (.inl k18), some (.inl (2))]) (st' := [.inr (.inr (.inl (some (77)))), .inr (.inr (.inl (some (107))))]) (h' := h20) rfl ?_
                  refine wq_gi (p' := 90) (ck_163 _ _ rfl) rfl (congrArg Prod.fst (ly_k J21.1.1.1 77 rfl)) rfl rfl ?_
                  refine av_wp_sqF ck_163 5 (pc' := 95) (lv' := [some (.inr (.inr (.inl (some (77))))), some (.inl k1), some (.inl k18), some (.inl (2))]) (st' := [.inl (((4) * k1) + k18), .inl (hF h20 77 28), .inr (.inr (.inl (some (107))))]) (h' := h20) rfl ?_
                  refine wq_as (p' := 96) (n := 48) (ck_163 _ _ rfl) rfl (ly_k J21.1.1.1 107 rfl) (by omega) ?_
                  refine av_wp_sqF ck_163 1 (pc' := 97) (lv' := [some (.inr (.inr (.inl (some (77))))), some (.inl k1), some (.inl k18), some (.inl (2))]) (st' := [.inr (.inr (.inl (some (77))))]) (h' := (hwA h20 107 (hF h20 77 28).toNat (((4) * k1) + k18))) rfl ?_
                  refine wq_gr (p' := 100) (ck_163 _ _ rfl) rfl (congrArg Prod.fst (ly_k J21.1.1.1 77 rfl)) rfl (ly_g J21.1.1.1 77 42 108 rfl) ?_
                  refine av_wp_sqF ck_163 1 (pc' := 101) (lv' := [some (.inr (.inr (.inl (some (77))))), some (.inl k1), some (.inl k18), some (.inl (2))]) (st' := [.inr (.inr (.inl (some (77)))), .inr (.inr (.inl (some (108))))]) (h' := (hwA h20 107 (hF h20 77 28).toNat (((4) * k1) + k18))) rfl ?_
                  refine wq_gi (v := (hF h20 77 28)) (p' := 104) rfl rfl (congrArg Prod.fst (ly_k J21.1.1.1 77 rfl)) rfl rfl ?_
                  refine av_wp_sqF ck_163 1 (pc' := 105) (lv' := [some (.inr (.inr (.inl (some (77))))), some (.inl k1), some (.inl k18), some (.inl (2))]) (st' := [.inl (2), .inl (hF h20 77 28), .inr (.inr (.inl (some (108))))]) (h' := (hwA h20 107 (hF h20 77 28).toNat (((4) * k1) + k18))) rfl ?_
                  refine wq_as (p' := 106) (n := 48) (ck_163 _ _ rfl) rfl (ly_k J21.1.1.1 108 rfl) (by omega) ?_
                  refine av_wp_sqF ck_163 2 (pc' := 108) (lv' := [some (.inr (.inr (.inl (some (77))))), some (.inl k1), some (.inl k18), some (.inl (2))]) (st' := [.inr (.inr (.inl (some (77)))), .inr (.inr (.inl (some (77))))]) (h' := (hwA (hwA h20 107 (hF h20 77 28).toNat (((4) * k1) + k18)) 108 (hF h20 77 28).toNat (2))) rfl ?_
                  refine wq_gi (v := (hF h20 77 28)) (p' := 111) rfl rfl (congrArg Prod.fst (ly_k J21.1.1.1 77 rfl)) rfl rfl ?_
                  refine av_wp_sqF ck_163 2 (pc' := 113) (lv' := [some (.inr (.inr (.inl (some (77))))), some (.inl k1), some (.inl k18), some (.inl (2))]) (st' := [.inl ((hF h20 77 28) + (1)), .inr (.inr (.inl (some (77))))]) (h' := (hwA (hwA h20 107 (hF h20 77 28).toNat (((4) * k1) + k18)) 108 (hF h20 77 28).toNat (2))) rfl ?_
                  refine wq_pi (p' := 116) (ck_163 _ _ rfl) rfl (congrArg Prod.fst (ly_k J21.1.1.1 77 rfl)) rfl ?_
                  refine av_wp_sqF ck_163 2 (pc' := 118) (lv' := [some (.inr (.inr (.inl (some (77))))), some (.inl k1), some (.inl k18), some (.inl (2))]) (st' := [.inr (.inr (.inl (some (77)))), .inr (.inr (.inl (some (77))))]) (h' := (hwF (hwA (hwA h20 107 (hF h20 77 28).toNat (((4) * k1) + k18)) 108 (hF h20 77 28).toNat (2)) 77 28 ((hF h20 77 28) + (1)))) rfl ?_
                  refine wq_gi (v := (hF h20 77 29)) (p' := 121) rfl rfl (congrArg Prod.fst (ly_k J21.1.1.1 77 rfl)) rfl (hF_oth (by decide)) ?_
                  refine av_wp_sqF ck_163 3 (pc' := 126) (lv' := [some (.inr (.inr (.inl (some (77))))), some (.inl k1), some (.inl k18), some (.inl (2))]) (st' := [.inl (1024), .inl ((hF h20 77 29) * (2)), .inr (.inr (.inl (some (77))))]) (h' := (hwF (hwA (hwA h20 107 (hF h20 77 28).toNat (((4) * k1) + k18)) 108 (hF h20 77 28).toNat (2)) 77 28 ((hF h20 77 28) + (1)))) rfl ?_
                  have J46 : ∀ m' : Int, ((1024 < (hF h20 77 29) * (2) ∧ m' = 1025) ∨ ((hF h20 77 29) * (2) ≤ 1024 ∧ m' = (hF h20 77 29) * (2))) → av_wp none cd_163 141 [some (.inr (.inr (.inl (some (77))))), some (.inl k1), some (.inl k18), some (.inl (2))] [.inl m', .inr (.inr (.inl (some (77))))] (hwF (hwA (hwA h20 107 (hF h20 77 28).toNat (((4) * k1) + k18)) 108 (hF h20 77 28).toNat (2)) 77 28 ((hF h20 77 28) + (1))) Q := by
                    intro m47 g48
                    refine wq_pi (p' := 144) (ck_163 _ _ rfl) rfl (congrArg Prod.fst (ly_k J21.1.1.1 77 rfl)) rfl ?_
                    obtain ⟨J49, F50⟩ := AJX_step (x := (((4) * k1) + k18)) (v := (2)) (m' := m47) J21 u40 (by omega) (by omega) (by omega) g48
                    generalize hwF (hwF (hwA (hwA h20 107 (hF h20 77 28).toNat (((4) * k1) + k18)) 108 (hF h20 77 28).toNat (2)) 77 28 ((hF h20 77 28) + (1))) 77 29 m47 = h52 at J49 F50 ⊢
                    have F51 := FM_tr F22 F50
                    refine av_wp_sqF ck_163 2 (pc' := 22) (lv' := [some (.inr (.inr (.inl (some (77))))), some (.inl k1), some (.inl (k18 + (1))), some (.inl (2))]) (st' := []) (h' := h52) rfl ?_
                    exact I25 _ (by omega) ((k18 + (1))) (some (.inl (2))) h52 rfl (by omega) (AJX_eq J49 (by omega)) F51 rfl
                  refine wq_k2 (p' := 129) (ck_163 _ _ rfl) rfl ⟨by omega, by omega⟩ ⟨by omega, by omega⟩ (fun z1 => ?_) (fun z1 => ?_)
                  · have z1 : (hF h20 77 29) * (2) ≤ (1024) := z1
                    refine av_wp_sqF ck_163 1 (pc' := 136) (lv' := [some (.inr (.inr (.inl (some (77))))), some (.inl k1), some (.inl k18), some (.inl (2))]) (st' := [.inr (.inr (.inl (some (77)))), .inr (.inr (.inl (some (77))))]) (h' := (hwF (hwA (hwA h20 107 (hF h20 77 28).toNat (((4) * k1) + k18)) 108 (hF h20 77 28).toNat (2)) 77 28 ((hF h20 77 28) + (1)))) rfl ?_
                    refine wq_gi (v := (hF h20 77 29)) (p' := 139) rfl rfl (congrArg Prod.fst (ly_k J21.1.1.1 77 rfl)) rfl (hF_oth (by decide)) ?_
                    refine av_wp_sqF ck_163 2 (pc' := 141) (lv' := [some (.inr (.inr (.inl (some (77))))), some (.inl k1), some (.inl k18), some (.inl (2))]) (st' := [.inl ((hF h20 77 29) * (2)), .inr (.inr (.inl (some (77))))]) (h' := (hwF (hwA (hwA h20 107 (hF h20 77 28).toNat (((4) * k1) + k18)) 108 (hF h20 77 28).toNat (2)) 77 28 ((hF h20 77 28) + (1)))) rfl ?_
                    exact J46 _ (Or.inr ⟨z1, rfl⟩)
                  · have z1 : (1024) < (hF h20 77 29) * (2) := z1
                    refine av_wp_sqF ck_163 2 (pc' := 141) (lv' := [some (.inr (.inr (.inl (some (77))))), some (.inl k1), some (.inl k18), some (.inl (2))]) (st' := [.inl (1025), .inr (.inr (.inl (some (77))))]) (h' := (hwF (hwA (hwA h20 107 (hF h20 77 28).toNat (((4) * k1) + k18)) 108 (hF h20 77 28).toNat (2)) 77 28 ((hF h20 77 28) + (1)))) rfl ?_
                    exact J46 _ (Or.inl ⟨z1, rfl⟩)
              · have c32 : k18 < (3) := c32
                refine av_wp_sqF ck_163 1 (pc' := 33) (lv' := [some (.inr (.inr (.inl (some (77))))), some (.inl k1), some (.inl k18), a19]) (st' := [.inr (.inr (.inl (some (77))))]) (h' := h20) rfl ?_
                refine wq_gr (p' := 36) (ck_163 _ _ rfl) rfl (congrArg Prod.fst (ly_k J21.1.1.1 77 rfl)) rfl (ly_g J21.1.1.1 77 40 106 rfl) ?_
                refine av_wp_sqF ck_163 5 (pc' := 41) (lv' := [some (.inr (.inr (.inl (some (77))))), some (.inl k1), some (.inl k18), a19]) (st' := [.inl (((3) * k1) + k18), .inr (.inr (.inl (some (106))))]) (h' := h20) rfl ?_
                obtain ⟨v53, e54⟩ : ∃ v, hA h20 106 (Int.toNat ((((3) * k1) + k18))) = v := ⟨_, rfl⟩
                have g55 : 0 ≤ hA h20 106 (Int.toNat ((((3) * k1) + k18))) ∧ hA h20 106 (Int.toNat ((((3) * k1) + k18))) ≤ 1999 := im_w J21.1.1 106 (by decide) (by decide) _
                rw [e54] at g55
                refine wq_al (p' := 42) (n := 36) (ck_163 _ _ rfl) rfl (ly_k J21.1.1.1 106 rfl) (by omega) (e54) ?_
                refine av_wp_sqF ck_163 1 (pc' := 43) (lv' := [some (.inr (.inr (.inl (some (77))))), some (.inl k1), some (.inl k18), a19]) (st' := [.inr (.inr (.inl (some (77)))), .inl v53]) (h' := h20) rfl ?_
                refine wq_gr (p' := 46) (ck_163 _ _ rfl) rfl (congrArg Prod.fst (ly_k J21.1.1.1 77 rfl)) rfl (ly_g J21.1.1.1 77 39 105 rfl) ?_
                refine av_wp_sqF ck_163 5 (pc' := 51) (lv' := [some (.inr (.inr (.inl (some (77))))), some (.inl k1), some (.inl k18), a19]) (st' := [.inl (((3) * k1) + k18), .inr (.inr (.inl (some (105)))), .inl v53]) (h' := h20) rfl ?_
                obtain ⟨v56, e57⟩ : ∃ v, hA h20 105 (Int.toNat ((((3) * k1) + k18))) = v := ⟨_, rfl⟩
                have g58 : 0 ≤ hA h20 105 (Int.toNat ((((3) * k1) + k18))) ∧ hA h20 105 (Int.toNat ((((3) * k1) + k18))) ≤ 1999 := im_w J21.1.1 105 (by decide) (by decide) _
                rw [e57] at g58
                refine wq_al (p' := 52) (n := 36) (ck_163 _ _ rfl) rfl (ly_k J21.1.1.1 105 rfl) (by omega) (e57) ?_
                refine av_wp_sqF ck_163 5 (pc' := 74) (lv' := [some (.inr (.inr (.inl (some (77))))), some (.inl k1), some (.inl k18), some (.inl ((v53 - v56) + (1)))]) (st' := []) (h' := h20) rfl ?_
                have u59 : cmv lo hi ls (4 * k1 + k18).toNat = ((v53 - v56) + (1)) := cmv_a (by omega) (by omega) ((congrFun J21.2.2.2.2.2.2.1.symm _).trans e54) ((congrFun J21.2.2.2.2.2.1.symm _).trans e57)
                refine av_wp_sqF ck_163 2 (pc' := 76) (lv' := [some (.inr (.inr (.inl (some (77))))), some (.inl k1), some (.inl k18), some (.inl ((v53 - v56) + (1)))]) (st' := [.inl (2), .inl ((v53 - v56) + (1))]) (h' := h20) rfl ?_
                refine wq_k2 (p' := 79) (ck_163 _ _ rfl) rfl ⟨by omega, by omega⟩ ⟨by omega, by omega⟩ (fun c60 => ?_) (fun c61 => ?_)
                · have c60 : (2) ≤ ((v53 - v56) + (1)) := c60
                  have g62 := im_a J21.1.1
                  have g63 := im_cm J21.1.1
                  have g64 := J21.2.2.1
                  have g65 : 0 ≤ (hF h20 77 29) * ((v53 - v56) + (1)) := Int.mul_nonneg (by omega) (by omega)
                  have g66 : (hF h20 77 29) * ((v53 - v56) + (1)) ≤ 1025 * 2000 := Int.mul_le_mul (by omega) (by omega) (by omega) (by omega)
                  refine av_wp_sqF ck_163 1 (pc' := 83) (lv' := [some (.inr (.inr (.inl (some (77))))), some (.inl k1), some (.inl k18), some (.inl ((v53 - v56) + (1)))]) (st' := [.inr (.inr (.inl (some (77))))]) (h' := h20) rfl ?_
                  refine wq_gr (p' := 86) (ck_163 _ _ rfl) rfl (congrArg Prod.fst (ly_k J21.1.1.1 77 rfl)) rfl (ly_g J21.1.1.1 77 41 107 rfl) ?_
                  refine av_wp_sqF ck_163 1 (pc' := 87) (lv' := [some (.inr (.inr (.inl (some (77))))), some (.inl k1), some (.inl k18), some (.inl ((v53 - v56) + (1)))]) (st' := [.inr (.inr (.inl (some (77)))), .inr (.inr (.inl (some (107))))]) (h' := h20) rfl ?_
                  refine wq_gi (p' := 90) (ck_163 _ _ rfl) rfl (congrArg Prod.fst (ly_k J21.1.1.1 77 rfl)) rfl rfl ?_
                  refine av_wp_sqF ck_163 5 (pc' := 95) (lv' := [some (.inr (.inr (.inl (some (77))))), some (.inl k1), some (.inl k18), some (.inl ((v53 - v56) + (1)))]) (st' := [.inl (((4) * k1) + k18), .inl (hF h20 77 28), .inr (.inr (.inl (some (107))))]) (h' := h20) rfl ?_
                  refine wq_as (p' := 96) (n := 48) (ck_163 _ _ rfl) rfl (ly_k J21.1.1.1 107 rfl) (by omega) ?_
                  refine av_wp_sqF ck_163 1 (pc' := 97) (lv' := [some (.inr (.inr (.inl (some (77))))), some (.inl k1), some (.inl k18), some (.inl ((v53 - v56) + (1)))]) (st' := [.inr (.inr (.inl (some (77))))]) (h' := (hwA h20 107 (hF h20 77 28).toNat (((4) * k1) + k18))) rfl ?_
                  refine wq_gr (p' := 100) (ck_163 _ _ rfl) rfl (congrArg Prod.fst (ly_k J21.1.1.1 77 rfl)) rfl (ly_g J21.1.1.1 77 42 108 rfl) ?_
                  refine av_wp_sqF ck_163 1 (pc' := 101) (lv' := [some (.inr (.inr (.inl (some (77))))), some (.inl k1), some (.inl k18), some (.inl ((v53 - v56) + (1)))]) (st' := [.inr (.inr (.inl (some (77)))), .inr (.inr (.inl (some (108))))]) (h' := (hwA h20 107 (hF h20 77 28).toNat (((4) * k1) + k18))) rfl ?_
                  refine wq_gi (v := (hF h20 77 28)) (p' := 104) rfl rfl (congrArg Prod.fst (ly_k J21.1.1.1 77 rfl)) rfl rfl ?_
                  refine av_wp_sqF ck_163 1 (pc' := 105) (lv' := [some (.inr (.inr (.inl (some (77))))), some (.inl k1), some (.inl k18), some (.inl ((v53 - v56) + (1)))]) (st' := [.inl ((v53 - v56) + (1)), .inl (hF h20 77 28), .inr (.inr (.inl (some (108))))]) (h' := (hwA h20 107 (hF h20 77 28).toNat (((4) * k1) + k18))) rfl ?_
                  refine wq_as (p' := 106) (n := 48) (ck_163 _ _ rfl) rfl (ly_k J21.1.1.1 108 rfl) (by omega) ?_
                  refine av_wp_sqF ck_163 2 (pc' := 108) (lv' := [some (.inr (.inr (.inl (some (77))))), some (.inl k1), some (.inl k18), some (.inl ((v53 - v56) + (1)))]) (st' := [.inr (.inr (.inl (some (77)))), .inr (.inr (.inl (some (77))))]) (h' := (hwA (hwA h20 107 (hF h20 77 28).toNat (((4) * k1) + k18)) 108 (hF h20 77 28).toNat ((v53 - v56) + (1)))) rfl ?_
                  refine wq_gi (v := (hF h20 77 28)) (p' := 111) rfl rfl (congrArg Prod.fst (ly_k J21.1.1.1 77 rfl)) rfl rfl ?_
                  refine av_wp_sqF ck_163 2 (pc' := 113) (lv' := [some (.inr (.inr (.inl (some (77))))), some (.inl k1), some (.inl k18), some (.inl ((v53 - v56) + (1)))]) (st' := [.inl ((hF h20 77 28) + (1)), .inr (.inr (.inl (some (77))))]) (h' := (hwA (hwA h20 107 (hF h20 77 28).toNat (((4) * k1) + k18)) 108 (hF h20 77 28).toNat ((v53 - v56) + (1)))) rfl ?_
                  refine wq_pi (p' := 116) (ck_163 _ _ rfl) rfl (congrArg Prod.fst (ly_k J21.1.1.1 77 rfl)) rfl ?_
                  refine av_wp_sqF ck_163 2 (pc' := 118) (lv' := [some (.inr (.inr (.inl (some (77))))), some (.inl k1), some (.inl k18), some (.inl ((v53 - v56) + (1)))]) (st' := [.inr (.inr (.inl (some (77)))), .inr (.inr (.inl (some (77))))]) (h' := (hwF (hwA (hwA h20 107 (hF h20 77 28).toNat (((4) * k1) + k18)) 108 (hF h20 77 28).toNat ((v53 - v56) + (1))) 77 28 ((hF h20 77 28) + (1)))) rfl ?_
                  refine wq_gi (v := (hF h20 77 29)) (p' := 121) rfl rfl (congrArg Prod.fst (ly_k J21.1.1.1 77 rfl)) rfl (hF_oth (by decide)) ?_
                  refine av_wp_sqF ck_163 3 (pc' := 126) (lv' := [some (.inr (.inr (.inl (some (77))))), some (.inl k1), some (.inl k18), some (.inl ((v53 - v56) + (1)))]) (st' := [.inl (1024), .inl ((hF h20 77 29) * ((v53 - v56) + (1))), .inr (.inr (.inl (some (77))))]) (h' := (hwF (hwA (hwA h20 107 (hF h20 77 28).toNat (((4) * k1) + k18)) 108 (hF h20 77 28).toNat ((v53 - v56) + (1))) 77 28 ((hF h20 77 28) + (1)))) rfl ?_
                  have J67 : ∀ m' : Int, ((1024 < (hF h20 77 29) * ((v53 - v56) + (1)) ∧ m' = 1025) ∨ ((hF h20 77 29) * ((v53 - v56) + (1)) ≤ 1024 ∧ m' = (hF h20 77 29) * ((v53 - v56) + (1)))) → av_wp none cd_163 141 [some (.inr (.inr (.inl (some (77))))), some (.inl k1), some (.inl k18), some (.inl ((v53 - v56) + (1)))] [.inl m', .inr (.inr (.inl (some (77))))] (hwF (hwA (hwA h20 107 (hF h20 77 28).toNat (((4) * k1) + k18)) 108 (hF h20 77 28).toNat ((v53 - v56) + (1))) 77 28 ((hF h20 77 28) + (1))) Q := by
                    intro m68 g69
                    refine wq_pi (p' := 144) (ck_163 _ _ rfl) rfl (congrArg Prod.fst (ly_k J21.1.1.1 77 rfl)) rfl ?_
                    obtain ⟨J70, F71⟩ := AJX_step (x := (((4) * k1) + k18)) (v := ((v53 - v56) + (1))) (m' := m68) J21 u59 (by omega) (by omega) (by omega) g69
                    generalize hwF (hwF (hwA (hwA h20 107 (hF h20 77 28).toNat (((4) * k1) + k18)) 108 (hF h20 77 28).toNat ((v53 - v56) + (1))) 77 28 ((hF h20 77 28) + (1))) 77 29 m68 = h73 at J70 F71 ⊢
                    have F72 := FM_tr F22 F71
                    refine av_wp_sqF ck_163 2 (pc' := 22) (lv' := [some (.inr (.inr (.inl (some (77))))), some (.inl k1), some (.inl (k18 + (1))), some (.inl ((v53 - v56) + (1)))]) (st' := []) (h' := h73) rfl ?_
                    exact I25 _ (by omega) ((k18 + (1))) (some (.inl ((v53 - v56) + (1)))) h73 rfl (by omega) (AJX_eq J70 (by omega)) F72 rfl
                  refine wq_k2 (p' := 129) (ck_163 _ _ rfl) rfl ⟨by omega, by omega⟩ ⟨by omega, by omega⟩ (fun z1 => ?_) (fun z1 => ?_)
                  · have z1 : (hF h20 77 29) * ((v53 - v56) + (1)) ≤ (1024) := z1
                    refine av_wp_sqF ck_163 1 (pc' := 136) (lv' := [some (.inr (.inr (.inl (some (77))))), some (.inl k1), some (.inl k18), some (.inl ((v53 - v56) + (1)))]) (st' := [.inr (.inr (.inl (some (77)))), .inr (.inr (.inl (some (77))))]) (h' := (hwF (hwA (hwA h20 107 (hF h20 77 28).toNat (((4) * k1) + k18)) 108 (hF h20 77 28).toNat ((v53 - v56) + (1))) 77 28 ((hF h20 77 28) + (1)))) rfl ?_
                    refine wq_gi (v := (hF h20 77 29)) (p' := 139) rfl rfl (congrArg Prod.fst (ly_k J21.1.1.1 77 rfl)) rfl (hF_oth (by decide)) ?_
                    refine av_wp_sqF ck_163 2 (pc' := 141) (lv' := [some (.inr (.inr (.inl (some (77))))), some (.inl k1), some (.inl k18), some (.inl ((v53 - v56) + (1)))]) (st' := [.inl ((hF h20 77 29) * ((v53 - v56) + (1))), .inr (.inr (.inl (some (77))))]) (h' := (hwF (hwA (hwA h20 107 (hF h20 77 28).toNat (((4) * k1) + k18)) 108 (hF h20 77 28).toNat ((v53 - v56) + (1))) 77 28 ((hF h20 77 28) + (1)))) rfl ?_
                    exact J67 _ (Or.inr ⟨z1, rfl⟩)
                  · have z1 : (1024) < (hF h20 77 29) * ((v53 - v56) + (1)) := z1
                    refine av_wp_sqF ck_163 2 (pc' := 141) (lv' := [some (.inr (.inr (.inl (some (77))))), some (.inl k1), some (.inl k18), some (.inl ((v53 - v56) + (1)))]) (st' := [.inl (1025), .inr (.inr (.inl (some (77))))]) (h' := (hwF (hwA (hwA h20 107 (hF h20 77 28).toNat (((4) * k1) + k18)) 108 (hF h20 77 28).toNat ((v53 - v56) + (1))) 77 28 ((hF h20 77 28) + (1)))) rfl ?_
                    exact J67 _ (Or.inl ⟨z1, rfl⟩)
                · have c61 : ((v53 - v56) + (1)) < (2) := c61
                  have J74 := AJX_skip J21 u59 (by omega)
                  refine av_wp_sqF ck_163 3 (pc' := 22) (lv' := [some (.inr (.inr (.inl (some (77))))), some (.inl k1), some (.inl (k18 + (1))), some (.inl ((v53 - v56) + (1)))]) (st' := []) (h' := h20) rfl ?_
                  exact I25 _ (by omega) ((k18 + (1))) (some (.inl ((v53 - v56) + (1)))) h20 rfl (by omega) (AJX_eq J74 (by omega)) F22 rfl
        exact L24 _ ((0)) (a3) h4 la3 (by omega) (AJX_eq J5 (by omega)) F6 rfl
  exact L8 _ ((0)) (none) (none) h0 rfl rfl (by omega) (by omega) (AJX_eq J0 (by omega)) F1 rfl
end
section
/-! A BENCH TAKES A CASE -/
theorem cel_i2 {u : Nat → Int} {s : Nat} {k w : Int} (h : (0 ≤ k ∧ k < (s : Int)) ∧ 0 ≤ w ∧ w < 21) : cel u s k w = u (21 * k.toNat + w.toNat) := by
  unfold cel
  rw [if_pos h]
  congr 1
  omega
theorem xc_29 {h : av_H} {t c s : Nat} {cb : Int} (o : CO h t c s cb) (k : Int) (qk : 0 ≤ k ∧ k < (s : Int)) (w : Nat) (hw : w < 21) {wi v : Int} (ew : wi = (w : Int)) (e : hA h c (21 * Int.toNat k + w) = v) {Q : Option av_V → av_H → Prop} (hq : Q (some (.inl v)) h) : av_wp none cd_29 0 [some (.inr (.inr (.inl (some (t))))), some (.inl k), some (.inl wi)] [] h Q := by
  subst ew
  subst e
  have s12 := co_s12 o
  refine cx_29 o k (by omega) _ (by omega) ?_
  rw [cel_i2 ⟨qk, by omega⟩, show Int.toNat (w : Int) = w by omega]
  exact hq
def smv (u ro : Nat → Int) (k : Nat) : Int := if u (21 * k + 0) = 3 ∧ ro 9 = 1 ∧ u (21 * k + 10) = -1 ∧ u (21 * k + 11) = -1 ∧ u (21 * k + 12) = -1 then 1 else 0
def ofv (u ro : Nat → Int) (k : Nat) : Int := if u (21 * k + 0) = 0 ∨ (u (21 * k + 0) = 3 ∧ smv u ro k = 0) then 1 else 0
def ysv (u ro : Nat → Int) (k : Nat) : Int := if u (21 * k + 0) = 2 ∨ smv u ro k = 1 ∨ (u (21 * k + 0) = 6 ∧ ro 11 = 1) then 1 else 0
def ivv (u sr : Nat → Int) (y : Int) (k : Nat) : Int := if 0 ≤ u (21 * k + 6) ∧ u (21 * k + 6) < 16 ∧ av_w (sr (Int.toNat (y + u (21 * k + 6)))) ≠ 2 then 1 else 0
theorem smv_b (u ro : Nat → Int) (k : Nat) : 0 ≤ smv u ro k ∧ smv u ro k ≤ 1 := by
  unfold smv
  split <;> omega
def TKI (u ro sr : Nat → Int) (y : Int) (k : Nat) (a : Nat → Nat → Int) : Prop := (∀ q, q < 12 → a 1 q = -1) ∧ ∀ q, q < k → a 2 q = ofv u ro q ∧ a 3 q = ysv u ro q ∧ a 4 q = ivv u sr y q
theorem TKI_0 {u ro sr : Nat → Int} {y : Int} {a : Nat → Nat → Int} (h : ∀ q, q < 12 → a 1 q = -1) : TKI u ro sr y 0 a := ⟨h, fun q hq => absurd hq (by omega)⟩
theorem TKI_s {u ro sr : Nat → Int} {y : Int} {a : Nat → Nat → Int} {k i1 i2 i3 : Nat} {v1 v2 v3 : Int} (x : TKI u ro sr y k a) (h1 : i1 = k) (h2 : i2 = k) (h3 : i3 = k) (w1 : v1 = ofv u ro k) (w2 : v2 = ysv u ro k) (w3 : v3 = ivv u sr y k) : TKI u ro sr y (k + 1) (av_u2 (av_u2 (av_u2 a 2 i1 v1) 3 i2 v2) 4 i3 v3) := by
  subst h1
  subst h2
  subst h3
  refine ⟨fun q hq => ?_, fun q hq => ?_⟩
  · rw [av_u2_ne (by decide), av_u2_ne (by decide), av_u2_ne (by decide)]
    exact x.1 q hq
  · by_cases c : q = i3
    · subst c
      refine ⟨?_, ?_, ?_⟩
      · rw [av_u2_ne (by decide), av_u2_ne (by decide), av_u2_self, w1]
      · rw [av_u2_ne (by decide), av_u2_self, w2]
      · rw [av_u2_self, w3]
    · have y1 := x.2 q (by omega)
      refine ⟨?_, ?_, ?_⟩
      · rw [av_u2_ne (by decide), av_u2_ne (by decide), av_u2_oth c]; exact y1.1
      · rw [av_u2_ne (by decide), av_u2_oth c, av_u2_ne (by decide)]; exact y1.2.1
      · rw [av_u2_oth c, av_u2_ne (by decide), av_u2_ne (by decide)]; exact y1.2.2
/-- what else may change when a bench takes a case -/
def FY (b : Nat) (g h : av_H) : Prop := FX b g h ∧ (∀ q, (∀ j, j < 11 → q ≠ b + 1 + j) → hA h q = hA g q) ∧ ∀ o f, o ≠ b → hF h o f = hF g o f
theorem FY_n {b : Nat} {g h k : av_H} (a : FY b g h) (c : FN b h k) : FY b g k := ⟨FX_1 a.1 c.1, fun q e => (c.2.1 q e).trans (a.2.1 q e), fun o f e => (c.2.2 o f e).trans (a.2.2 o f e)⟩
theorem hfil_ne {h : av_H} {a lo hi q : Nat} {v : Int} (e : q ≠ a) : hA (hfil h a lo hi v) q = hA h q := by
  funext j
  exact if_neg (fun z => e z.1)
theorem hfil_in {h : av_H} {a hi j : Nat} {v : Int} (e : j < hi) : hA (hfil h a 0 hi v) a j = v := if_pos ⟨rfl, Nat.zero_le _, e⟩
theorem IB_set {h : av_H} {b t c s r : Nat} {cb : Int} (I : IC h) (hb : bn b) (co : CO h t c s cb) (kr : hK h r = (20, 14)) (k2 : rwc r = true) : IB b t c s r cb (hwG (hwG h b 12 (some t)) b 11 (some r)) ∧ FX b h (hwG (hwG h b 12 (some t)) b 11 (some r)) := by
  have I1 := IC_wT I hb co
  have F1 : Fr h (hwG h b 12 (some t)) := Fr_wG (Fr_rf h) (by simp [sG, sB_bn hb])
  have I2 := IC_wU (r := r) I1 hb kr k2
  have F2 : Fr (hwG h b 12 (some t)) (hwG (hwG h b 12 (some t)) b 11 (some r)) := Fr_wG (Fr_rf _) (by simp [sG, sB_bn hb])
  refine ⟨⟨I2, hb, CO_fr I1.1 (CO_fr I.1 co F1) F2, ?_, av_u2_self, kr, k2⟩, Fr_tr F1 F2, fun o f e _ => ?_⟩
  · show av_u2 (av_u2 h.2.2.2.2.2.1 b 12 (some t)) b 11 (some r) b 12 = _
    rw [av_u2_oth (by decide), av_u2_self]
  · show av_u2 (av_u2 h.2.2.2.2.2.1 b 12 (some t)) b 11 (some r) o f = _
    rw [av_u2_ne e, av_u2_ne e]
/-- the bench as it is when its case is set and its turns are none -/
theorem EB_take {h h2 : av_H} {b t c s r : Nat} {cb : Int} (i2 : IB b t c s r cb h2) (X2 : FX b h h2) (eA : hA h2 = hA h) (eF : hF h2 = hF h) : ∃ a, EB b t c s r cb (hA h c) (hA h r) a (hF h b 13) (hF h b 14) (hF h b 15) (hfil h2 (b + 1 + 1) 0 12 (-1)) ∧ FY b h (hfil h2 (b + 1 + 1) 0 12 (-1)) ∧ ∀ q, q < 12 → a 1 q = -1 := by
  have sa := sA_bn i2.2.1 1 rfl
  have ra := rwc_bn i2.2.1 1 rfl
  obtain ⟨I4, F4⟩ := IC_fil (a := b + 1 + 1) (lo := 0) (hi := 12) (v := (-1)) i2.1 sa (fun z => by rw [ra] at z; cases z) (by omega)
  refine ⟨fun j => hA (hfil h2 (b + 1 + 1) 0 12 (-1)) (b + 1 + j), ⟨ib_f1 i2 I4 F4, ?_, ?_, fun j _ => rfl, ?_, ?_, ?_⟩, ⟨FX_1 X2 F4, fun q e => ?_, fun o f _ => ?_⟩, fun q hq => hfil_in hq⟩
  · rw [← eA]
    exact hfil_ne (fun q => by rw [← q, sA_cells (ib_co i2).2.2.2.2.2.2.2.1] at sa; cases sa)
  · rw [← eA]
    exact hfil_ne (fun q => by rw [← q, i2.2.2.2.2.2.2] at ra; cases ra)
  · rw [← eF]; rfl
  · rw [← eF]; rfl
  · rw [← eF]; rfl
  · rw [← eA]
    exact hfil_ne (e 1 (by omega))
  · rw [← eF]; rfl
theorem bn_27 {b : Nat} (hb : bn b) (j : Nat) (hj : j < 11) : (27 : Nat) ≠ b + 1 + j := by
  rcases hb with e | e | e <;> omega
end
