/-! THE REFERENCE: looks come back -/
set_option maxRecDepth 100000 in
set_option maxHeartbeats 4000000 in
theorem ct_127 {g h : av_H}  (x : Int) (qx : -2147483648 ≤ x ∧ x ≤ 2147483647) (y : Int) (qy : -2147483648 ≤ y ∧ y ≤ 2147483647) (z : Int) (qz : -2147483648 ≤ z ∧ z ≤ 2147483647) {Q : Option av_V → av_H → Prop} (hq : ∀ v : Int, ((v = 1 ∧ y ≤ x ∧ x ≤ z) ∨ (v = 0 ∧ (x < y ∨ z < x))) → Q (some (.inl v)) h) : av_wp none cd_127 0 [some (.inl x), some (.inl y), some (.inl z)] [] h Q := by
  refine av_wp_sqF ck_127 2 (pc' := 2) (lv' := [some (.inl x), some (.inl y), some (.inl z)]) (st' := [.inl y, .inl x]) (h' := h) rfl ?_
  refine wq_k2 (p' := 5) (ck_127 _ _ rfl) rfl ⟨by omega, by omega⟩ ⟨by omega, by omega⟩ (fun c1 => ?_) (fun c2 => ?_)
  · have c1 : x < y := c1
    refine av_wp_sqF ck_127 1 (pc' := 15) (lv' := [some (.inl x), some (.inl y), some (.inl z)]) (st' := [.inl (0)]) (h' := h) rfl ?_
    refine av_wp_ret (v := some (.inl (0))) (ck_127 _ _ rfl) rfl rfl ?_
    exact hq _ (by omega)
  · have c2 : y ≤ x := c2
    refine av_wp_sqF ck_127 2 (pc' := 7) (lv' := [some (.inl x), some (.inl y), some (.inl z)]) (st' := [.inl z, .inl x]) (h' := h) rfl ?_
    refine wq_k2 (p' := 10) (ck_127 _ _ rfl) rfl ⟨by omega, by omega⟩ ⟨by omega, by omega⟩ (fun c3 => ?_) (fun c4 => ?_)
    · have c3 : z < x := c3
      refine av_wp_sqF ck_127 1 (pc' := 15) (lv' := [some (.inl x), some (.inl y), some (.inl z)]) (st' := [.inl (0)]) (h' := h) rfl ?_
      refine av_wp_ret (v := some (.inl (0))) (ck_127 _ _ rfl) rfl rfl ?_
      exact hq _ (by omega)
    · have c4 : x ≤ z := c4
      refine av_wp_sqF ck_127 2 (pc' := 15) (lv' := [some (.inl x), some (.inl y), some (.inl z)]) (st' := [.inl (1)]) (h' := h) rfl ?_
      refine av_wp_ret (v := some (.inl (1))) (ck_127 _ _ rfl) rfl rfl ?_
      exact hq _ (by omega)

set_option maxRecDepth 100000 in
set_option maxHeartbeats 4000000 in
theorem ct_149 {g h : av_H} (I : IM h) (F : FM g h) (x : Int) (qx : -2147483648 ≤ x ∧ x ≤ 2147483647) {Q : Option av_V → av_H → Prop} (hq : ∀ v : Int, ((v = 1 ∧ 0 ≤ x ∧ x ≤ 15 ∧ x < hA h 78 0) ∨ v = 0) → Q (some (.inl v)) h) : av_wp none cd_149 0 [some (.inr (.inr (.inl (some (77))))), some (.inl x)] [] h Q := by
  refine av_wp_sqF ck_149 1 (pc' := 1) (lv' := [some (.inr (.inr (.inl (some (77))))), some (.inl x)]) (st' := [.inl x]) (h' := h) rfl ?_
  refine wq_k1 (p' := 4) (ck_149 _ _ rfl) rfl ⟨by omega, by omega⟩ (fun c1 => ?_) (fun c2 => ?_)
  · have c1 : x < (0) := c1
    refine av_wp_sqF ck_149 1 (pc' := 19) (lv' := [some (.inr (.inr (.inl (some (77))))), some (.inl x)]) (st' := [.inl (0)]) (h' := h) rfl ?_
    refine av_wp_ret (v := some (.inl (0))) (ck_149 _ _ rfl) rfl rfl ?_
    exact hq _ (by omega)
  · have c2 : (0) ≤ x := c2
    refine av_wp_sqF ck_149 2 (pc' := 6) (lv' := [some (.inr (.inr (.inl (some (77))))), some (.inl x)]) (st' := [.inr (.inr (.inl (some (77)))), .inl x]) (h' := h) rfl ?_
    refine wq_gr (p' := 9) (ck_149 _ _ rfl) rfl (congrArg Prod.fst (ly_k I.1.1 77 rfl)) rfl (ly_g I.1.1 77 0 78 rfl) ?_
    refine av_wp_sqF ck_149 1 (pc' := 10) (lv' := [some (.inr (.inr (.inl (some (77))))), some (.inl x)]) (st' := [.inl (0), .inr (.inr (.inl (some (78)))), .inl x]) (h' := h) rfl ?_
    obtain ⟨v3, e4⟩ : ∃ v, hA h 78 (Int.toNat ((0))) = v := ⟨_, rfl⟩
    have g5 : 0 ≤ hA h 78 0 ∧ hA h 78 0 ≤ 16 := I.1.2.1.2.1
    have e4 : hA h 78 0 = v3 := e4
    rw [e4] at g5
    refine wq_al (p' := 11) (n := 5) (ck_149 _ _ rfl) rfl (ly_k I.1.1 78 rfl) (by omega) (e4) ?_
    refine wq_k2 (p' := 14) (ck_149 _ _ rfl) rfl ⟨by omega, by omega⟩ ⟨by omega, by omega⟩ (fun c6 => ?_) (fun c7 => ?_)
    · have c6 : v3 ≤ x := c6
      refine av_wp_sqF ck_149 1 (pc' := 19) (lv' := [some (.inr (.inr (.inl (some (77))))), some (.inl x)]) (st' := [.inl (0)]) (h' := h) rfl ?_
      refine av_wp_ret (v := some (.inl (0))) (ck_149 _ _ rfl) rfl rfl ?_
      exact hq _ (by omega)
    · have c7 : x < v3 := c7
      refine av_wp_sqF ck_149 2 (pc' := 19) (lv' := [some (.inr (.inr (.inl (some (77))))), some (.inl x)]) (st' := [.inl (1)]) (h' := h) rfl ?_
      refine av_wp_ret (v := some (.inl (1))) (ck_149 _ _ rfl) rfl rfl ?_
      exact hq _ (by omega)

set_option maxRecDepth 100000 in
set_option maxHeartbeats 4000000 in
theorem ct_150 {g h : av_H} (I : IM h) (F : FM g h) (x : Int) (qx : -2147483648 ≤ x ∧ x ≤ 2147483647) {Q : Option av_V → av_H → Prop} (hq : ∀ v : Int, ((v = 1 ∧ 0 ≤ x ∧ x ≤ 7) ∨ v = 0) → Q (some (.inl v)) h) : av_wp none cd_150 0 [some (.inr (.inr (.inl (some (77))))), some (.inl x)] [] h Q := by
  refine av_wp_sqF ck_150 1 (pc' := 1) (lv' := [some (.inr (.inr (.inl (some (77))))), some (.inl x)]) (st' := [.inl x]) (h' := h) rfl ?_
  refine wq_k1 (p' := 4) (ck_150 _ _ rfl) rfl ⟨by omega, by omega⟩ (fun c1 => ?_) (fun c2 => ?_)
  · have c1 : x < (0) := c1
    refine av_wp_sqF ck_150 1 (pc' := 19) (lv' := [some (.inr (.inr (.inl (some (77))))), some (.inl x)]) (st' := [.inl (0)]) (h' := h) rfl ?_
    refine av_wp_ret (v := some (.inl (0))) (ck_150 _ _ rfl) rfl rfl ?_
    exact hq _ (by omega)
  · have c2 : (0) ≤ x := c2
    refine av_wp_sqF ck_150 2 (pc' := 6) (lv' := [some (.inr (.inr (.inl (some (77))))), some (.inl x)]) (st' := [.inr (.inr (.inl (some (77)))), .inl x]) (h' := h) rfl ?_
    refine wq_gr (p' := 9) (ck_150 _ _ rfl) rfl (congrArg Prod.fst (ly_k I.1.1 77 rfl)) rfl (ly_g I.1.1 77 1 79 rfl) ?_
    refine av_wp_sqF ck_150 1 (pc' := 10) (lv' := [some (.inr (.inr (.inl (some (77))))), some (.inl x)]) (st' := [.inl (0), .inr (.inr (.inl (some (79)))), .inl x]) (h' := h) rfl ?_
    obtain ⟨v3, e4⟩ : ∃ v, hA h 79 (Int.toNat ((0))) = v := ⟨_, rfl⟩
    have g5 : 0 ≤ hA h 79 0 ∧ hA h 79 0 ≤ 8 := I.1.2.1.2.2.1
    have e4 : hA h 79 0 = v3 := e4
    rw [e4] at g5
    refine wq_al (p' := 11) (n := 5) (ck_150 _ _ rfl) rfl (ly_k I.1.1 79 rfl) (by omega) (e4) ?_
    refine wq_k2 (p' := 14) (ck_150 _ _ rfl) rfl ⟨by omega, by omega⟩ ⟨by omega, by omega⟩ (fun c6 => ?_) (fun c7 => ?_)
    · have c6 : v3 ≤ x := c6
      refine av_wp_sqF ck_150 1 (pc' := 19) (lv' := [some (.inr (.inr (.inl (some (77))))), some (.inl x)]) (st' := [.inl (0)]) (h' := h) rfl ?_
      refine av_wp_ret (v := some (.inl (0))) (ck_150 _ _ rfl) rfl rfl ?_
      exact hq _ (by omega)
    · have c7 : x < v3 := c7
      refine av_wp_sqF ck_150 2 (pc' := 19) (lv' := [some (.inr (.inr (.inl (some (77))))), some (.inl x)]) (st' := [.inl (1)]) (h' := h) rfl ?_
      refine av_wp_ret (v := some (.inl (1))) (ck_150 _ _ rfl) rfl rfl ?_
      exact hq _ (by omega)

set_option maxRecDepth 100000 in
set_option maxHeartbeats 4000000 in
theorem ct_164 {g h : av_H} {n a m : Int} (I : IMF n a m h) (F : FM g h)  {Q : Option av_V → av_H → Prop} (hq : ∀ v : Int, ((v = 1 ∧ m ≤ 1024) ∨ (v = 0 ∧ 1024 < m)) → Q (some (.inl v)) h) : av_wp none cd_164 0 [some (.inr (.inr (.inl (some (77)))))] [] h Q := by
  have gn := im_n I.1.1
  rw [I.2.1] at gn
  have ga := im_a I.1.1
  rw [I.2.2.1] at ga
  have gm := im_cm I.1.1
  rw [I.2.2.2] at gm
  refine av_wp_sqF ck_164 1 (pc' := 1) (lv' := [some (.inr (.inr (.inl (some (77)))))]) (st' := [.inr (.inr (.inl (some (77))))]) (h' := h) rfl ?_
  refine wq_gi (p' := 4) (ck_164 _ _ rfl) rfl (congrArg Prod.fst (ly_k I.1.1.1 77 rfl)) rfl (I.2.2.2) ?_
  refine av_wp_sqF ck_164 1 (pc' := 7) (lv' := [some (.inr (.inr (.inl (some (77)))))]) (st' := [.inl (1024), .inl m]) (h' := h) rfl ?_
  refine wq_k2 (p' := 10) (ck_164 _ _ rfl) rfl ⟨by omega, by omega⟩ ⟨by omega, by omega⟩ (fun c1 => ?_) (fun c2 => ?_)
  · have c1 : (1024) < m := c1
    refine av_wp_sqF ck_164 1 (pc' := 15) (lv' := [some (.inr (.inr (.inl (some (77)))))]) (st' := [.inl (0)]) (h' := h) rfl ?_
    refine av_wp_ret (v := some (.inl (0))) (ck_164 _ _ rfl) rfl rfl ?_
    exact hq _ (by omega)
  · have c2 : m ≤ (1024) := c2
    refine av_wp_sqF ck_164 2 (pc' := 15) (lv' := [some (.inr (.inr (.inl (some (77)))))]) (st' := [.inl (1)]) (h' := h) rfl ?_
    refine av_wp_ret (v := some (.inl (1))) (ck_164 _ _ rfl) rfl rfl ?_
    exact hq _ (by omega)

set_option maxRecDepth 100000 in
set_option maxHeartbeats 4000000 in
theorem ct_166 {g h : av_H} {n a m : Int} (I : IMF n a m h) (F : FM g h) (k : Int) (qk : 0 ≤ k ∧ k ≤ 11) (w : Int) {Q : Option av_V → av_H → Prop} (hq : ∀ v : Int, Q (some (.inl v)) h) : av_wp none cd_166 0 [some (.inr (.inr (.inl (some (77))))), some (.inl k), some (.inl w)] [] h Q := by
  have gn := im_n I.1.1
  rw [I.2.1] at gn
  have ga := im_a I.1.1
  rw [I.2.2.1] at ga
  have gm := im_cm I.1.1
  rw [I.2.2.2] at gm
  refine av_wp_sqF ck_166 1 (pc' := 1) (lv' := [some (.inr (.inr (.inl (some (77))))), some (.inl k), some (.inl w)]) (st' := [.inl w]) (h' := h) rfl ?_
  refine wq_c1 (p' := 4) (ck_166 _ _ rfl) rfl ?_ ?_
  · refine av_wp_sqF ck_166 2 (pc' := 15) (lv' := [some (.inr (.inr (.inl (some (77))))), some (.inl k), some (.inl w)]) (st' := [.inl (1), .inl w]) (h' := h) rfl ?_
    refine wq_c2 (p' := 18) (ck_166 _ _ rfl) rfl ?_ ?_
    · refine av_wp_sqF ck_166 1 (pc' := 28) (lv' := [some (.inr (.inr (.inl (some (77))))), some (.inl k), some (.inl w)]) (st' := [.inr (.inr (.inl (some (77))))]) (h' := h) rfl ?_
      refine wq_gr (p' := 31) (ck_166 _ _ rfl) rfl (congrArg Prod.fst (ly_k I.1.1.1 77 rfl)) rfl (ly_g I.1.1.1 77 45 111 rfl) ?_
      refine av_wp_sqF ck_166 1 (pc' := 32) (lv' := [some (.inr (.inr (.inl (some (77))))), some (.inl k), some (.inl w)]) (st' := [.inl k, .inr (.inr (.inl (some (111))))]) (h' := h) rfl ?_
      obtain ⟨v1, e2⟩ : ∃ v, hA h 111 (Int.toNat (k)) = v := ⟨_, rfl⟩
      refine wq_al (p' := 33) (n := 12) (ck_166 _ _ rfl) rfl (ly_k I.1.1.1 111 rfl) (by omega) (e2) ?_
      refine av_wp_ret (v := some (.inl v1)) (ck_166 _ _ rfl) rfl rfl ?_
      exact hq _
    · refine av_wp_sqF ck_166 1 (pc' := 19) (lv' := [some (.inr (.inr (.inl (some (77))))), some (.inl k), some (.inl w)]) (st' := [.inr (.inr (.inl (some (77))))]) (h' := h) rfl ?_
      refine wq_gr (p' := 22) (ck_166 _ _ rfl) rfl (congrArg Prod.fst (ly_k I.1.1.1 77 rfl)) rfl (ly_g I.1.1.1 77 44 110 rfl) ?_
      refine av_wp_sqF ck_166 1 (pc' := 23) (lv' := [some (.inr (.inr (.inl (some (77))))), some (.inl k), some (.inl w)]) (st' := [.inl k, .inr (.inr (.inl (some (110))))]) (h' := h) rfl ?_
      obtain ⟨v4, e5⟩ : ∃ v, hA h 110 (Int.toNat (k)) = v := ⟨_, rfl⟩
      refine wq_al (p' := 24) (n := 12) (ck_166 _ _ rfl) rfl (ly_k I.1.1.1 110 rfl) (by omega) (e5) ?_
      refine av_wp_sqF ck_166 1 (pc' := 33) (lv' := [some (.inr (.inr (.inl (some (77))))), some (.inl k), some (.inl w)]) (st' := [.inl v4]) (h' := h) rfl ?_
      refine av_wp_ret (v := some (.inl v4)) (ck_166 _ _ rfl) rfl rfl ?_
      exact hq _
  · refine av_wp_sqF ck_166 1 (pc' := 5) (lv' := [some (.inr (.inr (.inl (some (77))))), some (.inl k), some (.inl w)]) (st' := [.inr (.inr (.inl (some (77))))]) (h' := h) rfl ?_
    refine wq_gr (p' := 8) (ck_166 _ _ rfl) rfl (congrArg Prod.fst (ly_k I.1.1.1 77 rfl)) rfl (ly_g I.1.1.1 77 43 109 rfl) ?_
    refine av_wp_sqF ck_166 1 (pc' := 9) (lv' := [some (.inr (.inr (.inl (some (77))))), some (.inl k), some (.inl w)]) (st' := [.inl k, .inr (.inr (.inl (some (109))))]) (h' := h) rfl ?_
    obtain ⟨v7, e8⟩ : ∃ v, hA h 109 (Int.toNat (k)) = v := ⟨_, rfl⟩
    refine wq_al (p' := 10) (n := 12) (ck_166 _ _ rfl) rfl (ly_k I.1.1.1 109 rfl) (by omega) (e8) ?_
    refine av_wp_sqF ck_166 1 (pc' := 33) (lv' := [some (.inr (.inr (.inl (some (77))))), some (.inl k), some (.inl w)]) (st' := [.inl v7]) (h' := h) rfl ?_
    refine av_wp_ret (v := some (.inl v7)) (ck_166 _ _ rfl) rfl rfl ?_
    exact hq _

set_option maxRecDepth 100000 in
set_option maxHeartbeats 4000000 in
theorem ct_167 {g h : av_H} {n a m : Int} (I : IMF n a m h) (F : FM g h) (k : Int) (qk : 0 ≤ k ∧ k ≤ 11) {Q : Option av_V → av_H → Prop} (hq : ∀ v : Int, ((v = 1 ∧ hA h 96 (k).toNat = 3) ∨ v = 0) → Q (some (.inl v)) h) : av_wp none cd_167 0 [some (.inr (.inr (.inl (some (77))))), some (.inl k), none] [] h Q := by
  have gn := im_n I.1.1
  rw [I.2.1] at gn
  have ga := im_a I.1.1
  rw [I.2.2.1] at ga
  have gm := im_cm I.1.1
  rw [I.2.2.2] at gm
  refine av_wp_sqF ck_167 1 (pc' := 1) (lv' := [some (.inr (.inr (.inl (some (77))))), some (.inl k), none]) (st' := [.inr (.inr (.inl (some (77))))]) (h' := h) rfl ?_
  refine wq_gr (p' := 4) (ck_167 _ _ rfl) rfl (congrArg Prod.fst (ly_k I.1.1.1 77 rfl)) rfl (ly_g I.1.1.1 77 30 96 rfl) ?_
  refine av_wp_sqF ck_167 1 (pc' := 5) (lv' := [some (.inr (.inr (.inl (some (77))))), some (.inl k), none]) (st' := [.inl k, .inr (.inr (.inl (some (96))))]) (h' := h) rfl ?_
  obtain ⟨v1, e2⟩ : ∃ v, hA h 96 (Int.toNat (k)) = v := ⟨_, rfl⟩
  have g3 : 0 ≤ hA h 96 (Int.toNat (k)) ∧ hA h 96 (Int.toNat (k)) ≤ 7 := im_w I.1.1 96 (by decide) (by decide) _
  rw [e2] at g3
  refine wq_al (p' := 6) (n := 12) (ck_167 _ _ rfl) rfl (ly_k I.1.1.1 96 rfl) (by omega) (e2) ?_
  refine av_wp_sqF ck_167 1 (pc' := 7) (lv' := [some (.inr (.inr (.inl (some (77))))), some (.inl k), none]) (st' := [.inl (3), .inl v1]) (h' := h) rfl ?_
  refine wq_k2 (p' := 10) (ck_167 _ _ rfl) rfl ⟨by omega, by omega⟩ ⟨by omega, by omega⟩ (fun c4 => ?_) (fun c5 => ?_)
  · have c4 : v1 ≠ (3) := c4
    refine av_wp_sqF ck_167 1 (pc' := 21) (lv' := [some (.inr (.inr (.inl (some (77))))), some (.inl k), none]) (st' := [.inl (0)]) (h' := h) rfl ?_
    refine av_wp_ret (v := some (.inl (0))) (ck_167 _ _ rfl) rfl rfl ?_
    exact hq _ (by omega)
  · have c5 : v1 = (3) := c5
    refine av_wp_sqF ck_167 1 (pc' := 11) (lv' := [some (.inr (.inr (.inl (some (77))))), some (.inl k), none]) (st' := [.inr (.inr (.inl (some (77))))]) (h' := h) rfl ?_
    refine wq_gr (p' := 14) (ck_167 _ _ rfl) rfl (congrArg Prod.fst (ly_k I.1.1.1 77 rfl)) rfl (ly_g I.1.1.1 77 26 95 rfl) ?_
    refine av_wp_sqF ck_167 1 (pc' := 16) (lv' := [some (.inr (.inr (.inl (some (77))))), some (.inl k), none]) (st' := [.inl (9), .inr (.inr (.inl (some (95))))]) (h' := h) rfl ?_
    obtain ⟨v6, e7⟩ : ∃ v, hA h 95 (Int.toNat ((9))) = v := ⟨_, rfl⟩
    refine wq_al (p' := 17) (n := 13) (ck_167 _ _ rfl) rfl (ly_k I.1.1.1 95 rfl) (by omega) (e7) ?_
    refine wq_c1 (p' := 20) (ck_167 _ _ rfl) rfl ?_ ?_
    · refine av_wp_sqF ck_167 5 (pc' := 27) (lv' := [some (.inr (.inr (.inl (some (77))))), some (.inl k), some (.inl ((5) * k))]) (st' := [.inr (.inr (.inl (some (77))))]) (h' := h) rfl ?_
      refine wq_gr (p' := 30) (ck_167 _ _ rfl) rfl (congrArg Prod.fst (ly_k I.1.1.1 77 rfl)) rfl (ly_g I.1.1.1 77 38 104 rfl) ?_
      refine av_wp_sqF ck_167 1 (pc' := 31) (lv' := [some (.inr (.inr (.inl (some (77))))), some (.inl k), some (.inl ((5) * k))]) (st' := [.inl ((5) * k), .inr (.inr (.inl (some (104))))]) (h' := h) rfl ?_
      obtain ⟨v9, e10⟩ : ∃ v, hA h 104 (Int.toNat (((5) * k))) = v := ⟨_, rfl⟩
      have g11 : -1 ≤ hA h 104 (Int.toNat (((5) * k))) ∧ hA h 104 (Int.toNat (((5) * k))) ≤ 999 := im_w I.1.1 104 (by decide) (by decide) _
      rw [e10] at g11
      refine wq_al (p' := 32) (n := 60) (ck_167 _ _ rfl) rfl (ly_k I.1.1.1 104 rfl) (by omega) (e10) ?_
      refine wq_k1 (p' := 35) (ck_167 _ _ rfl) rfl ⟨by omega, by omega⟩ (fun c12 => ?_) (fun c13 => ?_)
      · have c12 : (0) ≤ v9 := c12
        refine av_wp_sqF ck_167 1 (pc' := 62) (lv' := [some (.inr (.inr (.inl (some (77))))), some (.inl k), some (.inl ((5) * k))]) (st' := [.inl (0)]) (h' := h) rfl ?_
        refine av_wp_ret (v := some (.inl (0))) (ck_167 _ _ rfl) rfl rfl ?_
        exact hq _ (by omega)
      · have c13 : v9 < (0) := c13
        refine av_wp_sqF ck_167 1 (pc' := 36) (lv' := [some (.inr (.inr (.inl (some (77))))), some (.inl k), some (.inl ((5) * k))]) (st' := [.inr (.inr (.inl (some (77))))]) (h' := h) rfl ?_
        refine wq_gr (p' := 39) (ck_167 _ _ rfl) rfl (congrArg Prod.fst (ly_k I.1.1.1 77 rfl)) rfl (ly_g I.1.1.1 77 38 104 rfl) ?_
        refine av_wp_sqF ck_167 3 (pc' := 42) (lv' := [some (.inr (.inr (.inl (some (77))))), some (.inl k), some (.inl ((5) * k))]) (st' := [.inl (((5) * k) + (1)), .inr (.inr (.inl (some (104))))]) (h' := h) rfl ?_
        obtain ⟨v14, e15⟩ : ∃ v, hA h 104 (Int.toNat ((((5) * k) + (1)))) = v := ⟨_, rfl⟩
        have g16 : -1 ≤ hA h 104 (Int.toNat ((((5) * k) + (1)))) ∧ hA h 104 (Int.toNat ((((5) * k) + (1)))) ≤ 999 := im_w I.1.1 104 (by decide) (by decide) _
        rw [e15] at g16
        refine wq_al (p' := 43) (n := 60) (ck_167 _ _ rfl) rfl (ly_k I.1.1.1 104 rfl) (by omega) (e15) ?_
        refine wq_k1 (p' := 46) (ck_167 _ _ rfl) rfl ⟨by omega, by omega⟩ (fun c17 => ?_) (fun c18 => ?_)
        · have c17 : (0) ≤ v14 := c17
          refine av_wp_sqF ck_167 1 (pc' := 62) (lv' := [some (.inr (.inr (.inl (some (77))))), some (.inl k), some (.inl ((5) * k))]) (st' := [.inl (0)]) (h' := h) rfl ?_
          refine av_wp_ret (v := some (.inl (0))) (ck_167 _ _ rfl) rfl rfl ?_
          exact hq _ (by omega)
        · have c18 : v14 < (0) := c18
          refine av_wp_sqF ck_167 1 (pc' := 47) (lv' := [some (.inr (.inr (.inl (some (77))))), some (.inl k), some (.inl ((5) * k))]) (st' := [.inr (.inr (.inl (some (77))))]) (h' := h) rfl ?_
          refine wq_gr (p' := 50) (ck_167 _ _ rfl) rfl (congrArg Prod.fst (ly_k I.1.1.1 77 rfl)) rfl (ly_g I.1.1.1 77 38 104 rfl) ?_
          refine av_wp_sqF ck_167 3 (pc' := 53) (lv' := [some (.inr (.inr (.inl (some (77))))), some (.inl k), some (.inl ((5) * k))]) (st' := [.inl (((5) * k) + (2)), .inr (.inr (.inl (some (104))))]) (h' := h) rfl ?_
          obtain ⟨v19, e20⟩ : ∃ v, hA h 104 (Int.toNat ((((5) * k) + (2)))) = v := ⟨_, rfl⟩
          have g21 : -1 ≤ hA h 104 (Int.toNat ((((5) * k) + (2)))) ∧ hA h 104 (Int.toNat ((((5) * k) + (2)))) ≤ 999 := im_w I.1.1 104 (by decide) (by decide) _
          rw [e20] at g21
          refine wq_al (p' := 54) (n := 60) (ck_167 _ _ rfl) rfl (ly_k I.1.1.1 104 rfl) (by omega) (e20) ?_
          refine wq_k1 (p' := 57) (ck_167 _ _ rfl) rfl ⟨by omega, by omega⟩ (fun c22 => ?_) (fun c23 => ?_)
          · have c22 : (0) ≤ v19 := c22
            refine av_wp_sqF ck_167 1 (pc' := 62) (lv' := [some (.inr (.inr (.inl (some (77))))), some (.inl k), some (.inl ((5) * k))]) (st' := [.inl (0)]) (h' := h) rfl ?_
            refine av_wp_ret (v := some (.inl (0))) (ck_167 _ _ rfl) rfl rfl ?_
            exact hq _ (by omega)
          · have c23 : v19 < (0) := c23
            refine av_wp_sqF ck_167 2 (pc' := 62) (lv' := [some (.inr (.inr (.inl (some (77))))), some (.inl k), some (.inl ((5) * k))]) (st' := [.inl (1)]) (h' := h) rfl ?_
            refine av_wp_ret (v := some (.inl (1))) (ck_167 _ _ rfl) rfl rfl ?_
            exact hq _ (by omega)
    · refine av_wp_sqF ck_167 1 (pc' := 21) (lv' := [some (.inr (.inr (.inl (some (77))))), some (.inl k), none]) (st' := [.inl (0)]) (h' := h) rfl ?_
      refine av_wp_ret (v := some (.inl (0))) (ck_167 _ _ rfl) rfl rfl ?_
      exact hq _ (by omega)

set_option maxRecDepth 100000 in
set_option maxHeartbeats 4000000 in
theorem ct_168 {g h : av_H} {n a m : Int} (I : IMF n a m h) (F : FM g h) (k : Int) (qk : 0 ≤ k ∧ k ≤ 11) {Q : Option av_V → av_H → Prop} (hq : ∀ v : Int, (v = 0 ∨ v = 1) → Q (some (.inl v)) h) : av_wp none cd_168 0 [some (.inr (.inr (.inl (some (77))))), some (.inl k)] [] h Q := by
  have gn := im_n I.1.1
  rw [I.2.1] at gn
  have ga := im_a I.1.1
  rw [I.2.2.1] at ga
  have gm := im_cm I.1.1
  rw [I.2.2.2] at gm
  refine av_wp_sqF ck_168 1 (pc' := 1) (lv' := [some (.inr (.inr (.inl (some (77))))), some (.inl k)]) (st' := [.inr (.inr (.inl (some (77))))]) (h' := h) rfl ?_
  refine wq_gr (p' := 4) (ck_168 _ _ rfl) rfl (congrArg Prod.fst (ly_k I.1.1.1 77 rfl)) rfl (ly_g I.1.1.1 77 30 96 rfl) ?_
  refine av_wp_sqF ck_168 1 (pc' := 5) (lv' := [some (.inr (.inr (.inl (some (77))))), some (.inl k)]) (st' := [.inl k, .inr (.inr (.inl (some (96))))]) (h' := h) rfl ?_
  obtain ⟨v1, e2⟩ : ∃ v, hA h 96 (Int.toNat (k)) = v := ⟨_, rfl⟩
  have g3 : 0 ≤ hA h 96 (Int.toNat (k)) ∧ hA h 96 (Int.toNat (k)) ≤ 7 := im_w I.1.1 96 (by decide) (by decide) _
  rw [e2] at g3
  refine wq_al (p' := 6) (n := 12) (ck_168 _ _ rfl) rfl (ly_k I.1.1.1 96 rfl) (by omega) (e2) ?_
  refine wq_k1 (p' := 9) (ck_168 _ _ rfl) rfl ⟨by omega, by omega⟩ (fun c4 => ?_) (fun c5 => ?_)
  · have c4 : v1 = (0) := c4
    refine av_wp_sqF ck_168 2 (pc' := 32) (lv' := [some (.inr (.inr (.inl (some (77))))), some (.inl k)]) (st' := [.inl (1)]) (h' := h) rfl ?_
    refine av_wp_ret (v := some (.inl (1))) (ck_168 _ _ rfl) rfl rfl ?_
    exact hq _ (by omega)
  · have c5 : v1 ≠ (0) := c5
    refine av_wp_sqF ck_168 1 (pc' := 10) (lv' := [some (.inr (.inr (.inl (some (77))))), some (.inl k)]) (st' := [.inr (.inr (.inl (some (77))))]) (h' := h) rfl ?_
    refine wq_gr (p' := 13) (ck_168 _ _ rfl) rfl (congrArg Prod.fst (ly_k I.1.1.1 77 rfl)) rfl (ly_g I.1.1.1 77 30 96 rfl) ?_
    refine av_wp_sqF ck_168 1 (pc' := 14) (lv' := [some (.inr (.inr (.inl (some (77))))), some (.inl k)]) (st' := [.inl k, .inr (.inr (.inl (some (96))))]) (h' := h) rfl ?_
    obtain ⟨v6, e7⟩ : ∃ v, hA h 96 (Int.toNat (k)) = v := ⟨_, rfl⟩
    have g8 : 0 ≤ hA h 96 (Int.toNat (k)) ∧ hA h 96 (Int.toNat (k)) ≤ 7 := im_w I.1.1 96 (by decide) (by decide) _
    rw [e7] at g8
    refine wq_al (p' := 15) (n := 12) (ck_168 _ _ rfl) rfl (ly_k I.1.1.1 96 rfl) (by omega) (e7) ?_
    refine av_wp_sqF ck_168 1 (pc' := 16) (lv' := [some (.inr (.inr (.inl (some (77))))), some (.inl k)]) (st' := [.inl (3), .inl v6]) (h' := h) rfl ?_
    refine wq_k2 (p' := 19) (ck_168 _ _ rfl) rfl ⟨by omega, by omega⟩ ⟨by omega, by omega⟩ (fun c9 => ?_) (fun c10 => ?_)
    · have c9 : v6 ≠ (3) := c9
      refine av_wp_sqF ck_168 1 (pc' := 32) (lv' := [some (.inr (.inr (.inl (some (77))))), some (.inl k)]) (st' := [.inl (0)]) (h' := h) rfl ?_
      refine av_wp_ret (v := some (.inl (0))) (ck_168 _ _ rfl) rfl rfl ?_
      exact hq _ (by omega)
    · have c10 : v6 = (3) := c10
      refine av_wp_sqF ck_168 2 (pc' := 21) (lv' := [some (.inr (.inr (.inl (some (77))))), some (.inl k)]) (st' := [.inl k, .inr (.inr (.inl (some (77))))]) (h' := h) rfl ?_
      refine wq_cv (p' := 24) (av_qc (.invokevirtual 360) 167 1 0 8) 3 cd_167 [.inl k] (77) 8 [some (.inr (.inr (.inl (some (77))))), some (.inl k), none] (ck_168 _ _ rfl) rfl rfl pp_167 rfl rfl rfl (congrArg Prod.fst (ly_k I.1.1.1 77 rfl)) rfl rfl rfl rfl ?_
      refine ct_167 I F (k) (by omega) (fun v11 p12 => ?_)
      show av_wp _ cd_168 24 [some (.inr (.inr (.inl (some (77))))), some (.inl k)] [.inl v11] h _
      refine wq_k1 (p' := 27) (ck_168 _ _ rfl) rfl ⟨by omega, by omega⟩ (fun c13 => ?_) (fun c14 => ?_)
      · have c13 : v11 ≠ (0) := c13
        refine av_wp_sqF ck_168 1 (pc' := 32) (lv' := [some (.inr (.inr (.inl (some (77))))), some (.inl k)]) (st' := [.inl (0)]) (h' := h) rfl ?_
        refine av_wp_ret (v := some (.inl (0))) (ck_168 _ _ rfl) rfl rfl ?_
        exact hq _ (by omega)
      · have c14 : v11 = (0) := c14
        refine av_wp_sqF ck_168 2 (pc' := 32) (lv' := [some (.inr (.inr (.inl (some (77))))), some (.inl k)]) (st' := [.inl (1)]) (h' := h) rfl ?_
        refine av_wp_ret (v := some (.inl (1))) (ck_168 _ _ rfl) rfl rfl ?_
        exact hq _ (by omega)

set_option maxRecDepth 100000 in
set_option maxHeartbeats 4000000 in
theorem ct_169 {g h : av_H} {n a m : Int} (I : IMF n a m h) (F : FM g h) (k : Int) (qk : 0 ≤ k ∧ k ≤ 11) {Q : Option av_V → av_H → Prop} (hq : ∀ v : Int, (v = 0 ∨ v = 1) → Q (some (.inl v)) h) : av_wp none cd_169 0 [some (.inr (.inr (.inl (some (77))))), some (.inl k)] [] h Q := by
  have gn := im_n I.1.1
  rw [I.2.1] at gn
  have ga := im_a I.1.1
  rw [I.2.2.1] at ga
  have gm := im_cm I.1.1
  rw [I.2.2.2] at gm
  refine av_wp_sqF ck_169 1 (pc' := 1) (lv' := [some (.inr (.inr (.inl (some (77))))), some (.inl k)]) (st' := [.inr (.inr (.inl (some (77))))]) (h' := h) rfl ?_
  refine wq_gr (p' := 4) (ck_169 _ _ rfl) rfl (congrArg Prod.fst (ly_k I.1.1.1 77 rfl)) rfl (ly_g I.1.1.1 77 30 96 rfl) ?_
  refine av_wp_sqF ck_169 1 (pc' := 5) (lv' := [some (.inr (.inr (.inl (some (77))))), some (.inl k)]) (st' := [.inl k, .inr (.inr (.inl (some (96))))]) (h' := h) rfl ?_
  obtain ⟨v1, e2⟩ : ∃ v, hA h 96 (Int.toNat (k)) = v := ⟨_, rfl⟩
  have g3 : 0 ≤ hA h 96 (Int.toNat (k)) ∧ hA h 96 (Int.toNat (k)) ≤ 7 := im_w I.1.1 96 (by decide) (by decide) _
  rw [e2] at g3
  refine wq_al (p' := 6) (n := 12) (ck_169 _ _ rfl) rfl (ly_k I.1.1.1 96 rfl) (by omega) (e2) ?_
  refine av_wp_sqF ck_169 1 (pc' := 7) (lv' := [some (.inr (.inr (.inl (some (77))))), some (.inl k)]) (st' := [.inl (4), .inl v1]) (h' := h) rfl ?_
  refine wq_k2 (p' := 10) (ck_169 _ _ rfl) rfl ⟨by omega, by omega⟩ ⟨by omega, by omega⟩ (fun c4 => ?_) (fun c5 => ?_)
  · have c4 : v1 = (4) := c4
    refine av_wp_sqF ck_169 2 (pc' := 33) (lv' := [some (.inr (.inr (.inl (some (77))))), some (.inl k)]) (st' := [.inl (1)]) (h' := h) rfl ?_
    refine av_wp_ret (v := some (.inl (1))) (ck_169 _ _ rfl) rfl rfl ?_
    exact hq _ (by omega)
  · have c5 : v1 ≠ (4) := c5
    refine av_wp_sqF ck_169 1 (pc' := 11) (lv' := [some (.inr (.inr (.inl (some (77))))), some (.inl k)]) (st' := [.inr (.inr (.inl (some (77))))]) (h' := h) rfl ?_
    refine wq_gr (p' := 14) (ck_169 _ _ rfl) rfl (congrArg Prod.fst (ly_k I.1.1.1 77 rfl)) rfl (ly_g I.1.1.1 77 30 96 rfl) ?_
    refine av_wp_sqF ck_169 1 (pc' := 15) (lv' := [some (.inr (.inr (.inl (some (77))))), some (.inl k)]) (st' := [.inl k, .inr (.inr (.inl (some (96))))]) (h' := h) rfl ?_
    obtain ⟨v6, e7⟩ : ∃ v, hA h 96 (Int.toNat (k)) = v := ⟨_, rfl⟩
    have g8 : 0 ≤ hA h 96 (Int.toNat (k)) ∧ hA h 96 (Int.toNat (k)) ≤ 7 := im_w I.1.1 96 (by decide) (by decide) _
    rw [e7] at g8
    refine wq_al (p' := 16) (n := 12) (ck_169 _ _ rfl) rfl (ly_k I.1.1.1 96 rfl) (by omega) (e7) ?_
    refine av_wp_sqF ck_169 1 (pc' := 17) (lv' := [some (.inr (.inr (.inl (some (77))))), some (.inl k)]) (st' := [.inl (3), .inl v6]) (h' := h) rfl ?_
    refine wq_k2 (p' := 20) (ck_169 _ _ rfl) rfl ⟨by omega, by omega⟩ ⟨by omega, by omega⟩ (fun c9 => ?_) (fun c10 => ?_)
    · have c9 : v6 ≠ (3) := c9
      refine av_wp_sqF ck_169 1 (pc' := 33) (lv' := [some (.inr (.inr (.inl (some (77))))), some (.inl k)]) (st' := [.inl (0)]) (h' := h) rfl ?_
      refine av_wp_ret (v := some (.inl (0))) (ck_169 _ _ rfl) rfl rfl ?_
      exact hq _ (by omega)
    · have c10 : v6 = (3) := c10
      refine av_wp_sqF ck_169 2 (pc' := 22) (lv' := [some (.inr (.inr (.inl (some (77))))), some (.inl k)]) (st' := [.inl k, .inr (.inr (.inl (some (77))))]) (h' := h) rfl ?_
      refine wq_cv (p' := 25) (av_qc (.invokevirtual 360) 167 1 0 8) 3 cd_167 [.inl k] (77) 8 [some (.inr (.inr (.inl (some (77))))), some (.inl k), none] (ck_169 _ _ rfl) rfl rfl pp_167 rfl rfl rfl (congrArg Prod.fst (ly_k I.1.1.1 77 rfl)) rfl rfl rfl rfl ?_
      refine ct_167 I F (k) (by omega) (fun v11 p12 => ?_)
      show av_wp _ cd_169 25 [some (.inr (.inr (.inl (some (77))))), some (.inl k)] [.inl v11] h _
      refine wq_k1 (p' := 28) (ck_169 _ _ rfl) rfl ⟨by omega, by omega⟩ (fun c13 => ?_) (fun c14 => ?_)
      · have c13 : v11 ≠ (0) := c13
        refine av_wp_sqF ck_169 1 (pc' := 33) (lv' := [some (.inr (.inr (.inl (some (77))))), some (.inl k)]) (st' := [.inl (0)]) (h' := h) rfl ?_
        refine av_wp_ret (v := some (.inl (0))) (ck_169 _ _ rfl) rfl rfl ?_
        exact hq _ (by omega)
      · have c14 : v11 = (0) := c14
        refine av_wp_sqF ck_169 2 (pc' := 33) (lv' := [some (.inr (.inr (.inl (some (77))))), some (.inl k)]) (st' := [.inl (1)]) (h' := h) rfl ?_
        refine av_wp_ret (v := some (.inl (1))) (ck_169 _ _ rfl) rfl rfl ?_
        exact hq _ (by omega)

set_option maxRecDepth 100000 in
set_option maxHeartbeats 4000000 in
theorem ct_170 {g h : av_H} {n a m : Int} (I : IMF n a m h) (F : FM g h) (k : Int) (qk : 0 ≤ k ∧ k ≤ 11) {Q : Option av_V → av_H → Prop} (hq : ∀ v : Int, ((v = 1 ∧ 2 ≤ hA h 96 (k).toNat) ∨ v = 0) → Q (some (.inl v)) h) : av_wp none cd_170 0 [some (.inr (.inr (.inl (some (77))))), some (.inl k)] [] h Q := by
  have gn := im_n I.1.1
  rw [I.2.1] at gn
  have ga := im_a I.1.1
  rw [I.2.2.1] at ga
  have gm := im_cm I.1.1
  rw [I.2.2.2] at gm
  refine av_wp_sqF ck_170 1 (pc' := 1) (lv' := [some (.inr (.inr (.inl (some (77))))), some (.inl k)]) (st' := [.inr (.inr (.inl (some (77))))]) (h' := h) rfl ?_
  refine wq_gr (p' := 4) (ck_170 _ _ rfl) rfl (congrArg Prod.fst (ly_k I.1.1.1 77 rfl)) rfl (ly_g I.1.1.1 77 30 96 rfl) ?_
  refine av_wp_sqF ck_170 1 (pc' := 5) (lv' := [some (.inr (.inr (.inl (some (77))))), some (.inl k)]) (st' := [.inl k, .inr (.inr (.inl (some (96))))]) (h' := h) rfl ?_
  obtain ⟨v1, e2⟩ : ∃ v, hA h 96 (Int.toNat (k)) = v := ⟨_, rfl⟩
  have g3 : 0 ≤ hA h 96 (Int.toNat (k)) ∧ hA h 96 (Int.toNat (k)) ≤ 7 := im_w I.1.1 96 (by decide) (by decide) _
  rw [e2] at g3
  refine wq_al (p' := 6) (n := 12) (ck_170 _ _ rfl) rfl (ly_k I.1.1.1 96 rfl) (by omega) (e2) ?_
  refine av_wp_sqF ck_170 1 (pc' := 7) (lv' := [some (.inr (.inr (.inl (some (77))))), some (.inl k)]) (st' := [.inl (2), .inl v1]) (h' := h) rfl ?_
  refine wq_k2 (p' := 10) (ck_170 _ _ rfl) rfl ⟨by omega, by omega⟩ ⟨by omega, by omega⟩ (fun c4 => ?_) (fun c5 => ?_)
  · have c4 : v1 = (2) := c4
    refine av_wp_sqF ck_170 2 (pc' := 45) (lv' := [some (.inr (.inr (.inl (some (77))))), some (.inl k)]) (st' := [.inl (1)]) (h' := h) rfl ?_
    refine av_wp_ret (v := some (.inl (1))) (ck_170 _ _ rfl) rfl rfl ?_
    exact hq _ (by omega)
  · have c5 : v1 ≠ (2) := c5
    refine av_wp_sqF ck_170 2 (pc' := 12) (lv' := [some (.inr (.inr (.inl (some (77))))), some (.inl k)]) (st' := [.inl k, .inr (.inr (.inl (some (77))))]) (h' := h) rfl ?_
    refine wq_cv (p' := 15) (av_qc (.invokevirtual 360) 167 1 0 8) 3 cd_167 [.inl k] (77) 8 [some (.inr (.inr (.inl (some (77))))), some (.inl k), none] (ck_170 _ _ rfl) rfl rfl pp_167 rfl rfl rfl (congrArg Prod.fst (ly_k I.1.1.1 77 rfl)) rfl rfl rfl rfl ?_
    refine ct_167 I F (k) (by omega) (fun v6 p7 => ?_)
    show av_wp _ cd_170 15 [some (.inr (.inr (.inl (some (77))))), some (.inl k)] [.inl v6] h _
    refine wq_k1 (p' := 18) (ck_170 _ _ rfl) rfl ⟨by omega, by omega⟩ (fun c8 => ?_) (fun c9 => ?_)
    · have c8 : v6 ≠ (0) := c8
      refine av_wp_sqF ck_170 2 (pc' := 45) (lv' := [some (.inr (.inr (.inl (some (77))))), some (.inl k)]) (st' := [.inl (1)]) (h' := h) rfl ?_
      refine av_wp_ret (v := some (.inl (1))) (ck_170 _ _ rfl) rfl rfl ?_
      exact hq _ (by omega)
    · have c9 : v6 = (0) := c9
      refine av_wp_sqF ck_170 1 (pc' := 19) (lv' := [some (.inr (.inr (.inl (some (77))))), some (.inl k)]) (st' := [.inr (.inr (.inl (some (77))))]) (h' := h) rfl ?_
      refine wq_gr (p' := 22) (ck_170 _ _ rfl) rfl (congrArg Prod.fst (ly_k I.1.1.1 77 rfl)) rfl (ly_g I.1.1.1 77 30 96 rfl) ?_
      refine av_wp_sqF ck_170 1 (pc' := 23) (lv' := [some (.inr (.inr (.inl (some (77))))), some (.inl k)]) (st' := [.inl k, .inr (.inr (.inl (some (96))))]) (h' := h) rfl ?_
      obtain ⟨v10, e11⟩ : ∃ v, hA h 96 (Int.toNat (k)) = v := ⟨_, rfl⟩
      have g12 : 0 ≤ hA h 96 (Int.toNat (k)) ∧ hA h 96 (Int.toNat (k)) ≤ 7 := im_w I.1.1 96 (by decide) (by decide) _
      rw [e11] at g12
      refine wq_al (p' := 24) (n := 12) (ck_170 _ _ rfl) rfl (ly_k I.1.1.1 96 rfl) (by omega) (e11) ?_
      refine av_wp_sqF ck_170 1 (pc' := 26) (lv' := [some (.inr (.inr (.inl (some (77))))), some (.inl k)]) (st' := [.inl (6), .inl v10]) (h' := h) rfl ?_
      refine wq_k2 (p' := 29) (ck_170 _ _ rfl) rfl ⟨by omega, by omega⟩ ⟨by omega, by omega⟩ (fun c13 => ?_) (fun c14 => ?_)
      · have c13 : v10 ≠ (6) := c13
        refine av_wp_sqF ck_170 1 (pc' := 45) (lv' := [some (.inr (.inr (.inl (some (77))))), some (.inl k)]) (st' := [.inl (0)]) (h' := h) rfl ?_
        refine av_wp_ret (v := some (.inl (0))) (ck_170 _ _ rfl) rfl rfl ?_
        exact hq _ (by omega)
      · have c14 : v10 = (6) := c14
        refine av_wp_sqF ck_170 1 (pc' := 30) (lv' := [some (.inr (.inr (.inl (some (77))))), some (.inl k)]) (st' := [.inr (.inr (.inl (some (77))))]) (h' := h) rfl ?_
        refine wq_gr (p' := 33) (ck_170 _ _ rfl) rfl (congrArg Prod.fst (ly_k I.1.1.1 77 rfl)) rfl (ly_g I.1.1.1 77 26 95 rfl) ?_
        refine av_wp_sqF ck_170 1 (pc' := 35) (lv' := [some (.inr (.inr (.inl (some (77))))), some (.inl k)]) (st' := [.inl (11), .inr (.inr (.inl (some (95))))]) (h' := h) rfl ?_
        obtain ⟨v15, e16⟩ : ∃ v, hA h 95 (Int.toNat ((11))) = v := ⟨_, rfl⟩
        refine wq_al (p' := 36) (n := 13) (ck_170 _ _ rfl) rfl (ly_k I.1.1.1 95 rfl) (by omega) (e16) ?_
        refine av_wp_sqF ck_170 1 (pc' := 37) (lv' := [some (.inr (.inr (.inl (some (77))))), some (.inl k)]) (st' := [.inl (1), .inl v15]) (h' := h) rfl ?_
        refine wq_c2 (p' := 40) (ck_170 _ _ rfl) rfl ?_ ?_
        · refine av_wp_sqF ck_170 1 (pc' := 45) (lv' := [some (.inr (.inr (.inl (some (77))))), some (.inl k)]) (st' := [.inl (0)]) (h' := h) rfl ?_
          refine av_wp_ret (v := some (.inl (0))) (ck_170 _ _ rfl) rfl rfl ?_
          exact hq _ (by omega)
        · refine av_wp_sqF ck_170 2 (pc' := 45) (lv' := [some (.inr (.inr (.inl (some (77))))), some (.inl k)]) (st' := [.inl (1)]) (h' := h) rfl ?_
          refine av_wp_ret (v := some (.inl (1))) (ck_170 _ _ rfl) rfl rfl ?_
          exact hq _ (by omega)

set_option maxRecDepth 100000 in
set_option maxHeartbeats 4000000 in
theorem ct_171 {g h : av_H} {n a m : Int} (I : IMF n a m h) (F : FM g h) (k : Int) (qk : 0 ≤ k ∧ k ≤ 11) (x : Int) (qx : 0 ≤ x ∧ x ≤ 11) {Q : Option av_V → av_H → Prop} (hq : ∀ v : Int, Q (some (.inl v)) h) : av_wp none cd_171 0 [some (.inr (.inr (.inl (some (77))))), some (.inl k), some (.inl x), none] [] h Q := by
  have gn := im_n I.1.1
  rw [I.2.1] at gn
  have ga := im_a I.1.1
  rw [I.2.2.1] at ga
  have gm := im_cm I.1.1
  rw [I.2.2.2] at gm
  refine av_wp_sqF ck_171 1 (pc' := 1) (lv' := [some (.inr (.inr (.inl (some (77))))), some (.inl k), some (.inl x), none]) (st' := [.inr (.inr (.inl (some (77))))]) (h' := h) rfl ?_
  refine wq_gr (p' := 4) (ck_171 _ _ rfl) rfl (congrArg Prod.fst (ly_k I.1.1.1 77 rfl)) rfl (ly_g I.1.1.1 77 30 96 rfl) ?_
  refine av_wp_sqF ck_171 1 (pc' := 5) (lv' := [some (.inr (.inr (.inl (some (77))))), some (.inl k), some (.inl x), none]) (st' := [.inl k, .inr (.inr (.inl (some (96))))]) (h' := h) rfl ?_
  obtain ⟨v1, e2⟩ : ∃ v, hA h 96 (Int.toNat (k)) = v := ⟨_, rfl⟩
  have g3 : 0 ≤ hA h 96 (Int.toNat (k)) ∧ hA h 96 (Int.toNat (k)) ≤ 7 := im_w I.1.1 96 (by decide) (by decide) _
  rw [e2] at g3
  refine wq_al (p' := 6) (n := 12) (ck_171 _ _ rfl) rfl (ly_k I.1.1.1 96 rfl) (by omega) (e2) ?_
  refine av_wp_sqF ck_171 1 (pc' := 7) (lv' := [some (.inr (.inr (.inl (some (77))))), some (.inl k), some (.inl x), none]) (st' := [.inl (5), .inl v1]) (h' := h) rfl ?_
  refine wq_k2 (p' := 10) (ck_171 _ _ rfl) rfl ⟨by omega, by omega⟩ ⟨by omega, by omega⟩ (fun c4 => ?_) (fun c5 => ?_)
  · have c4 : v1 ≠ (5) := c4
    refine av_wp_sqF ck_171 1 (pc' := 21) (lv' := [some (.inr (.inr (.inl (some (77))))), some (.inl k), some (.inl x), none]) (st' := [.inl (-1)]) (h' := h) rfl ?_
    refine av_wp_ret (v := some (.inl (-1))) (ck_171 _ _ rfl) rfl rfl ?_
    exact hq _
  · have c5 : v1 = (5) := c5
    refine av_wp_sqF ck_171 1 (pc' := 11) (lv' := [some (.inr (.inr (.inl (some (77))))), some (.inl k), some (.inl x), none]) (st' := [.inr (.inr (.inl (some (77))))]) (h' := h) rfl ?_
    refine wq_gr (p' := 14) (ck_171 _ _ rfl) rfl (congrArg Prod.fst (ly_k I.1.1.1 77 rfl)) rfl (ly_g I.1.1.1 77 34 100 rfl) ?_
    refine av_wp_sqF ck_171 1 (pc' := 15) (lv' := [some (.inr (.inr (.inl (some (77))))), some (.inl k), some (.inl x), none]) (st' := [.inl k, .inr (.inr (.inl (some (100))))]) (h' := h) rfl ?_
    obtain ⟨v6, e7⟩ : ∃ v, hA h 100 (Int.toNat (k)) = v := ⟨_, rfl⟩
    have g8 : -1 ≤ hA h 100 (Int.toNat (k)) ∧ hA h 100 (Int.toNat (k)) ≤ 11 := im_w I.1.1 100 (by decide) (by decide) _
    rw [e7] at g8
    have w9 := im_wr I.1 (Int.toNat (k)) (by omega)
    rw [e7] at w9
    refine wq_al (p' := 16) (n := 12) (ck_171 _ _ rfl) rfl (ly_k I.1.1.1 100 rfl) (by omega) (e7) ?_
    refine av_wp_sqF ck_171 1 (pc' := 17) (lv' := [some (.inr (.inr (.inl (some (77))))), some (.inl k), some (.inl x), none]) (st' := [.inl x, .inl v6]) (h' := h) rfl ?_
    refine wq_k2 (p' := 20) (ck_171 _ _ rfl) rfl ⟨by omega, by omega⟩ ⟨by omega, by omega⟩ (fun c10 => ?_) (fun c11 => ?_)
    · have c10 : v6 = x := c10
      refine av_wp_sqF ck_171 3 (pc' := 25) (lv' := [some (.inr (.inr (.inl (some (77))))), some (.inl k), some (.inl x), none]) (st' := [.inr (.inr (.inl (some (77)))), .inl k, .inr (.inr (.inl (some (77))))]) (h' := h) rfl ?_
      refine wq_gr (p' := 28) (ck_171 _ _ rfl) rfl (congrArg Prod.fst (ly_k I.1.1.1 77 rfl)) rfl (ly_g I.1.1.1 77 26 95 rfl) ?_
      refine av_wp_sqF ck_171 1 (pc' := 29) (lv' := [some (.inr (.inr (.inl (some (77))))), some (.inl k), some (.inl x), none]) (st' := [.inl (4), .inr (.inr (.inl (some (95)))), .inl k, .inr (.inr (.inl (some (77))))]) (h' := h) rfl ?_
      obtain ⟨v12, e13⟩ : ∃ v, hA h 95 (Int.toNat ((4))) = v := ⟨_, rfl⟩
      refine wq_al (p' := 30) (n := 13) (ck_171 _ _ rfl) rfl (ly_k I.1.1.1 95 rfl) (by omega) (e13) ?_
      refine wq_cv (p' := 33) (av_qc (.invokevirtual 363) 166 2 0 8) 3 cd_166 [.inl v12, .inl k] (77) 8 [some (.inr (.inr (.inl (some (77))))), some (.inl k), some (.inl v12)] (ck_171 _ _ rfl) rfl rfl pp_166 rfl rfl rfl (congrArg Prod.fst (ly_k I.1.1.1 77 rfl)) rfl rfl rfl rfl ?_
      refine ct_166 I F (k) (by omega) (v12) (fun v15 => ?_)
      show av_wp _ cd_171 33 [some (.inr (.inr (.inl (some (77))))), some (.inl k), some (.inl x), none] [.inl v15] h _
      refine av_wp_sqF ck_171 2 (pc' := 35) (lv' := [some (.inr (.inr (.inl (some (77))))), some (.inl k), some (.inl x), some (.inl v15)]) (st' := [.inr (.inr (.inl (some (77))))]) (h' := h) rfl ?_
      refine wq_gr (p' := 38) (ck_171 _ _ rfl) rfl (congrArg Prod.fst (ly_k I.1.1.1 77 rfl)) rfl (ly_g I.1.1.1 77 33 99 rfl) ?_
      refine av_wp_sqF ck_171 1 (pc' := 39) (lv' := [some (.inr (.inr (.inl (some (77))))), some (.inl k), some (.inl x), some (.inl v15)]) (st' := [.inl x, .inr (.inr (.inl (some (99))))]) (h' := h) rfl ?_
      obtain ⟨v17, e18⟩ : ∃ v, hA h 99 (Int.toNat (x)) = v := ⟨_, rfl⟩
      have g19 : -1 ≤ hA h 99 (Int.toNat (x)) ∧ hA h 99 (Int.toNat (x)) ≤ 1999 := im_w I.1.1 99 (by decide) (by decide) _
      rw [e18] at g19
      refine wq_al (p' := 40) (n := 12) (ck_171 _ _ rfl) rfl (ly_k I.1.1.1 99 rfl) (by omega) (e18) ?_
      refine wq_k1 (p' := 43) (ck_171 _ _ rfl) rfl ⟨by omega, by omega⟩ (fun c20 => ?_) (fun c21 => ?_)
      · have c20 : v17 < (0) := c20
        refine av_wp_sqF ck_171 1 (pc' := 69) (lv' := [some (.inr (.inr (.inl (some (77))))), some (.inl k), some (.inl x), some (.inl v15)]) (st' := [.inl v15]) (h' := h) rfl ?_
        refine av_wp_ret (v := some (.inl v15)) (ck_171 _ _ rfl) rfl rfl ?_
        exact hq _
      · have c21 : (0) ≤ v17 := c21
        refine av_wp_sqF ck_171 1 (pc' := 44) (lv' := [some (.inr (.inr (.inl (some (77))))), some (.inl k), some (.inl x), some (.inl v15)]) (st' := [.inr (.inr (.inl (some (77))))]) (h' := h) rfl ?_
        refine wq_gr (p' := 47) (ck_171 _ _ rfl) rfl (congrArg Prod.fst (ly_k I.1.1.1 77 rfl)) rfl (ly_g I.1.1.1 77 26 95 rfl) ?_
        refine av_wp_sqF ck_171 1 (pc' := 49) (lv' := [some (.inr (.inr (.inl (some (77))))), some (.inl k), some (.inl x), some (.inl v15)]) (st' := [.inl (6), .inr (.inr (.inl (some (95))))]) (h' := h) rfl ?_
        obtain ⟨v22, e23⟩ : ∃ v, hA h 95 (Int.toNat ((6))) = v := ⟨_, rfl⟩
        refine wq_al (p' := 50) (n := 13) (ck_171 _ _ rfl) rfl (ly_k I.1.1.1 95 rfl) (by omega) (e23) ?_
        refine av_wp_sqF ck_171 1 (pc' := 51) (lv' := [some (.inr (.inr (.inl (some (77))))), some (.inl k), some (.inl x), some (.inl v15)]) (st' := [.inl (1), .inl v22]) (h' := h) rfl ?_
        refine wq_c2 (p' := 54) (ck_171 _ _ rfl) rfl ?_ ?_
        · refine av_wp_sqF ck_171 1 (pc' := 69) (lv' := [some (.inr (.inr (.inl (some (77))))), some (.inl k), some (.inl x), some (.inl v15)]) (st' := [.inl v15]) (h' := h) rfl ?_
          refine av_wp_ret (v := some (.inl v15)) (ck_171 _ _ rfl) rfl rfl ?_
          exact hq _
        · refine av_wp_sqF ck_171 2 (pc' := 56) (lv' := [some (.inr (.inr (.inl (some (77))))), some (.inl k), some (.inl x), some (.inl v15)]) (st' := [.inr (.inr (.inl (some (77)))), .inl v15]) (h' := h) rfl ?_
          refine wq_gr (p' := 59) (ck_171 _ _ rfl) rfl (congrArg Prod.fst (ly_k I.1.1.1 77 rfl)) rfl (ly_g I.1.1.1 77 33 99 rfl) ?_
          refine av_wp_sqF ck_171 1 (pc' := 60) (lv' := [some (.inr (.inr (.inl (some (77))))), some (.inl k), some (.inl x), some (.inl v15)]) (st' := [.inl x, .inr (.inr (.inl (some (99)))), .inl v15]) (h' := h) rfl ?_
          obtain ⟨v25, e26⟩ : ∃ v, hA h 99 (Int.toNat (x)) = v := ⟨_, rfl⟩
          have g27 : -1 ≤ hA h 99 (Int.toNat (x)) ∧ hA h 99 (Int.toNat (x)) ≤ 1999 := im_w I.1.1 99 (by decide) (by decide) _
          rw [e26] at g27
          refine wq_al (p' := 61) (n := 12) (ck_171 _ _ rfl) rfl (ly_k I.1.1.1 99 rfl) (by omega) (e26) ?_
          refine wq_c2 (p' := 64) (ck_171 _ _ rfl) rfl ?_ ?_
          · refine av_wp_sqF ck_171 1 (pc' := 69) (lv' := [some (.inr (.inr (.inl (some (77))))), some (.inl k), some (.inl x), some (.inl v15)]) (st' := [.inl v15]) (h' := h) rfl ?_
            refine av_wp_ret (v := some (.inl v15)) (ck_171 _ _ rfl) rfl rfl ?_
            exact hq _
          · refine av_wp_sqF ck_171 2 (pc' := 69) (lv' := [some (.inr (.inr (.inl (some (77))))), some (.inl k), some (.inl x), some (.inl v15)]) (st' := [.inl (-1)]) (h' := h) rfl ?_
            refine av_wp_ret (v := some (.inl (-1))) (ck_171 _ _ rfl) rfl rfl ?_
            exact hq _
    · have c11 : v6 ≠ x := c11
      refine av_wp_sqF ck_171 1 (pc' := 21) (lv' := [some (.inr (.inr (.inl (some (77))))), some (.inl k), some (.inl x), none]) (st' := [.inl (-1)]) (h' := h) rfl ?_
      refine av_wp_ret (v := some (.inl (-1))) (ck_171 _ _ rfl) rfl rfl ?_
      exact hq _

set_option maxRecDepth 100000 in
set_option maxHeartbeats 4000000 in
theorem ct_172 {g h : av_H} {n a m : Int} (I : IMF n a m h) (F : FM g h) (k : Int) (qk : 0 ≤ k ∧ k ≤ 11) (x : Int) (qx : -2147483648 ≤ x ∧ x ≤ 2147483647) {Q : Option av_V → av_H → Prop} (hq : ∀ v : Int, Q (some (.inl v)) h) : av_wp none cd_172 0 [some (.inr (.inr (.inl (some (77))))), some (.inl k), some (.inl x)] [] h Q := by
  have gn := im_n I.1.1
  rw [I.2.1] at gn
  have ga := im_a I.1.1
  rw [I.2.2.1] at ga
  have gm := im_cm I.1.1
  rw [I.2.2.2] at gm
  refine av_wp_sqF ck_172 2 (pc' := 2) (lv' := [some (.inr (.inr (.inl (some (77))))), some (.inl k), some (.inl x)]) (st' := [.inl k, .inr (.inr (.inl (some (77))))]) (h' := h) rfl ?_
  refine wq_cv (p' := 5) (av_qc (.invokevirtual 366) 169 1 0 8) 2 cd_169 [.inl k] (77) 8 [some (.inr (.inr (.inl (some (77))))), some (.inl k)] (ck_172 _ _ rfl) rfl rfl pp_169 rfl rfl rfl (congrArg Prod.fst (ly_k I.1.1.1 77 rfl)) rfl rfl rfl rfl ?_
  refine ct_169 I F (k) (by omega) (fun v1 p2 => ?_)
  show av_wp _ cd_172 5 [some (.inr (.inr (.inl (some (77))))), some (.inl k), some (.inl x)] [.inl v1] h _
  refine wq_k1 (p' := 8) (ck_172 _ _ rfl) rfl ⟨by omega, by omega⟩ (fun c3 => ?_) (fun c4 => ?_)
  · have c3 : v1 = (0) := c3
    refine av_wp_sqF ck_172 1 (pc' := 33) (lv' := [some (.inr (.inr (.inl (some (77))))), some (.inl k), some (.inl x)]) (st' := [.inl (-1)]) (h' := h) rfl ?_
    refine av_wp_ret (v := some (.inl (-1))) (ck_172 _ _ rfl) rfl rfl ?_
    exact hq _
  · have c4 : v1 ≠ (0) := c4
    refine av_wp_sqF ck_172 1 (pc' := 9) (lv' := [some (.inr (.inr (.inl (some (77))))), some (.inl k), some (.inl x)]) (st' := [.inr (.inr (.inl (some (77))))]) (h' := h) rfl ?_
    refine wq_gr (p' := 12) (ck_172 _ _ rfl) rfl (congrArg Prod.fst (ly_k I.1.1.1 77 rfl)) rfl (ly_g I.1.1.1 77 34 100 rfl) ?_
    refine av_wp_sqF ck_172 1 (pc' := 13) (lv' := [some (.inr (.inr (.inl (some (77))))), some (.inl k), some (.inl x)]) (st' := [.inl k, .inr (.inr (.inl (some (100))))]) (h' := h) rfl ?_
    obtain ⟨v5, e6⟩ : ∃ v, hA h 100 (Int.toNat (k)) = v := ⟨_, rfl⟩
    have g7 : -1 ≤ hA h 100 (Int.toNat (k)) ∧ hA h 100 (Int.toNat (k)) ≤ 11 := im_w I.1.1 100 (by decide) (by decide) _
    rw [e6] at g7
    have w8 := im_wr I.1 (Int.toNat (k)) (by omega)
    rw [e6] at w8
    refine wq_al (p' := 14) (n := 12) (ck_172 _ _ rfl) rfl (ly_k I.1.1.1 100 rfl) (by omega) (e6) ?_
    refine av_wp_sqF ck_172 1 (pc' := 15) (lv' := [some (.inr (.inr (.inl (some (77))))), some (.inl k), some (.inl x)]) (st' := [.inl x, .inl v5]) (h' := h) rfl ?_
    refine wq_k2 (p' := 18) (ck_172 _ _ rfl) rfl ⟨by omega, by omega⟩ ⟨by omega, by omega⟩ (fun c9 => ?_) (fun c10 => ?_)
    · have c9 : v5 ≠ x := c9
      refine av_wp_sqF ck_172 1 (pc' := 33) (lv' := [some (.inr (.inr (.inl (some (77))))), some (.inl k), some (.inl x)]) (st' := [.inl (-1)]) (h' := h) rfl ?_
      refine av_wp_ret (v := some (.inl (-1))) (ck_172 _ _ rfl) rfl rfl ?_
      exact hq _
    · have c10 : v5 = x := c10
      refine av_wp_sqF ck_172 3 (pc' := 21) (lv' := [some (.inr (.inr (.inl (some (77))))), some (.inl k), some (.inl x)]) (st' := [.inr (.inr (.inl (some (77)))), .inl k, .inr (.inr (.inl (some (77))))]) (h' := h) rfl ?_
      refine wq_gr (p' := 24) (ck_172 _ _ rfl) rfl (congrArg Prod.fst (ly_k I.1.1.1 77 rfl)) rfl (ly_g I.1.1.1 77 26 95 rfl) ?_
      refine av_wp_sqF ck_172 1 (pc' := 25) (lv' := [some (.inr (.inr (.inl (some (77))))), some (.inl k), some (.inl x)]) (st' := [.inl (5), .inr (.inr (.inl (some (95)))), .inl k, .inr (.inr (.inl (some (77))))]) (h' := h) rfl ?_
      obtain ⟨v11, e12⟩ : ∃ v, hA h 95 (Int.toNat ((5))) = v := ⟨_, rfl⟩
      refine wq_al (p' := 26) (n := 13) (ck_172 _ _ rfl) rfl (ly_k I.1.1.1 95 rfl) (by omega) (e12) ?_
      refine wq_cv (p' := 29) (av_qc (.invokevirtual 363) 166 2 0 8) 3 cd_166 [.inl v11, .inl k] (77) 8 [some (.inr (.inr (.inl (some (77))))), some (.inl k), some (.inl v11)] (ck_172 _ _ rfl) rfl rfl pp_166 rfl rfl rfl (congrArg Prod.fst (ly_k I.1.1.1 77 rfl)) rfl rfl rfl rfl ?_
      refine ct_166 I F (k) (by omega) (v11) (fun v14 => ?_)
      show av_wp _ cd_172 29 [some (.inr (.inr (.inl (some (77))))), some (.inl k), some (.inl x)] [.inl v14] h _
      refine av_wp_sqF ck_172 1 (pc' := 33) (lv' := [some (.inr (.inr (.inl (some (77))))), some (.inl k), some (.inl x)]) (st' := [.inl v14]) (h' := h) rfl ?_
      refine av_wp_ret (v := some (.inl v14)) (ck_172 _ _ rfl) rfl rfl ?_
      exact hq _

set_option maxRecDepth 100000 in
set_option maxHeartbeats 4000000 in
theorem ct_173 {g h : av_H} {n a m : Int} (I : IMF n a m h) (F : FM g h) (k : Int) (qk : 0 ≤ k ∧ k ≤ 11) (x : Int) (y : Int) {Q : Option av_V → av_H → Prop} (hq : ∀ h', IMF n a m h' → FM g h' → Q none h') : av_wp none cd_173 0 [some (.inr (.inr (.inl (some (77))))), some (.inl k), some (.inl x), some (.inl y)] [] h Q := by
  have gn := im_n I.1.1
  rw [I.2.1] at gn
  have ga := im_a I.1.1
  rw [I.2.2.1] at ga
  have gm := im_cm I.1.1
  rw [I.2.2.2] at gm
  refine av_wp_sqF ck_173 1 (pc' := 1) (lv' := [some (.inr (.inr (.inl (some (77))))), some (.inl k), some (.inl x), some (.inl y)]) (st' := [.inl x]) (h' := h) rfl ?_
  refine wq_c1 (p' := 4) (ck_173 _ _ rfl) rfl ?_ ?_
  · refine av_wp_ret (v := none) (ck_173 _ _ rfl) rfl rfl ?_
    exact hq h I F
  · refine av_wp_sqF ck_173 2 (pc' := 6) (lv' := [some (.inr (.inr (.inl (some (77))))), some (.inl k), some (.inl x), some (.inl y)]) (st' := [.inr (.inr (.inl (some (77)))), .inl x]) (h' := h) rfl ?_
    refine wq_gr (p' := 9) (ck_173 _ _ rfl) rfl (congrArg Prod.fst (ly_k I.1.1.1 77 rfl)) rfl (ly_g I.1.1.1 77 48 114 rfl) ?_
    refine av_wp_sqF ck_173 1 (pc' := 10) (lv' := [some (.inr (.inr (.inl (some (77))))), some (.inl k), some (.inl x), some (.inl y)]) (st' := [.inl k, .inr (.inr (.inl (some (114)))), .inl x]) (h' := h) rfl ?_
    obtain ⟨v1, e2⟩ : ∃ v, hA h 114 (Int.toNat (k)) = v := ⟨_, rfl⟩
    refine wq_al (p' := 11) (n := 12) (ck_173 _ _ rfl) rfl (ly_k I.1.1.1 114 rfl) (by omega) (e2) ?_
    refine wq_c2 (p' := 14) (ck_173 _ _ rfl) rfl ?_ ?_
    · refine av_wp_ret (v := none) (ck_173 _ _ rfl) rfl rfl ?_
      exact hq h I F
    · refine av_wp_sqF ck_173 2 (pc' := 16) (lv' := [some (.inr (.inr (.inl (some (77))))), some (.inl k), some (.inl x), some (.inl y)]) (st' := [.inr (.inr (.inl (some (77)))), .inl x]) (h' := h) rfl ?_
      refine wq_gr (p' := 19) (ck_173 _ _ rfl) rfl (congrArg Prod.fst (ly_k I.1.1.1 77 rfl)) rfl (ly_g I.1.1.1 77 48 114 rfl) ?_
      refine av_wp_sqF ck_173 1 (pc' := 20) (lv' := [some (.inr (.inr (.inl (some (77))))), some (.inl k), some (.inl x), some (.inl y)]) (st' := [.inl k, .inr (.inr (.inl (some (114)))), .inl x]) (h' := h) rfl ?_
      obtain ⟨v4, e5⟩ : ∃ v, hA h 114 (Int.toNat (k)) = v := ⟨_, rfl⟩
      refine wq_al (p' := 21) (n := 12) (ck_173 _ _ rfl) rfl (ly_k I.1.1.1 114 rfl) (by omega) (e5) ?_
      refine wq_c2 (p' := 24) (ck_173 _ _ rfl) rfl ?_ ?_
      · refine av_wp_sqF ck_173 1 (pc' := 45) (lv' := [some (.inr (.inr (.inl (some (77))))), some (.inl k), some (.inl x), some (.inl y)]) (st' := [.inr (.inr (.inl (some (77))))]) (h' := h) rfl ?_
        refine wq_gr (p' := 48) (ck_173 _ _ rfl) rfl (congrArg Prod.fst (ly_k I.1.1.1 77 rfl)) rfl (ly_g I.1.1.1 77 48 114 rfl) ?_
        refine av_wp_sqF ck_173 2 (pc' := 50) (lv' := [some (.inr (.inr (.inl (some (77))))), some (.inl k), some (.inl x), some (.inl y)]) (st' := [.inl x, .inl k, .inr (.inr (.inl (some (114))))]) (h' := h) rfl ?_
        refine im_as (p' := 51) (l := 12) rfl rfl I F (ly_k I.1.1.1 114 rfl) (by omega) (by omega) (fun h7 I8 F9 => ?_)
        refine av_wp_sqF ck_173 1 (pc' := 52) (lv' := [some (.inr (.inr (.inl (some (77))))), some (.inl k), some (.inl x), some (.inl y)]) (st' := [.inr (.inr (.inl (some (77))))]) (h' := h7) rfl ?_
        refine wq_gr (p' := 55) (ck_173 _ _ rfl) rfl (congrArg Prod.fst (ly_k I8.1.1.1 77 rfl)) rfl (ly_g I8.1.1.1 77 49 115 rfl) ?_
        refine av_wp_sqF ck_173 2 (pc' := 57) (lv' := [some (.inr (.inr (.inl (some (77))))), some (.inl k), some (.inl x), some (.inl y)]) (st' := [.inl y, .inl k, .inr (.inr (.inl (some (115))))]) (h' := h7) rfl ?_
        refine im_as (p' := 58) (l := 12) rfl rfl I8 F9 (ly_k I8.1.1.1 115 rfl) (by omega) (by omega) (fun h10 I11 F12 => ?_)
        refine av_wp_ret (v := none) (ck_173 _ _ rfl) rfl rfl ?_
        exact hq h10 I11 F12
      · refine av_wp_sqF ck_173 1 (pc' := 25) (lv' := [some (.inr (.inr (.inl (some (77))))), some (.inl k), some (.inl x), some (.inl y)]) (st' := [.inr (.inr (.inl (some (77))))]) (h' := h) rfl ?_
        refine wq_gr (p' := 28) (ck_173 _ _ rfl) rfl (congrArg Prod.fst (ly_k I.1.1.1 77 rfl)) rfl (ly_g I.1.1.1 77 49 115 rfl) ?_
        refine av_wp_sqF ck_173 1 (pc' := 29) (lv' := [some (.inr (.inr (.inl (some (77))))), some (.inl k), some (.inl x), some (.inl y)]) (st' := [.inl k, .inr (.inr (.inl (some (115))))]) (h' := h) rfl ?_
        obtain ⟨v13, e14⟩ : ∃ v, hA h 115 (Int.toNat (k)) = v := ⟨_, rfl⟩
        refine wq_al (p' := 30) (n := 12) (ck_173 _ _ rfl) rfl (ly_k I.1.1.1 115 rfl) (by omega) (e14) ?_
        refine wq_c1 (p' := 33) (ck_173 _ _ rfl) rfl ?_ ?_
        · refine av_wp_sqF ck_173 1 (pc' := 45) (lv' := [some (.inr (.inr (.inl (some (77))))), some (.inl k), some (.inl x), some (.inl y)]) (st' := [.inr (.inr (.inl (some (77))))]) (h' := h) rfl ?_
          refine wq_gr (p' := 48) (ck_173 _ _ rfl) rfl (congrArg Prod.fst (ly_k I.1.1.1 77 rfl)) rfl (ly_g I.1.1.1 77 48 114 rfl) ?_
          refine av_wp_sqF ck_173 2 (pc' := 50) (lv' := [some (.inr (.inr (.inl (some (77))))), some (.inl k), some (.inl x), some (.inl y)]) (st' := [.inl x, .inl k, .inr (.inr (.inl (some (114))))]) (h' := h) rfl ?_
          refine im_as (p' := 51) (l := 12) rfl rfl I F (ly_k I.1.1.1 114 rfl) (by omega) (by omega) (fun h16 I17 F18 => ?_)
          refine av_wp_sqF ck_173 1 (pc' := 52) (lv' := [some (.inr (.inr (.inl (some (77))))), some (.inl k), some (.inl x), some (.inl y)]) (st' := [.inr (.inr (.inl (some (77))))]) (h' := h16) rfl ?_
          refine wq_gr (p' := 55) (ck_173 _ _ rfl) rfl (congrArg Prod.fst (ly_k I17.1.1.1 77 rfl)) rfl (ly_g I17.1.1.1 77 49 115 rfl) ?_
          refine av_wp_sqF ck_173 2 (pc' := 57) (lv' := [some (.inr (.inr (.inl (some (77))))), some (.inl k), some (.inl x), some (.inl y)]) (st' := [.inl y, .inl k, .inr (.inr (.inl (some (115))))]) (h' := h16) rfl ?_
          refine im_as (p' := 58) (l := 12) rfl rfl I17 F18 (ly_k I17.1.1.1 115 rfl) (by omega) (by omega) (fun h19 I20 F21 => ?_)
          refine av_wp_ret (v := none) (ck_173 _ _ rfl) rfl rfl ?_
          exact hq h19 I20 F21
        · refine av_wp_sqF ck_173 1 (pc' := 34) (lv' := [some (.inr (.inr (.inl (some (77))))), some (.inl k), some (.inl x), some (.inl y)]) (st' := [.inr (.inr (.inl (some (77))))]) (h' := h) rfl ?_
          refine wq_gr (p' := 37) (ck_173 _ _ rfl) rfl (congrArg Prod.fst (ly_k I.1.1.1 77 rfl)) rfl (ly_g I.1.1.1 77 49 115 rfl) ?_
          refine av_wp_sqF ck_173 1 (pc' := 38) (lv' := [some (.inr (.inr (.inl (some (77))))), some (.inl k), some (.inl x), some (.inl y)]) (st' := [.inl k, .inr (.inr (.inl (some (115))))]) (h' := h) rfl ?_
          obtain ⟨v22, e23⟩ : ∃ v, hA h 115 (Int.toNat (k)) = v := ⟨_, rfl⟩
          refine wq_al (p' := 39) (n := 12) (ck_173 _ _ rfl) rfl (ly_k I.1.1.1 115 rfl) (by omega) (e23) ?_
          refine av_wp_sqF ck_173 1 (pc' := 40) (lv' := [some (.inr (.inr (.inl (some (77))))), some (.inl k), some (.inl x), some (.inl y)]) (st' := [.inl y, .inl v22]) (h' := h) rfl ?_
          refine wq_c2 (p' := 43) (ck_173 _ _ rfl) rfl ?_ ?_
          · refine av_wp_sqF ck_173 1 (pc' := 45) (lv' := [some (.inr (.inr (.inl (some (77))))), some (.inl k), some (.inl x), some (.inl y)]) (st' := [.inr (.inr (.inl (some (77))))]) (h' := h) rfl ?_
            refine wq_gr (p' := 48) (ck_173 _ _ rfl) rfl (congrArg Prod.fst (ly_k I.1.1.1 77 rfl)) rfl (ly_g I.1.1.1 77 48 114 rfl) ?_
            refine av_wp_sqF ck_173 2 (pc' := 50) (lv' := [some (.inr (.inr (.inl (some (77))))), some (.inl k), some (.inl x), some (.inl y)]) (st' := [.inl x, .inl k, .inr (.inr (.inl (some (114))))]) (h' := h) rfl ?_
            refine im_as (p' := 51) (l := 12) rfl rfl I F (ly_k I.1.1.1 114 rfl) (by omega) (by omega) (fun h25 I26 F27 => ?_)
            refine av_wp_sqF ck_173 1 (pc' := 52) (lv' := [some (.inr (.inr (.inl (some (77))))), some (.inl k), some (.inl x), some (.inl y)]) (st' := [.inr (.inr (.inl (some (77))))]) (h' := h25) rfl ?_
            refine wq_gr (p' := 55) (ck_173 _ _ rfl) rfl (congrArg Prod.fst (ly_k I26.1.1.1 77 rfl)) rfl (ly_g I26.1.1.1 77 49 115 rfl) ?_
            refine av_wp_sqF ck_173 2 (pc' := 57) (lv' := [some (.inr (.inr (.inl (some (77))))), some (.inl k), some (.inl x), some (.inl y)]) (st' := [.inl y, .inl k, .inr (.inr (.inl (some (115))))]) (h' := h25) rfl ?_
            refine im_as (p' := 58) (l := 12) rfl rfl I26 F27 (ly_k I26.1.1.1 115 rfl) (by omega) (by omega) (fun h28 I29 F30 => ?_)
            refine av_wp_ret (v := none) (ck_173 _ _ rfl) rfl rfl ?_
            exact hq h28 I29 F30
          · refine av_wp_ret (v := none) (ck_173 _ _ rfl) rfl rfl ?_
            exact hq h I F

set_option maxRecDepth 100000 in
set_option maxHeartbeats 4000000 in
theorem ct_175 {g h : av_H} {n a m : Int} (I : IMF n a m h) (F : FM g h) (k : Int) (qk : 0 ≤ k ∧ k ≤ 11) (x : Int) {Q : Option av_V → av_H → Prop} (hq : ∀ v : Int, (v = 0 ∨ v = 1) → Q (some (.inl v)) h) : av_wp none cd_175 0 [some (.inr (.inr (.inl (some (77))))), some (.inl k), some (.inl x)] [] h Q := by
  have gn := im_n I.1.1
  rw [I.2.1] at gn
  have ga := im_a I.1.1
  rw [I.2.2.1] at ga
  have gm := im_cm I.1.1
  rw [I.2.2.2] at gm
  refine av_wp_sqF ck_175 1 (pc' := 1) (lv' := [some (.inr (.inr (.inl (some (77))))), some (.inl k), some (.inl x)]) (st' := [.inr (.inr (.inl (some (77))))]) (h' := h) rfl ?_
  refine wq_gr (p' := 4) (ck_175 _ _ rfl) rfl (congrArg Prod.fst (ly_k I.1.1.1 77 rfl)) rfl (ly_g I.1.1.1 77 47 113 rfl) ?_
  refine av_wp_sqF ck_175 1 (pc' := 5) (lv' := [some (.inr (.inr (.inl (some (77))))), some (.inl k), some (.inl x)]) (st' := [.inl k, .inr (.inr (.inl (some (113))))]) (h' := h) rfl ?_
  obtain ⟨v1, e2⟩ : ∃ v, hA h 113 (Int.toNat (k)) = v := ⟨_, rfl⟩
  refine wq_al (p' := 6) (n := 12) (ck_175 _ _ rfl) rfl (ly_k I.1.1.1 113 rfl) (by omega) (e2) ?_
  refine wq_c1 (p' := 9) (ck_175 _ _ rfl) rfl ?_ ?_
  · refine av_wp_sqF ck_175 1 (pc' := 34) (lv' := [some (.inr (.inr (.inl (some (77))))), some (.inl k), some (.inl x)]) (st' := [.inl (0)]) (h' := h) rfl ?_
    refine av_wp_ret (v := some (.inl (0))) (ck_175 _ _ rfl) rfl rfl ?_
    exact hq _ (by omega)
  · refine av_wp_sqF ck_175 2 (pc' := 11) (lv' := [some (.inr (.inr (.inl (some (77))))), some (.inl k), some (.inl x)]) (st' := [.inr (.inr (.inl (some (77)))), .inl x]) (h' := h) rfl ?_
    refine wq_gr (p' := 14) (ck_175 _ _ rfl) rfl (congrArg Prod.fst (ly_k I.1.1.1 77 rfl)) rfl (ly_g I.1.1.1 77 47 113 rfl) ?_
    refine av_wp_sqF ck_175 1 (pc' := 15) (lv' := [some (.inr (.inr (.inl (some (77))))), some (.inl k), some (.inl x)]) (st' := [.inl k, .inr (.inr (.inl (some (113)))), .inl x]) (h' := h) rfl ?_
    obtain ⟨v4, e5⟩ : ∃ v, hA h 113 (Int.toNat (k)) = v := ⟨_, rfl⟩
    refine wq_al (p' := 16) (n := 12) (ck_175 _ _ rfl) rfl (ly_k I.1.1.1 113 rfl) (by omega) (e5) ?_
    refine wq_c2 (p' := 19) (ck_175 _ _ rfl) rfl ?_ ?_
    · refine av_wp_sqF ck_175 1 (pc' := 34) (lv' := [some (.inr (.inr (.inl (some (77))))), some (.inl k), some (.inl x)]) (st' := [.inl (0)]) (h' := h) rfl ?_
      refine av_wp_ret (v := some (.inl (0))) (ck_175 _ _ rfl) rfl rfl ?_
      exact hq _ (by omega)
    · refine av_wp_sqF ck_175 2 (pc' := 21) (lv' := [some (.inr (.inr (.inl (some (77))))), some (.inl k), some (.inl x)]) (st' := [.inr (.inr (.inl (some (77)))), .inl x]) (h' := h) rfl ?_
      refine wq_gr (p' := 24) (ck_175 _ _ rfl) rfl (congrArg Prod.fst (ly_k I.1.1.1 77 rfl)) rfl (ly_g I.1.1.1 77 48 114 rfl) ?_
      refine av_wp_sqF ck_175 1 (pc' := 25) (lv' := [some (.inr (.inr (.inl (some (77))))), some (.inl k), some (.inl x)]) (st' := [.inl k, .inr (.inr (.inl (some (114)))), .inl x]) (h' := h) rfl ?_
      obtain ⟨v7, e8⟩ : ∃ v, hA h 114 (Int.toNat (k)) = v := ⟨_, rfl⟩
      refine wq_al (p' := 26) (n := 12) (ck_175 _ _ rfl) rfl (ly_k I.1.1.1 114 rfl) (by omega) (e8) ?_
      refine wq_c2 (p' := 29) (ck_175 _ _ rfl) rfl ?_ ?_
      · refine av_wp_sqF ck_175 1 (pc' := 34) (lv' := [some (.inr (.inr (.inl (some (77))))), some (.inl k), some (.inl x)]) (st' := [.inl (0)]) (h' := h) rfl ?_
        refine av_wp_ret (v := some (.inl (0))) (ck_175 _ _ rfl) rfl rfl ?_
        exact hq _ (by omega)
      · refine av_wp_sqF ck_175 2 (pc' := 34) (lv' := [some (.inr (.inr (.inl (some (77))))), some (.inl k), some (.inl x)]) (st' := [.inl (1)]) (h' := h) rfl ?_
        refine av_wp_ret (v := some (.inl (1))) (ck_175 _ _ rfl) rfl rfl ?_
        exact hq _ (by omega)

set_option maxRecDepth 100000 in
set_option maxHeartbeats 4000000 in
theorem ct_176 {g h : av_H} {n a m : Int} (I : IMF n a m h) (F : FM g h) (k : Int) (qk : 0 ≤ k ∧ k ≤ 11) {Q : Option av_V → av_H → Prop} (hq : ∀ v : Int, Q (some (.inl v)) h) : av_wp none cd_176 0 [some (.inr (.inr (.inl (some (77))))), some (.inl k)] [] h Q := by
  have gn := im_n I.1.1
  rw [I.2.1] at gn
  have ga := im_a I.1.1
  rw [I.2.2.1] at ga
  have gm := im_cm I.1.1
  rw [I.2.2.2] at gm
  refine av_wp_sqF ck_176 1 (pc' := 1) (lv' := [some (.inr (.inr (.inl (some (77))))), some (.inl k)]) (st' := [.inr (.inr (.inl (some (77))))]) (h' := h) rfl ?_
  refine wq_gr (p' := 4) (ck_176 _ _ rfl) rfl (congrArg Prod.fst (ly_k I.1.1.1 77 rfl)) rfl (ly_g I.1.1.1 77 30 96 rfl) ?_
  refine av_wp_sqF ck_176 1 (pc' := 5) (lv' := [some (.inr (.inr (.inl (some (77))))), some (.inl k)]) (st' := [.inl k, .inr (.inr (.inl (some (96))))]) (h' := h) rfl ?_
  obtain ⟨v1, e2⟩ : ∃ v, hA h 96 (Int.toNat (k)) = v := ⟨_, rfl⟩
  have g3 : 0 ≤ hA h 96 (Int.toNat (k)) ∧ hA h 96 (Int.toNat (k)) ≤ 7 := im_w I.1.1 96 (by decide) (by decide) _
  rw [e2] at g3
  refine wq_al (p' := 6) (n := 12) (ck_176 _ _ rfl) rfl (ly_k I.1.1.1 96 rfl) (by omega) (e2) ?_
  refine av_wp_sqF ck_176 1 (pc' := 8) (lv' := [some (.inr (.inr (.inl (some (77))))), some (.inl k)]) (st' := [.inl (6), .inl v1]) (h' := h) rfl ?_
  refine wq_k2 (p' := 11) (ck_176 _ _ rfl) rfl ⟨by omega, by omega⟩ ⟨by omega, by omega⟩ (fun c4 => ?_) (fun c5 => ?_)
  · have c4 : v1 ≠ (6) := c4
    refine av_wp_sqF ck_176 3 (pc' := 23) (lv' := [some (.inr (.inr (.inl (some (77))))), some (.inl k)]) (st' := [.inr (.inr (.inl (some (77)))), .inl k, .inr (.inr (.inl (some (77))))]) (h' := h) rfl ?_
    refine wq_gr (p' := 26) (ck_176 _ _ rfl) rfl (congrArg Prod.fst (ly_k I.1.1.1 77 rfl)) rfl (ly_g I.1.1.1 77 26 95 rfl) ?_
    refine av_wp_sqF ck_176 1 (pc' := 27) (lv' := [some (.inr (.inr (.inl (some (77))))), some (.inl k)]) (st' := [.inr (.inr (.inl (some (77)))), .inr (.inr (.inl (some (95)))), .inl k, .inr (.inr (.inl (some (77))))]) (h' := h) rfl ?_
    refine wq_gr (p' := 30) (ck_176 _ _ rfl) rfl (congrArg Prod.fst (ly_k I.1.1.1 77 rfl)) rfl (ly_g I.1.1.1 77 31 97 rfl) ?_
    refine av_wp_sqF ck_176 1 (pc' := 31) (lv' := [some (.inr (.inr (.inl (some (77))))), some (.inl k)]) (st' := [.inl k, .inr (.inr (.inl (some (97)))), .inr (.inr (.inl (some (95)))), .inl k, .inr (.inr (.inl (some (77))))]) (h' := h) rfl ?_
    obtain ⟨v6, e7⟩ : ∃ v, hA h 97 (Int.toNat (k)) = v := ⟨_, rfl⟩
    have g8 : 0 ≤ hA h 97 (Int.toNat (k)) ∧ hA h 97 (Int.toNat (k)) ≤ 3 := im_w I.1.1 97 (by decide) (by decide) _
    rw [e7] at g8
    refine wq_al (p' := 32) (n := 12) (ck_176 _ _ rfl) rfl (ly_k I.1.1.1 97 rfl) (by omega) (e7) ?_
    refine av_wp_sqF ck_176 1 (pc' := 33) (lv' := [some (.inr (.inr (.inl (some (77))))), some (.inl k)]) (st' := [.inl (2), .inl v6, .inr (.inr (.inl (some (95)))), .inl k, .inr (.inr (.inl (some (77))))]) (h' := h) rfl ?_
    have J11 : ∀ (j9 : Int), (0 ≤ j9 ∧ j9 ≤ 3) →  av_wp none cd_176 46 [some (.inr (.inr (.inl (some (77))))), some (.inl k)] [.inl j9, .inr (.inr (.inl (some (95)))), .inl k, .inr (.inr (.inl (some (77))))] h Q := by
      intro j9 g10
      obtain ⟨v12, e13⟩ : ∃ v, hA h 95 (Int.toNat (j9)) = v := ⟨_, rfl⟩
      refine wq_al (p' := 47) (n := 13) (ck_176 _ _ rfl) rfl (ly_k I.1.1.1 95 rfl) (by omega) (e13) ?_
      refine wq_cv (p' := 50) (av_qc (.invokevirtual 363) 166 2 0 8) 3 cd_166 [.inl v12, .inl k] (77) 8 [some (.inr (.inr (.inl (some (77))))), some (.inl k), some (.inl v12)] (ck_176 _ _ rfl) rfl rfl pp_166 rfl rfl rfl (congrArg Prod.fst (ly_k I.1.1.1 77 rfl)) rfl rfl rfl rfl ?_
      refine ct_166 I F (k) (by omega) (v12) (fun v15 => ?_)
      show av_wp _ cd_176 50 [some (.inr (.inr (.inl (some (77))))), some (.inl k)] [.inl v15] h _
      refine av_wp_ret (v := some (.inl v15)) (ck_176 _ _ rfl) rfl rfl ?_
      exact hq _
    refine wq_k2 (p' := 36) (ck_176 _ _ rfl) rfl ⟨by omega, by omega⟩ ⟨by omega, by omega⟩ (fun c17 => ?_) (fun c18 => ?_)
    · have c17 : v6 ≤ (2) := c17
      refine av_wp_sqF ck_176 1 (pc' := 41) (lv' := [some (.inr (.inr (.inl (some (77))))), some (.inl k)]) (st' := [.inr (.inr (.inl (some (77)))), .inr (.inr (.inl (some (95)))), .inl k, .inr (.inr (.inl (some (77))))]) (h' := h) rfl ?_
      refine wq_gr (p' := 44) (ck_176 _ _ rfl) rfl (congrArg Prod.fst (ly_k I.1.1.1 77 rfl)) rfl (ly_g I.1.1.1 77 31 97 rfl) ?_
      refine av_wp_sqF ck_176 1 (pc' := 45) (lv' := [some (.inr (.inr (.inl (some (77))))), some (.inl k)]) (st' := [.inl k, .inr (.inr (.inl (some (97)))), .inr (.inr (.inl (some (95)))), .inl k, .inr (.inr (.inl (some (77))))]) (h' := h) rfl ?_
      obtain ⟨v19, e20⟩ : ∃ v, hA h 97 (Int.toNat (k)) = v := ⟨_, rfl⟩
      have g21 : 0 ≤ hA h 97 (Int.toNat (k)) ∧ hA h 97 (Int.toNat (k)) ≤ 3 := im_w I.1.1 97 (by decide) (by decide) _
      rw [e20] at g21
      refine wq_al (p' := 46) (n := 12) (ck_176 _ _ rfl) rfl (ly_k I.1.1.1 97 rfl) (by omega) (e20) ?_
      exact J11 (v19) (by omega)
    · have c18 : (2) < v6 := c18
      refine av_wp_sqF ck_176 2 (pc' := 46) (lv' := [some (.inr (.inr (.inl (some (77))))), some (.inl k)]) (st' := [.inl (2), .inr (.inr (.inl (some (95)))), .inl k, .inr (.inr (.inl (some (77))))]) (h' := h) rfl ?_
      exact J11 ((2)) (by omega)
  · have c5 : v1 = (6) := c5
    refine av_wp_sqF ck_176 1 (pc' := 12) (lv' := [some (.inr (.inr (.inl (some (77))))), some (.inl k)]) (st' := [.inr (.inr (.inl (some (77))))]) (h' := h) rfl ?_
    refine wq_gr (p' := 15) (ck_176 _ _ rfl) rfl (congrArg Prod.fst (ly_k I.1.1.1 77 rfl)) rfl (ly_g I.1.1.1 77 43 109 rfl) ?_
    refine av_wp_sqF ck_176 1 (pc' := 16) (lv' := [some (.inr (.inr (.inl (some (77))))), some (.inl k)]) (st' := [.inl k, .inr (.inr (.inl (some (109))))]) (h' := h) rfl ?_
    obtain ⟨v22, e23⟩ : ∃ v, hA h 109 (Int.toNat (k)) = v := ⟨_, rfl⟩
    refine wq_al (p' := 17) (n := 12) (ck_176 _ _ rfl) rfl (ly_k I.1.1.1 109 rfl) (by omega) (e23) ?_
    refine av_wp_sqF ck_176 1 (pc' := 50) (lv' := [some (.inr (.inr (.inl (some (77))))), some (.inl k)]) (st' := [.inl v22]) (h' := h) rfl ?_
    refine av_wp_ret (v := some (.inl v22)) (ck_176 _ _ rfl) rfl rfl ?_
    exact hq _

set_option maxRecDepth 100000 in
set_option maxHeartbeats 4000000 in
theorem ct_177 {g h : av_H} {n a m : Int} (I : IMF n a m h) (F : FM g h) (k : Int) (qk : 0 ≤ k ∧ k ≤ 11) (x : Int) {Q : Option av_V → av_H → Prop} (hq : ∀ v : Int, (v = 0 ∨ v = 1) → Q (some (.inl v)) h) : av_wp none cd_177 0 [some (.inr (.inr (.inl (some (77))))), some (.inl k), some (.inl x), none, none] [] h Q := by
  have gn := im_n I.1.1
  rw [I.2.1] at gn
  have ga := im_a I.1.1
  rw [I.2.2.1] at ga
  have gm := im_cm I.1.1
  rw [I.2.2.2] at gm
  refine av_wp_sqF ck_177 4 (pc' := 4) (lv' := [some (.inr (.inr (.inl (some (77))))), some (.inl k), some (.inl x), some (.inl (k + (1))), none]) (st' := []) (h' := h) rfl ?_
  have L4 : ∀ (m3 : Nat) (k1 : Int) (a2 : Option av_V), av_lg a2 = false → (0 ≤ k1 ∧ k1 ≤ 12) → (12 - k1).toNat = m3 → av_wp none cd_177 4 [some (.inr (.inr (.inl (some (77))))), some (.inl k), some (.inl x), some (.inl k1), a2] [] h Q := by
    intro m3
    induction m3 using Nat.strongRecOn with
    | _ m3 I5 =>
      intro k1 a2 g7 g8 e6
      have la2 := g7
      refine av_wp_sqF ck_177 2 (pc' := 6) (lv' := [some (.inr (.inr (.inl (some (77))))), some (.inl k), some (.inl x), some (.inl k1), a2]) (st' := [.inr (.inr (.inl (some (77)))), .inl k1]) (h' := h) rfl ?_
      refine wq_gi (p' := 9) (ck_177 _ _ rfl) rfl (congrArg Prod.fst (ly_k I.1.1.1 77 rfl)) rfl (I.2.1) ?_
      refine wq_k2 (p' := 12) (ck_177 _ _ rfl) rfl ⟨by omega, by omega⟩ ⟨by omega, by omega⟩ (fun c9 => ?_) (fun c10 => ?_)
      · have c9 : n ≤ k1 := c9
        refine av_wp_sqF ck_177 1 (pc' := 69) (lv' := [some (.inr (.inr (.inl (some (77))))), some (.inl k), some (.inl x), some (.inl k1), a2]) (st' := [.inl (0)]) (h' := h) rfl ?_
        refine av_wp_ret (v := some (.inl (0))) (ck_177 _ _ rfl) rfl rfl ?_
        exact hq _ (by omega)
      · have c10 : k1 < n := c10
        refine av_wp_sqF ck_177 1 (pc' := 13) (lv' := [some (.inr (.inr (.inl (some (77))))), some (.inl k), some (.inl x), some (.inl k1), a2]) (st' := [.inr (.inr (.inl (some (77))))]) (h' := h) rfl ?_
        refine wq_gr (p' := 16) (ck_177 _ _ rfl) rfl (congrArg Prod.fst (ly_k I.1.1.1 77 rfl)) rfl (ly_g I.1.1.1 77 30 96 rfl) ?_
        refine av_wp_sqF ck_177 1 (pc' := 17) (lv' := [some (.inr (.inr (.inl (some (77))))), some (.inl k), some (.inl x), some (.inl k1), a2]) (st' := [.inl k1, .inr (.inr (.inl (some (96))))]) (h' := h) rfl ?_
        obtain ⟨v11, e12⟩ : ∃ v, hA h 96 (Int.toNat (k1)) = v := ⟨_, rfl⟩
        have g13 : 0 ≤ hA h 96 (Int.toNat (k1)) ∧ hA h 96 (Int.toNat (k1)) ≤ 7 := im_w I.1.1 96 (by decide) (by decide) _
        rw [e12] at g13
        refine wq_al (p' := 18) (n := 12) (ck_177 _ _ rfl) rfl (ly_k I.1.1.1 96 rfl) (by omega) (e12) ?_
        refine av_wp_sqF ck_177 1 (pc' := 19) (lv' := [some (.inr (.inr (.inl (some (77))))), some (.inl k), some (.inl x), some (.inl k1), a2]) (st' := [.inl (5), .inl v11]) (h' := h) rfl ?_
        have J15 : ∀ (j14 : Int),  av_wp none cd_177 47 [some (.inr (.inr (.inl (some (77))))), some (.inl k), some (.inl x), some (.inl k1), a2] [.inl j14] h Q := by
          intro j14
          refine av_wp_sqF ck_177 2 (pc' := 51) (lv' := [some (.inr (.inr (.inl (some (77))))), some (.inl k), some (.inl x), some (.inl k1), some (.inl j14)]) (st' := [.inl j14]) (h' := h) rfl ?_
          refine wq_c1 (p' := 54) (ck_177 _ _ rfl) rfl ?_ ?_
          · refine av_wp_sqF ck_177 2 (pc' := 4) (lv' := [some (.inr (.inr (.inl (some (77))))), some (.inl k), some (.inl x), some (.inl (k1 + (1))), some (.inl j14)]) (st' := []) (h' := h) rfl ?_
            exact I5 _ (by omega) ((k1 + (1))) (some (.inl j14)) rfl (by omega) rfl
          · refine av_wp_sqF ck_177 2 (pc' := 57) (lv' := [some (.inr (.inr (.inl (some (77))))), some (.inl k), some (.inl x), some (.inl k1), some (.inl j14)]) (st' := [.inl x, .inl j14]) (h' := h) rfl ?_
            refine wq_c2 (p' := 60) (ck_177 _ _ rfl) rfl ?_ ?_
            · refine av_wp_sqF ck_177 2 (pc' := 4) (lv' := [some (.inr (.inr (.inl (some (77))))), some (.inl k), some (.inl x), some (.inl (k1 + (1))), some (.inl j14)]) (st' := []) (h' := h) rfl ?_
              exact I5 _ (by omega) ((k1 + (1))) (some (.inl j14)) rfl (by omega) rfl
            · refine av_wp_sqF ck_177 1 (pc' := 61) (lv' := [some (.inr (.inr (.inl (some (77))))), some (.inl k), some (.inl x), some (.inl k1), some (.inl j14)]) (st' := [.inl (1)]) (h' := h) rfl ?_
              refine av_wp_ret (v := some (.inl (1))) (ck_177 _ _ rfl) rfl rfl ?_
              exact hq _ (by omega)
        refine wq_k2 (p' := 22) (ck_177 _ _ rfl) rfl ⟨by omega, by omega⟩ ⟨by omega, by omega⟩ (fun c16 => ?_) (fun c17 => ?_)
        · have c16 : v11 ≠ (5) := c16
          refine av_wp_sqF ck_177 1 (pc' := 47) (lv' := [some (.inr (.inr (.inl (some (77))))), some (.inl k), some (.inl x), some (.inl k1), a2]) (st' := [.inl (-1)]) (h' := h) rfl ?_
          exact J15 ((-1))
        · have c17 : v11 = (5) := c17
          refine av_wp_sqF ck_177 1 (pc' := 23) (lv' := [some (.inr (.inr (.inl (some (77))))), some (.inl k), some (.inl x), some (.inl k1), a2]) (st' := [.inr (.inr (.inl (some (77))))]) (h' := h) rfl ?_
          refine wq_gr (p' := 26) (ck_177 _ _ rfl) rfl (congrArg Prod.fst (ly_k I.1.1.1 77 rfl)) rfl (ly_g I.1.1.1 77 34 100 rfl) ?_
          refine av_wp_sqF ck_177 1 (pc' := 27) (lv' := [some (.inr (.inr (.inl (some (77))))), some (.inl k), some (.inl x), some (.inl k1), a2]) (st' := [.inl k1, .inr (.inr (.inl (some (100))))]) (h' := h) rfl ?_
          obtain ⟨v18, e19⟩ : ∃ v, hA h 100 (Int.toNat (k1)) = v := ⟨_, rfl⟩
          have g20 : -1 ≤ hA h 100 (Int.toNat (k1)) ∧ hA h 100 (Int.toNat (k1)) ≤ 11 := im_w I.1.1 100 (by decide) (by decide) _
          rw [e19] at g20
          have w21 := im_wr I.1 (Int.toNat (k1)) (by omega)
          rw [e19] at w21
          refine wq_al (p' := 28) (n := 12) (ck_177 _ _ rfl) rfl (ly_k I.1.1.1 100 rfl) (by omega) (e19) ?_
          refine av_wp_sqF ck_177 1 (pc' := 29) (lv' := [some (.inr (.inr (.inl (some (77))))), some (.inl k), some (.inl x), some (.inl k1), a2]) (st' := [.inl k, .inl v18]) (h' := h) rfl ?_
          refine wq_k2 (p' := 32) (ck_177 _ _ rfl) rfl ⟨by omega, by omega⟩ ⟨by omega, by omega⟩ (fun c22 => ?_) (fun c23 => ?_)
          · have c22 : v18 ≠ k := c22
            refine av_wp_sqF ck_177 1 (pc' := 47) (lv' := [some (.inr (.inr (.inl (some (77))))), some (.inl k), some (.inl x), some (.inl k1), a2]) (st' := [.inl (-1)]) (h' := h) rfl ?_
            exact J15 ((-1))
          · have c23 : v18 = k := c23
            refine av_wp_sqF ck_177 3 (pc' := 35) (lv' := [some (.inr (.inr (.inl (some (77))))), some (.inl k), some (.inl x), some (.inl k1), a2]) (st' := [.inr (.inr (.inl (some (77)))), .inl k1, .inr (.inr (.inl (some (77))))]) (h' := h) rfl ?_
            refine wq_gr (p' := 38) (ck_177 _ _ rfl) rfl (congrArg Prod.fst (ly_k I.1.1.1 77 rfl)) rfl (ly_g I.1.1.1 77 26 95 rfl) ?_
            refine av_wp_sqF ck_177 1 (pc' := 39) (lv' := [some (.inr (.inr (.inl (some (77))))), some (.inl k), some (.inl x), some (.inl k1), a2]) (st' := [.inl (4), .inr (.inr (.inl (some (95)))), .inl k1, .inr (.inr (.inl (some (77))))]) (h' := h) rfl ?_
            obtain ⟨v24, e25⟩ : ∃ v, hA h 95 (Int.toNat ((4))) = v := ⟨_, rfl⟩
            refine wq_al (p' := 40) (n := 13) (ck_177 _ _ rfl) rfl (ly_k I.1.1.1 95 rfl) (by omega) (e25) ?_
            refine wq_cv (p' := 43) (av_qc (.invokevirtual 363) 166 2 0 8) 3 cd_166 [.inl v24, .inl k1] (77) 8 [some (.inr (.inr (.inl (some (77))))), some (.inl k1), some (.inl v24)] (ck_177 _ _ rfl) rfl rfl pp_166 rfl rfl rfl (congrArg Prod.fst (ly_k I.1.1.1 77 rfl)) rfl rfl rfl rfl ?_
            refine ct_166 I F (k1) (by omega) (v24) (fun v27 => ?_)
            show av_wp _ cd_177 43 [some (.inr (.inr (.inl (some (77))))), some (.inl k), some (.inl x), some (.inl k1), a2] [.inl v27] h _
            refine av_wp_sqF ck_177 1 (pc' := 47) (lv' := [some (.inr (.inr (.inl (some (77))))), some (.inl k), some (.inl x), some (.inl k1), a2]) (st' := [.inl v27]) (h' := h) rfl ?_
            exact J15 (v27)
  exact L4 _ ((k + (1))) (none) rfl (by omega) rfl

