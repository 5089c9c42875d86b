/-! LOST, WIRED, exactly: the reference -/
set_option maxRecDepth 100000 in
set_option maxHeartbeats 4000000 in
theorem cx_209 {g h : av_H} {n a m : Int} (I : IMF n a m h) (F : FM g h) {u ro bar : Nat → Int} {s : Nat} (en : n = (s : Int)) (B : RBB u ro bar s h) (W : RWF u ro s) {Q : Option av_V → av_H → Prop} (hq : ∀ (v : Int) a' m' h', IMF n a' m' h' → FM g h' → v = lcv u ro bar s → Q (some (.inl v)) h') : av_wp none cd_209 0 [some (.inr (.inr (.inl (some (77))))), none, none] [] h Q := by
  have gn := im_n I.1.1
  rw [I.2.1] at gn
  have ga := im_a I.1.1
  rw [I.2.2.1] at ga
  have gm := im_cm I.1.1
  rw [I.2.2.2] at gm
  have Z := ZE_rf (L := [107, 108, 109, 110, 111, 112, 113, 114, 115]) (K := [28, 29, 50, 51, 52, 53]) h
  refine av_wp_seq 1 (pc' := 1) (lv' := [some (.inr (.inr (.inl (some (77))))), none, none]) (st' := [.inr (.inr (.inl (some (77))))]) (h' := h) rfl ?_
  refine wq_cv (p' := 4) (av_qc (.invokevirtual 424) 163 0 0 8) 4 cd_163 [] (77) 8 [some (.inr (.inr (.inl (some (77))))), none, none, none] rfl rfl rfl pp_163 rfl rfl rfl (congrArg Prod.fst (ly_k I.1.1.1 77 rfl)) rfl rfl rfl rfl ?_
  refine cy_163 I.1 I.2.1 F en B (fun a1 m2 h3 z4 A5 Z6 I7 F8 => ?_)
  have z4a := z4.1
  have z4b := z4.2
  have g10 := im_a I7.1.1
  rw [I7.2.2.1] at g10
  have g11 := im_cm I7.1.1
  rw [I7.2.2.2] at g11
  have Z9 := ZE_tr Z (ZE_up Z6 rfl rfl)
  show av_wp _ cd_209 4 [some (.inr (.inr (.inl (some (77))))), none, none] [] h3 _
  refine av_wp_seq 1 (pc' := 5) (lv' := [some (.inr (.inr (.inl (some (77))))), none, none]) (st' := [.inr (.inr (.inl (some (77))))]) (h' := h3) rfl ?_
  refine wq_cv (p' := 8) (av_qc (.invokevirtual 427) 164 0 0 8) 1 cd_164 [] (77) 8 [some (.inr (.inr (.inl (some (77)))))] rfl rfl rfl pp_164 rfl rfl rfl (congrArg Prod.fst (ly_k I7.1.1.1 77 rfl)) rfl rfl rfl rfl ?_
  refine ct_164 I7 F8 (fun v12 p13 => ?_)
  show av_wp _ cd_209 8 [some (.inr (.inr (.inl (some (77))))), none, none] [.inl v12] h3 _
  refine wq_k1 (p' := 11) rfl rfl ⟨by omega, by omega⟩ (fun c14 => ?_) (fun c15 => ?_)
  · have c14 : v12 ≠ (0) := c14
    refine av_wp_seq 4 (pc' := 18) (lv' := [some (.inr (.inr (.inl (some (77))))), some (.inl (0)), some (.inl (0))]) (st' := []) (h' := h3) rfl ?_
    have L25 : ∀ (m24 : Nat) (k16 : Int) (k17 : Int) (h18 : av_H), k16 ≤ k17 → k17 ≤ m2 → (0 ≤ k16 ∧ k16 ≤ 1025) → (0 ≤ k17 ∧ k17 ≤ 1025) → IMF n a1 m2 h18 → FM g h18 → ZE [107, 108, 109, 110, 111, 112, 113, 114, 115] [28, 29, 50, 51, 52, 53] h h18 → RBA u ro bar s h18 → k16 = ta (fun q => (bgn u ro bar s q).2.2) (Int.toNat k17) 0 → (1025 - k17).toNat = m24 → av_wp none cd_209 18 [some (.inr (.inr (.inl (some (77))))), some (.inl k16), some (.inl k17)] [] h18 Q := by
      intro m24
      induction m24 using Nat.strongRecOn with
      | _ m24 I26 =>
        intro k16 k17 h18 g28 g29 g30 g31 I19 F20 Z21 X22 X23 e27
        refine av_wp_seq 1 (pc' := 19) (lv' := [some (.inr (.inr (.inl (some (77))))), some (.inl k16), some (.inl k17)]) (st' := [.inl k17]) (h' := h18) rfl ?_
        refine av_wp_seq 1 (pc' := 20) (lv' := [some (.inr (.inr (.inl (some (77))))), some (.inl k16), some (.inl k17)]) (st' := [.inr (.inr (.inl (some (77)))), .inl k17]) (h' := h18) rfl ?_
        refine wq_gi (p' := 23) rfl rfl (congrArg Prod.fst (ly_k I19.1.1.1 77 rfl)) rfl (I19.2.2.2) ?_
        refine wq_k2 (p' := 26) rfl rfl ⟨by omega, by omega⟩ ⟨by omega, by omega⟩ (fun c32 => ?_) (fun c33 => ?_)
        · have c32 : m2 ≤ k17 := c32
          refine av_wp_seq 1 (pc' := 53) (lv' := [some (.inr (.inr (.inl (some (77))))), some (.inl k16), some (.inl k17)]) (st' := [.inl k16]) (h' := h18) rfl ?_
          refine av_wp_ret (v := some (.inl k16)) rfl rfl rfl ?_
          exact hq _ _ _ h18 I19 F20 (by have z := cbv_d u s; unfold lcv; rw [if_neg (by omega), show Int.toNat (cbv u s) = Int.toNat k17 by omega]; exact X23)
        · have c33 : k17 < m2 := c33
          refine av_wp_seq 2 (pc' := 28) (lv' := [some (.inr (.inr (.inl (some (77))))), some (.inl k16), some (.inl k17)]) (st' := [.inl k17, .inr (.inr (.inl (some (77))))]) (h' := h18) rfl ?_
          refine wq_cv (p' := 31) (av_qc (.invokevirtual 431) 181 1 0 8) 2 cd_181 [.inl k17] (77) 8 [some (.inr (.inr (.inl (some (77))))), some (.inl k17)] rfl rfl rfl pp_181 rfl rfl rfl (congrArg Prod.fst (ly_k I19.1.1.1 77 rfl)) rfl rfl rfl rfl ?_
          refine cy_181 I19 F20 en X22 W (k17) (by omega) (fun h34 I35 F36 Z37 A38 O39 B40 L41 => ?_)
          have Z42 := ZE_tr Z21 (ZE_up Z37 rfl rfl)
          show av_wp _ cd_209 31 [some (.inr (.inr (.inl (some (77))))), some (.inl k16), some (.inl k17)] [] h34 _
          refine av_wp_seq 2 (pc' := 33) (lv' := [some (.inr (.inr (.inl (some (77))))), some (.inl k16), some (.inl k17)]) (st' := [.inr (.inr (.inl (some (77)))), .inl k16]) (h' := h34) rfl ?_
          obtain ⟨v43, e44⟩ : ∃ v, hF h34 77 50 = v := ⟨_, rfl⟩
          have g45 := im_has I35.1.1
          rw [e44] at g45
          refine wq_gb (p' := 36) rfl rfl (congrArg Prod.fst (ly_k I35.1.1.1 77 rfl)) rfl (e44) ?_
          refine wq_k1 (p' := 39) rfl rfl ⟨by omega, by omega⟩ (fun c46 => ?_) (fun c47 => ?_)
          · have c46 : v43 = (0) := c46
            refine av_wp_seq 5 (pc' := 18) (lv' := [some (.inr (.inr (.inl (some (77))))), some (.inl (k16 + (0))), some (.inl (k17 + (1)))]) (st' := []) (h' := h34) rfl ?_
            exact I26 _ (by omega) ((k16 + (0))) ((k17 + (1))) h34 (by omega) (by omega) (by omega) (by omega) I35 F36 Z42 A38 (by have z := (ta_9s (f := (fun q => (bgn u ro bar s q).2.2)) (k := Int.toNat k17) (by show (bgn u ro bar s ((Int.toNat k17 : Nat) : Int)).2.2 = 9999; rw [show ((Int.toNat k17 : Nat) : Int) = k17 by omega]; exact BRR_no B40 e44 (by omega))).1; rw [show Int.toNat (k17 + (1)) = Int.toNat k17 + 1 by omega, z, ← X23]; omega) rfl
          · have c47 : v43 ≠ (0) := c47
            refine av_wp_seq 6 (pc' := 18) (lv' := [some (.inr (.inr (.inl (some (77))))), some (.inl (k16 + (1))), some (.inl (k17 + (1)))]) (st' := []) (h' := h34) rfl ?_
            exact I26 _ (by omega) ((k16 + (1))) ((k17 + (1))) h34 (by omega) (by omega) (by omega) (by omega) I35 F36 Z42 A38 (by have z := (ta_bs (f := (fun q => (bgn u ro bar s q).2.2)) (k := Int.toNat k17) rfl (by show (bgn u ro bar s ((Int.toNat k17 : Nat) : Int)).2.2 ≠ 9999; rw [show ((Int.toNat k17 : Nat) : Int) = k17 by omega]; exact (BRR_ye B40 e44 (by omega)).1)).1; rw [show Int.toNat (k17 + (1)) = Int.toNat k17 + 1 by omega, z, ← X23]) rfl
    exact L25 _ ((0)) ((0)) h3 (by omega) (by omega) (by omega) (by omega) I7 F8 Z9 A5 rfl rfl
  · have c15 : v12 = (0) := c15
    refine av_wp_seq 1 (pc' := 13) (lv' := [some (.inr (.inr (.inl (some (77))))), none, none]) (st' := [.inl (-2)]) (h' := h3) rfl ?_
    refine av_wp_ret (v := some (.inl (-2))) rfl rfl rfl ?_
    exact hq _ _ _ h3 I7 F8 (by unfold lcv; rw [if_pos (by have := cbv_d u s; omega)])

set_option maxRecDepth 100000 in
set_option maxHeartbeats 4000000 in
theorem cx_210 {g h : av_H} {n a m : Int} (I : IMF n a m h) (F : FM g h) (x : Int) (qx : -2147483648 ≤ x ∧ x ≤ 2147483647) (l : Int) (ql : -2147483648 ≤ l ∧ l ≤ 2147483647) (k : Int) (qk : -2147483648 ≤ k ∧ k ≤ 2147483647) {Q : Option av_V → av_H → Prop} (hq : ∀ v : Int, ((v = 1 ∧ ((0 ≤ x ∧ x < hA h 78 0) ∧ (0 ≤ l ∧ l < hA h 79 0) ∧ (0 ≤ k ∧ k < hA h 81 (Int.toNat x)))) ∨ (v = 0 ∧ ¬ ((0 ≤ x ∧ x < hA h 78 0) ∧ (0 ≤ l ∧ l < hA h 79 0) ∧ (0 ≤ k ∧ k < hA h 81 (Int.toNat x))))) → Q (some (.inl v)) h) : av_wp none cd_210 0 [some (.inr (.inr (.inl (some (77))))), some (.inl x), some (.inl l), some (.inl k)] [] h Q := by
  have gn := im_n I.1.1
  rw [I.2.1] at gn
  have ga := im_a I.1.1
  rw [I.2.2.1] at ga
  have gm := im_cm I.1.1
  rw [I.2.2.2] at gm
  have G0 := I.1.1.2.1
  have g16 := G0.2.1
  have g8 := G0.2.2.1
  refine av_wp_seq 2 (pc' := 2) (lv' := [some (.inr (.inr (.inl (some (77))))), some (.inl x), some (.inl l), some (.inl k)]) (st' := [.inl x, .inr (.inr (.inl (some (77))))]) (h' := h) rfl ?_
  refine wq_cv (p' := 5) (av_qc (.invokevirtual 299) 149 1 0 8) 2 cd_149 [.inl x] (77) 8 [some (.inr (.inr (.inl (some (77))))), some (.inl x)] rfl rfl rfl pp_149 rfl rfl rfl (congrArg Prod.fst (ly_k I.1.1.1 77 rfl)) rfl rfl rfl rfl ?_
  refine cx_149 I.1 (x) (by omega) (fun v1 p2 => ?_)
  show av_wp _ cd_210 5 [some (.inr (.inr (.inl (some (77))))), some (.inl x), some (.inl l), some (.inl k)] [.inl v1] h _
  refine wq_k1 (p' := 8) rfl rfl ⟨by omega, by omega⟩ (fun c3 => ?_) (fun c4 => ?_)
  · have c3 : v1 = (0) := c3
    refine av_wp_seq 1 (pc' := 35) (lv' := [some (.inr (.inr (.inl (some (77))))), some (.inl x), some (.inl l), some (.inl k)]) (st' := [.inl (0)]) (h' := h) rfl ?_
    refine av_wp_ret (v := some (.inl (0))) rfl rfl rfl ?_
    exact hq _ (Or.inr ⟨rfl, by omega⟩)
  · have c4 : v1 ≠ (0) := c4
    refine av_wp_seq 2 (pc' := 10) (lv' := [some (.inr (.inr (.inl (some (77))))), some (.inl x), some (.inl l), some (.inl k)]) (st' := [.inl l, .inr (.inr (.inl (some (77))))]) (h' := h) rfl ?_
    refine wq_cv (p' := 13) (av_qc (.invokevirtual 345) 150 1 0 8) 2 cd_150 [.inl l] (77) 8 [some (.inr (.inr (.inl (some (77))))), some (.inl l)] rfl rfl rfl pp_150 rfl rfl rfl (congrArg Prod.fst (ly_k I.1.1.1 77 rfl)) rfl rfl rfl rfl ?_
    refine cx_150 I.1 (l) (by omega) (fun v5 p6 => ?_)
    show av_wp _ cd_210 13 [some (.inr (.inr (.inl (some (77))))), some (.inl x), some (.inl l), some (.inl k)] [.inl v5] h _
    refine wq_k1 (p' := 16) rfl rfl ⟨by omega, by omega⟩ (fun c7 => ?_) (fun c8 => ?_)
    · have c7 : v5 = (0) := c7
      refine av_wp_seq 1 (pc' := 35) (lv' := [some (.inr (.inr (.inl (some (77))))), some (.inl x), some (.inl l), some (.inl k)]) (st' := [.inl (0)]) (h' := h) rfl ?_
      refine av_wp_ret (v := some (.inl (0))) rfl rfl rfl ?_
      exact hq _ (Or.inr ⟨rfl, by omega⟩)
    · have c8 : v5 ≠ (0) := c8
      refine av_wp_seq 1 (pc' := 17) (lv' := [some (.inr (.inr (.inl (some (77))))), some (.inl x), some (.inl l), some (.inl k)]) (st' := [.inl k]) (h' := h) rfl ?_
      refine wq_k1 (p' := 20) rfl rfl ⟨by omega, by omega⟩ (fun c9 => ?_) (fun c10 => ?_)
      · have c9 : k < (0) := c9
        refine av_wp_seq 1 (pc' := 35) (lv' := [some (.inr (.inr (.inl (some (77))))), some (.inl x), some (.inl l), some (.inl k)]) (st' := [.inl (0)]) (h' := h) rfl ?_
        refine av_wp_ret (v := some (.inl (0))) rfl rfl rfl ?_
        exact hq _ (Or.inr ⟨rfl, by omega⟩)
      · have c10 : (0) ≤ k := c10
        refine av_wp_seq 2 (pc' := 22) (lv' := [some (.inr (.inr (.inl (some (77))))), some (.inl x), some (.inl l), some (.inl k)]) (st' := [.inr (.inr (.inl (some (77)))), .inl k]) (h' := h) rfl ?_
        refine wq_gr (p' := 25) rfl rfl (congrArg Prod.fst (ly_k I.1.1.1 77 rfl)) rfl (ly_g I.1.1.1 77 3 81 rfl) ?_
        refine av_wp_seq 1 (pc' := 26) (lv' := [some (.inr (.inr (.inl (some (77))))), some (.inl x), some (.inl l), some (.inl k)]) (st' := [.inl x, .inr (.inr (.inl (some (81)))), .inl k]) (h' := h) rfl ?_
        obtain ⟨v11, e12⟩ : ∃ v, hA h 81 (Int.toNat (x)) = v := ⟨_, rfl⟩
        have g13 := im_many I.1.1 (Int.toNat (x))
        rw [e12] at g13
        refine wq_al (p' := 27) (n := 80) rfl rfl (ly_k I.1.1.1 81 rfl) (by omega) (e12) ?_
        refine wq_k2 (p' := 30) rfl rfl ⟨by omega, by omega⟩ ⟨by omega, by omega⟩ (fun c14 => ?_) (fun c15 => ?_)
        · have c14 : v11 ≤ k := c14
          refine av_wp_seq 1 (pc' := 35) (lv' := [some (.inr (.inr (.inl (some (77))))), some (.inl x), some (.inl l), some (.inl k)]) (st' := [.inl (0)]) (h' := h) rfl ?_
          refine av_wp_ret (v := some (.inl (0))) rfl rfl rfl ?_
          exact hq _ (Or.inr ⟨rfl, by omega⟩)
        · have c15 : k < v11 := c15
          refine av_wp_seq 2 (pc' := 35) (lv' := [some (.inr (.inr (.inl (some (77))))), some (.inl x), some (.inl l), some (.inl k)]) (st' := [.inl (1)]) (h' := h) rfl ?_
          refine av_wp_ret (v := some (.inl (1))) rfl rfl rfl ?_
          exact hq _ (Or.inl ⟨rfl, by omega⟩)

set_option maxRecDepth 100000 in
set_option maxHeartbeats 4000000 in
theorem cx_211 {g h : av_H} {n a m : Int} (I : IMF n a m h) (F : FM g h) {U : Nat → Nat → Int} {S : Nat → Nat} {ro : Nat → Nat → Int} (RX : RXX g U S ro) (x : Int) (qx : -2147483648 ≤ x ∧ x ≤ 2147483647) (l : Int) (ql : -2147483648 ≤ l ∧ l ≤ 2147483647) (q : Int) (qq : -2147483648 ≤ q ∧ q ≤ 2147483647) (CB : ∀ c : Nat, (c : Int) < hA g 78 0 → CWB (U c) (S c)) {V : Nat → Int} (hV : ((0 ≤ x ∧ x < hA g 78 0) ∧ (0 ≤ l ∧ l < hA g 79 0) ∧ (0 ≤ q ∧ q < (S (Int.toNat x) : Int)) ∧ U (Int.toNat x) (21 * (Int.toNat q) + 4) ≤ 1) → CHG (lsx (U (Int.toNat x)) (Int.toNat q)) (S (Int.toNat x)) V) {Q : Option av_V → av_H → Prop} (hq : ∀ (v : Int) n' a' m' h', RSP ((0 ≤ x ∧ x < hA g 78 0) ∧ (0 ≤ l ∧ l < hA g 79 0) ∧ (0 ≤ q ∧ q < (S (Int.toNat x) : Int)) ∧ U (Int.toNat x) (21 * (Int.toNat q) + 4) ≤ 1) (-2) (lcv V (ro (Int.toNat l)) (brv V (srt U S (ro (Int.toNat l)) (Int.toNat x))) (S (Int.toNat x))) v → IMF n' a' m' h' → FM g h' → Q (some (.inl v)) h') : av_wp none cd_211 0 [some (.inr (.inr (.inl (some (77))))), some (.inl x), some (.inl l), some (.inl q)] [] h Q := by
  have gn := im_n I.1.1
  rw [I.2.1] at gn
  have ga := im_a I.1.1
  rw [I.2.2.1] at ga
  have gm := im_cm I.1.1
  rw [I.2.2.2] at gm
  have G0 := I.1.1.2.1
  have G16 : 0 ≤ hA g 78 0 ∧ hA g 78 0 ≤ 16 := by rw [← F.2.2.2.2.2.2 78 rfl]; exact G0.2.1
  have G8 : 0 ≤ hA g 79 0 ∧ hA g 79 0 ≤ 8 := by rw [← F.2.2.2.2.2.2 79 rfl]; exact G0.2.2.1
  have G6 : 0 ≤ hA g 80 0 ∧ hA g 80 0 ≤ 6 := by rw [← F.2.2.2.2.2.2 80 rfl]; exact G0.2.2.2.1
  refine av_wp_seq 4 (pc' := 4) (lv' := [some (.inr (.inr (.inl (some (77))))), some (.inl x), some (.inl l), some (.inl q)]) (st' := [.inl q, .inl l, .inl x, .inr (.inr (.inl (some (77))))]) (h' := h) rfl ?_
  refine wq_cv (p' := 7) (av_qc (.invokevirtual 476) 210 3 0 8) 4 cd_210 [.inl q, .inl l, .inl x] (77) 8 [some (.inr (.inr (.inl (some (77))))), some (.inl x), some (.inl l), some (.inl q)] rfl rfl rfl pp_210 rfl rfl rfl (congrArg Prod.fst (ly_k I.1.1.1 77 rfl)) rfl rfl rfl rfl ?_
  refine cx_210 I F (x) (by omega) (l) (by omega) (q) (by omega) (fun v1 p2 => ?_)
  rw [F.2.2.2.2.2.2 78 rfl, F.2.2.2.2.2.2 79 rfl, F.2.2.2.2.2.2 81 rfl] at p2
  have g3 : (0 ≤ x ∧ x < hA g 78 0) → hA g 81 (Int.toNat x) = (S (Int.toNat x) : Int) := fun z => (RX.1 (Int.toNat x) (by omega)).1
  have z4 : (v1 = 1 ∧ (0 ≤ x ∧ x < hA g 78 0) ∧ (0 ≤ l ∧ l < hA g 79 0) ∧ (0 ≤ q ∧ q < (S (Int.toNat x) : Int))) ∨ (v1 = 0 ∧ ¬ ((0 ≤ x ∧ x < hA g 78 0) ∧ (0 ≤ l ∧ l < hA g 79 0) ∧ (0 ≤ q ∧ q < (S (Int.toNat x) : Int)))) := by
    rcases p2 with y | y
    · have w := g3 y.2.1
      exact Or.inl ⟨y.1, y.2.1, y.2.2.1, by omega⟩
    · refine Or.inr ⟨y.1, fun u => y.2 ⟨u.1, u.2.1, ?_⟩⟩
      have w := g3 u.1
      omega
  clear p2 g3
  show av_wp _ cd_211 7 [some (.inr (.inr (.inl (some (77))))), some (.inl x), some (.inl l), some (.inl q)] [.inl v1] h _
  refine wq_k1 (p' := 10) rfl rfl ⟨by omega, by omega⟩ (fun c5 => ?_) (fun c6 => ?_)
  · have c5 : v1 = (0) := c5
    refine av_wp_seq 1 (pc' := 27) (lv' := [some (.inr (.inr (.inl (some (77))))), some (.inl x), some (.inl l), some (.inl q)]) (st' := [.inl (-2)]) (h' := h) rfl ?_
    refine av_wp_ret (v := some (.inl (-2))) rfl rfl rfl ?_
    exact hq _ _ _ _ h (Or.inr ⟨by omega, rfl⟩) I F
  · have c6 : v1 ≠ (0) := c6
    refine av_wp_seq 1 (pc' := 11) (lv' := [some (.inr (.inr (.inl (some (77))))), some (.inl x), some (.inl l), some (.inl q)]) (st' := [.inr (.inr (.inl (some (77))))]) (h' := h) rfl ?_
    refine wq_gr (p' := 14) rfl rfl (congrArg Prod.fst (ly_k I.1.1.1 77 rfl)) rfl (ly_g I.1.1.1 77 8 86 rfl) ?_
    refine av_wp_seq 5 (pc' := 20) (lv' := [some (.inr (.inr (.inl (some (77))))), some (.inl x), some (.inl l), some (.inl q)]) (st' := [.inl (((12) * x) + q), .inr (.inr (.inl (some (86))))]) (h' := h) rfl ?_
    obtain ⟨v7, e8⟩ : ∃ v, hA h 86 (Int.toNat ((((12) * x) + q))) = v := ⟨_, rfl⟩
    have g9 : 0 ≤ hA h 86 (Int.toNat ((((12) * x) + q))) ∧ hA h 86 (Int.toNat ((((12) * x) + q))) ≤ 3 := im_m I.1.1 86 (by decide) (by decide) _
    rw [e8] at g9
    have g11 := (RX.2.1 (Int.toNat x) (Int.toNat l) (by omega) (by omega)).2.2.2.2.2.2
    have y10 : U (Int.toNat x) (21 * (Int.toNat q) + 4) = v7 := ((RX.1 (Int.toNat x) (by omega)).2.1 (Int.toNat q) (by omega)).1.2.1.symm.trans ((congrArg (hA g 86) (by omega)).trans ((congrFun (F.2.2.2.2.2.2 86 rfl) _).symm.trans e8))
    refine wq_al (p' := 21) (n := 960) rfl rfl (ly_k I.1.1.1 86 rfl) (by omega) (e8) ?_
    refine av_wp_seq 1 (pc' := 22) (lv' := [some (.inr (.inr (.inl (some (77))))), some (.inl x), some (.inl l), some (.inl q)]) (st' := [.inl (1), .inl v7]) (h' := h) rfl ?_
    refine wq_k2 (p' := 25) rfl rfl ⟨by omega, by omega⟩ ⟨by omega, by omega⟩ (fun c12 => ?_) (fun c13 => ?_)
    · have c12 : v7 ≤ (1) := c12
      refine av_wp_seq 3 (pc' := 31) (lv' := [some (.inr (.inr (.inl (some (77))))), some (.inl x), some (.inl l), some (.inl q)]) (st' := [.inl (0), .inl l, .inr (.inr (.inl (some (77))))]) (h' := h) rfl ?_
      refine wq_cv (p' := 34) (av_qc (.invokevirtual 348) 159 2 0 8) 5 cd_159 [.inl (0), .inl l] (77) 8 [some (.inr (.inr (.inl (some (77))))), some (.inl l), some (.inl (0)), none, none] rfl rfl rfl pp_159 rfl rfl rfl (congrArg Prod.fst (ly_k I.1.1.1 77 rfl)) rfl rfl rfl rfl ?_
      refine cy_159 I F G8 G6 RX (l) (by omega) (fun h14 I15 F16 R17 Z18 => ?_)
      show av_wp _ cd_211 34 [some (.inr (.inr (.inl (some (77))))), some (.inl x), some (.inl l), some (.inl q)] [] h14 _
      refine av_wp_seq 2 (pc' := 36) (lv' := [some (.inr (.inr (.inl (some (77))))), some (.inl x), some (.inl l), some (.inl q)]) (st' := [.inl x, .inr (.inr (.inl (some (77))))]) (h' := h14) rfl ?_
      refine wq_cv (p' := 39) (av_qc (.invokevirtual 440) 185 1 0 8) 4 cd_185 [.inl x] (77) 8 [some (.inr (.inr (.inl (some (77))))), some (.inl x), none, none] rfl rfl rfl pp_185 rfl rfl rfl (congrArg Prod.fst (ly_k I15.1.1.1 77 rfl)) rfl rfl rfl rfl ?_
      refine cy_185 I15 F16 RX (by omega) (x) (by omega) l (by omega) R17 (fun n19 a20 m21 h22 e23 e24 A25 I26 F27 => ?_)
      have g28 := im_n I26.1.1
      rw [I26.2.1] at g28
      have g29 := im_a I26.1.1
      rw [I26.2.2.1] at g29
      have g30 := im_cm I26.1.1
      rw [I26.2.2.2] at g30
      show av_wp _ cd_211 39 [some (.inr (.inr (.inl (some (77))))), some (.inl x), some (.inl l), some (.inl q)] [] h22 _
      refine av_wp_seq 1 (pc' := 40) (lv' := [some (.inr (.inr (.inl (some (77))))), some (.inl x), some (.inl l), some (.inl q)]) (st' := [.inr (.inr (.inl (some (77))))]) (h' := h22) rfl ?_
      refine wq_gr (p' := 43) rfl rfl (congrArg Prod.fst (ly_k I26.1.1.1 77 rfl)) rfl (ly_g I26.1.1.1 77 32 98 rfl) ?_
      refine av_wp_seq 2 (pc' := 45) (lv' := [some (.inr (.inr (.inl (some (77))))), some (.inl x), some (.inl l), some (.inl q)]) (st' := [.inl (2), .inl q, .inr (.inr (.inl (some (98))))]) (h' := h22) rfl ?_
      refine xm_ws (p' := 46) (l := 12) rfl rfl I26 F27 (ly_k I26.1.1.1 98 rfl) (by omega) (by show _ ∧ _; decide) (by omega) (fun h31 I32 F33 e34 => ?_)
      refine av_wp_seq 1 (pc' := 47) (lv' := [some (.inr (.inr (.inl (some (77))))), some (.inl x), some (.inl l), some (.inl q)]) (st' := [.inr (.inr (.inl (some (77))))]) (h' := h31) rfl ?_
      refine wq_cv (p' := 50) (av_qc (.invokevirtual 479) 209 0 0 8) 3 cd_209 [] (77) 8 [some (.inr (.inr (.inl (some (77))))), none, none] rfl rfl rfl pp_209 rfl rfl rfl (congrArg Prod.fst (ly_k I32.1.1.1 77 rfl)) rfl rfl rfl rfl ?_
      have X36 := hV (by omega)
      have K35 := CHK_l (k := (Int.toNat q)) (RX.2.1 (Int.toNat x) (Int.toNat l) (by omega) (by omega)).1 (RX.2.1 (Int.toNat x) (Int.toNat l) (by omega) (by omega)).2.2.1 (CB (Int.toNat x) (by omega))
      have W38 : RWF V (ro (Int.toNat l)) (S (Int.toNat x)) := CHG_rwf K35 X36 (RX.2.1 (Int.toNat x) (Int.toNat l) (by omega) (by omega)) (lsx_1 (RX.2.1 (Int.toNat x) (Int.toNat l) (by omega) (by omega)).2.2.2.1)
      have B37 : RBB V (ro (Int.toNat l)) (brv V (srt U S (ro (Int.toNat l)) (Int.toNat x))) (S (Int.toNat x)) h31 := RBB_l A25.1 (by omega) X36 (fun a h1 h2 h3 => by rw [e34, hA_ne h3]) (by rw [e34, hA_wu])
      refine cx_209 I32 F33 e23 B37 W38 ?_
      intro v39 a41 m42 h43 I44 F45 p40
      have g46 := im_a I44.1.1
      rw [I44.2.2.1] at g46
      have g47 := im_cm I44.1.1
      rw [I44.2.2.2] at g47
      show av_wp _ cd_211 50 [some (.inr (.inr (.inl (some (77))))), some (.inl x), some (.inl l), some (.inl q)] [.inl v39] h43 _
      refine av_wp_ret (v := some (.inl v39)) rfl rfl rfl ?_
      exact hq _ _ _ _ h43 (Or.inl ⟨by omega, p40⟩) I44 F45
    · have c13 : (1) < v7 := c13
      refine av_wp_seq 1 (pc' := 27) (lv' := [some (.inr (.inr (.inl (some (77))))), some (.inl x), some (.inl l), some (.inl q)]) (st' := [.inl (-2)]) (h' := h) rfl ?_
      refine av_wp_ret (v := some (.inl (-2))) rfl rfl rfl ?_
      exact hq _ _ _ _ h (Or.inr ⟨by omega, rfl⟩) I F

set_option maxRecDepth 100000 in
set_option maxHeartbeats 4000000 in
theorem cx_212 {g h : av_H} {n a m : Int} (I : IMF n a m h) (F : FM g h) {U : Nat → Nat → Int} {S : Nat → Nat} {ro : Nat → Nat → Int} (RX : RXX g U S ro) (x : Int) (qx : -2147483648 ≤ x ∧ x ≤ 2147483647) (l : Int) (ql : -2147483648 ≤ l ∧ l ≤ 2147483647) (q : Int) (qq : -2147483648 ≤ q ∧ q ≤ 2147483647) (CB : ∀ c : Nat, (c : Int) < hA g 78 0 → CWB (U c) (S c)) {V : Nat → Int} (hV : ((0 ≤ x ∧ x < hA g 78 0) ∧ (0 ≤ l ∧ l < hA g 79 0) ∧ (0 ≤ q ∧ q < (S (Int.toNat x) : Int))) → CHG (wix (U (Int.toNat x)) (Int.toNat q)) (S (Int.toNat x)) V) {Q : Option av_V → av_H → Prop} (hq : ∀ (v : Int) n' a' m' h', RSP ((0 ≤ x ∧ x < hA g 78 0) ∧ (0 ≤ l ∧ l < hA g 79 0) ∧ (0 ≤ q ∧ q < (S (Int.toNat x) : Int))) (-2) (lcv V (ro (Int.toNat l)) (brv V (srt U S (ro (Int.toNat l)) (Int.toNat x))) (S (Int.toNat x))) v → IMF n' a' m' h' → FM g h' → Q (some (.inl v)) h') : av_wp none cd_212 0 [some (.inr (.inr (.inl (some (77))))), some (.inl x), some (.inl l), some (.inl q), none] [] h Q := by
  have gn := im_n I.1.1
  rw [I.2.1] at gn
  have ga := im_a I.1.1
  rw [I.2.2.1] at ga
  have gm := im_cm I.1.1
  rw [I.2.2.2] at gm
  have G0 := I.1.1.2.1
  have G16 : 0 ≤ hA g 78 0 ∧ hA g 78 0 ≤ 16 := by rw [← F.2.2.2.2.2.2 78 rfl]; exact G0.2.1
  have G8 : 0 ≤ hA g 79 0 ∧ hA g 79 0 ≤ 8 := by rw [← F.2.2.2.2.2.2 79 rfl]; exact G0.2.2.1
  have G6 : 0 ≤ hA g 80 0 ∧ hA g 80 0 ≤ 6 := by rw [← F.2.2.2.2.2.2 80 rfl]; exact G0.2.2.2.1
  refine av_wp_seq 4 (pc' := 4) (lv' := [some (.inr (.inr (.inl (some (77))))), some (.inl x), some (.inl l), some (.inl q), none]) (st' := [.inl q, .inl l, .inl x, .inr (.inr (.inl (some (77))))]) (h' := h) rfl ?_
  refine wq_cv (p' := 7) (av_qc (.invokevirtual 476) 210 3 0 8) 4 cd_210 [.inl q, .inl l, .inl x] (77) 8 [some (.inr (.inr (.inl (some (77))))), some (.inl x), some (.inl l), some (.inl q)] rfl rfl rfl pp_210 rfl rfl rfl (congrArg Prod.fst (ly_k I.1.1.1 77 rfl)) rfl rfl rfl rfl ?_
  refine cx_210 I F (x) (by omega) (l) (by omega) (q) (by omega) (fun v1 p2 => ?_)
  rw [F.2.2.2.2.2.2 78 rfl, F.2.2.2.2.2.2 79 rfl, F.2.2.2.2.2.2 81 rfl] at p2
  have g3 : (0 ≤ x ∧ x < hA g 78 0) → hA g 81 (Int.toNat x) = (S (Int.toNat x) : Int) := fun z => (RX.1 (Int.toNat x) (by omega)).1
  have z4 : (v1 = 1 ∧ (0 ≤ x ∧ x < hA g 78 0) ∧ (0 ≤ l ∧ l < hA g 79 0) ∧ (0 ≤ q ∧ q < (S (Int.toNat x) : Int))) ∨ (v1 = 0 ∧ ¬ ((0 ≤ x ∧ x < hA g 78 0) ∧ (0 ≤ l ∧ l < hA g 79 0) ∧ (0 ≤ q ∧ q < (S (Int.toNat x) : Int)))) := by
    rcases p2 with y | y
    · have w := g3 y.2.1
      exact Or.inl ⟨y.1, y.2.1, y.2.2.1, by omega⟩
    · refine Or.inr ⟨y.1, fun u => y.2 ⟨u.1, u.2.1, ?_⟩⟩
      have w := g3 u.1
      omega
  clear p2 g3
  show av_wp _ cd_212 7 [some (.inr (.inr (.inl (some (77))))), some (.inl x), some (.inl l), some (.inl q), none] [.inl v1] h _
  refine wq_k1 (p' := 10) rfl rfl ⟨by omega, by omega⟩ (fun c5 => ?_) (fun c6 => ?_)
  · have c5 : v1 ≠ (0) := c5
    refine av_wp_seq 3 (pc' := 16) (lv' := [some (.inr (.inr (.inl (some (77))))), some (.inl x), some (.inl l), some (.inl q), none]) (st' := [.inl (0), .inl l, .inr (.inr (.inl (some (77))))]) (h' := h) rfl ?_
    refine wq_cv (p' := 19) (av_qc (.invokevirtual 348) 159 2 0 8) 5 cd_159 [.inl (0), .inl l] (77) 8 [some (.inr (.inr (.inl (some (77))))), some (.inl l), some (.inl (0)), none, none] rfl rfl rfl pp_159 rfl rfl rfl (congrArg Prod.fst (ly_k I.1.1.1 77 rfl)) rfl rfl rfl rfl ?_
    refine cy_159 I F G8 G6 RX (l) (by omega) (fun h7 I8 F9 R10 Z11 => ?_)
    show av_wp _ cd_212 19 [some (.inr (.inr (.inl (some (77))))), some (.inl x), some (.inl l), some (.inl q), none] [] h7 _
    refine av_wp_seq 2 (pc' := 21) (lv' := [some (.inr (.inr (.inl (some (77))))), some (.inl x), some (.inl l), some (.inl q), none]) (st' := [.inl x, .inr (.inr (.inl (some (77))))]) (h' := h7) rfl ?_
    refine wq_cv (p' := 24) (av_qc (.invokevirtual 440) 185 1 0 8) 4 cd_185 [.inl x] (77) 8 [some (.inr (.inr (.inl (some (77))))), some (.inl x), none, none] rfl rfl rfl pp_185 rfl rfl rfl (congrArg Prod.fst (ly_k I8.1.1.1 77 rfl)) rfl rfl rfl rfl ?_
    refine cy_185 I8 F9 RX (by omega) (x) (by omega) l (by omega) R10 (fun n12 a13 m14 h15 e16 e17 A18 I19 F20 => ?_)
    have g21 := im_n I19.1.1
    rw [I19.2.1] at g21
    have g22 := im_a I19.1.1
    rw [I19.2.2.1] at g22
    have g23 := im_cm I19.1.1
    rw [I19.2.2.2] at g23
    show av_wp _ cd_212 24 [some (.inr (.inr (.inl (some (77))))), some (.inl x), some (.inl l), some (.inl q), none] [] h15 _
    refine av_wp_seq 1 (pc' := 25) (lv' := [some (.inr (.inr (.inl (some (77))))), some (.inl x), some (.inl l), some (.inl q), none]) (st' := [.inr (.inr (.inl (some (77))))]) (h' := h15) rfl ?_
    refine wq_gr (p' := 28) rfl rfl (congrArg Prod.fst (ly_k I19.1.1.1 77 rfl)) rfl (ly_g I19.1.1.1 77 32 98 rfl) ?_
    refine av_wp_seq 2 (pc' := 30) (lv' := [some (.inr (.inr (.inl (some (77))))), some (.inl x), some (.inl l), some (.inl q), none]) (st' := [.inl (0), .inl q, .inr (.inr (.inl (some (98))))]) (h' := h15) rfl ?_
    refine xm_ws (p' := 31) (l := 12) rfl rfl I19 F20 (ly_k I19.1.1.1 98 rfl) (by omega) (by show _ ∧ _; decide) (by omega) (fun h24 I25 F26 e27 => ?_)
    refine av_wp_seq 1 (pc' := 32) (lv' := [some (.inr (.inr (.inl (some (77))))), some (.inl x), some (.inl l), some (.inl q), none]) (st' := [.inr (.inr (.inl (some (77))))]) (h' := h24) rfl ?_
    refine wq_gr (p' := 35) rfl rfl (congrArg Prod.fst (ly_k I25.1.1.1 77 rfl)) rfl (ly_g I25.1.1.1 77 31 97 rfl) ?_
    refine av_wp_seq 2 (pc' := 37) (lv' := [some (.inr (.inr (.inl (some (77))))), some (.inl x), some (.inl l), some (.inl q), none]) (st' := [.inl (1), .inl q, .inr (.inr (.inl (some (97))))]) (h' := h24) rfl ?_
    refine xm_ws (p' := 38) (l := 12) rfl rfl I25 F26 (ly_k I25.1.1.1 97 rfl) (by omega) (by show _ ∧ _; decide) (by omega) (fun h28 I29 F30 e31 => ?_)
    refine av_wp_seq 6 (pc' := 48) (lv' := [some (.inr (.inr (.inl (some (77))))), some (.inl x), some (.inl l), some (.inl q), some (.inl (1))]) (st' := [.inr (.inr (.inl (some (77))))]) (h' := h28) rfl ?_
    refine wq_gr (p' := 51) rfl rfl (congrArg Prod.fst (ly_k I29.1.1.1 77 rfl)) rfl (ly_g I29.1.1.1 77 39 105 rfl) ?_
    refine av_wp_seq 6 (pc' := 58) (lv' := [some (.inr (.inr (.inl (some (77))))), some (.inl x), some (.inl l), some (.inl q), some (.inl (1))]) (st' := [.inl (0), .inl (((3) * q) + (1)), .inr (.inr (.inl (some (105))))]) (h' := h28) rfl ?_
    refine xm_ws (p' := 59) (l := 36) rfl rfl I29 F30 (ly_k I29.1.1.1 105 rfl) (by omega) (by show _ ∧ _; decide) (by omega) (fun h32 I33 F34 e35 => ?_)
    refine av_wp_seq 1 (pc' := 60) (lv' := [some (.inr (.inr (.inl (some (77))))), some (.inl x), some (.inl l), some (.inl q), some (.inl (1))]) (st' := [.inr (.inr (.inl (some (77))))]) (h' := h32) rfl ?_
    refine wq_gr (p' := 63) rfl rfl (congrArg Prod.fst (ly_k I33.1.1.1 77 rfl)) rfl (ly_g I33.1.1.1 77 40 106 rfl) ?_
    refine av_wp_seq 6 (pc' := 70) (lv' := [some (.inr (.inr (.inl (some (77))))), some (.inl x), some (.inl l), some (.inl q), some (.inl (1))]) (st' := [.inl (0), .inl (((3) * q) + (1)), .inr (.inr (.inl (some (106))))]) (h' := h32) rfl ?_
    refine xm_ws (p' := 71) (l := 36) rfl rfl I33 F34 (ly_k I33.1.1.1 106 rfl) (by omega) (by show _ ∧ _; decide) (by omega) (fun h36 I37 F38 e39 => ?_)
    refine av_wp_seq 6 (pc' := 48) (lv' := [some (.inr (.inr (.inl (some (77))))), some (.inl x), some (.inl l), some (.inl q), some (.inl (2))]) (st' := [.inr (.inr (.inl (some (77))))]) (h' := h36) rfl ?_
    refine wq_gr (p' := 51) rfl rfl (congrArg Prod.fst (ly_k I37.1.1.1 77 rfl)) rfl (ly_g I37.1.1.1 77 39 105 rfl) ?_
    refine av_wp_seq 6 (pc' := 58) (lv' := [some (.inr (.inr (.inl (some (77))))), some (.inl x), some (.inl l), some (.inl q), some (.inl (2))]) (st' := [.inl (0), .inl (((3) * q) + (2)), .inr (.inr (.inl (some (105))))]) (h' := h36) rfl ?_
    refine xm_ws (p' := 59) (l := 36) rfl rfl I37 F38 (ly_k I37.1.1.1 105 rfl) (by omega) (by show _ ∧ _; decide) (by omega) (fun h40 I41 F42 e43 => ?_)
    refine av_wp_seq 1 (pc' := 60) (lv' := [some (.inr (.inr (.inl (some (77))))), some (.inl x), some (.inl l), some (.inl q), some (.inl (2))]) (st' := [.inr (.inr (.inl (some (77))))]) (h' := h40) rfl ?_
    refine wq_gr (p' := 63) rfl rfl (congrArg Prod.fst (ly_k I41.1.1.1 77 rfl)) rfl (ly_g I41.1.1.1 77 40 106 rfl) ?_
    refine av_wp_seq 6 (pc' := 70) (lv' := [some (.inr (.inr (.inl (some (77))))), some (.inl x), some (.inl l), some (.inl q), some (.inl (2))]) (st' := [.inl (0), .inl (((3) * q) + (2)), .inr (.inr (.inl (some (106))))]) (h' := h40) rfl ?_
    refine xm_ws (p' := 71) (l := 36) rfl rfl I41 F42 (ly_k I41.1.1.1 106 rfl) (by omega) (by show _ ∧ _; decide) (by omega) (fun h44 I45 F46 e47 => ?_)
    refine av_wp_seq 6 (pc' := 78) (lv' := [some (.inr (.inr (.inl (some (77))))), some (.inl x), some (.inl l), some (.inl q), some (.inl (3))]) (st' := [.inr (.inr (.inl (some (77))))]) (h' := h44) rfl ?_
    refine wq_cv (p' := 81) (av_qc (.invokevirtual 479) 209 0 0 8) 3 cd_209 [] (77) 8 [some (.inr (.inr (.inl (some (77))))), none, none] rfl rfl rfl pp_209 rfl rfl rfl (congrArg Prod.fst (ly_k I45.1.1.1 77 rfl)) rfl rfl rfl rfl ?_
    have X49 := hV (by omega)
    have K48 := CHK_w (k := (Int.toNat q)) (RX.2.1 (Int.toNat x) (Int.toNat l) (by omega) (by omega)).1 (RX.2.1 (Int.toNat x) (Int.toNat l) (by omega) (by omega)).2.2.1 (CB (Int.toNat x) (by omega))
    have W51 : RWF V (ro (Int.toNat l)) (S (Int.toNat x)) := CHG_rwf K48 X49 (RX.2.1 (Int.toNat x) (Int.toNat l) (by omega) (by omega)) (wix_1 (RX.2.1 (Int.toNat x) (Int.toNat l) (by omega) (by omega)).2.2.2.1)
    have B50 : RBB V (ro (Int.toNat l)) (brv V (srt U S (ro (Int.toNat l)) (Int.toNat x))) (S (Int.toNat x)) h44 := by
      have j1 : ((((3) * q) + (1))).toNat = 3 * (Int.toNat q) + 1 := by omega
      have j2 : ((((3) * q) + (2))).toNat = 3 * (Int.toNat q) + 2 := by omega
      refine RBB_w A18.1 (by omega) X49 (CB (Int.toNat x) (by omega) (Int.toNat q) (by omega)).2.2.2.2.2 (fun a h1 h2 h3 h4 h5 h6 => ?_) ?_ ?_ ?_ ?_
      · rw [e47, hA_ne h6, e43, hA_ne h5, e39, hA_ne h6, e35, hA_ne h5, e31, hA_ne h3, e27, hA_ne h4]
      · rw [e47, hA_ne (by decide), e43, hA_ne (by decide), e39, hA_ne (by decide), e35, hA_ne (by decide), e31, hA_wu, e27, hA_ne (by decide)]
      · rw [e47, hA_ne (by decide), e43, hA_ne (by decide), e39, hA_ne (by decide), e35, hA_ne (by decide), e31, hA_ne (by decide), e27, hA_wu]
      · rw [e47, hA_ne (by decide), e43, hA_wu, e39, hA_ne (by decide), e35, hA_wu, e31, hA_ne (by decide), e27, hA_ne (by decide), j1, j2]
      · rw [e47, hA_wu, e43, hA_ne (by decide), e39, hA_wu, e35, hA_ne (by decide), e31, hA_ne (by decide), e27, hA_ne (by decide), j1, j2]
    refine cx_209 I45 F46 e16 B50 W51 ?_
    intro v52 a54 m55 h56 I57 F58 p53
    have g59 := im_a I57.1.1
    rw [I57.2.2.1] at g59
    have g60 := im_cm I57.1.1
    rw [I57.2.2.2] at g60
    show av_wp _ cd_212 81 [some (.inr (.inr (.inl (some (77))))), some (.inl x), some (.inl l), some (.inl q), some (.inl (3))] [.inl v52] h56 _
    refine av_wp_ret (v := some (.inl v52)) rfl rfl rfl ?_
    exact hq _ _ _ _ h56 (Or.inl ⟨by omega, p53⟩) I57 F58
  · have c6 : v1 = (0) := c6
    refine av_wp_seq 1 (pc' := 12) (lv' := [some (.inr (.inr (.inl (some (77))))), some (.inl x), some (.inl l), some (.inl q), none]) (st' := [.inl (-2)]) (h' := h) rfl ?_
    refine av_wp_ret (v := some (.inl (-2))) rfl rfl rfl ?_
    exact hq _ _ _ _ h (Or.inr ⟨by omega, rfl⟩) I F

