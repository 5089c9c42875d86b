/-! WRITE, exactly: the reference -/
/-- laws with the clauses of b behind them -/
def RXM (g : av_H) (U : Nat → Nat → Int) (S : Nat → Nat) (b : Int) (mx : Nat → Nat → Int) : Prop := (∀ l : Nat, (l : Int) < hA g 79 0 → ∀ j, j < 13 → lyf (hA g 93) (l : Int) b (Int.toNat (hA g 80 0)) j = mx l j) ∧ ∀ c l : Nat, (c : Int) < hA g 78 0 → (l : Int) < hA g 79 0 → RWF (U c) (mx l) (S c)
theorem cw_159 {g h : av_H} {n a m : Int} (I : IMF n a m h) (F : FM g h) (g8 : 0 ≤ hA g 79 0 ∧ hA g 79 0 ≤ 8) {U : Nat → Nat → Int} {S : Nat → Nat} {ro mx : Nat → Nat → Int} (R : RXX g U S ro) {b : Int} (M : RXM g U S b mx) (l : Int) (ql : 0 ≤ l ∧ l < hA g 79 0) {Q : Option av_V → av_H → Prop} (hq : ∀ h', IMF n a m h' → FM g h' → (∀ j, j < 13 → hA h' 95 j = mx (Int.toNat l) j) → Q none h') : av_wp none cd_159 0 [some (.inr (.inr (.inl (some (77))))), some (.inl l), some (.inl b), none, none] [] h Q := by
  refine cx_159 I F l (by omega) b (fun j h1 h2 => R.2.2.2.2.1 l j ql.1 ql.2 h1 h2) (fun c j h1 h2 h3 h4 => R.2.2.2.2.2 c j h1 h2 h3 h4) (fun h' I' F' e Z => hq h' I' F' (fun j hj => ?_))
  have y := M.1 (Int.toNat l) (by omega) j hj
  rw [Int.toNat_of_nonneg ql.1] at y
  rw [e j hj]
  exact y
theorem cw_185 {g h : av_H} {n a m : Int} (I : IMF n a m h) (F : FM g h) {U : Nat → Nat → Int} {S : Nat → Nat} {ro mx : Nat → Nat → Int} (R : RXX g U S ro) {b : Int} (M : RXM g U S b mx) (g16 : hA g 78 0 ≤ 16) (x : Int) (qx : 0 ≤ x ∧ x < hA g 78 0) (l : Int) (ql : 0 ≤ l ∧ l < hA g 79 0) (RO : ∀ j, j < 13 → hA h 95 j = mx (Int.toNat l) j) {Q : Option av_V → av_H → Prop} (hq : ∀ n' a' m' h', n' = (S (Int.toNat x) : Int) → RBA (U (Int.toNat x)) (mx (Int.toNat l)) (bxx U S (mx (Int.toNat l)) (Int.toNat x)) (S (Int.toNat x)) h' → IMF n' a' m' h' → FM g h' → Q none h') : av_wp none cd_185 0 [some (.inr (.inr (.inl (some (77))))), some (.inl x), none, none] [] h Q :=
  cx_185 I F x (by omega) qx.2 (fun c hc => R.1 c (by omega)) (fun c hc => M.2 c (Int.toNat l) (by omega) (by omega)) (fun c hc => R.2.2.1 c (by omega)) RO (fun n' a' m' h' e1 _ ra _ I' F' => hq n' a' m' h' e1 ra I' F')

set_option maxRecDepth 100000 in
set_option maxHeartbeats 4000000 in
theorem cx_203 {g h : av_H} {n a m : Int} (I : IMF n a m h) (F : FM g h) {U : Nat → Nat → Int} {S : Nat → Nat} {ro : Nat → Nat → Int} (RX : RXX g U S ro) {mx : Nat → Nat → Int} (x : Int) (qx : 0 ≤ x ∧ x < hA g 78 0) (b : Int) (MX : RXM g U S b mx) {Q : Option av_V → av_H → Prop} (hq : ∀ (v : Int) n' a' m' h', ((v = 1 ∧ (∀ l : Int, 0 ≤ l → l < (hA g 79 0) → SRE (U (Int.toNat x)) (mx (Int.toNat l)) (bxx U S (mx (Int.toNat l)) (Int.toNat x)) (S (Int.toNat x)))) ∨ (v = 0 ∧ ¬ (∀ l : Int, 0 ≤ l → l < (hA g 79 0) → SRE (U (Int.toNat x)) (mx (Int.toNat l)) (bxx U S (mx (Int.toNat l)) (Int.toNat x)) (S (Int.toNat x))))) → IMF n' a' m' h' → FM g h' → Q (some (.inl v)) h') : av_wp none cd_203 0 [some (.inr (.inr (.inl (some (77))))), some (.inl x), some (.inl b), none] [] h Q := by
  have gn := im_n I.1.1
  rw [I.2.1] at gn
  have ga := im_a I.1.1
  rw [I.2.2.1] at ga
  have gm := im_cm I.1.1
  rw [I.2.2.2] at gm
  have G0 := I.1.1.2.1
  have G16 : 0 ≤ hA g 78 0 ∧ hA g 78 0 ≤ 16 := by rw [← F.2.2.2.2.2.2 78 rfl]; exact G0.2.1
  have G8 : 0 ≤ hA g 79 0 ∧ hA g 79 0 ≤ 8 := by rw [← F.2.2.2.2.2.2 79 rfl]; exact G0.2.2.1
  have G6 : 0 ≤ hA g 80 0 ∧ hA g 80 0 ≤ 6 := by rw [← F.2.2.2.2.2.2 80 rfl]; exact G0.2.2.2.1
  refine av_wp_seq 2 (pc' := 2) (lv' := [some (.inr (.inr (.inl (some (77))))), some (.inl x), some (.inl b), some (.inl (0))]) (st' := []) (h' := h) rfl ?_
  have L10 : ∀ (m9 : Nat) (k1 : Int) (n5 : Int) (a6 : Int) (m7 : Int) (h2 : av_H), (∀ l : Int, 0 ≤ l → l < k1 → SRE (U (Int.toNat x)) (mx (Int.toNat l)) (bxx U S (mx (Int.toNat l)) (Int.toNat x)) (S (Int.toNat x))) → (0 ≤ k1 ∧ k1 ≤ 8) → (0 ≤ n5 ∧ n5 ≤ 12) ∧ (0 ≤ a6 ∧ a6 ≤ 48) ∧ (0 ≤ m7 ∧ m7 ≤ 1025) → IMF n5 a6 m7 h2 → FM g h2 → (8 - k1).toNat = m9 → av_wp none cd_203 2 [some (.inr (.inr (.inl (some (77))))), some (.inl x), some (.inl b), some (.inl k1)] [] h2 Q := by
    intro m9
    induction m9 using Nat.strongRecOn with
    | _ m9 I11 =>
      intro k1 n5 a6 m7 h2 g13 g14 g8 I3 F4 e12
      refine av_wp_seq 2 (pc' := 4) (lv' := [some (.inr (.inr (.inl (some (77))))), some (.inl x), some (.inl b), some (.inl k1)]) (st' := [.inr (.inr (.inl (some (77)))), .inl k1]) (h' := h2) rfl ?_
      refine wq_gr (p' := 7) rfl rfl (congrArg Prod.fst (ly_k I3.1.1.1 77 rfl)) rfl (ly_g I3.1.1.1 77 1 79 rfl) ?_
      refine av_wp_seq 1 (pc' := 8) (lv' := [some (.inr (.inr (.inl (some (77))))), some (.inl x), some (.inl b), some (.inl k1)]) (st' := [.inl (0), .inr (.inr (.inl (some (79)))), .inl k1]) (h' := h2) rfl ?_
      obtain ⟨v15, e16⟩ : ∃ v, hA h2 79 (Int.toNat ((0))) = v := ⟨_, rfl⟩
      have g17 : 0 ≤ hA h2 79 0 ∧ hA h2 79 0 ≤ 8 := I3.1.1.2.1.2.2.1
      have e16 : hA h2 79 0 = v15 := e16
      rw [e16] at g17
      have y18 := (congrFun (F4.2.2.2.2.2.2 79 rfl) 0).symm.trans e16
      refine wq_al (p' := 9) (n := 5) rfl rfl (ly_k I3.1.1.1 79 rfl) (by omega) (e16) ?_
      refine wq_k2 (p' := 12) rfl rfl ⟨by omega, by omega⟩ ⟨by omega, by omega⟩ (fun c19 => ?_) (fun c20 => ?_)
      · have c19 : v15 ≤ k1 := c19
        refine av_wp_seq 1 (pc' := 39) (lv' := [some (.inr (.inr (.inl (some (77))))), some (.inl x), some (.inl b), some (.inl k1)]) (st' := [.inl (1)]) (h' := h2) rfl ?_
        refine av_wp_ret (v := some (.inl (1))) rfl rfl rfl ?_
        exact hq _ _ _ _ h2 (Or.inl ⟨rfl, fun l h0 h1 => g13 l h0 (by omega)⟩) I3 F4
      · have c20 : k1 < v15 := c20
        refine av_wp_seq 3 (pc' := 15) (lv' := [some (.inr (.inr (.inl (some (77))))), some (.inl x), some (.inl b), some (.inl k1)]) (st' := [.inl b, .inl k1, .inr (.inr (.inl (some (77))))]) (h' := h2) rfl ?_
        refine wq_cv (p' := 18) (av_qc (.invokevirtual 348) 159 2 0 8) 5 cd_159 [.inl b, .inl k1] (77) 8 [some (.inr (.inr (.inl (some (77))))), some (.inl k1), some (.inl b), none, none] rfl rfl rfl pp_159 rfl rfl rfl (congrArg Prod.fst (ly_k I3.1.1.1 77 rfl)) rfl rfl rfl rfl ?_
        refine cw_159 I3 F4 G8 RX MX (k1) (by omega) (fun h21 I22 F23 y24 => ?_)
        show av_wp _ cd_203 18 [some (.inr (.inr (.inl (some (77))))), some (.inl x), some (.inl b), some (.inl k1)] [] h21 _
        refine av_wp_seq 2 (pc' := 20) (lv' := [some (.inr (.inr (.inl (some (77))))), some (.inl x), some (.inl b), some (.inl k1)]) (st' := [.inl x, .inr (.inr (.inl (some (77))))]) (h' := h21) rfl ?_
        refine wq_cv (p' := 23) (av_qc (.invokevirtual 440) 185 1 0 8) 4 cd_185 [.inl x] (77) 8 [some (.inr (.inr (.inl (some (77))))), some (.inl x), none, none] rfl rfl rfl pp_185 rfl rfl rfl (congrArg Prod.fst (ly_k I22.1.1.1 77 rfl)) rfl rfl rfl rfl ?_
        refine cw_185 I22 F23 RX MX (by omega) (x) (by omega) (k1) (by omega) y24 (fun n25 a26 m27 h28 e29 A30 I31 F32 => ?_)
        have g33 := im_n I31.1.1
        rw [I31.2.1] at g33
        have g34 := im_a I31.1.1
        rw [I31.2.2.1] at g34
        have g35 := im_cm I31.1.1
        rw [I31.2.2.2] at g35
        show av_wp _ cd_203 23 [some (.inr (.inr (.inl (some (77))))), some (.inl x), some (.inl b), some (.inl k1)] [] h28 _
        refine av_wp_seq 1 (pc' := 24) (lv' := [some (.inr (.inr (.inl (some (77))))), some (.inl x), some (.inl b), some (.inl k1)]) (st' := [.inr (.inr (.inl (some (77))))]) (h' := h28) rfl ?_
        refine wq_cv (p' := 27) (av_qc (.invokevirtual 437) 184 0 0 8) 2 cd_184 [] (77) 8 [some (.inr (.inr (.inl (some (77))))), none] rfl rfl rfl pp_184 rfl rfl rfl (congrArg Prod.fst (ly_k I31.1.1.1 77 rfl)) rfl rfl rfl rfl ?_
        refine cx_184 I31 F32 e29 A30.1 (MX.2 (Int.toNat x) (Int.toNat k1) (by omega) (by omega)) (fun v36 a37 m38 h39 I40 F41 Z42 A43 p44 => ?_)
        have g45 := im_a I40.1.1
        rw [I40.2.2.1] at g45
        have g46 := im_cm I40.1.1
        rw [I40.2.2.2] at g46
        have g47 : v36 = 0 ∨ v36 = 1 := p44.elim (fun z => Or.inr z.1) (fun z => Or.inl z.1)
        show av_wp _ cd_203 27 [some (.inr (.inr (.inl (some (77))))), some (.inl x), some (.inl b), some (.inl k1)] [.inl v36] h39 _
        refine wq_k1 (p' := 30) rfl rfl ⟨by omega, by omega⟩ (fun c48 => ?_) (fun c49 => ?_)
        · have c48 : v36 ≠ (0) := c48
          refine av_wp_seq 2 (pc' := 2) (lv' := [some (.inr (.inr (.inl (some (77))))), some (.inl x), some (.inl b), some (.inl (k1 + (1)))]) (st' := []) (h' := h39) rfl ?_
          exact I11 _ (by omega) ((k1 + (1))) (n25) (a37) (m38) h39 (fun l h0 h1 => by by_cases c : l = k1; (· rw [c]; exact p44.elim (fun z => z.2) (fun z => by omega)); exact g13 l h0 (by omega)) (by omega) (by omega) I40 F41 rfl
        · have c49 : v36 = (0) := c49
          refine av_wp_seq 1 (pc' := 31) (lv' := [some (.inr (.inr (.inl (some (77))))), some (.inl x), some (.inl b), some (.inl k1)]) (st' := [.inl (0)]) (h' := h39) rfl ?_
          refine av_wp_ret (v := some (.inl (0))) rfl rfl rfl ?_
          exact hq _ _ _ _ h39 (Or.inr ⟨rfl, fun z => p44.elim (fun y => by omega) (fun y => y.2 (z k1 (by omega) (by omega)))⟩) I40 F41
  exact L10 _ ((0)) (n) (a) (m) h (fun l h0 h1 => by omega) (by omega) (by omega) I F rfl

set_option maxRecDepth 100000 in
set_option maxHeartbeats 4000000 in
theorem cx_204 {g h : av_H} {n a m : Int} (I : IMF n a m h) (F : FM g h) {U : Nat → Nat → Int} {S : Nat → Nat} {ro : Nat → Nat → Int} (RX : RXX g U S ro) {mx : Nat → Nat → Nat → Int} (MX : ∀ b : Nat, b < 64 → RXM g U S (b : Int) (mx b)) (x : Int) (qx : -2147483648 ≤ x ∧ x ≤ 2147483647) {Q : Option av_V → av_H → Prop} (hq : ∀ (v : Int) n' a' m' h', RSP (okx U S (hA g 78 0) (hA g 79 0) x 0 0) (-2) (ptv pcn (fun b => ∀ l : Int, 0 ≤ l → l < (hA g 79 0) → SRE (U (Int.toNat x)) (mx b (Int.toNat l)) (bxx U S (mx b (Int.toNat l)) (Int.toNat x)) (S (Int.toNat x))) (2 ^ (Int.toNat (hA g 80 0)))) v → IMF n' a' m' h' → FM g h' → Q (some (.inl v)) h') : av_wp none cd_204 0 [some (.inr (.inr (.inl (some (77))))), some (.inl x), none, none] [] h Q := by
  have gn := im_n I.1.1
  rw [I.2.1] at gn
  have ga := im_a I.1.1
  rw [I.2.2.1] at ga
  have gm := im_cm I.1.1
  rw [I.2.2.2] at gm
  have G0 := I.1.1.2.1
  have G16 : 0 ≤ hA g 78 0 ∧ hA g 78 0 ≤ 16 := by rw [← F.2.2.2.2.2.2 78 rfl]; exact G0.2.1
  have G8 : 0 ≤ hA g 79 0 ∧ hA g 79 0 ≤ 8 := by rw [← F.2.2.2.2.2.2 79 rfl]; exact G0.2.2.1
  have G6 : 0 ≤ hA g 80 0 ∧ hA g 80 0 ≤ 6 := by rw [← F.2.2.2.2.2.2 80 rfl]; exact G0.2.2.2.1
  have p61 : 0 < (2 ^ (Int.toNat (hA g 80 0))) := Nat.two_pow_pos _
  have p64 : (2 ^ (Int.toNat (hA g 80 0))) ≤ 64 := pw_64 _ (by omega)
  refine av_wp_seq 1 (pc' := 1) (lv' := [some (.inr (.inr (.inl (some (77))))), some (.inl x), none, none]) (st' := [.inr (.inr (.inl (some (77))))]) (h' := h) rfl ?_
  refine wq_gr (p' := 4) rfl rfl (congrArg Prod.fst (ly_k I.1.1.1 77 rfl)) rfl (ly_g I.1.1.1 77 1 79 rfl) ?_
  refine av_wp_seq 1 (pc' := 5) (lv' := [some (.inr (.inr (.inl (some (77))))), some (.inl x), none, none]) (st' := [.inl (0), .inr (.inr (.inl (some (79))))]) (h' := h) rfl ?_
  obtain ⟨v1, e2⟩ : ∃ v, hA h 79 (Int.toNat ((0))) = v := ⟨_, rfl⟩
  have g3 : 0 ≤ hA h 79 0 ∧ hA h 79 0 ≤ 8 := I.1.1.2.1.2.2.1
  have e2 : hA h 79 0 = v1 := e2
  rw [e2] at g3
  have y4 := (congrFun (F.2.2.2.2.2.2 79 rfl) 0).symm.trans e2
  refine wq_al (p' := 6) (n := 5) rfl rfl (ly_k I.1.1.1 79 rfl) (by omega) (e2) ?_
  refine wq_k1 (p' := 9) rfl rfl ⟨by omega, by omega⟩ (fun c5 => ?_) (fun c6 => ?_)
  · have c5 : v1 = (0) := c5
    refine av_wp_seq 1 (pc' := 21) (lv' := [some (.inr (.inr (.inl (some (77))))), some (.inl x), none, none]) (st' := [.inl (-2)]) (h' := h) rfl ?_
    refine av_wp_ret (v := some (.inl (-2))) rfl rfl rfl ?_
    exact hq _ _ _ _ h (Or.inr ⟨by unfold okx; omega, rfl⟩) I F
  · have c6 : v1 ≠ (0) := c6
    refine av_wp_seq 4 (pc' := 13) (lv' := [some (.inr (.inr (.inl (some (77))))), some (.inl x), none, none]) (st' := [.inl (0), .inl (0), .inl x, .inr (.inr (.inl (some (77))))]) (h' := h) rfl ?_
    refine wq_cv (p' := 16) (av_qc (.invokevirtual 446) 186 3 0 8) 4 cd_186 [.inl (0), .inl (0), .inl x] (77) 8 [some (.inr (.inr (.inl (some (77))))), some (.inl x), some (.inl (0)), some (.inl (0))] rfl rfl rfl pp_186 rfl rfl rfl (congrArg Prod.fst (ly_k I.1.1.1 77 rfl)) rfl rfl rfl rfl ?_
    refine cx_186 I F RX (x) (by omega) (0) (by omega) (0) (by omega) (fun n7 a8 m9 h10 z11 I12 F13 => ?_) (fun n14 a15 m16 h17 z18 z19 z20 e21 e22 A23 O24 B25 L26 I27 F28 => ?_)
    · have g29 := im_n I12.1.1
      rw [I12.2.1] at g29
      have g30 := im_a I12.1.1
      rw [I12.2.2.1] at g30
      have g31 := im_cm I12.1.1
      rw [I12.2.2.2] at g31
      show av_wp _ cd_204 16 [some (.inr (.inr (.inl (some (77))))), some (.inl x), none, none] [.inl (0)] h10 _
      refine av_wp_seq 2 (pc' := 21) (lv' := [some (.inr (.inr (.inl (some (77))))), some (.inl x), none, none]) (st' := [.inl (-2)]) (h' := h10) rfl ?_
      refine av_wp_ret (v := some (.inl (-2))) rfl rfl rfl ?_
      exact hq _ _ _ _ h10 (Or.inr ⟨by unfold okx; omega, rfl⟩) I12 F13
    · have g32 := im_n I27.1.1
      rw [I27.2.1] at g32
      have g33 := im_a I27.1.1
      rw [I27.2.2.1] at g33
      have g34 := im_cm I27.1.1
      rw [I27.2.2.2] at g34
      show av_wp _ cd_204 16 [some (.inr (.inr (.inl (some (77))))), some (.inl x), none, none] [.inl (1)] h17 _
      refine av_wp_seq 5 (pc' := 26) (lv' := [some (.inr (.inr (.inl (some (77))))), some (.inl x), some (.inl (-1)), some (.inl (0))]) (st' := []) (h' := h17) rfl ?_
      have L45 : ∀ (m44 : Nat) (k35 : Int) (k36 : Int) (n40 : Int) (a41 : Int) (m42 : Int) (h37 : av_H), k35 = (ptv pcn (fun b => ∀ l : Int, 0 ≤ l → l < (hA g 79 0) → SRE (U (Int.toNat x)) (mx b (Int.toNat l)) (bxx U S (mx b (Int.toNat l)) (Int.toNat x)) (S (Int.toNat x))) (Int.toNat k36)) → k36 ≤ (((2 ^ (Int.toNat (hA g 80 0))) : Nat) : Int) → k35 < k36 → (-1 ≤ k35 ∧ k35 ≤ 63) → (0 ≤ k36 ∧ k36 ≤ 64) → (0 ≤ n40 ∧ n40 ≤ 12) ∧ (0 ≤ a41 ∧ a41 ≤ 48) ∧ (0 ≤ m42 ∧ m42 ≤ 1025) → IMF n40 a41 m42 h37 → FM g h37 → (64 - k36).toNat = m44 → av_wp none cd_204 26 [some (.inr (.inr (.inl (some (77))))), some (.inl x), some (.inl k35), some (.inl k36)] [] h37 Q := by
        intro m44
        induction m44 using Nat.strongRecOn with
        | _ m44 I46 =>
          intro k35 k36 n40 a41 m42 h37 g48 g49 g50 g51 g52 g43 I38 F39 e47
          refine av_wp_seq 3 (pc' := 29) (lv' := [some (.inr (.inr (.inl (some (77))))), some (.inl x), some (.inl k35), some (.inl k36)]) (st' := [.inr (.inr (.inl (some (77)))), .inl (1), .inl k36]) (h' := h37) rfl ?_
          refine wq_gr (p' := 32) rfl rfl (congrArg Prod.fst (ly_k I38.1.1.1 77 rfl)) rfl (ly_g I38.1.1.1 77 2 80 rfl) ?_
          refine av_wp_seq 1 (pc' := 33) (lv' := [some (.inr (.inr (.inl (some (77))))), some (.inl x), some (.inl k35), some (.inl k36)]) (st' := [.inl (0), .inr (.inr (.inl (some (80)))), .inl (1), .inl k36]) (h' := h37) rfl ?_
          obtain ⟨v53, e54⟩ : ∃ v, hA h37 80 (Int.toNat ((0))) = v := ⟨_, rfl⟩
          have g55 : 0 ≤ hA h37 80 0 ∧ hA h37 80 0 ≤ 6 := I38.1.1.2.1.2.2.2.1
          have e54 : hA h37 80 0 = v53 := e54
          rw [e54] at g55
          have y56 := (congrFun (F39.2.2.2.2.2.2 80 rfl) 0).symm.trans e54
          refine wq_al (p' := 34) (n := 5) rfl rfl (ly_k I38.1.1.1 80 rfl) (by omega) (e54) ?_
          refine av_wp_seq 1 (pc' := 35) (lv' := [some (.inr (.inr (.inl (some (77))))), some (.inl x), some (.inl k35), some (.inl k36)]) (st' := [.inl (av_shl (1) v53), .inl k36]) (h' := h37) rfl ?_
          have g59 := shl_le (n := v53) (by omega)
          generalize e58 : av_shl (1) v53 = v57 at g59 ⊢
          have y60 : v57 = (((2 ^ (Int.toNat (hA g 80 0))) : Nat) : Int) := by rw [← e58]; exact shl_2 (by omega) (by omega)
          refine wq_k2 (p' := 38) rfl rfl ⟨by omega, by omega⟩ ⟨by omega, by omega⟩ (fun c61 => ?_) (fun c62 => ?_)
          · have c61 : v57 ≤ k36 := c61
            refine av_wp_seq 1 (pc' := 71) (lv' := [some (.inr (.inr (.inl (some (77))))), some (.inl x), some (.inl k35), some (.inl k36)]) (st' := [.inl k35]) (h' := h37) rfl ?_
            refine av_wp_ret (v := some (.inl k35)) rfl rfl rfl ?_
            exact hq _ _ _ _ h37 (Or.inl ⟨by unfold okx; omega, by rw [show (2 ^ (Int.toNat (hA g 80 0))) = Int.toNat k36 by omega]; exact g48⟩) I38 F39
          · have c62 : k36 < v57 := c62
            refine av_wp_seq 1 (pc' := 39) (lv' := [some (.inr (.inr (.inl (some (77))))), some (.inl x), some (.inl k35), some (.inl k36)]) (st' := [.inl k35]) (h' := h37) rfl ?_
            refine wq_k1 (p' := 42) rfl rfl ⟨by omega, by omega⟩ (fun c63 => ?_) (fun c64 => ?_)
            · have c63 : k35 < (0) := c63
              refine av_wp_seq 3 (pc' := 56) (lv' := [some (.inr (.inr (.inl (some (77))))), some (.inl x), some (.inl k35), some (.inl k36)]) (st' := [.inl k36, .inl x, .inr (.inr (.inl (some (77))))]) (h' := h37) rfl ?_
              refine wq_cv (p' := 59) (av_qc (.invokevirtual 470) 203 2 0 8) 4 cd_203 [.inl k36, .inl x] (77) 8 [some (.inr (.inr (.inl (some (77))))), some (.inl x), some (.inl k36), none] rfl rfl rfl pp_203 rfl rfl rfl (congrArg Prod.fst (ly_k I38.1.1.1 77 rfl)) rfl rfl rfl rfl ?_
              have g73m := MX (Int.toNat k36) (by omega)
              rw [show ((Int.toNat k36 : Nat) : Int) = k36 by omega] at g73m
              refine cx_203 I38 F39 RX (x) (by omega) (k36) g73m (fun v65 n66 a67 m68 h69 p70 I71 F72 => ?_)
              have g74 := im_n I71.1.1
              rw [I71.2.1] at g74
              have g75 := im_a I71.1.1
              rw [I71.2.2.1] at g75
              have g76 := im_cm I71.1.1
              rw [I71.2.2.2] at g76
              have g73 : v65 = 0 ∨ v65 = 1 := p70.elim (fun z => Or.inr z.1) (fun z => Or.inl z.1)
              show av_wp _ cd_204 59 [some (.inr (.inr (.inl (some (77))))), some (.inl x), some (.inl k35), some (.inl k36)] [.inl v65] h69 _
              refine wq_k1 (p' := 62) rfl rfl ⟨by omega, by omega⟩ (fun c77 => ?_) (fun c78 => ?_)
              · have c77 : v65 = (0) := c77
                refine av_wp_seq 2 (pc' := 26) (lv' := [some (.inr (.inr (.inl (some (77))))), some (.inl x), some (.inl k35), some (.inl (k36 + (1)))]) (st' := []) (h' := h69) rfl ?_
                exact I46 _ (by omega) (k35) ((k36 + (1))) (n66) (a67) (m68) h69 (by have pr := ptv_r (S := pcn) (Q := (fun b => ∀ l : Int, 0 ≤ l → l < (hA g 79 0) → SRE (U (Int.toNat x)) (mx b (Int.toNat l)) (bxx U S (mx b (Int.toNat l)) (Int.toNat x)) (S (Int.toNat x)))) (Int.toNat k36); rw [← g48] at pr; rw [show Int.toNat (k36 + (1)) = Int.toNat k36 + 1 by omega, ptv_n (fun z => p70.elim (fun y => by omega) (fun y => y.2 z.2))]; exact g48) (by omega) (by omega) (by omega) (by omega) (by omega) I71 F72 rfl
              · have c78 : v65 ≠ (0) := c78
                refine av_wp_seq 4 (pc' := 26) (lv' := [some (.inr (.inr (.inl (some (77))))), some (.inl x), some (.inl k36), some (.inl (k36 + (1)))]) (st' := []) (h' := h69) rfl ?_
                exact I46 _ (by omega) (k36) ((k36 + (1))) (n66) (a67) (m68) h69 (by have pr := ptv_r (S := pcn) (Q := (fun b => ∀ l : Int, 0 ≤ l → l < (hA g 79 0) → SRE (U (Int.toNat x)) (mx b (Int.toNat l)) (bxx U S (mx b (Int.toNat l)) (Int.toNat x)) (S (Int.toNat x)))) (Int.toNat k36); rw [← g48] at pr; rw [show Int.toNat (k36 + (1)) = Int.toNat k36 + 1 by omega, ptv_y (by rw [← g48]; omega) (p70.elim (fun z => z.2) (fun z => by omega))]; omega) (by omega) (by omega) (by omega) (by omega) (by omega) I71 F72 rfl
            · have c64 : (0) ≤ k35 := c64
              refine av_wp_seq 1 (pc' := 43) (lv' := [some (.inr (.inr (.inl (some (77))))), some (.inl x), some (.inl k35), some (.inl k36)]) (st' := [.inl k36]) (h' := h37) rfl ?_
              refine wq_cs (p' := 46) (av_qc (.invokestatic 455) 194 1 2 8) 3 cd_194 [.inl k36] [.inl k36] [some (.inl k36), none, none] rfl rfl rfl pp_194 (fun _ => rfl) rfl rfl ?_
              refine cx_194 (k36) (by omega) (fun v79 p80 => ?_)
              have g81 := pcn_r (Int.toNat k36) (by omega)
              show av_wp _ cd_204 46 [some (.inr (.inr (.inl (some (77))))), some (.inl x), some (.inl k35), some (.inl k36)] [.inl v79] h37 _
              refine av_wp_seq 1 (pc' := 47) (lv' := [some (.inr (.inr (.inl (some (77))))), some (.inl x), some (.inl k35), some (.inl k36)]) (st' := [.inl k35, .inl v79]) (h' := h37) rfl ?_
              refine wq_cs (p' := 50) (av_qc (.invokestatic 455) 194 1 2 8) 3 cd_194 [.inl k35] [.inl k35, .inl v79] [some (.inl k35), none, none] rfl rfl rfl pp_194 (fun _ => rfl) rfl rfl ?_
              refine cx_194 (k35) (by omega) (fun v82 p83 => ?_)
              have g84 := pcn_r (Int.toNat k35) (by omega)
              show av_wp _ cd_204 50 [some (.inr (.inr (.inl (some (77))))), some (.inl x), some (.inl k35), some (.inl k36)] [.inl v82, .inl v79] h37 _
              refine wq_k2 (p' := 53) rfl rfl ⟨by omega, by omega⟩ ⟨by omega, by omega⟩ (fun c85 => ?_) (fun c86 => ?_)
              · have c85 : v82 ≤ v79 := c85
                refine av_wp_seq 2 (pc' := 26) (lv' := [some (.inr (.inr (.inl (some (77))))), some (.inl x), some (.inl k35), some (.inl (k36 + (1)))]) (st' := []) (h' := h37) rfl ?_
                exact I46 _ (by omega) (k35) ((k36 + (1))) (n40) (a41) (m42) h37 (by have pr := ptv_r (S := pcn) (Q := (fun b => ∀ l : Int, 0 ≤ l → l < (hA g 79 0) → SRE (U (Int.toNat x)) (mx b (Int.toNat l)) (bxx U S (mx b (Int.toNat l)) (Int.toNat x)) (S (Int.toNat x)))) (Int.toNat k36); rw [← g48] at pr; rw [show Int.toNat (k36 + (1)) = Int.toNat k36 + 1 by omega, ptv_n (fun z => by have z1 := z.1; rw [← g48] at z1; omega)]; exact g48) (by omega) (by omega) (by omega) (by omega) (by omega) I38 F39 rfl
              · have c86 : v79 < v82 := c86
                refine av_wp_seq 3 (pc' := 56) (lv' := [some (.inr (.inr (.inl (some (77))))), some (.inl x), some (.inl k35), some (.inl k36)]) (st' := [.inl k36, .inl x, .inr (.inr (.inl (some (77))))]) (h' := h37) rfl ?_
                refine wq_cv (p' := 59) (av_qc (.invokevirtual 470) 203 2 0 8) 4 cd_203 [.inl k36, .inl x] (77) 8 [some (.inr (.inr (.inl (some (77))))), some (.inl x), some (.inl k36), none] rfl rfl rfl pp_203 rfl rfl rfl (congrArg Prod.fst (ly_k I38.1.1.1 77 rfl)) rfl rfl rfl rfl ?_
                have g95m := MX (Int.toNat k36) (by omega)
                rw [show ((Int.toNat k36 : Nat) : Int) = k36 by omega] at g95m
                refine cx_203 I38 F39 RX (x) (by omega) (k36) g95m (fun v87 n88 a89 m90 h91 p92 I93 F94 => ?_)
                have g96 := im_n I93.1.1
                rw [I93.2.1] at g96
                have g97 := im_a I93.1.1
                rw [I93.2.2.1] at g97
                have g98 := im_cm I93.1.1
                rw [I93.2.2.2] at g98
                have g95 : v87 = 0 ∨ v87 = 1 := p92.elim (fun z => Or.inr z.1) (fun z => Or.inl z.1)
                show av_wp _ cd_204 59 [some (.inr (.inr (.inl (some (77))))), some (.inl x), some (.inl k35), some (.inl k36)] [.inl v87] h91 _
                refine wq_k1 (p' := 62) rfl rfl ⟨by omega, by omega⟩ (fun c99 => ?_) (fun c100 => ?_)
                · have c99 : v87 = (0) := c99
                  refine av_wp_seq 2 (pc' := 26) (lv' := [some (.inr (.inr (.inl (some (77))))), some (.inl x), some (.inl k35), some (.inl (k36 + (1)))]) (st' := []) (h' := h91) rfl ?_
                  exact I46 _ (by omega) (k35) ((k36 + (1))) (n88) (a89) (m90) h91 (by have pr := ptv_r (S := pcn) (Q := (fun b => ∀ l : Int, 0 ≤ l → l < (hA g 79 0) → SRE (U (Int.toNat x)) (mx b (Int.toNat l)) (bxx U S (mx b (Int.toNat l)) (Int.toNat x)) (S (Int.toNat x)))) (Int.toNat k36); rw [← g48] at pr; rw [show Int.toNat (k36 + (1)) = Int.toNat k36 + 1 by omega, ptv_n (fun z => p92.elim (fun y => by omega) (fun y => y.2 z.2))]; exact g48) (by omega) (by omega) (by omega) (by omega) (by omega) I93 F94 rfl
                · have c100 : v87 ≠ (0) := c100
                  refine av_wp_seq 4 (pc' := 26) (lv' := [some (.inr (.inr (.inl (some (77))))), some (.inl x), some (.inl k36), some (.inl (k36 + (1)))]) (st' := []) (h' := h91) rfl ?_
                  exact I46 _ (by omega) (k36) ((k36 + (1))) (n88) (a89) (m90) h91 (by have pr := ptv_r (S := pcn) (Q := (fun b => ∀ l : Int, 0 ≤ l → l < (hA g 79 0) → SRE (U (Int.toNat x)) (mx b (Int.toNat l)) (bxx U S (mx b (Int.toNat l)) (Int.toNat x)) (S (Int.toNat x)))) (Int.toNat k36); rw [← g48] at pr; rw [show Int.toNat (k36 + (1)) = Int.toNat k36 + 1 by omega, ptv_y (by rw [← g48]; omega) (p92.elim (fun z => z.2) (fun z => by omega))]; omega) (by omega) (by omega) (by omega) (by omega) (by omega) I93 F94 rfl
      exact L45 _ ((-1)) ((0)) (n14) (a15) (m16) h17 rfl (by omega) (by omega) (by omega) (by omega) (by omega) I27 F28 rfl

