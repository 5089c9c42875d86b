section
/-! WRITE, exactly: the reference -/
/-- laws with the clauses of b behind them -/
def RXM (g : av_H) (U : Nat → Nat → Int) (S : Nat → Nat) (b : Int) (mx : Nat → Nat → Int) : Prop := (∀ l : Nat, (l : Int) < hA g 79 0 → ∀ j, j < 13 → lyf (hA g 93) (l : Int) b (Int.toNat (hA g 80 0)) j = mx l j) ∧ ∀ c l : Nat, (c : Int) < hA g 78 0 → (l : Int) < hA g 79 0 → RWF (U c) (mx l) (S c)
theorem cw_159 {g h : av_H} {n a m : Int} (I : IMF n a m h) (F : FM g h) (g8 : 0 ≤ hA g 79 0 ∧ hA g 79 0 ≤ 8) {U : Nat → Nat → Int} {S : Nat → Nat} {ro mx : Nat → Nat → Int} (R : RXX g U S ro) {b : Int} (M : RXM g U S b mx) (l : Int) (ql : 0 ≤ l ∧ l < hA g 79 0) {Q : Option av_V → av_H → Prop} (hq : ∀ h', IMF n a m h' → FM g h' → (∀ j, j < 13 → hA h' 95 j = mx (Int.toNat l) j) → Q none h') : av_wp none cd_159 0 [some (.inr (.inr (.inl (some (77))))), some (.inl l), some (.inl b), none, none] [] h Q := by
  refine cx_159 I F l (by omega) b (fun j h1 h2 => R.2.2.2.2.1 l j ql.1 ql.2 h1 h2) (fun c j h1 h2 h3 h4 => R.2.2.2.2.2 c j h1 h2 h3 h4) (fun h' I' F' e Z => hq h' I' F' (fun j hj => ?_))
  have y := M.1 (Int.toNat l) (by omega) j hj
  rw [Int.toNat_of_nonneg ql.1] at y
  rw [e j hj]
  exact y
theorem cw_185 {g h : av_H} {n a m : Int} (I : IMF n a m h) (F : FM g h) {U : Nat → Nat → Int} {S : Nat → Nat} {ro mx : Nat → Nat → Int} (R : RXX g U S ro) {b : Int} (M : RXM g U S b mx) (g16 : hA g 78 0 ≤ 16) (x : Int) (qx : 0 ≤ x ∧ x < hA g 78 0) (l : Int) (ql : 0 ≤ l ∧ l < hA g 79 0) (RO : ∀ j, j < 13 → hA h 95 j = mx (Int.toNat l) j) {Q : Option av_V → av_H → Prop} (hq : ∀ n' a' m' h', n' = (S (Int.toNat x) : Int) → RBA (U (Int.toNat x)) (mx (Int.toNat l)) (bxx U S (mx (Int.toNat l)) (Int.toNat x)) (S (Int.toNat x)) h' → IMF n' a' m' h' → FM g h' → Q none h') : av_wp none cd_185 0 [some (.inr (.inr (.inl (some (77))))), some (.inl x), none, none] [] h Q :=
  cx_185 I F x (by omega) qx.2 (fun c hc => R.1 c (by omega)) (fun c hc => M.2 c (Int.toNat l) (by omega) (by omega)) (fun c hc => R.2.2.1 c (by omega)) RO (fun n' a' m' h' e1 _ ra _ I' F' => hq n' a' m' h' e1 ra I' F')

set_option maxRecDepth 100000 in
set_option maxHeartbeats 4000000 in
theorem cx_203 {g h : av_H} {n a m : Int} (I : IMF n a m h) (F : FM g h) {U : Nat → Nat → Int} {S : Nat → Nat} {ro : Nat → Nat → Int} (RX : RXX g U S ro) {mx : Nat → Nat → Int} (x : Int) (qx : 0 ≤ x ∧ x < hA g 78 0) (b : Int) (MX : RXM g U S b mx) {Q : Option av_V → av_H → Prop} (hq : ∀ (v : Int) n' a' m' h', ((v = 1 ∧ (∀ l : Int, 0 ≤ l → l < (hA g 79 0) → SRE (U (Int.toNat x)) (mx (Int.toNat l)) (bxx U S (mx (Int.toNat l)) (Int.toNat x)) (S (Int.toNat x)))) ∨ (v = 0 ∧ ¬ (∀ l : Int, 0 ≤ l → l < (hA g 79 0) → SRE (U (Int.toNat x)) (mx (Int.toNat l)) (bxx U S (mx (Int.toNat l)) (Int.toNat x)) (S (Int.toNat x))))) → IMF n' a' m' h' → FM g h' → Q (some (.inl v)) h') : av_wp none cd_203 0 [some (.inr (.inr (.inl (some (77))))), some (.inl x), some (.inl b), none] [] h Q := by
  have gn := im_n I.1.1
  rw [I.2.1] at gn
  have ga := im_a I.1.1
  rw [I.2.2.1] at ga
  have gm := im_cm I.1.1
  rw [I.2.2.2] at gm
  have G0 := I.1.1.2.1
  have G16 : 0 ≤ hA g 78 0 ∧ hA g 78 0 ≤ 16 := by rw [← F.2.2.2.2.2.2 78 rfl]; exact G0.2.1
  have G8 : 0 ≤ hA g 79 0 ∧ hA g 79 0 ≤ 8 := by rw [← F.2.2.2.2.2.2 79 rfl]; exact G0.2.2.1
  have G6 : 0 ≤ hA g 80 0 ∧ hA g 80 0 ≤ 6 := by rw [← F.2.2.2.2.2.2 80 rfl]; exact G0.2.2.2.1
  refine av_wp_sqF ck_203 2 (pc' := 2) (lv' := [some (.inr (.inr (.inl (some (77))))), some (.inl x), some (.inl b), some (.inl (0))]) (st' := []) (h' := h) rfl ?_
  have L10 : ∀ (m9 : Nat) (k1 : Int) (n5 : Int) (a6 : Int) (m7 : Int) (h2 : av_H), (∀ l : Int, 0 ≤ l → l < k1 → SRE (U (Int.toNat x)) (mx (Int.toNat l)) (bxx U S (mx (Int.toNat l)) (Int.toNat x)) (S (Int.toNat x))) → (0 ≤ k1 ∧ k1 ≤ 8) → (0 ≤ n5 ∧ n5 ≤ 12) ∧ (0 ≤ a6 ∧ a6 ≤ 48) ∧ (0 ≤ m7 ∧ m7 ≤ 1025) → IMF n5 a6 m7 h2 → FM g h2 → (8 - k1).toNat = m9 → av_wp none cd_203 2 [some (.inr (.inr (.inl (some (77))))), some (.inl x), some (.inl b), some (.inl k1)] [] h2 Q := by
    intro m9
    induction m9 using Nat.strongRecOn with
    | _ m9 I11 =>
      intro k1 n5 a6 m7 h2 g13 g14 g8 I3 F4 e12
      refine av_wp_sqF ck_203 2 (pc' := 4) (lv' := [some (.inr (.inr (.inl (some (77))))), some (.inl x), some (.inl b), some (.inl k1)]) (st' := [.inr (.inr (.inl (some (77)))), .inl k1]) (h' := h2) rfl ?_
      refine wq_gr (p' := 7) (ck_203 _ _ rfl) rfl (congrArg Prod.fst (ly_k I3.1.1.1 77 rfl)) rfl (ly_g I3.1.1.1 77 1 79 rfl) ?_
      refine av_wp_sqF ck_203 1 (pc' := 8) (lv' := [some (.inr (.inr (.inl (some (77))))), some (.inl x), some (.inl b), some (.inl k1)]) (st' := [.inl (0), .inr (.inr (.inl (some (79)))), .inl k1]) (h' := h2) rfl ?_
      obtain ⟨v15, e16⟩ : ∃ v, hA h2 79 (Int.toNat ((0))) = v := ⟨_, rfl⟩
      have g17 : 0 ≤ hA h2 79 0 ∧ hA h2 79 0 ≤ 8 := I3.1.1.2.1.2.2.1
      have e16 : hA h2 79 0 = v15 := e16
      rw [e16] at g17
      have y18 := (congrFun (F4.2.2.2.2.2.2 79 rfl) 0).symm.trans e16
      refine wq_al (p' := 9) (n := 5) (ck_203 _ _ rfl) rfl (ly_k I3.1.1.1 79 rfl) (by omega) (e16) ?_
      refine wq_k2 (p' := 12) (ck_203 _ _ rfl) rfl ⟨by omega, by omega⟩ ⟨by omega, by omega⟩ (fun c19 => ?_) (fun c20 => ?_)
      · have c19 : v15 ≤ k1 := c19
        refine av_wp_sqF ck_203 1 (pc' := 39) (lv' := [some (.inr (.inr (.inl (some (77))))), some (.inl x), some (.inl b), some (.inl k1)]) (st' := [.inl (1)]) (h' := h2) rfl ?_
        refine av_wp_ret (v := some (.inl (1))) (ck_203 _ _ rfl) rfl rfl ?_
        exact hq _ _ _ _ h2 (Or.inl ⟨rfl, fun l h0 h1 => g13 l h0 (by omega)⟩) I3 F4
      · have c20 : k1 < v15 := c20
        refine av_wp_sqF ck_203 3 (pc' := 15) (lv' := [some (.inr (.inr (.inl (some (77))))), some (.inl x), some (.inl b), some (.inl k1)]) (st' := [.inl b, .inl k1, .inr (.inr (.inl (some (77))))]) (h' := h2) rfl ?_
        refine wq_cv (p' := 18) (av_qc (.invokevirtual 348) 159 2 0 8) 5 cd_159 [.inl b, .inl k1] (77) 8 [some (.inr (.inr (.inl (some (77))))), some (.inl k1), some (.inl b), none, none] (ck_203 _ _ rfl) rfl rfl pp_159 rfl rfl rfl (congrArg Prod.fst (ly_k I3.1.1.1 77 rfl)) rfl rfl rfl rfl ?_
        refine cw_159 I3 F4 G8 RX MX (k1) (by omega) (fun h21 I22 F23 y24 => ?_)
        show av_wp _ cd_203 18 [some (.inr (.inr (.inl (some (77))))), some (.inl x), some (.inl b), some (.inl k1)] [] h21 _
        refine av_wp_sqF ck_203 2 (pc' := 20) (lv' := [some (.inr (.inr (.inl (some (77))))), some (.inl x), some (.inl b), some (.inl k1)]) (st' := [.inl x, .inr (.inr (.inl (some (77))))]) (h' := h21) rfl ?_
        refine wq_cv (p' := 23) (av_qc (.invokevirtual 440) 185 1 0 8) 4 cd_185 [.inl x] (77) 8 [some (.inr (.inr (.inl (some (77))))), some (.inl x), none, none] (ck_203 _ _ rfl) rfl rfl pp_185 rfl rfl rfl (congrArg Prod.fst (ly_k I22.1.1.1 77 rfl)) rfl rfl rfl rfl ?_
        refine cw_185 I22 F23 RX MX (by omega) (x) (by omega) (k1) (by omega) y24 (fun n25 a26 m27 h28 e29 A30 I31 F32 => ?_)
        have g33 := im_n I31.1.1
        rw [I31.2.1] at g33
        have g34 := im_a I31.1.1
        rw [I31.2.2.1] at g34
        have g35 := im_cm I31.1.1
        rw [I31.2.2.2] at g35
        show av_wp _ cd_203 23 [some (.inr (.inr (.inl (some (77))))), some (.inl x), some (.inl b), some (.inl k1)] [] h28 _
        refine av_wp_sqF ck_203 1 (pc' := 24) (lv' := [some (.inr (.inr (.inl (some (77))))), some (.inl x), some (.inl b), some (.inl k1)]) (st' := [.inr (.inr (.inl (some (77))))]) (h' := h28) rfl ?_
        refine wq_cv (p' := 27) (av_qc (.invokevirtual 437) 184 0 0 8) 2 cd_184 [] (77) 8 [some (.inr (.inr (.inl (some (77))))), none] (ck_203 _ _ rfl) rfl rfl pp_184 rfl rfl rfl (congrArg Prod.fst (ly_k I31.1.1.1 77 rfl)) rfl rfl rfl rfl ?_
        refine cx_184 I31 F32 e29 A30.1 (MX.2 (Int.toNat x) (Int.toNat k1) (by omega) (by omega)) (fun v36 a37 m38 h39 I40 F41 Z42 A43 p44 => ?_)
        have g45 := im_a I40.1.1
        rw [I40.2.2.1] at g45
        have g46 := im_cm I40.1.1
        rw [I40.2.2.2] at g46
        have g47 : v36 = 0 ∨ v36 = 1 := p44.elim (fun z => Or.inr z.1) (fun z => Or.inl z.1)
        show av_wp _ cd_203 27 [some (.inr (.inr (.inl (some (77))))), some (.inl x), some (.inl b), some (.inl k1)] [.inl v36] h39 _
        refine wq_k1 (p' := 30) (ck_203 _ _ rfl) rfl ⟨by omega, by omega⟩ (fun c48 => ?_) (fun c49 => ?_)
        · have c48 : v36 ≠ (0) := c48
          refine av_wp_sqF ck_203 2 (pc' := 2) (lv' := [some (.inr (.inr (.inl (some (77))))), some (.inl x), some (.inl b), some (.inl (k1 + (1)))]) (st' := []) (h' := h39) rfl ?_
          exact I11 _ (by omega) ((k1 + (1))) (n25) (a37) (m38) h39 (fun l h0 h1 => by by_cases c : l = k1; (· rw [c]; exact p44.elim (fun z => z.2) (fun z => by omega)); exact g13 l h0 (by omega)) (by omega) (by omega) I40 F41 rfl
        · have c49 : v36 = (0) := c49
          refine av_wp_sqF ck_203 1 (pc' := 31) (lv' := [some (.inr (.inr (.inl (some (77))))), some (.inl x), some (.inl b), some (.inl k1)]) (st' := [.inl (0)]) (h' := h39) rfl ?_
          refine av_wp_ret (v := some (.inl (0))) (ck_203 _ _ rfl) rfl rfl ?_
          exact hq _ _ _ _ h39 (Or.inr ⟨rfl, fun z => p44.elim (fun y => by omega) (fun y => y.2 (z k1 (by omega) (by omega)))⟩) I40 F41
  exact L10 _ ((0)) (n) (a) (m) h (fun l h0 h1 => by omega) (by omega) (by omega) I F rfl

set_option maxRecDepth 100000 in
set_option maxHeartbeats 4000000 in
theorem cx_204 {g h : av_H} {n a m : Int} (I : IMF n a m h) (F : FM g h) {U : Nat → Nat → Int} {S : Nat → Nat} {ro : Nat → Nat → Int} (RX : RXX g U S ro) {mx : Nat → Nat → Nat → Int} (MX : ∀ b : Nat, b < 64 → RXM g U S (b : Int) (mx b)) (x : Int) (qx : -2147483648 ≤ x ∧ x ≤ 2147483647) {Q : Option av_V → av_H → Prop} (hq : ∀ (v : Int) n' a' m' h', RSP (okx U S (hA g 78 0) (hA g 79 0) x 0 0) (-2) (ptv pcn (fun b => ∀ l : Int, 0 ≤ l → l < (hA g 79 0) → SRE (U (Int.toNat x)) (mx b (Int.toNat l)) (bxx U S (mx b (Int.toNat l)) (Int.toNat x)) (S (Int.toNat x))) (2 ^ (Int.toNat (hA g 80 0)))) v → IMF n' a' m' h' → FM g h' → Q (some (.inl v)) h') : av_wp none cd_204 0 [some (.inr (.inr (.inl (some (77))))), some (.inl x), none, none] [] h Q := by
  have gn := im_n I.1.1
  rw [I.2.1] at gn
  have ga := im_a I.1.1
  rw [I.2.2.1] at ga
  have gm := im_cm I.1.1
  rw [I.2.2.2] at gm
  have G0 := I.1.1.2.1
  have G16 : 0 ≤ hA g 78 0 ∧ hA g 78 0 ≤ 16 := by rw [← F.2.2.2.2.2.2 78 rfl]; exact G0.2.1
  have G8 : 0 ≤ hA g 79 0 ∧ hA g 79 0 ≤ 8 := by rw [← F.2.2.2.2.2.2 79 rfl]; exact G0.2.2.1
  have G6 : 0 ≤ hA g 80 0 ∧ hA g 80 0 ≤ 6 := by rw [← F.2.2.2.2.2.2 80 rfl]; exact G0.2.2.2.1
  have p61 : 0 < (2 ^ (Int.toNat (hA g 80 0))) := Nat.two_pow_pos _
  have p64 : (2 ^ (Int.toNat (hA g 80 0))) ≤ 64 := pw_64 _ (by omega)
  refine av_wp_sqF ck_204 1 (pc' := 1) (lv' := [some (.inr (.inr (.inl (some (77))))), some (.inl x), none, none]) (st' := [.inr (.inr (.inl (some (77))))]) (h' := h) rfl ?_
  refine wq_gr (p' := 4) (ck_204 _ _ rfl) rfl (congrArg Prod.fst (ly_k I.1.1.1 77 rfl)) rfl (ly_g I.1.1.1 77 1 79 rfl) ?_
  refine av_wp_sqF ck_204 1 (pc' := 5) (lv' := [some (.inr (.inr (.inl (some (77))))), some (.inl x), none, none]) (st' := [.inl (0), .inr (.inr (.inl (some (79))))]) (h' := h) rfl ?_
  obtain ⟨v1, e2⟩ : ∃ v, hA h 79 (Int.toNat ((0))) = v := ⟨_, rfl⟩
  have g3 : 0 ≤ hA h 79 0 ∧ hA h 79 0 ≤ 8 := I.1.1.2.1.2.2.1
  have e2 : hA h 79 0 = v1 := e2
  rw [e2] at g3
  have y4 := (congrFun (F.2.2.2.2.2.2 79 rfl) 0).symm.trans e2
  refine wq_al (p' := 6) (n := 5) (ck_204 _ _ rfl) rfl (ly_k I.1.1.1 79 rfl) (by omega) (e2) ?_
  refine wq_k1 (p' := 9) (ck_204 _ _ rfl) rfl ⟨by omega, by omega⟩ (fun c5 => ?_) (fun c6 => ?_)
  · have c5 : v1 = (0) := c5
    refine av_wp_sqF ck_204 1 (pc' := 21) (lv' := [some (.inr (.inr (.inl (some (77))))), some (.inl x), none, none]) (st' := [.inl (-2)]) (h' := h) rfl ?_
    refine av_wp_ret (v := some (.inl (-2))) (ck_204 _ _ rfl) rfl rfl ?_
    exact hq _ _ _ _ h (Or.inr ⟨by unfold okx; omega, rfl⟩) I F
  · have c6 : v1 ≠ (0) := c6
    refine av_wp_sqF ck_204 4 (pc' := 13) (lv' := [some (.inr (.inr (.inl (some (77))))), some (.inl x), none, none]) (st' := [.inl (0), .inl (0), .inl x, .inr (.inr (.inl (some (77))))]) (h' := h) rfl ?_
    refine wq_cv (p' := 16) (av_qc (.invokevirtual 446) 186 3 0 8) 4 cd_186 [.inl (0), .inl (0), .inl x] (77) 8 [some (.inr (.inr (.inl (some (77))))), some (.inl x), some (.inl (0)), some (.inl (0))] (ck_204 _ _ rfl) rfl rfl pp_186 rfl rfl rfl (congrArg Prod.fst (ly_k I.1.1.1 77 rfl)) rfl rfl rfl rfl ?_
    refine cx_186 I F RX (x) (by omega) (0) (by omega) (0) (by omega) (fun n7 a8 m9 h10 z11 I12 F13 => ?_) (fun n14 a15 m16 h17 z18 z19 z20 e21 e22 A23 O24 B25 L26 I27 F28 => ?_)
    · have g29 := im_n I12.1.1
      rw [I12.2.1] at g29
      have g30 := im_a I12.1.1
      rw [I12.2.2.1] at g30
      have g31 := im_cm I12.1.1
      rw [I12.2.2.2] at g31
      show av_wp _ cd_204 16 [some (.inr (.inr (.inl (some (77))))), some (.inl x), none, none] [.inl (0)] h10 _
      refine av_wp_sqF ck_204 2 (pc' := 21) (lv' := [some (.inr (.inr (.inl (some (77))))), some (.inl x), none, none]) (st' := [.inl (-2)]) (h' := h10) rfl ?_
      refine av_wp_ret (v := some (.inl (-2))) (ck_204 _ _ rfl) rfl rfl ?_
      exact hq _ _ _ _ h10 (Or.inr ⟨by unfold okx; omega, rfl⟩) I12 F13
    · have g32 := im_n I27.1.1
      rw [I27.2.1] at g32
      have g33 := im_a I27.1.1
      rw [I27.2.2.1] at g33
      have g34 := im_cm I27.1.1
      rw [I27.2.2.2] at g34
      show av_wp _ cd_204 16 [some (.inr (.inr (.inl (some (77))))), some (.inl x), none, none] [.inl (1)] h17 _
      refine av_wp_sqF ck_204 5 (pc' := 26) (lv' := [some (.inr (.inr (.inl (some (77))))), some (.inl x), some (.inl (-1)), some (.inl (0))]) (st' := []) (h' := h17) rfl ?_
      have L45 : ∀ (m44 : Nat) (k35 : Int) (k36 : Int) (n40 : Int) (a41 : Int) (m42 : Int) (h37 : av_H), k35 = (ptv pcn (fun b => ∀ l : Int, 0 ≤ l → l < (hA g 79 0) → SRE (U (Int.toNat x)) (mx b (Int.toNat l)) (bxx U S (mx b (Int.toNat l)) (Int.toNat x)) (S (Int.toNat x))) (Int.toNat k36)) → k36 ≤ (((2 ^ (Int.toNat (hA g 80 0))) : Nat) : Int) → k35 < k36 → (-1 ≤ k35 ∧ k35 ≤ 63) → (0 ≤ k36 ∧ k36 ≤ 64) → (0 ≤ n40 ∧ n40 ≤ 12) ∧ (0 ≤ a41 ∧ a41 ≤ 48) ∧ (0 ≤ m42 ∧ m42 ≤ 1025) → IMF n40 a41 m42 h37 → FM g h37 → (64 - k36).toNat = m44 → av_wp none cd_204 26 [some (.inr (.inr (.inl (some (77))))), some (.inl x), some (.inl k35), some (.inl k36)] [] h37 Q := by
        intro m44
        induction m44 using Nat.strongRecOn with
        | _ m44 I46 =>
          intro k35 k36 n40 a41 m42 h37 g48 g49 g50 g51 g52 g43 I38 F39 e47
          refine av_wp_sqF ck_204 3 (pc' := 29) (lv' := [some (.inr (.inr (.inl (some (77))))), some (.inl x), some (.inl k35), some (.inl k36)]) (st' := [.inr (.inr (.inl (some (77)))), .inl (1), .inl k36]) (h' := h37) rfl ?_
          refine wq_gr (p' := 32) (ck_204 _ _ rfl) rfl (congrArg Prod.fst (ly_k I38.1.1.1 77 rfl)) rfl (ly_g I38.1.1.1 77 2 80 rfl) ?_
          refine av_wp_sqF ck_204 1 (pc' := 33) (lv' := [some (.inr (.inr (.inl (some (77))))), some (.inl x), some (.inl k35), some (.inl k36)]) (st' := [.inl (0), .inr (.inr (.inl (some (80)))), .inl (1), .inl k36]) (h' := h37) rfl ?_
          obtain ⟨v53, e54⟩ : ∃ v, hA h37 80 (Int.toNat ((0))) = v := ⟨_, rfl⟩
          have g55 : 0 ≤ hA h37 80 0 ∧ hA h37 80 0 ≤ 6 := I38.1.1.2.1.2.2.2.1
          have e54 : hA h37 80 0 = v53 := e54
          rw [e54] at g55
          have y56 := (congrFun (F39.2.2.2.2.2.2 80 rfl) 0).symm.trans e54
          refine wq_al (p' := 34) (n := 5) (ck_204 _ _ rfl) rfl (ly_k I38.1.1.1 80 rfl) (by omega) (e54) ?_
          refine av_wp_sqF ck_204 1 (pc' := 35) (lv' := [some (.inr (.inr (.inl (some (77))))), some (.inl x), some (.inl k35), some (.inl k36)]) (st' := [.inl (av_shl (1) v53), .inl k36]) (h' := h37) rfl ?_
          have g59 := shl_le (n := v53) (by omega)
          generalize e58 : av_shl (1) v53 = v57 at g59 ⊢
          have y60 : v57 = (((2 ^ (Int.toNat (hA g 80 0))) : Nat) : Int) := by rw [← e58]; exact shl_2 (by omega) (by omega)
          refine wq_k2 (p' := 38) (ck_204 _ _ rfl) rfl ⟨by omega, by omega⟩ ⟨by omega, by omega⟩ (fun c61 => ?_) (fun c62 => ?_)
          · have c61 : v57 ≤ k36 := c61
            refine av_wp_sqF ck_204 1 (pc' := 71) (lv' := [some (.inr (.inr (.inl (some (77))))), some (.inl x), some (.inl k35), some (.inl k36)]) (st' := [.inl k35]) (h' := h37) rfl ?_
            refine av_wp_ret (v := some (.inl k35)) (ck_204 _ _ rfl) rfl rfl ?_
            exact hq _ _ _ _ h37 (Or.inl ⟨by unfold okx; omega, by rw [show (2 ^ (Int.toNat (hA g 80 0))) = Int.toNat k36 by omega]; exact g48⟩) I38 F39
          · have c62 : k36 < v57 := c62
            refine av_wp_sqF ck_204 1 (pc' := 39) (lv' := [some (.inr (.inr (.inl (some (77))))), some (.inl x), some (.inl k35), some (.inl k36)]) (st' := [.inl k35]) (h' := h37) rfl ?_
            refine wq_k1 (p' := 42) (ck_204 _ _ rfl) rfl ⟨by omega, by omega⟩ (fun c63 => ?_) (fun c64 => ?_)
            · have c63 : k35 < (0) := c63
              refine av_wp_sqF ck_204 3 (pc' := 56) (lv' := [some (.inr (.inr (.inl (some (77))))), some (.inl x), some (.inl k35), some (.inl k36)]) (st' := [.inl k36, .inl x, .inr (.inr (.inl (some (77))))]) (h' := h37) rfl ?_
              refine wq_cv (p' := 59) (av_qc (.invokevirtual 470) 203 2 0 8) 4 cd_203 [.inl k36, .inl x] (77) 8 [some (.inr (.inr (.inl (some (77))))), some (.inl x), some (.inl k36), none] (ck_204 _ _ rfl) rfl rfl pp_203 rfl rfl rfl (congrArg Prod.fst (ly_k I38.1.1.1 77 rfl)) rfl rfl rfl rfl ?_
              have g73m := MX (Int.toNat k36) (by omega)
              rw [show ((Int.toNat k36 : Nat) : Int) = k36 by omega] at g73m
              refine cx_203 I38 F39 RX (x) (by omega) (k36) g73m (fun v65 n66 a67 m68 h69 p70 I71 F72 => ?_)
              have g74 := im_n I71.1.1
              rw [I71.2.1] at g74
              have g75 := im_a I71.1.1
              rw [I71.2.2.1] at g75
              have g76 := im_cm I71.1.1
              rw [I71.2.2.2] at g76
              have g73 : v65 = 0 ∨ v65 = 1 := p70.elim (fun z => Or.inr z.1) (fun z => Or.inl z.1)
              show av_wp _ cd_204 59 [some (.inr (.inr (.inl (some (77))))), some (.inl x), some (.inl k35), some (.inl k36)] [.inl v65] h69 _
              refine wq_k1 (p' := 62) (ck_204 _ _ rfl) rfl ⟨by omega, by omega⟩ (fun c77 => ?_) (fun c78 => ?_)
              · have c77 : v65 = (0) := c77
                refine av_wp_sqF ck_204 2 (pc' := 26) (lv' := [some (.inr (.inr (.inl (some (77))))), some (.inl x), some (.inl k35), some (.inl (k36 + (1)))]) (st' := []) (h' := h69) rfl ?_
                exact I46 _ (by omega) (k35) ((k36 + (1))) (n66) (a67) (m68) h69 (by have pr := ptv_r (S := pcn) (Q := (fun b => ∀ l : Int, 0 ≤ l → l < (hA g 79 0) → SRE (U (Int.toNat x)) (mx b (Int.toNat l)) (bxx U S (mx b (Int.toNat l)) (Int.toNat x)) (S (Int.toNat x)))) (Int.toNat k36); rw [← g48] at pr; rw [show Int.toNat (k36 + (1)) = Int.toNat k36 + 1 by omega, ptv_n (fun z => p70.elim (fun y => by omega) (fun y => y.2 z.2))]; exact g48) (by omega) (by omega) (by omega) (by omega) (by omega) I71 F72 rfl
              · have c78 : v65 ≠ (0) := c78
                refine av_wp_sqF ck_204 4 (pc' := 26) (lv' := [some (.inr (.inr (.inl (some (77))))), some (.inl x), some (.inl k36), some (.inl (k36 + (1)))]) (st' := []) (h' := h69) rfl ?_
                exact I46 _ (by omega) (k36) ((k36 + (1))) (n66) (a67) (m68) h69 (by have pr := ptv_r (S := pcn) (Q := (fun b => ∀ l : Int, 0 ≤ l → l < (hA g 79 0) → SRE (U (Int.toNat x)) (mx b (Int.toNat l)) (bxx U S (mx b (Int.toNat l)) (Int.toNat x)) (S (Int.toNat x)))) (Int.toNat k36); rw [← g48] at pr; rw [show Int.toNat (k36 + (1)) = Int.toNat k36 + 1 by omega, ptv_y (by rw [← g48]; omega) (p70.elim (fun z => z.2) (fun z => by omega))]; omega) (by omega) (by omega) (by omega) (by omega) (by omega) I71 F72 rfl
            · have c64 : (0) ≤ k35 := c64
              refine av_wp_sqF ck_204 1 (pc' := 43) (lv' := [some (.inr (.inr (.inl (some (77))))), some (.inl x), some (.inl k35), some (.inl k36)]) (st' := [.inl k36]) (h' := h37) rfl ?_
              refine wq_cs (p' := 46) (av_qc (.invokestatic 455) 194 1 2 8) 3 cd_194 [.inl k36] [.inl k36] [some (.inl k36), none, none] (ck_204 _ _ rfl) rfl rfl pp_194 (fun _ => rfl) rfl rfl ?_
              refine cx_194 (k36) (by omega) (fun v79 p80 => ?_)
              have g81 := pcn_r (Int.toNat k36) (by omega)
              show av_wp _ cd_204 46 [some (.inr (.inr (.inl (some (77))))), some (.inl x), some (.inl k35), some (.inl k36)] [.inl v79] h37 _
              refine av_wp_sqF ck_204 1 (pc' := 47) (lv' := [some (.inr (.inr (.inl (some (77))))), some (.inl x), some (.inl k35), some (.inl k36)]) (st' := [.inl k35, .inl v79]) (h' := h37) rfl ?_
              refine wq_cs (p' := 50) (av_qc (.invokestatic 455) 194 1 2 8) 3 cd_194 [.inl k35] [.inl k35, .inl v79] [some (.inl k35), none, none] (ck_204 _ _ rfl) rfl rfl pp_194 (fun _ => rfl) rfl rfl ?_
              refine cx_194 (k35) (by omega) (fun v82 p83 => ?_)
              have g84 := pcn_r (Int.toNat k35) (by omega)
              show av_wp _ cd_204 50 [some (.inr (.inr (.inl (some (77))))), some (.inl x), some (.inl k35), some (.inl k36)] [.inl v82, .inl v79] h37 _
              refine wq_k2 (p' := 53) (ck_204 _ _ rfl) rfl ⟨by omega, by omega⟩ ⟨by omega, by omega⟩ (fun c85 => ?_) (fun c86 => ?_)
              · have c85 : v82 ≤ v79 := c85
                refine av_wp_sqF ck_204 2 (pc' := 26) (lv' := [some (.inr (.inr (.inl (some (77))))), some (.inl x), some (.inl k35), some (.inl (k36 + (1)))]) (st' := []) (h' := h37) rfl ?_
                exact I46 _ (by omega) (k35) ((k36 + (1))) (n40) (a41) (m42) h37 (by have pr := ptv_r (S := pcn) (Q := (fun b => ∀ l : Int, 0 ≤ l → l < (hA g 79 0) → SRE (U (Int.toNat x)) (mx b (Int.toNat l)) (bxx U S (mx b (Int.toNat l)) (Int.toNat x)) (S (Int.toNat x)))) (Int.toNat k36); rw [← g48] at pr; rw [show Int.toNat (k36 + (1)) = Int.toNat k36 + 1 by omega, ptv_n (fun z => by have z1 := z.1; rw [← g48] at z1; omega)]; exact g48) (by omega) (by omega) (by omega) (by omega) (by omega) I38 F39 rfl
              · have c86 : v79 < v82 := c86
                refine av_wp_sqF ck_204 3 (pc' := 56) (lv' := [some (.inr (.inr (.inl (some (77))))), some (.inl x), some (.inl k35), some (.inl k36)]) (st' := [.inl k36, .inl x, .inr (.inr (.inl (some (77))))]) (h' := h37) rfl ?_
                refine wq_cv (p' := 59) (av_qc (.invokevirtual 470) 203 2 0 8) 4 cd_203 [.inl k36, .inl x] (77) 8 [some (.inr (.inr (.inl (some (77))))), some (.inl x), some (.inl k36), none] (ck_204 _ _ rfl) rfl rfl pp_203 rfl rfl rfl (congrArg Prod.fst (ly_k I38.1.1.1 77 rfl)) rfl rfl rfl rfl ?_
                have g95m := MX (Int.toNat k36) (by omega)
                rw [show ((Int.toNat k36 : Nat) : Int) = k36 by omega] at g95m
                refine cx_203 I38 F39 RX (x) (by omega) (k36) g95m (fun v87 n88 a89 m90 h91 p92 I93 F94 => ?_)
                have g96 := im_n I93.1.1
                rw [I93.2.1] at g96
                have g97 := im_a I93.1.1
                rw [I93.2.2.1] at g97
                have g98 := im_cm I93.1.1
                rw [I93.2.2.2] at g98
                have g95 : v87 = 0 ∨ v87 = 1 := p92.elim (fun z => Or.inr z.1) (fun z => Or.inl z.1)
                show av_wp _ cd_204 59 [some (.inr (.inr (.inl (some (77))))), some (.inl x), some (.inl k35), some (.inl k36)] [.inl v87] h91 _
                refine wq_k1 (p' := 62) (ck_204 _ _ rfl) rfl ⟨by omega, by omega⟩ (fun c99 => ?_) (fun c100 => ?_)
                · have c99 : v87 = (0) := c99
                  refine av_wp_sqF ck_204 2 (pc' := 26) (lv' := [some (.inr (.inr (.inl (some (77))))), some (.inl x), some (.inl k35), some (.inl (k36 + (1)))]) (st' := []) (h' := h91) rfl ?_
                  exact I46 _ (by omega) (k35) ((k36 + (1))) (n88) (a89) (m90) h91 (by have pr := ptv_r (S := pcn) (Q := (fun b => ∀ l : Int, 0 ≤ l → l < (hA g 79 0) → SRE (U (Int.toNat x)) (mx b (Int.toNat l)) (bxx U S (mx b (Int.toNat l)) (Int.toNat x)) (S (Int.toNat x)))) (Int.toNat k36); rw [← g48] at pr; rw [show Int.toNat (k36 + (1)) = Int.toNat k36 + 1 by omega, ptv_n (fun z => p92.elim (fun y => by omega) (fun y => y.2 z.2))]; exact g48) (by omega) (by omega) (by omega) (by omega) (by omega) I93 F94 rfl
                · have c100 : v87 ≠ (0) := c100
                  refine av_wp_sqF ck_204 4 (pc' := 26) (lv' := [some (.inr (.inr (.inl (some (77))))), some (.inl x), some (.inl k36), some (.inl (k36 + (1)))]) (st' := []) (h' := h91) rfl ?_
                  exact I46 _ (by omega) (k36) ((k36 + (1))) (n88) (a89) (m90) h91 (by have pr := ptv_r (S := pcn) (Q := (fun b => ∀ l : Int, 0 ≤ l → l < (hA g 79 0) → SRE (U (Int.toNat x)) (mx b (Int.toNat l)) (bxx U S (mx b (Int.toNat l)) (Int.toNat x)) (S (Int.toNat x)))) (Int.toNat k36); rw [← g48] at pr; rw [show Int.toNat (k36 + (1)) = Int.toNat k36 + 1 by omega, ptv_y (by rw [← g48]; omega) (p92.elim (fun z => z.2) (fun z => by omega))]; omega) (by omega) (by omega) (by omega) (by omega) (by omega) I93 F94 rfl
      exact L45 _ ((-1)) ((0)) (n14) (a15) (m16) h17 rfl (by omega) (by omega) (by omega) (by omega) (by omega) I27 F28 rfl
end
section
/-! LOOKS: the compared one in class and reference, of the others that the book stays -/
theorem CLS_lk {g h : av_H} {U : Nat → Nat → Int} {S : Nat → Nat} {sr nd : Nat → Int} (G : av_Gd g) (I : IC g) (C : CLU U S g) (J : CJ U S (hF g 3 3) sr nd h) (F : Fr g h) (SU : SUA U S (hF g 3 3) (hF g 3 4) (fun k => hA g (6 + k)) sr) : CLU U S h ∧ CLS h := by
  have cf := CF0_Fr G I.1 F
  have c := CLU_cf G cf C
  refine ⟨c, U, S, c, ?_⟩
  rw [cf.2.1.1, cf.2.1.2.1, J.2.2.1]
  exact SUA_c SU (fun l hl _ => cf.2.2.2.1 _ (by omega) (by omega))
theorem c78_of {g h : av_H} (G : av_Gd g) (I : IC g) (F : Fr g h) (B : BK h) : hA h 78 0 = hF g 3 3 ∧ hA h 79 0 = hF g 3 4 ∧ hA h 80 0 = hF g 3 5 := by
  have cf := CF0_Fr G I.1 F
  exact ⟨B.2.2.2.2.1.1.1.1.symm.trans cf.2.1.1, B.2.2.2.2.1.1.1.2.1.symm.trans cf.2.1.2.1, B.2.2.2.2.1.1.1.2.2.symm.trans cf.2.1.2.2.1⟩
/-! LOOKS: the others -/
theorem RSP_i {ok ok' : Prop} {d e v : Int} (i : ok ↔ ok') (x : RSP ok d e v) : RSP ok' d e v := x.elim (fun z => Or.inl ⟨i.mp z.1, z.2⟩) (fun z => Or.inr ⟨fun y => z.1 (i.mpr y), z.2⟩)
theorem CWB_al {h : av_H} {U : Nat → Nat → Int} {S : Nat → Nat} (I : IC h) (x : CLU U S h) : ∀ i : Nat, (i : Int) < hF h 3 3 → CWB (U i) (S i) := fun i hi => by
  have n16 := ic_cc I
  obtain ⟨t, c, f, y1, y2, y3⟩ := x.1 i (by omega) hi
  rw [y2]
  exact CWB_of y3
/-! WRITE: class and reference give the same -/
theorem RLW_g {ro : Nat → Int} (R : RLW ro) : ∀ j, j < 13 → rlo j ≤ ro j ∧ ro j ≤ rhi j := by
  obtain ⟨r0, r6, r7, r8, r9, r10, r11, r12⟩ := R
  intro j hj
  by_cases c : j < 6
  · have h := r0 j c
    have e1 : rlo j = 0 := if_neg (by omega)
    have e2 : rhi j = 2 := (if_neg (by omega)).trans (if_neg (by omega))
    omega
  · rcases (show j = 6 ∨ j = 7 ∨ j = 8 ∨ j = 9 ∨ j = 10 ∨ j = 11 ∨ j = 12 by omega) with e | e | e | e | e | e | e <;> subst e <;> simp [rlo, rhi] <;> omega
theorem RLW_mx {R : Nat → Nat → Int} {b : Nat → Int} {x : Int} (hb : RLW b) : ∀ c : Nat, (∀ q, q < c → RQW (R q)) → RLW (mxf R b x c) := by
  intro c
  induction c with
  | zero => intro _; exact hb
  | succ c ih =>
    intro hR
    have i := ih (fun q hq => hR q (by omega))
    by_cases e : av_w (av_and (av_shr x (c : Int)) 1) = 1
    · rw [mxf_y e]
      refine RLW_of (fun j hj => ?_)
      show rlo j ≤ (if j < 14 ∧ R c j ≠ -2 then R c j else mxf R b x c j) ∧ (if j < 14 ∧ R c j ≠ -2 then R c j else mxf R b x c j) ≤ rhi j
      split
      · next z => exact (hR c (by omega) j hj).resolve_left z.2
      · exact RLW_g i j hj
    · rw [mxf_n e]
      exact i
theorem RLW_pl {f p : Nat → Int} (R : RLW p) : RLW (plr f p) := RLW_of (fun j hj => by rw [plr_lt (by omega)]; exact RLW_g R j hj)
section
variable {h : av_H} {U : Nat → Nat → Int} {S : Nat → Nat}
theorem RLW_al (I : IC h) (x : CLU U S h) (f : Nat → Int) (b : Int) (l : Nat) (hl : (l : Int) < hF h 3 4) : RLW (MXL h f b l) := by
  have n8 := ic_lc I
  have n6 := ic_kc I
  exact RLW_mx (RLW_pl (x.2.1 l (by omega) hl)) _ (fun q hq => x.2.2.1 q (by omega) (by omega))
theorem RXM_of {g : av_H} (B : BK h) (x : CLU U S h) {ro : Nat → Nat → Int} (RX : RXX h U S ro) (F : CF0 g h) (Ig : IC g) (f : Nat → Int) (bf : ∀ j, -2 ≤ f j ∧ f j ≤ 999) (er : ∀ l, l < 8 → ro l = hA g (6 + l)) (b : Int) : RXM h U S b (fun l => MXL g f b l) := by
  have n16 := ic_cc B.1
  have n8 := ic_lc B.1
  have n6 := ic_kc B.1
  have SS := B.2.2.2.2.1
  have c79 : hF h 3 4 = hA h 79 0 := SS.1.1.2.1
  have c80 : hF h 3 5 = hA h 80 0 := SS.1.1.2.2
  have eM : ∀ l, l < 8 → MXL g f b l = MXL h f b l := fun l hl => by
    unfold MXL
    rw [F.2.1.2.2.1, F.2.2.2.1 (6 + l) (by omega) (by omega)]
    exact (mxf_c _ (fun q hq => F.2.2.2.1 (15 + q) (by omega) (by have := F.2.1.2.2.1; omega))).symm
  refine ⟨fun l hl j hj => ?_, fun c l hc hl => ?_⟩
  · show _ = MXL g f b l j
    rw [eM l (by omega)]
    unfold MXL
    rw [c80]
    refine (mxf_lyf _ (fun j hj => ?_) (fun q hq j hj => ?_) j hj).symm
    · rw [plr_lt (by omega), RX.2.2.2.1 l hl j hj, er l (by omega)]
      exact congrFun (F.2.2.2.1 (6 + l) (by omega) (by omega)) j
    · have y := SS.2.2.2.2 q (by omega) (by omega) j (by omega)
      rw [show 196 * 0 + 112 + 14 * q + j = (112 + 14 * (q : Int) + (j : Int)).toNat by omega] at y
      exact y
  · have w := RX.2.1 c l hc hl
    refine ⟨w.1, ?_, w.2.2.1, w.2.2.2.1, fun j => ?_, w.2.2.2.2.2.1, w.2.2.2.2.2.2⟩
    · show RLW (MXL g f b l)
      rw [eM l (by omega)]
      exact RLW_al B.1 x f b l (by omega)
    · show -2 ≤ MXL g f b l j ∧ MXL g f b l j ≤ 999
      have k6 := ic_kc Ig
      exact mxf_bd (plr_bd bf (Ig.2.1 _ (rwc_l (by omega)))) _ (fun q hq => Ig.2.1 _ (rwc_q (by omega))) j
end
theorem oz_106 {h : av_H} (B : BX h) (x1 x2 x3 x4 : Int) (q1 : -2147483648 ≤ x1 ∧ x1 ≤ 2147483647) (q2 : -2147483648 ≤ x2 ∧ x2 ≤ 2147483647) (q3 : -2147483648 ≤ x3 ∧ x3 ≤ 2147483647) (q4 : -2147483648 ≤ x4 ∧ x4 ≤ 2147483647) : av_wp none cd_106 0 [some (.inr (.inr (.inl (some (0))))), some (.inl x1), some (.inl x2), some (.inl x3), some (.inl x4), none, none] [] h (OPX cd_190 [some (.inr (.inr (.inl (some (77))))), some (.inl x1), some (.inl x2), some (.inl x3), some (.inl x4)] h (fun x y => True)) := by
  refine gd_of (fun hg => ?_)
  obtain ⟨B0, U, S, C, SU⟩ := B
  refine cx_106 (CJ_of B0.1 C) x1 q1 x2 q2 x3 q3 x4 q4 (CRT_of B0.1 C) SU (fun v h1 sr' nd' J1 F1 SU1 p1 => ⟨v, rfl, ly_k J1.1.1 77 rfl, gd_of (fun hg1 => ?_)⟩)
  have B1 := BK_Fr hg B0 F1.1 J1.1
  obtain ⟨C1, C2⟩ := CLS_lk hg B0.1 C J1 F1.1 SU1
  obtain ⟨n, a, m, M⟩ := B1.2.2.1
  exact ct_190 M (FM_rf h1) x1 q1 x2 q2 x3 q3 x4 q4 (fun w n' a' m' h2 M2 F2 => ⟨w, rfl, trivial, ⟨BK_FM hg1 B1 F2 M2, CLS_FM hg1 F2 C2⟩, RM_0 (F2.1.trans F1.1.1) (F2.2.1.trans F1.1.2.1)⟩)
theorem oz_107 {h : av_H} (B : BX h) (x1 x2 x3 x4 x5 : Int) (q1 : -2147483648 ≤ x1 ∧ x1 ≤ 2147483647) (q2 : -2147483648 ≤ x2 ∧ x2 ≤ 2147483647) (q3 : -2147483648 ≤ x3 ∧ x3 ≤ 2147483647) (q4 : -2147483648 ≤ x4 ∧ x4 ≤ 2147483647) (q5 : -2147483648 ≤ x5 ∧ x5 ≤ 2147483647) : av_wp none cd_107 0 [some (.inr (.inr (.inl (some (0))))), some (.inl x1), some (.inl x2), some (.inl x3), some (.inl x4), some (.inl x5)] [] h (OPX cd_191 [some (.inr (.inr (.inl (some (77))))), some (.inl x1), some (.inl x2), some (.inl x3), some (.inl x4), some (.inl x5)] h (fun x y => True)) := by
  refine gd_of (fun hg => ?_)
  obtain ⟨B0, U, S, C, SU⟩ := B
  refine cx_107 (CJ_of B0.1 C) x1 q1 x2 q2 x3 q3 x4 q4 x5 q5 (CRT_of B0.1 C) SU (fun v h1 sr' nd' J1 F1 SU1 p1 => ⟨v, rfl, ly_k J1.1.1 77 rfl, gd_of (fun hg1 => ?_)⟩)
  have B1 := BK_Fr hg B0 F1.1 J1.1
  obtain ⟨C1, C2⟩ := CLS_lk hg B0.1 C J1 F1.1 SU1
  obtain ⟨n, a, m, M⟩ := B1.2.2.1
  exact ct_191 M (FM_rf h1) x1 q1 x2 q2 x3 q3 x4 q4 x5 q5 (fun w n' a' m' h2 M2 F2 => ⟨w, rfl, trivial, ⟨BK_FM hg1 B1 F2 M2, CLS_FM hg1 F2 C2⟩, RM_0 (F2.1.trans F1.1.1) (F2.2.1.trans F1.1.2.1)⟩)
theorem oz_108 {h : av_H} (B : BX h) (x1 x2 x3 : Int) (q1 : -2147483648 ≤ x1 ∧ x1 ≤ 2147483647) (q2 : -2147483648 ≤ x2 ∧ x2 ≤ 2147483647) (q3 : -2147483648 ≤ x3 ∧ x3 ≤ 2147483647) : av_wp none cd_108 0 [some (.inr (.inr (.inl (some (0))))), some (.inl x1), some (.inl x2), some (.inl x3)] [] h (OPX cd_192 [some (.inr (.inr (.inl (some (77))))), some (.inl x1), some (.inl x2), some (.inl x3)] h (fun x y => True)) := by
  refine gd_of (fun hg => ?_)
  obtain ⟨B0, U, S, C, SU⟩ := B
  refine cx_108 (CJ_of B0.1 C) x1 q1 x2 q2 x3 q3 (CRT_of B0.1 C) SU (UHW_al B0.1 C) (fun v h1 sr' nd' J1 F1 SU1 p1 => ⟨v, rfl, ly_k J1.1.1 77 rfl, gd_of (fun hg1 => ?_)⟩)
  have B1 := BK_Fr hg B0 F1.1 J1.1
  obtain ⟨C1, C2⟩ := CLS_lk hg B0.1 C J1 F1.1 SU1
  obtain ⟨n, a, m, M⟩ := B1.2.2.1
  exact ct_192 M (FM_rf h1) x1 q1 x2 q2 x3 q3 (fun w n' a' m' h2 M2 F2 => ⟨w, rfl, trivial, ⟨BK_FM hg1 B1 F2 M2, CLS_FM hg1 F2 C2⟩, RM_0 (F2.1.trans F1.1.1) (F2.2.1.trans F1.1.2.1)⟩)
theorem oz_109 {h : av_H} (B : BX h) (x1 x2 x3 : Int) (q1 : -2147483648 ≤ x1 ∧ x1 ≤ 2147483647) (q2 : -2147483648 ≤ x2 ∧ x2 ≤ 2147483647) (q3 : -2147483648 ≤ x3 ∧ x3 ≤ 2147483647) : av_wp none cd_109 0 [some (.inr (.inr (.inl (some (0))))), some (.inl x1), some (.inl x2), some (.inl x3)] [] h (OPX cd_193 [some (.inr (.inr (.inl (some (77))))), some (.inl x1), some (.inl x2), some (.inl x3), none, none, none, none, none, none] h (fun x y => True)) := by
  refine gd_of (fun hg => ?_)
  obtain ⟨B0, U, S, C, SU⟩ := B
  refine cx_109 (CJ_of B0.1 C) x1 q1 x2 q2 x3 q3 (CRT_of B0.1 C) SU (fun v h1 sr' nd' J1 F1 SU1 p1 => ⟨v, rfl, ly_k J1.1.1 77 rfl, gd_of (fun hg1 => ?_)⟩)
  have B1 := BK_Fr hg B0 F1 J1.1
  obtain ⟨C1, C2⟩ := CLS_lk hg B0.1 C J1 F1 SU1
  obtain ⟨n, a, m, M⟩ := B1.2.2.1
  exact ct_193 M (FM_rf h1) x1 q1 x2 q2 x3 q3 (fun w n' a' m' h2 M2 F2 => ⟨w, rfl, trivial, ⟨BK_FM hg1 B1 F2 M2, CLS_FM hg1 F2 C2⟩, RM_0 (F2.1.trans F1.1) (F2.2.1.trans F1.2.1)⟩)
theorem oz_110 {h : av_H} (B : BX h) (x1 x2 : Int) (q1 : -2147483648 ≤ x1 ∧ x1 ≤ 2147483647) (q2 : -2147483648 ≤ x2 ∧ x2 ≤ 2147483647) : av_wp none cd_110 0 [some (.inr (.inr (.inl (some (0))))), some (.inl x1), some (.inl x2)] [] h (OPX cd_197 [some (.inr (.inr (.inl (some (77))))), some (.inl x1), some (.inl x2), none, none] h (fun x y => True)) := by
  refine gd_of (fun hg => ?_)
  obtain ⟨B0, U, S, C, SU⟩ := B
  refine cx_110 (CJ_of B0.1 C) x1 q1 x2 q2 (CRT_of B0.1 C) SU (fun v h1 sr' nd' J1 F1 SU1 => ⟨v, rfl, ly_k J1.1.1 77 rfl, gd_of (fun hg1 => ?_)⟩)
  have B1 := BK_Fr hg B0 F1 J1.1
  obtain ⟨C1, C2⟩ := CLS_lk hg B0.1 C J1 F1 SU1
  obtain ⟨n, a, m, M⟩ := B1.2.2.1
  exact ct_197 M (FM_rf h1) x1 q1 x2 q2 (fun w n' a' m' h2 M2 F2 => ⟨w, rfl, trivial, ⟨BK_FM hg1 B1 F2 M2, CLS_FM hg1 F2 C2⟩, RM_0 (F2.1.trans F1.1) (F2.2.1.trans F1.2.1)⟩)
theorem oz_111 {h : av_H} (B : BX h) (x1 x2 x3 x4 : Int) (q1 : -2147483648 ≤ x1 ∧ x1 ≤ 2147483647) (q2 : -2147483648 ≤ x2 ∧ x2 ≤ 2147483647) (q3 : -2147483648 ≤ x3 ∧ x3 ≤ 2147483647) (q4 : -2147483648 ≤ x4 ∧ x4 ≤ 2147483647) : av_wp none cd_111 0 [some (.inr (.inr (.inl (some (0))))), some (.inl x1), some (.inl x2), some (.inl x3), some (.inl x4)] [] h (OPX cd_198 [some (.inr (.inr (.inl (some (77))))), some (.inl x1), some (.inl x2), some (.inl x3), some (.inl x4), none, none, none] h (fun x y => True)) := by
  refine gd_of (fun hg => ?_)
  obtain ⟨B0, U, S, C, SU⟩ := B
  refine cx_111 (CJ_of B0.1 C) x1 q1 x2 q2 x3 q3 x4 q4 (CRT_of B0.1 C) SU (fun v h1 sr' nd' J1 F1 SU1 p1 => ⟨v, rfl, ly_k J1.1.1 77 rfl, gd_of (fun hg1 => ?_)⟩)
  have B1 := BK_Fr hg B0 F1.1 J1.1
  obtain ⟨C1, C2⟩ := CLS_lk hg B0.1 C J1 F1.1 SU1
  obtain ⟨n, a, m, M⟩ := B1.2.2.1
  exact ct_198 M (FM_rf h1) x1 q1 x2 q2 x3 q3 x4 q4 (fun w n' a' m' h2 M2 F2 => ⟨w, rfl, trivial, ⟨BK_FM hg1 B1 F2 M2, CLS_FM hg1 F2 C2⟩, RM_0 (F2.1.trans F1.1.1) (F2.2.1.trans F1.1.2.1)⟩)
theorem oz_112 {h : av_H} (B : BX h) (x1 x2 x3 x4 x5 : Int) (q1 : -2147483648 ≤ x1 ∧ x1 ≤ 2147483647) (q2 : -2147483648 ≤ x2 ∧ x2 ≤ 2147483647) (q3 : -2147483648 ≤ x3 ∧ x3 ≤ 2147483647) (q4 : -2147483648 ≤ x4 ∧ x4 ≤ 2147483647) (q5 : -2147483648 ≤ x5 ∧ x5 ≤ 2147483647) : av_wp none cd_112 0 [some (.inr (.inr (.inl (some (0))))), some (.inl x1), some (.inl x2), some (.inl x3), some (.inl x4), some (.inl x5), none, none] [] h (OPX cd_199 [some (.inr (.inr (.inl (some (77))))), some (.inl x1), some (.inl x2), some (.inl x3), some (.inl x4), some (.inl x5)] h (fun x y => True)) := by
  refine gd_of (fun hg => ?_)
  obtain ⟨B0, U, S, C, SU⟩ := B
  refine cx_112 (CJ_of B0.1 C) x1 q1 x2 q2 x3 q3 x4 q4 x5 q5 (CRT_of B0.1 C) SU (fun v h1 sr' nd' J1 F1 SU1 p1 => ⟨v, rfl, ly_k J1.1.1 77 rfl, gd_of (fun hg1 => ?_)⟩)
  have B1 := BK_Fr hg B0 F1.1 J1.1
  obtain ⟨C1, C2⟩ := CLS_lk hg B0.1 C J1 F1.1 SU1
  obtain ⟨n, a, m, M⟩ := B1.2.2.1
  exact ct_199 M (FM_rf h1) x1 q1 x2 q2 x3 q3 x4 x5 (fun w n' a' m' h2 M2 F2 => ⟨w, rfl, trivial, ⟨BK_FM hg1 B1 F2 M2, CLS_FM hg1 F2 C2⟩, RM_0 (F2.1.trans F1.1.1) (F2.2.1.trans F1.1.2.1)⟩)
theorem oz_113 {h : av_H} (B : BX h) (x1 x2 x3 x4 : Int) (q1 : -2147483648 ≤ x1 ∧ x1 ≤ 2147483647) (q2 : -2147483648 ≤ x2 ∧ x2 ≤ 2147483647) (q3 : -2147483648 ≤ x3 ∧ x3 ≤ 2147483647) (q4 : -2147483648 ≤ x4 ∧ x4 ≤ 2147483647) : av_wp none cd_113 0 [some (.inr (.inr (.inl (some (0))))), some (.inl x1), some (.inl x2), some (.inl x3), some (.inl x4)] [] h (OPX cd_201 [some (.inr (.inr (.inl (some (77))))), some (.inl x1), some (.inl x2), some (.inl x3), some (.inl x4)] h (fun x y => True)) := by
  refine gd_of (fun hg => ?_)
  obtain ⟨B0, U, S, C, SU⟩ := B
  refine cx_113 (CJ_of B0.1 C) x1 q1 x2 q2 x3 q3 x4 q4 (CRT_of B0.1 C) SU (fun v h1 sr' nd' J1 F1 SU1 p1 => ⟨v, rfl, ly_k J1.1.1 77 rfl, gd_of (fun hg1 => ?_)⟩)
  have B1 := BK_Fr hg B0 F1 J1.1
  obtain ⟨C1, C2⟩ := CLS_lk hg B0.1 C J1 F1 SU1
  obtain ⟨n, a, m, M⟩ := B1.2.2.1
  exact ct_201 M (FM_rf h1) x1 q1 x2 q2 x3 q3 x4 q4 (fun w n' a' m' h2 M2 F2 => ⟨w, rfl, trivial, ⟨BK_FM hg1 B1 F2 M2, CLS_FM hg1 F2 C2⟩, RM_0 (F2.1.trans F1.1) (F2.2.1.trans F1.2.1)⟩)
theorem oz_114 {h : av_H} (B : BX h) (x1 x2 : Int) (q1 : -2147483648 ≤ x1 ∧ x1 ≤ 2147483647) (q2 : -2147483648 ≤ x2 ∧ x2 ≤ 2147483647) : av_wp none cd_114 0 [some (.inr (.inr (.inl (some (0))))), some (.inl x1), some (.inl x2), none, none, none, none, none] [] h (OPX cd_202 [some (.inr (.inr (.inl (some (77))))), some (.inl x1), some (.inl x2), none, none] h (fun x y => True)) := by
  refine gd_of (fun hg => ?_)
  obtain ⟨B0, U, S, C, SU⟩ := B
  refine cx_114 (CJ_of B0.1 C) x1 q1 x2 q2 (CRT_of B0.1 C) SU (fun v h1 sr' nd' J1 F1 SU1 p1 => ⟨v, rfl, ly_k J1.1.1 77 rfl, gd_of (fun hg1 => ?_)⟩)
  have B1 := BK_Fr hg B0 F1 J1.1
  obtain ⟨C1, C2⟩ := CLS_lk hg B0.1 C J1 F1 SU1
  obtain ⟨n, a, m, M⟩ := B1.2.2.1
  exact ct_202 M (FM_rf h1) x1 q1 x2 q2 (fun w n' a' m' h2 M2 F2 => ⟨w, rfl, trivial, ⟨BK_FM hg1 B1 F2 M2, CLS_FM hg1 F2 C2⟩, RM_0 (F2.1.trans F1.1) (F2.2.1.trans F1.2.1)⟩)
theorem oz_115 {h : av_H} (B : BX h) (x1 : Int) (q1 : -2147483648 ≤ x1 ∧ x1 ≤ 2147483647) : av_wp none cd_115 0 [some (.inr (.inr (.inl (some (0))))), some (.inl x1), none, none, none, none] [] h (OPX cd_204 [some (.inr (.inr (.inl (some (77))))), some (.inl x1), none, none] h (fun x y => x = y)) := by
  refine gd_of (fun hg => ?_)
  obtain ⟨B0, U, S, C, SU⟩ := B
  refine cx_115 (CJ_of B0.1 C) x1 q1 (CRT_of B0.1 C) SU (f30 := hA h 30) (fun _ _ => rfl) (fun b _ l h0 h1 => RLW_al B0.1 C (hA h 30) (b : Int) (Int.toNat l) (by omega)) (fun v h1 sr' nd' J1 F1 SU1 p1 => ⟨v, rfl, ly_k J1.1.1 77 rfl, gd_of (fun hg1 => ?_)⟩)
  have B1 := BK_Fr hg B0 F1 J1.1
  obtain ⟨C1, C2⟩ := CLS_lk hg B0.1 C J1 F1 SU1
  have RX := RXX_of B1 C1 (ro := fun k => hA h (6 + k)) (fun l hl => ((CF0_Fr hg B0.1.1 F1).2.2.2.1 (6 + l) (by omega) (by omega)).symm)
  obtain ⟨c78, c79, c80⟩ := c78_of hg B0.1 F1 B1
  obtain ⟨n, a, m, M⟩ := B1.2.2.1
  have MX := fun b : Nat => fun _ : b < 64 => RXM_of B1 C1 RX (CF0_Fr hg B0.1.1 F1) B0.1 (hA h 30) (B0.1.2.1 30 rfl) (fun l _ => rfl) (b : Int)
  refine cx_204 M (FM_rf h1) RX (mx := fun b l => MXL h (hA h 30) (b : Int) l) MX x1 q1 (fun w n' a' m' h2 p2 M2 F2 => ⟨w, rfl, ?_, ⟨BK_FM hg1 B1 F2 M2, CLS_FM hg1 F2 C2⟩, RM_0 (F2.1.trans F1.1) (F2.2.1.trans F1.2.1)⟩)
  rw [c78, c79] at p2
  rw [c80] at p2
  refine RSP_u p1 (RSP_i ?_ p2)
  have d := cbv_d (U (Int.toNat x1)) (S (Int.toNat x1))
  have d1 := cbf_1 (U (Int.toNat x1)) (S (Int.toNat x1))
  have l8 := ic_lc B0.1
  unfold okx
  omega
theorem oz_116 {h : av_H} (B : BX h) (x1 x2 x3 x4 : Int) (q1 : -2147483648 ≤ x1 ∧ x1 ≤ 2147483647) (q2 : -2147483648 ≤ x2 ∧ x2 ≤ 2147483647) (q3 : -2147483648 ≤ x3 ∧ x3 ≤ 2147483647) (q4 : -2147483648 ≤ x4 ∧ x4 ≤ 2147483647) : av_wp none cd_116 0 [some (.inr (.inr (.inl (some (0))))), some (.inl x1), some (.inl x2), some (.inl x3), some (.inl x4)] [] h (OPX cd_205 [some (.inr (.inr (.inl (some (77))))), some (.inl x1), some (.inl x2), some (.inl x3), some (.inl x4), none, none, none, none] h (fun x y => True)) := by
  refine gd_of (fun hg => ?_)
  obtain ⟨B0, U, S, C, SU⟩ := B
  refine cx_116 (CJ_of B0.1 C) x1 q1 x2 q2 x3 q3 x4 q4 (CRT_of B0.1 C) SU (fun v h1 sr' nd' J1 F1 SU1 p1 => ⟨v, rfl, ly_k J1.1.1 77 rfl, gd_of (fun hg1 => ?_)⟩)
  have B1 := BK_Fr hg B0 F1.1 J1.1
  obtain ⟨C1, C2⟩ := CLS_lk hg B0.1 C J1 F1.1 SU1
  obtain ⟨n, a, m, M⟩ := B1.2.2.1
  exact ct_205 M (FM_rf h1) x1 q1 x2 q2 x3 q3 x4 q4 (fun w n' a' m' h2 M2 F2 => ⟨w, rfl, trivial, ⟨BK_FM hg1 B1 F2 M2, CLS_FM hg1 F2 C2⟩, RM_0 (F2.1.trans F1.1.1) (F2.2.1.trans F1.1.2.1)⟩)
theorem oz_117 {h : av_H} (B : BX h) (x1 x2 x3 x4 x5 : Int) (q1 : -2147483648 ≤ x1 ∧ x1 ≤ 2147483647) (q2 : -2147483648 ≤ x2 ∧ x2 ≤ 2147483647) (q3 : -2147483648 ≤ x3 ∧ x3 ≤ 2147483647) (q4 : -2147483648 ≤ x4 ∧ x4 ≤ 2147483647) (q5 : -2147483648 ≤ x5 ∧ x5 ≤ 2147483647) : av_wp none cd_117 0 [some (.inr (.inr (.inl (some (0))))), some (.inl x1), some (.inl x2), some (.inl x3), some (.inl x4), some (.inl x5), none] [] h (OPX cd_207 [some (.inr (.inr (.inl (some (77))))), some (.inl x1), some (.inl x2), some (.inl x3), some (.inl x4), some (.inl x5)] h (fun x y => True)) := by
  refine gd_of (fun hg => ?_)
  obtain ⟨B0, U, S, C, SU⟩ := B
  refine cx_117 (CJ_of B0.1 C) x1 q1 x2 q2 x3 q3 x4 q4 x5 q5 (CRT_of B0.1 C) SU (fun v h1 sr' nd' J1 F1 SU1 p1 => ⟨v, rfl, ly_k J1.1.1 77 rfl, gd_of (fun hg1 => ?_)⟩)
  have B1 := BK_Fr hg B0 F1.1 J1.1
  obtain ⟨C1, C2⟩ := CLS_lk hg B0.1 C J1 F1.1 SU1
  obtain ⟨n, a, m, M⟩ := B1.2.2.1
  exact ct_207 M (FM_rf h1) x1 q1 x2 q2 x3 q3 x4 q4 x5 q5 (fun w n' a' m' h2 M2 F2 => ⟨w, rfl, trivial, ⟨BK_FM hg1 B1 F2 M2, CLS_FM hg1 F2 C2⟩, RM_0 (F2.1.trans F1.1.1) (F2.2.1.trans F1.1.2.1)⟩)
theorem oz_118 {h : av_H} (B : BX h) (x1 x2 x3 x4 x5 : Int) (q1 : -2147483648 ≤ x1 ∧ x1 ≤ 2147483647) (q2 : -2147483648 ≤ x2 ∧ x2 ≤ 2147483647) (q3 : -2147483648 ≤ x3 ∧ x3 ≤ 2147483647) (q4 : -2147483648 ≤ x4 ∧ x4 ≤ 2147483647) (q5 : -2147483648 ≤ x5 ∧ x5 ≤ 2147483647) : av_wp none cd_118 0 [some (.inr (.inr (.inl (some (0))))), some (.inl x1), some (.inl x2), some (.inl x3), some (.inl x4), some (.inl x5)] [] h (OPX cd_208 [some (.inr (.inr (.inl (some (77))))), some (.inl x1), some (.inl x2), some (.inl x3), some (.inl x4), some (.inl x5), none] h (fun x y => True)) := by
  refine gd_of (fun hg => ?_)
  obtain ⟨B0, U, S, C, SU⟩ := B
  refine cx_118 (CJ_of B0.1 C) x1 q1 x2 q2 x3 q3 x4 q4 x5 q5 (CRT_of B0.1 C) SU (fun v h1 sr' nd' J1 F1 SU1 p1 => ⟨v, rfl, ly_k J1.1.1 77 rfl, gd_of (fun hg1 => ?_)⟩)
  have B1 := BK_Fr hg B0 F1.1 J1.1
  obtain ⟨C1, C2⟩ := CLS_lk hg B0.1 C J1 F1.1 SU1
  obtain ⟨n, a, m, M⟩ := B1.2.2.1
  exact ct_208 M (FM_rf h1) x1 q1 x2 q2 x3 q3 x4 q4 x5 q5 (fun w n' a' m' h2 M2 F2 => ⟨w, rfl, trivial, ⟨BK_FM hg1 B1 F2 M2, CLS_FM hg1 F2 C2⟩, RM_0 (F2.1.trans F1.1.1) (F2.2.1.trans F1.1.2.1)⟩)
theorem oz_120 {h : av_H} (B : BX h) (x1 x2 x3 : Int) (q1 : -2147483648 ≤ x1 ∧ x1 ≤ 2147483647) (q2 : -2147483648 ≤ x2 ∧ x2 ≤ 2147483647) (q3 : -2147483648 ≤ x3 ∧ x3 ≤ 2147483647) : av_wp none cd_120 0 [some (.inr (.inr (.inl (some (0))))), some (.inl x1), some (.inl x2), some (.inl x3), none] [] h (OPX cd_211 [some (.inr (.inr (.inl (some (77))))), some (.inl x1), some (.inl x2), some (.inl x3)] h (fun x y => True)) := by
  refine gd_of (fun hg => ?_)
  obtain ⟨B0, U, S, C, SU⟩ := B
  refine cx_120 (CJ_of B0.1 C) x1 q1 x2 q2 x3 q3 (CRT_of B0.1 C) SU (CWB_al B0.1 C) (fun v g h1 a b sr' nd' ha hb A J1 F1 SU1 p1 => ⟨v, rfl, ly_k J1.1.1 77 rfl, gd_of (fun hg1 => ?_)⟩)
  have G0 : av_Gd g := fun q hq => by rw [show g.1 = h1.1 from F1.1.symm]; exact hg1 q (by rw [show h1.2.2.1 q = g.2.2.1 q from congrFun F1.2.2.1 q]; exact hq)
  have Bg := BK_al hg B0 A
  have cfa := CF0_al hg B0.1.1 A
  have Cg := CLU_cf hg cfa C
  have B1 := BK_Fr G0 Bg F1 J1.1
  obtain ⟨C1, C2⟩ := CLS_lk G0 Bg.1 Cg (by rw [cfa.2.1.1]; exact J1) F1 (by rw [cfa.2.1.1, cfa.2.1.2.1]; exact SUA_c SU1 (fun l hl _ => cfa.2.2.2.1 _ (by omega) (by omega)))
  have rm : ∀ h2 : av_H, FM h1 h2 → RM h h2 := fun h2 F2 => by
    have e1 := F2.1
    have e2 := F2.2.1
    have e3 := F1.1
    have e4 := F1.2.1
    have e5 := A.1
    have e6 := A.2.1
    exact ⟨by omega, by omega⟩
  obtain ⟨n, a', m, M⟩ := B1.2.2.1
  exact ct_211 M (FM_rf h1) x1 q1 x2 q2 x3 q3 (fun w n' a'' m' h2 M2 F2 => ⟨w, rfl, trivial, ⟨BK_FM hg1 B1 F2 M2, CLS_FM hg1 F2 C2⟩, rm h2 F2⟩)
theorem oz_121 {h : av_H} (B : BX h) (x1 x2 x3 : Int) (q1 : -2147483648 ≤ x1 ∧ x1 ≤ 2147483647) (q2 : -2147483648 ≤ x2 ∧ x2 ≤ 2147483647) (q3 : -2147483648 ≤ x3 ∧ x3 ≤ 2147483647) : av_wp none cd_121 0 [some (.inr (.inr (.inl (some (0))))), some (.inl x1), some (.inl x2), some (.inl x3), none] [] h (OPX cd_212 [some (.inr (.inr (.inl (some (77))))), some (.inl x1), some (.inl x2), some (.inl x3), none] h (fun x y => True)) := by
  refine gd_of (fun hg => ?_)
  obtain ⟨B0, U, S, C, SU⟩ := B
  refine cx_121 (CJ_of B0.1 C) x1 q1 x2 q2 x3 q3 (CRT_of B0.1 C) SU (CWB_al B0.1 C) (fun v g h1 a b sr' nd' ha hb A J1 F1 SU1 p1 => ⟨v, rfl, ly_k J1.1.1 77 rfl, gd_of (fun hg1 => ?_)⟩)
  have G0 : av_Gd g := fun q hq => by rw [show g.1 = h1.1 from F1.1.symm]; exact hg1 q (by rw [show h1.2.2.1 q = g.2.2.1 q from congrFun F1.2.2.1 q]; exact hq)
  have Bg := BK_al hg B0 A
  have cfa := CF0_al hg B0.1.1 A
  have Cg := CLU_cf hg cfa C
  have B1 := BK_Fr G0 Bg F1 J1.1
  obtain ⟨C1, C2⟩ := CLS_lk G0 Bg.1 Cg (by rw [cfa.2.1.1]; exact J1) F1 (by rw [cfa.2.1.1, cfa.2.1.2.1]; exact SUA_c SU1 (fun l hl _ => cfa.2.2.2.1 _ (by omega) (by omega)))
  have rm : ∀ h2 : av_H, FM h1 h2 → RM h h2 := fun h2 F2 => by
    have e1 := F2.1
    have e2 := F2.2.1
    have e3 := F1.1
    have e4 := F1.2.1
    have e5 := A.1
    have e6 := A.2.1
    exact ⟨by omega, by omega⟩
  obtain ⟨n, a', m, M⟩ := B1.2.2.1
  exact ct_212 M (FM_rf h1) x1 q1 x2 q2 x3 q3 (fun w n' a'' m' h2 M2 F2 => ⟨w, rfl, trivial, ⟨BK_FM hg1 B1 F2 M2, CLS_FM hg1 F2 C2⟩, rm h2 F2⟩)
end
section
/-! THE BOOK AT THE START, with the class's own -/
set_option maxRecDepth 100000 in
set_option maxHeartbeats 16000000 in
theorem h3_27 : ∀ j, j < 144 → hA av_h3 27 j = 0 := by decide +kernel
theorem h3_CLS : CLS av_h3 := by
  refine ⟨fun _ _ => 0, fun _ => 0, ⟨fun i _ hi => ?_, fun l _ hl => ?_, fun c _ hc => ?_, fun i _ hi => ?_⟩, SUA_0 h3_27⟩
  · rw [h3_F.2.2.2.2.2.2.2.2.1] at hi
    omega
  · rw [h3_F.2.2.2.2.2.2.2.2.2.1] at hl
    omega
  · rw [h3_F.2.2.2.2.2.2.2.2.2.2.1] at hc
    omega
  · rw [h3_F.1] at hi
    omega
theorem h3_BX : BX av_h3 := ⟨h3_BK, h3_CLS⟩
end
