/-! THE LAW'S LOOP -/
theorem wq_scr {cd : List (Nat × av_E)} {Q : Option av_V → av_H → Prop} {pc p' : Nat} {lv : av_L} {r : List av_V} {h : av_H} {L : Nat} {f : Nat → Int} {i : Int} (hx : cd.lookup pc = some (av_q (.iaload))) (hp : pc + 1 = p') (hi : 0 ≤ i ∧ i < (L : Int) ∧ (L : Int) < 2147483648) (hw : av_wp (some (L, f)) cd p' lv (.inl (f i.toNat) :: r) h Q) : av_wp (some (L, f)) cd pc lv (.inl i :: .inr (.inr (.inr 100)) :: r) h Q := by
  subst hp
  refine av_wp_st1 hx (pc' := pc + 1) (lv' := lv) (st' := .inl (f i.toNat) :: r) (h' := h) rfl ?_ hw
  show av_ald (some (L, f)) [20] pc lv (.inl i :: .inr (.inr (.inr 100)) :: r) h = _
  simp only [av_ald]
  rw [if_pos ⟨trivial, av_inO hi⟩, av_rgw ⟨by omega, by omega⟩]
theorem av_seq_sub {sc : av_Sr} {D cd : List (Nat × av_E)} (hD : ∀ (pc : Nat) (x : av_E), D.lookup pc = some x → cd.lookup pc = some x) : ∀ (k : Nat) (s s' : av_S), av_seq sc k D s = some s' → av_seq sc k cd s = some s' := by
  intro k
  induction k with
  | zero => intro s s' hs; exact hs
  | succ k ih =>
    intro s s' hs
    simp only [av_seq] at hs ⊢
    split at hs
    · cases hs
    · next x hx =>
      rw [hD _ _ hx]
      try dsimp only
      split at hs
      · next hk =>
        rw [if_pos hk]
        split at hs
        · cases hs
        · next s1 hs1 =>
          first
            | exact ih _ _ hs
            | (rw [hs1]; exact ih _ _ hs)
      · cases hs
theorem av_wp_sqL {sc : av_Sr} {D cd : List (Nat × av_E)} (hD : ∀ (pc : Nat) (x : av_E), D.lookup pc = some x → cd.lookup pc = some x) (k : Nat) {Q : Option av_V → av_H → Prop} {pc pc' : Nat} {lv lv' : av_L} {st st' : List av_V} {h h' : av_H} (hs : av_seq sc k D (pc, lv, st, h) = some (pc', lv', st', h')) (hw : av_wp sc cd pc' lv' st' h' Q) : av_wp sc cd pc lv st h Q := av_wp_seq k (av_seq_sub hD _ _ _ hs) hw
theorem av_lkm : ∀ (D : List (Nat × av_E)) {pc : Nat} {x : av_E}, D.lookup pc = some x → (pc, x) ∈ D
  | [], _, _, h => by cases h
  | (k, v) :: D, pc, x, h => by
    have h : (match pc == k with | true => some v | false => D.lookup pc) = some x := h
    split at h
    · next e =>
      cases h
      rw [show pc = k from eq_of_beq e]
      exact List.mem_cons_self
    · exact List.mem_cons_of_mem _ (av_lkm D h)
theorem av_lks {D : List (Nat × av_E)} (h : D.all (fun q => decide (cd_L.lookup q.1 = some q.2)) = true) (pc : Nat) (x : av_E) (hx : D.lookup pc = some x) : cd_L.lookup pc = some x := of_decide_eq_true (List.all_eq_true.mp h _ (av_lkm D hx))
theorem av_and31 (x : Int) : ∃ k : Nat, k < 32 ∧ av_and x 31 = (k : Int) := by
  have hle : ((Int32.ofInt x).toBitVec &&& (Int32.ofInt 31).toBitVec).toNat < 32 := by
    rw [BitVec.toNat_and]
    exact Nat.lt_of_le_of_lt Nat.and_le_right (by decide)
  refine ⟨((Int32.ofInt x).toBitVec &&& (Int32.ofInt 31).toBitVec).toNat, hle, ?_⟩
  show ((Int32.ofInt x) &&& (Int32.ofInt 31)).toBitVec.toInt = _
  rw [Int32.toBitVec_and]
  exact BitVec.toInt_eq_toNat_of_lt (by omega)
def cL_0 : List (Nat × av_E) := [(160, av_q (.aload_n 1)), (161, av_q (.aload_n 0)), (162, av_q (.iload_n 3)), (163, av_q (.iconst 1)), (164, av_q (.iadd)), (165, av_q (.iaload)), (166, av_q (.aload_n 0)), (167, av_q (.iload_n 3)), (168, av_q (.iconst 2)), (169, av_q (.iadd)), (170, av_q (.iaload)), (171, av_q (.aload_n 0)), (172, av_q (.iload_n 3)), (173, av_q (.iconst 3)), (174, av_q (.iadd)), (175, av_q (.iaload)), (176, av_q (.aload_n 0)), (177, av_q (.iload_n 3)), (178, av_q (.iconst 4)), (179, av_q (.iadd)), (180, av_q (.iaload)), (181, av_q (.aload_n 0)), (182, av_q (.iload_n 3)), (183, av_q (.iconst 5)), (184, av_q (.iadd)), (185, av_q (.iaload)), (186, av_qc (.invokevirtual 13) 94 5 0 7), (189, av_q (.pop)), (190, av_q (.aload_n 2)), (191, av_q (.aload_n 0)), (192, av_q (.iload_n 3)), (193, av_q (.iconst 1)), (194, av_q (.iadd)), (195, av_q (.iaload)), (196, av_q (.aload_n 0)), (197, av_q (.iload_n 3)), (198, av_q (.iconst 2)), (199, av_q (.iadd)), (200, av_q (.iaload)), (201, av_q (.aload_n 0)), (202, av_q (.iload_n 3)), (203, av_q (.iconst 3)), (204, av_q (.iadd)), (205, av_q (.iaload)), (206, av_q (.aload_n 0)), (207, av_q (.iload_n 3)), (208, av_q (.iconst 4)), (209, av_q (.iadd)), (210, av_q (.iaload)), (211, av_q (.aload_n 0)), (212, av_q (.iload_n 3)), (213, av_q (.iconst 5)), (214, av_q (.iadd)), (215, av_q (.iaload)), (216, av_qc (.invokevirtual 17) 128 5 0 8), (219, av_q (.pop)), (220, av_qa (.goto 1064) 1284)]
set_option maxRecDepth 100000 in
set_option maxHeartbeats 8000000 in
theorem cL_0_ok : ∀ (pc : Nat) (x : av_E), cL_0.lookup pc = some x → cd_L.lookup pc = some x := av_lks (by decide +kernel)
set_option maxRecDepth 100000 in
set_option maxHeartbeats 8000000 in
theorem lo_0 {L : Nat} {f : Nat → Int} (hf : ∀ j, -2147483648 ≤ f j ∧ f j ≤ 2147483647) {i : Int} (hi : 0 ≤ i ∧ i + 6 ≤ (L : Int)) (hL : L ≤ 3072) {h : av_H} (B : BX h) {Q : Option av_V → av_H → Prop} (hk : ∀ h', BX h' → RM h h' → av_wp (some (L, f)) cd_L 1284 [some (.inr (.inr (.inr 100))), some (.inr (.inr (.inl (some (0))))), some (.inr (.inr (.inl (some (77))))), some (.inl i)] [] h' Q) : av_wp (some (L, f)) cd_L 160 [some (.inr (.inr (.inr 100))), some (.inr (.inr (.inl (some (0))))), some (.inr (.inr (.inl (some (77))))), some (.inl i)] [] h Q := by
  refine av_wp_sqL cL_0_ok 5 (pc' := 165) (lv' := [some (.inr (.inr (.inr 100))), some (.inr (.inr (.inl (some (0))))), some (.inr (.inr (.inl (some (77))))), some (.inl i)]) (st' := [.inl (i + (1)), .inr (.inr (.inr 100)), .inr (.inr (.inl (some (0))))]) (h' := h) rfl ?_
  refine wq_scr (p' := 166) (cL_0_ok _ _ rfl) rfl ⟨by omega, by omega, by omega⟩ ?_
  refine av_wp_sqL cL_0_ok 4 (pc' := 170) (lv' := [some (.inr (.inr (.inr 100))), some (.inr (.inr (.inl (some (0))))), some (.inr (.inr (.inl (some (77))))), some (.inl i)]) (st' := [.inl (i + (2)), .inr (.inr (.inr 100)), .inl (f (Int.toNat (i + (1)))), .inr (.inr (.inl (some (0))))]) (h' := h) rfl ?_
  refine wq_scr (p' := 171) (cL_0_ok _ _ rfl) rfl ⟨by omega, by omega, by omega⟩ ?_
  refine av_wp_sqL cL_0_ok 4 (pc' := 175) (lv' := [some (.inr (.inr (.inr 100))), some (.inr (.inr (.inl (some (0))))), some (.inr (.inr (.inl (some (77))))), some (.inl i)]) (st' := [.inl (i + (3)), .inr (.inr (.inr 100)), .inl (f (Int.toNat (i + (2)))), .inl (f (Int.toNat (i + (1)))), .inr (.inr (.inl (some (0))))]) (h' := h) rfl ?_
  refine wq_scr (p' := 176) (cL_0_ok _ _ rfl) rfl ⟨by omega, by omega, by omega⟩ ?_
  refine av_wp_sqL cL_0_ok 4 (pc' := 180) (lv' := [some (.inr (.inr (.inr 100))), some (.inr (.inr (.inl (some (0))))), some (.inr (.inr (.inl (some (77))))), some (.inl i)]) (st' := [.inl (i + (4)), .inr (.inr (.inr 100)), .inl (f (Int.toNat (i + (3)))), .inl (f (Int.toNat (i + (2)))), .inl (f (Int.toNat (i + (1)))), .inr (.inr (.inl (some (0))))]) (h' := h) rfl ?_
  refine wq_scr (p' := 181) (cL_0_ok _ _ rfl) rfl ⟨by omega, by omega, by omega⟩ ?_
  refine av_wp_sqL cL_0_ok 4 (pc' := 185) (lv' := [some (.inr (.inr (.inr 100))), some (.inr (.inr (.inl (some (0))))), some (.inr (.inr (.inl (some (77))))), some (.inl i)]) (st' := [.inl (i + (5)), .inr (.inr (.inr 100)), .inl (f (Int.toNat (i + (4)))), .inl (f (Int.toNat (i + (3)))), .inl (f (Int.toNat (i + (2)))), .inl (f (Int.toNat (i + (1)))), .inr (.inr (.inl (some (0))))]) (h' := h) rfl ?_
  refine wq_scr (p' := 186) (cL_0_ok _ _ rfl) rfl ⟨by omega, by omega, by omega⟩ ?_
  refine wq_cv (p' := 189) (av_qc (.invokevirtual 13) 94 5 0 7) 6 cd_94 [.inl (f (Int.toNat (i + (5)))), .inl (f (Int.toNat (i + (4)))), .inl (f (Int.toNat (i + (3)))), .inl (f (Int.toNat (i + (2)))), .inl (f (Int.toNat (i + (1))))] (0) 7 [some (.inr (.inr (.inl (some (0))))), some (.inl (f (Int.toNat (i + (1))))), some (.inl (f (Int.toNat (i + (2))))), some (.inl (f (Int.toNat (i + (3))))), some (.inl (f (Int.toNat (i + (4))))), some (.inl (f (Int.toNat (i + (5)))))] (cL_0_ok _ _ rfl) rfl rfl pp_94 rfl rfl rfl (congrArg Prod.fst (ly_k B.1.1.1 0 rfl)) rfl rfl rfl rfl ?_
  refine av_wp_mono (oz_feed B (f (Int.toNat (i + (1)))) (f (Int.toNat (i + (2)))) (f (Int.toNat (i + (3)))) (f (Int.toNat (i + (4)))) (f (Int.toNat (i + (5))))) (fun v h1 z => ?_)
  obtain ⟨x, rfl, k77, W⟩ := z
  show av_wp (some (L, f)) cd_L 189 [some (.inr (.inr (.inr 100))), some (.inr (.inr (.inl (some (0))))), some (.inr (.inr (.inl (some (77))))), some (.inl i)] [.inl x] h1 Q
  refine av_wp_sqL cL_0_ok 6 (pc' := 195) (lv' := [some (.inr (.inr (.inr 100))), some (.inr (.inr (.inl (some (0))))), some (.inr (.inr (.inl (some (77))))), some (.inl i)]) (st' := [.inl (i + (1)), .inr (.inr (.inr 100)), .inr (.inr (.inl (some (77))))]) (h' := h1) rfl ?_
  refine wq_scr (p' := 196) (cL_0_ok _ _ rfl) rfl ⟨by omega, by omega, by omega⟩ ?_
  refine av_wp_sqL cL_0_ok 4 (pc' := 200) (lv' := [some (.inr (.inr (.inr 100))), some (.inr (.inr (.inl (some (0))))), some (.inr (.inr (.inl (some (77))))), some (.inl i)]) (st' := [.inl (i + (2)), .inr (.inr (.inr 100)), .inl (f (Int.toNat (i + (1)))), .inr (.inr (.inl (some (77))))]) (h' := h1) rfl ?_
  refine wq_scr (p' := 201) (cL_0_ok _ _ rfl) rfl ⟨by omega, by omega, by omega⟩ ?_
  refine av_wp_sqL cL_0_ok 4 (pc' := 205) (lv' := [some (.inr (.inr (.inr 100))), some (.inr (.inr (.inl (some (0))))), some (.inr (.inr (.inl (some (77))))), some (.inl i)]) (st' := [.inl (i + (3)), .inr (.inr (.inr 100)), .inl (f (Int.toNat (i + (2)))), .inl (f (Int.toNat (i + (1)))), .inr (.inr (.inl (some (77))))]) (h' := h1) rfl ?_
  refine wq_scr (p' := 206) (cL_0_ok _ _ rfl) rfl ⟨by omega, by omega, by omega⟩ ?_
  refine av_wp_sqL cL_0_ok 4 (pc' := 210) (lv' := [some (.inr (.inr (.inr 100))), some (.inr (.inr (.inl (some (0))))), some (.inr (.inr (.inl (some (77))))), some (.inl i)]) (st' := [.inl (i + (4)), .inr (.inr (.inr 100)), .inl (f (Int.toNat (i + (3)))), .inl (f (Int.toNat (i + (2)))), .inl (f (Int.toNat (i + (1)))), .inr (.inr (.inl (some (77))))]) (h' := h1) rfl ?_
  refine wq_scr (p' := 211) (cL_0_ok _ _ rfl) rfl ⟨by omega, by omega, by omega⟩ ?_
  refine av_wp_sqL cL_0_ok 4 (pc' := 215) (lv' := [some (.inr (.inr (.inr 100))), some (.inr (.inr (.inl (some (0))))), some (.inr (.inr (.inl (some (77))))), some (.inl i)]) (st' := [.inl (i + (5)), .inr (.inr (.inr 100)), .inl (f (Int.toNat (i + (4)))), .inl (f (Int.toNat (i + (3)))), .inl (f (Int.toNat (i + (2)))), .inl (f (Int.toNat (i + (1)))), .inr (.inr (.inl (some (77))))]) (h' := h1) rfl ?_
  refine wq_scr (p' := 216) (cL_0_ok _ _ rfl) rfl ⟨by omega, by omega, by omega⟩ ?_
  refine wq_cv (p' := 219) (av_qc (.invokevirtual 17) 128 5 0 8) 8 cd_128 [.inl (f (Int.toNat (i + (5)))), .inl (f (Int.toNat (i + (4)))), .inl (f (Int.toNat (i + (3)))), .inl (f (Int.toNat (i + (2)))), .inl (f (Int.toNat (i + (1))))] (77) 8 [some (.inr (.inr (.inl (some (77))))), some (.inl (f (Int.toNat (i + (1))))), some (.inl (f (Int.toNat (i + (2))))), some (.inl (f (Int.toNat (i + (3))))), some (.inl (f (Int.toNat (i + (4))))), some (.inl (f (Int.toNat (i + (5))))), none, none] (cL_0_ok _ _ rfl) rfl rfl pp_128 rfl rfl rfl (congrArg Prod.fst k77) rfl rfl rfl rfl ?_
  refine av_wp_mono W (fun v h2 z => ?_)
  obtain ⟨y, rfl, e, B2, R2⟩ := z
  show av_wp (some (L, f)) cd_L 219 [some (.inr (.inr (.inr 100))), some (.inr (.inr (.inl (some (0))))), some (.inr (.inr (.inl (some (77))))), some (.inl i)] [.inl y] h2 Q
  refine av_wp_sqL cL_0_ok 2 (pc' := 1284) (lv' := [some (.inr (.inr (.inr 100))), some (.inr (.inr (.inl (some (0))))), some (.inr (.inr (.inl (some (77))))), some (.inl i)]) (st' := []) (h' := h2) rfl ?_
  exact hk h2 B2 R2
def cL_1 : List (Nat × av_E) := [(223, av_q (.aload_n 1)), (224, av_q (.aload_n 0)), (225, av_q (.iload_n 3)), (226, av_q (.iconst 1)), (227, av_q (.iadd)), (228, av_q (.iaload)), (229, av_qc (.invokevirtual 18) 95 1 0 7), (232, av_q (.pop)), (233, av_q (.aload_n 2)), (234, av_q (.aload_n 0)), (235, av_q (.iload_n 3)), (236, av_q (.iconst 1)), (237, av_q (.iadd)), (238, av_q (.iaload)), (239, av_qc (.invokevirtual 22) 148 1 0 8), (242, av_q (.pop)), (243, av_qa (.goto 1041) 1284)]
set_option maxRecDepth 100000 in
set_option maxHeartbeats 8000000 in
theorem cL_1_ok : ∀ (pc : Nat) (x : av_E), cL_1.lookup pc = some x → cd_L.lookup pc = some x := av_lks (by decide +kernel)
set_option maxRecDepth 100000 in
set_option maxHeartbeats 8000000 in
theorem lo_1 {L : Nat} {f : Nat → Int} (hf : ∀ j, -2147483648 ≤ f j ∧ f j ≤ 2147483647) {i : Int} (hi : 0 ≤ i ∧ i + 6 ≤ (L : Int)) (hL : L ≤ 3072) {h : av_H} (B : BX h) {Q : Option av_V → av_H → Prop} (hk : ∀ h', BX h' → RM h h' → av_wp (some (L, f)) cd_L 1284 [some (.inr (.inr (.inr 100))), some (.inr (.inr (.inl (some (0))))), some (.inr (.inr (.inl (some (77))))), some (.inl i)] [] h' Q) : av_wp (some (L, f)) cd_L 223 [some (.inr (.inr (.inr 100))), some (.inr (.inr (.inl (some (0))))), some (.inr (.inr (.inl (some (77))))), some (.inl i)] [] h Q := by
  refine av_wp_sqL cL_1_ok 5 (pc' := 228) (lv' := [some (.inr (.inr (.inr 100))), some (.inr (.inr (.inl (some (0))))), some (.inr (.inr (.inl (some (77))))), some (.inl i)]) (st' := [.inl (i + (1)), .inr (.inr (.inr 100)), .inr (.inr (.inl (some (0))))]) (h' := h) rfl ?_
  refine wq_scr (p' := 229) (cL_1_ok _ _ rfl) rfl ⟨by omega, by omega, by omega⟩ ?_
  refine wq_cv (p' := 232) (av_qc (.invokevirtual 18) 95 1 0 7) 3 cd_95 [.inl (f (Int.toNat (i + (1))))] (0) 7 [some (.inr (.inr (.inl (some (0))))), some (.inl (f (Int.toNat (i + (1))))), none] (cL_1_ok _ _ rfl) rfl rfl pp_95 rfl rfl rfl (congrArg Prod.fst (ly_k B.1.1.1 0 rfl)) rfl rfl rfl rfl ?_
  refine av_wp_mono (oz_tell B (f (Int.toNat (i + (1)))) (hf _)) (fun v h1 z => ?_)
  obtain ⟨x, rfl, k77, W⟩ := z
  show av_wp (some (L, f)) cd_L 232 [some (.inr (.inr (.inr 100))), some (.inr (.inr (.inl (some (0))))), some (.inr (.inr (.inl (some (77))))), some (.inl i)] [.inl x] h1 Q
  refine av_wp_sqL cL_1_ok 6 (pc' := 238) (lv' := [some (.inr (.inr (.inr 100))), some (.inr (.inr (.inl (some (0))))), some (.inr (.inr (.inl (some (77))))), some (.inl i)]) (st' := [.inl (i + (1)), .inr (.inr (.inr 100)), .inr (.inr (.inl (some (77))))]) (h' := h1) rfl ?_
  refine wq_scr (p' := 239) (cL_1_ok _ _ rfl) rfl ⟨by omega, by omega, by omega⟩ ?_
  refine wq_cv (p' := 242) (av_qc (.invokevirtual 22) 148 1 0 8) 3 cd_148 [.inl (f (Int.toNat (i + (1))))] (77) 8 [some (.inr (.inr (.inl (some (77))))), some (.inl (f (Int.toNat (i + (1))))), none] (cL_1_ok _ _ rfl) rfl rfl pp_148 rfl rfl rfl (congrArg Prod.fst k77) rfl rfl rfl rfl ?_
  refine av_wp_mono W (fun v h2 z => ?_)
  obtain ⟨y, rfl, e, B2, R2⟩ := z
  show av_wp (some (L, f)) cd_L 242 [some (.inr (.inr (.inr 100))), some (.inr (.inr (.inl (some (0))))), some (.inr (.inr (.inl (some (77))))), some (.inl i)] [.inl y] h2 Q
  refine av_wp_sqL cL_1_ok 2 (pc' := 1284) (lv' := [some (.inr (.inr (.inr 100))), some (.inr (.inr (.inl (some (0))))), some (.inr (.inr (.inl (some (77))))), some (.inl i)]) (st' := []) (h' := h2) rfl ?_
  exact hk h2 B2 R2
def cL_2 : List (Nat × av_E) := [(246, av_q (.aload_n 1)), (247, av_q (.aload_n 0)), (248, av_q (.iload_n 3)), (249, av_q (.iconst 1)), (250, av_q (.iadd)), (251, av_q (.iaload)), (252, av_q (.aload_n 0)), (253, av_q (.iload_n 3)), (254, av_q (.iconst 2)), (255, av_q (.iadd)), (256, av_q (.iaload)), (257, av_qc (.invokevirtual 23) 96 2 0 7), (260, av_q (.pop)), (261, av_q (.aload_n 2)), (262, av_q (.aload_n 0)), (263, av_q (.iload_n 3)), (264, av_q (.iconst 1)), (265, av_q (.iadd)), (266, av_q (.iaload)), (267, av_q (.aload_n 0)), (268, av_q (.iload_n 3)), (269, av_q (.iconst 2)), (270, av_q (.iadd)), (271, av_q (.iaload)), (272, av_qc (.invokevirtual 27) 151 2 0 8), (275, av_q (.pop)), (276, av_qa (.goto 1008) 1284)]
set_option maxRecDepth 100000 in
set_option maxHeartbeats 8000000 in
theorem cL_2_ok : ∀ (pc : Nat) (x : av_E), cL_2.lookup pc = some x → cd_L.lookup pc = some x := av_lks (by decide +kernel)
set_option maxRecDepth 100000 in
set_option maxHeartbeats 8000000 in
theorem lo_2 {L : Nat} {f : Nat → Int} (hf : ∀ j, -2147483648 ≤ f j ∧ f j ≤ 2147483647) {i : Int} (hi : 0 ≤ i ∧ i + 6 ≤ (L : Int)) (hL : L ≤ 3072) {h : av_H} (B : BX h) {Q : Option av_V → av_H → Prop} (hk : ∀ h', BX h' → RM h h' → av_wp (some (L, f)) cd_L 1284 [some (.inr (.inr (.inr 100))), some (.inr (.inr (.inl (some (0))))), some (.inr (.inr (.inl (some (77))))), some (.inl i)] [] h' Q) : av_wp (some (L, f)) cd_L 246 [some (.inr (.inr (.inr 100))), some (.inr (.inr (.inl (some (0))))), some (.inr (.inr (.inl (some (77))))), some (.inl i)] [] h Q := by
  refine av_wp_sqL cL_2_ok 5 (pc' := 251) (lv' := [some (.inr (.inr (.inr 100))), some (.inr (.inr (.inl (some (0))))), some (.inr (.inr (.inl (some (77))))), some (.inl i)]) (st' := [.inl (i + (1)), .inr (.inr (.inr 100)), .inr (.inr (.inl (some (0))))]) (h' := h) rfl ?_
  refine wq_scr (p' := 252) (cL_2_ok _ _ rfl) rfl ⟨by omega, by omega, by omega⟩ ?_
  refine av_wp_sqL cL_2_ok 4 (pc' := 256) (lv' := [some (.inr (.inr (.inr 100))), some (.inr (.inr (.inl (some (0))))), some (.inr (.inr (.inl (some (77))))), some (.inl i)]) (st' := [.inl (i + (2)), .inr (.inr (.inr 100)), .inl (f (Int.toNat (i + (1)))), .inr (.inr (.inl (some (0))))]) (h' := h) rfl ?_
  refine wq_scr (p' := 257) (cL_2_ok _ _ rfl) rfl ⟨by omega, by omega, by omega⟩ ?_
  refine wq_cv (p' := 260) (av_qc (.invokevirtual 23) 96 2 0 7) 5 cd_96 [.inl (f (Int.toNat (i + (2)))), .inl (f (Int.toNat (i + (1))))] (0) 7 [some (.inr (.inr (.inl (some (0))))), some (.inl (f (Int.toNat (i + (1))))), some (.inl (f (Int.toNat (i + (2))))), none, none] (cL_2_ok _ _ rfl) rfl rfl pp_96 rfl rfl rfl (congrArg Prod.fst (ly_k B.1.1.1 0 rfl)) rfl rfl rfl rfl ?_
  refine av_wp_mono (oz_more B (f (Int.toNat (i + (1)))) (f (Int.toNat (i + (2)))) (hf _) (hf _)) (fun v h1 z => ?_)
  obtain ⟨x, rfl, k77, W⟩ := z
  show av_wp (some (L, f)) cd_L 260 [some (.inr (.inr (.inr 100))), some (.inr (.inr (.inl (some (0))))), some (.inr (.inr (.inl (some (77))))), some (.inl i)] [.inl x] h1 Q
  refine av_wp_sqL cL_2_ok 6 (pc' := 266) (lv' := [some (.inr (.inr (.inr 100))), some (.inr (.inr (.inl (some (0))))), some (.inr (.inr (.inl (some (77))))), some (.inl i)]) (st' := [.inl (i + (1)), .inr (.inr (.inr 100)), .inr (.inr (.inl (some (77))))]) (h' := h1) rfl ?_
  refine wq_scr (p' := 267) (cL_2_ok _ _ rfl) rfl ⟨by omega, by omega, by omega⟩ ?_
  refine av_wp_sqL cL_2_ok 4 (pc' := 271) (lv' := [some (.inr (.inr (.inr 100))), some (.inr (.inr (.inl (some (0))))), some (.inr (.inr (.inl (some (77))))), some (.inl i)]) (st' := [.inl (i + (2)), .inr (.inr (.inr 100)), .inl (f (Int.toNat (i + (1)))), .inr (.inr (.inl (some (77))))]) (h' := h1) rfl ?_
  refine wq_scr (p' := 272) (cL_2_ok _ _ rfl) rfl ⟨by omega, by omega, by omega⟩ ?_
  refine wq_cv (p' := 275) (av_qc (.invokevirtual 27) 151 2 0 8) 4 cd_151 [.inl (f (Int.toNat (i + (2)))), .inl (f (Int.toNat (i + (1))))] (77) 8 [some (.inr (.inr (.inl (some (77))))), some (.inl (f (Int.toNat (i + (1))))), some (.inl (f (Int.toNat (i + (2))))), none] (cL_2_ok _ _ rfl) rfl rfl pp_151 rfl rfl rfl (congrArg Prod.fst k77) rfl rfl rfl rfl ?_
  refine av_wp_mono W (fun v h2 z => ?_)
  obtain ⟨y, rfl, e, B2, R2⟩ := z
  show av_wp (some (L, f)) cd_L 275 [some (.inr (.inr (.inr 100))), some (.inr (.inr (.inl (some (0))))), some (.inr (.inr (.inl (some (77))))), some (.inl i)] [.inl y] h2 Q
  refine av_wp_sqL cL_2_ok 2 (pc' := 1284) (lv' := [some (.inr (.inr (.inr 100))), some (.inr (.inr (.inl (some (0))))), some (.inr (.inr (.inl (some (77))))), some (.inl i)]) (st' := []) (h' := h2) rfl ?_
  exact hk h2 B2 R2
def cL_3 : List (Nat × av_E) := [(279, av_q (.aload_n 1)), (280, av_q (.aload_n 0)), (281, av_q (.iload_n 3)), (282, av_q (.iconst 1)), (283, av_q (.iadd)), (284, av_q (.iaload)), (285, av_qc (.invokevirtual 28) 97 1 0 7), (288, av_q (.pop)), (289, av_q (.aload_n 2)), (290, av_q (.aload_n 0)), (291, av_q (.iload_n 3)), (292, av_q (.iconst 1)), (293, av_q (.iadd)), (294, av_q (.iaload)), (295, av_qc (.invokevirtual 31) 156 1 0 8), (298, av_q (.pop)), (299, av_qa (.goto 985) 1284)]
set_option maxRecDepth 100000 in
set_option maxHeartbeats 8000000 in
theorem cL_3_ok : ∀ (pc : Nat) (x : av_E), cL_3.lookup pc = some x → cd_L.lookup pc = some x := av_lks (by decide +kernel)
set_option maxRecDepth 100000 in
set_option maxHeartbeats 8000000 in
theorem lo_3 {L : Nat} {f : Nat → Int} (hf : ∀ j, -2147483648 ≤ f j ∧ f j ≤ 2147483647) {i : Int} (hi : 0 ≤ i ∧ i + 6 ≤ (L : Int)) (hL : L ≤ 3072) {h : av_H} (B : BX h) {Q : Option av_V → av_H → Prop} (hk : ∀ h', BX h' → RM h h' → av_wp (some (L, f)) cd_L 1284 [some (.inr (.inr (.inr 100))), some (.inr (.inr (.inl (some (0))))), some (.inr (.inr (.inl (some (77))))), some (.inl i)] [] h' Q) : av_wp (some (L, f)) cd_L 279 [some (.inr (.inr (.inr 100))), some (.inr (.inr (.inl (some (0))))), some (.inr (.inr (.inl (some (77))))), some (.inl i)] [] h Q := by
  refine av_wp_sqL cL_3_ok 5 (pc' := 284) (lv' := [some (.inr (.inr (.inr 100))), some (.inr (.inr (.inl (some (0))))), some (.inr (.inr (.inl (some (77))))), some (.inl i)]) (st' := [.inl (i + (1)), .inr (.inr (.inr 100)), .inr (.inr (.inl (some (0))))]) (h' := h) rfl ?_
  refine wq_scr (p' := 285) (cL_3_ok _ _ rfl) rfl ⟨by omega, by omega, by omega⟩ ?_
  refine wq_cv (p' := 288) (av_qc (.invokevirtual 28) 97 1 0 7) 3 cd_97 [.inl (f (Int.toNat (i + (1))))] (0) 7 [some (.inr (.inr (.inl (some (0))))), some (.inl (f (Int.toNat (i + (1))))), none] (cL_3_ok _ _ rfl) rfl rfl pp_97 rfl rfl rfl (congrArg Prod.fst (ly_k B.1.1.1 0 rfl)) rfl rfl rfl rfl ?_
  refine av_wp_mono (oz_law B (f (Int.toNat (i + (1)))) (hf _)) (fun v h1 z => ?_)
  obtain ⟨x, rfl, k77, W⟩ := z
  show av_wp (some (L, f)) cd_L 288 [some (.inr (.inr (.inr 100))), some (.inr (.inr (.inl (some (0))))), some (.inr (.inr (.inl (some (77))))), some (.inl i)] [.inl x] h1 Q
  refine av_wp_sqL cL_3_ok 6 (pc' := 294) (lv' := [some (.inr (.inr (.inr 100))), some (.inr (.inr (.inl (some (0))))), some (.inr (.inr (.inl (some (77))))), some (.inl i)]) (st' := [.inl (i + (1)), .inr (.inr (.inr 100)), .inr (.inr (.inl (some (77))))]) (h' := h1) rfl ?_
  refine wq_scr (p' := 295) (cL_3_ok _ _ rfl) rfl ⟨by omega, by omega, by omega⟩ ?_
  refine wq_cv (p' := 298) (av_qc (.invokevirtual 31) 156 1 0 8) 2 cd_156 [.inl (f (Int.toNat (i + (1))))] (77) 8 [some (.inr (.inr (.inl (some (77))))), some (.inl (f (Int.toNat (i + (1)))))] (cL_3_ok _ _ rfl) rfl rfl pp_156 rfl rfl rfl (congrArg Prod.fst k77) rfl rfl rfl rfl ?_
  refine av_wp_mono W (fun v h2 z => ?_)
  obtain ⟨y, rfl, e, B2, R2⟩ := z
  show av_wp (some (L, f)) cd_L 298 [some (.inr (.inr (.inr 100))), some (.inr (.inr (.inl (some (0))))), some (.inr (.inr (.inl (some (77))))), some (.inl i)] [.inl y] h2 Q
  refine av_wp_sqL cL_3_ok 2 (pc' := 1284) (lv' := [some (.inr (.inr (.inr 100))), some (.inr (.inr (.inl (some (0))))), some (.inr (.inr (.inl (some (77))))), some (.inl i)]) (st' := []) (h' := h2) rfl ?_
  exact hk h2 B2 R2
def cL_4 : List (Nat × av_E) := [(302, av_q (.aload_n 1)), (303, av_q (.aload_n 0)), (304, av_q (.iload_n 3)), (305, av_q (.iconst 1)), (306, av_q (.iadd)), (307, av_q (.iaload)), (308, av_qc (.invokevirtual 32) 98 1 0 7), (311, av_q (.pop)), (312, av_q (.aload_n 2)), (313, av_q (.aload_n 0)), (314, av_q (.iload_n 3)), (315, av_q (.iconst 1)), (316, av_q (.iadd)), (317, av_q (.iaload)), (318, av_qc (.invokevirtual 35) 157 1 0 8), (321, av_q (.pop)), (322, av_qa (.goto 962) 1284)]
set_option maxRecDepth 100000 in
set_option maxHeartbeats 8000000 in
theorem cL_4_ok : ∀ (pc : Nat) (x : av_E), cL_4.lookup pc = some x → cd_L.lookup pc = some x := av_lks (by decide +kernel)
set_option maxRecDepth 100000 in
set_option maxHeartbeats 8000000 in
theorem lo_4 {L : Nat} {f : Nat → Int} (hf : ∀ j, -2147483648 ≤ f j ∧ f j ≤ 2147483647) {i : Int} (hi : 0 ≤ i ∧ i + 6 ≤ (L : Int)) (hL : L ≤ 3072) {h : av_H} (B : BX h) {Q : Option av_V → av_H → Prop} (hk : ∀ h', BX h' → RM h h' → av_wp (some (L, f)) cd_L 1284 [some (.inr (.inr (.inr 100))), some (.inr (.inr (.inl (some (0))))), some (.inr (.inr (.inl (some (77))))), some (.inl i)] [] h' Q) : av_wp (some (L, f)) cd_L 302 [some (.inr (.inr (.inr 100))), some (.inr (.inr (.inl (some (0))))), some (.inr (.inr (.inl (some (77))))), some (.inl i)] [] h Q := by
  refine av_wp_sqL cL_4_ok 5 (pc' := 307) (lv' := [some (.inr (.inr (.inr 100))), some (.inr (.inr (.inl (some (0))))), some (.inr (.inr (.inl (some (77))))), some (.inl i)]) (st' := [.inl (i + (1)), .inr (.inr (.inr 100)), .inr (.inr (.inl (some (0))))]) (h' := h) rfl ?_
  refine wq_scr (p' := 308) (cL_4_ok _ _ rfl) rfl ⟨by omega, by omega, by omega⟩ ?_
  refine wq_cv (p' := 311) (av_qc (.invokevirtual 32) 98 1 0 7) 3 cd_98 [.inl (f (Int.toNat (i + (1))))] (0) 7 [some (.inr (.inr (.inl (some (0))))), some (.inl (f (Int.toNat (i + (1))))), none] (cL_4_ok _ _ rfl) rfl rfl pp_98 rfl rfl rfl (congrArg Prod.fst (ly_k B.1.1.1 0 rfl)) rfl rfl rfl rfl ?_
  refine av_wp_mono (oz_clause B (f (Int.toNat (i + (1)))) (hf _)) (fun v h1 z => ?_)
  obtain ⟨x, rfl, k77, W⟩ := z
  show av_wp (some (L, f)) cd_L 311 [some (.inr (.inr (.inr 100))), some (.inr (.inr (.inl (some (0))))), some (.inr (.inr (.inl (some (77))))), some (.inl i)] [.inl x] h1 Q
  refine av_wp_sqL cL_4_ok 6 (pc' := 317) (lv' := [some (.inr (.inr (.inr 100))), some (.inr (.inr (.inl (some (0))))), some (.inr (.inr (.inl (some (77))))), some (.inl i)]) (st' := [.inl (i + (1)), .inr (.inr (.inr 100)), .inr (.inr (.inl (some (77))))]) (h' := h1) rfl ?_
  refine wq_scr (p' := 318) (cL_4_ok _ _ rfl) rfl ⟨by omega, by omega, by omega⟩ ?_
  refine wq_cv (p' := 321) (av_qc (.invokevirtual 35) 157 1 0 8) 2 cd_157 [.inl (f (Int.toNat (i + (1))))] (77) 8 [some (.inr (.inr (.inl (some (77))))), some (.inl (f (Int.toNat (i + (1)))))] (cL_4_ok _ _ rfl) rfl rfl pp_157 rfl rfl rfl (congrArg Prod.fst k77) rfl rfl rfl rfl ?_
  refine av_wp_mono W (fun v h2 z => ?_)
  obtain ⟨y, rfl, e, B2, R2⟩ := z
  show av_wp (some (L, f)) cd_L 321 [some (.inr (.inr (.inr 100))), some (.inr (.inr (.inl (some (0))))), some (.inr (.inr (.inl (some (77))))), some (.inl i)] [.inl y] h2 Q
  refine av_wp_sqL cL_4_ok 2 (pc' := 1284) (lv' := [some (.inr (.inr (.inr 100))), some (.inr (.inr (.inl (some (0))))), some (.inr (.inr (.inl (some (77))))), some (.inl i)]) (st' := []) (h' := h2) rfl ?_
  exact hk h2 B2 R2
def cL_5 : List (Nat × av_E) := [(325, av_q (.aload_n 1)), (326, av_qc (.invokevirtual 36) 100 0 0 7), (329, av_q (.pop)), (330, av_q (.aload_n 2)), (331, av_qc (.invokevirtual 40) 158 0 0 8), (334, av_q (.pop)), (335, av_qa (.goto 949) 1284)]
set_option maxRecDepth 100000 in
set_option maxHeartbeats 8000000 in
theorem cL_5_ok : ∀ (pc : Nat) (x : av_E), cL_5.lookup pc = some x → cd_L.lookup pc = some x := av_lks (by decide +kernel)
set_option maxRecDepth 100000 in
set_option maxHeartbeats 8000000 in
theorem lo_5 {L : Nat} {f : Nat → Int} (hf : ∀ j, -2147483648 ≤ f j ∧ f j ≤ 2147483647) {i : Int} (hi : 0 ≤ i ∧ i + 6 ≤ (L : Int)) (hL : L ≤ 3072) {h : av_H} (B : BX h) {Q : Option av_V → av_H → Prop} (hk : ∀ h', BX h' → RM h h' → av_wp (some (L, f)) cd_L 1284 [some (.inr (.inr (.inr 100))), some (.inr (.inr (.inl (some (0))))), some (.inr (.inr (.inl (some (77))))), some (.inl i)] [] h' Q) : av_wp (some (L, f)) cd_L 325 [some (.inr (.inr (.inr 100))), some (.inr (.inr (.inl (some (0))))), some (.inr (.inr (.inl (some (77))))), some (.inl i)] [] h Q := by
  refine av_wp_sqL cL_5_ok 1 (pc' := 326) (lv' := [some (.inr (.inr (.inr 100))), some (.inr (.inr (.inl (some (0))))), some (.inr (.inr (.inl (some (77))))), some (.inl i)]) (st' := [.inr (.inr (.inl (some (0))))]) (h' := h) rfl ?_
  refine wq_cv (p' := 329) (av_qc (.invokevirtual 36) 100 0 0 7) 1 cd_100 [] (0) 7 [some (.inr (.inr (.inl (some (0)))))] (cL_5_ok _ _ rfl) rfl rfl pp_100 rfl rfl rfl (congrArg Prod.fst (ly_k B.1.1.1 0 rfl)) rfl rfl rfl rfl ?_
  refine av_wp_mono (oz_100 B  ) (fun v h1 z => ?_)
  obtain ⟨x, rfl, k77, W⟩ := z
  show av_wp (some (L, f)) cd_L 329 [some (.inr (.inr (.inr 100))), some (.inr (.inr (.inl (some (0))))), some (.inr (.inr (.inl (some (77))))), some (.inl i)] [.inl x] h1 Q
  refine av_wp_sqL cL_5_ok 2 (pc' := 331) (lv' := [some (.inr (.inr (.inr 100))), some (.inr (.inr (.inl (some (0))))), some (.inr (.inr (.inl (some (77))))), some (.inl i)]) (st' := [.inr (.inr (.inl (some (77))))]) (h' := h1) rfl ?_
  refine wq_cv (p' := 334) (av_qc (.invokevirtual 40) 158 0 0 8) 1 cd_158 [] (77) 8 [some (.inr (.inr (.inl (some (77)))))] (cL_5_ok _ _ rfl) rfl rfl pp_158 rfl rfl rfl (congrArg Prod.fst k77) rfl rfl rfl rfl ?_
  refine av_wp_mono W (fun v h2 z => ?_)
  obtain ⟨y, rfl, e, B2, R2⟩ := z
  show av_wp (some (L, f)) cd_L 334 [some (.inr (.inr (.inr 100))), some (.inr (.inr (.inl (some (0))))), some (.inr (.inr (.inl (some (77))))), some (.inl i)] [.inl y] h2 Q
  refine av_wp_sqL cL_5_ok 2 (pc' := 1284) (lv' := [some (.inr (.inr (.inr 100))), some (.inr (.inr (.inl (some (0))))), some (.inr (.inr (.inl (some (77))))), some (.inl i)]) (st' := []) (h' := h2) rfl ?_
  exact hk h2 B2 R2
def cL_6 : List (Nat × av_E) := [(338, av_q (.aload_n 1)), (339, av_q (.aload_n 0)), (340, av_q (.iload_n 3)), (341, av_q (.iconst 1)), (342, av_q (.iadd)), (343, av_q (.iaload)), (344, av_q (.aload_n 0)), (345, av_q (.iload_n 3)), (346, av_q (.iconst 2)), (347, av_q (.iadd)), (348, av_q (.iaload)), (349, av_q (.aload_n 0)), (350, av_q (.iload_n 3)), (351, av_q (.iconst 3)), (352, av_q (.iadd)), (353, av_q (.iaload)), (354, av_qc (.invokevirtual 41) 101 3 0 7), (357, av_q (.pop)), (358, av_q (.aload_n 2)), (359, av_q (.aload_n 0)), (360, av_q (.iload_n 3)), (361, av_q (.iconst 1)), (362, av_q (.iadd)), (363, av_q (.iaload)), (364, av_q (.aload_n 0)), (365, av_q (.iload_n 3)), (366, av_q (.iconst 2)), (367, av_q (.iadd)), (368, av_q (.iaload)), (369, av_q (.aload_n 0)), (370, av_q (.iload_n 3)), (371, av_q (.iconst 3)), (372, av_q (.iadd)), (373, av_q (.iaload)), (374, av_qc (.invokevirtual 45) 161 3 0 8), (377, av_q (.pop)), (378, av_qa (.goto 906) 1284)]
set_option maxRecDepth 100000 in
set_option maxHeartbeats 8000000 in
theorem cL_6_ok : ∀ (pc : Nat) (x : av_E), cL_6.lookup pc = some x → cd_L.lookup pc = some x := av_lks (by decide +kernel)
set_option maxRecDepth 100000 in
set_option maxHeartbeats 8000000 in
theorem lo_6 {L : Nat} {f : Nat → Int} (hf : ∀ j, -2147483648 ≤ f j ∧ f j ≤ 2147483647) {i : Int} (hi : 0 ≤ i ∧ i + 6 ≤ (L : Int)) (hL : L ≤ 3072) {h : av_H} (B : BX h) {Q : Option av_V → av_H → Prop} (hk : ∀ h', BX h' → RM h h' → av_wp (some (L, f)) cd_L 1284 [some (.inr (.inr (.inr 100))), some (.inr (.inr (.inl (some (0))))), some (.inr (.inr (.inl (some (77))))), some (.inl i)] [] h' Q) : av_wp (some (L, f)) cd_L 338 [some (.inr (.inr (.inr 100))), some (.inr (.inr (.inl (some (0))))), some (.inr (.inr (.inl (some (77))))), some (.inl i)] [] h Q := by
  refine av_wp_sqL cL_6_ok 5 (pc' := 343) (lv' := [some (.inr (.inr (.inr 100))), some (.inr (.inr (.inl (some (0))))), some (.inr (.inr (.inl (some (77))))), some (.inl i)]) (st' := [.inl (i + (1)), .inr (.inr (.inr 100)), .inr (.inr (.inl (some (0))))]) (h' := h) rfl ?_
  refine wq_scr (p' := 344) (cL_6_ok _ _ rfl) rfl ⟨by omega, by omega, by omega⟩ ?_
  refine av_wp_sqL cL_6_ok 4 (pc' := 348) (lv' := [some (.inr (.inr (.inr 100))), some (.inr (.inr (.inl (some (0))))), some (.inr (.inr (.inl (some (77))))), some (.inl i)]) (st' := [.inl (i + (2)), .inr (.inr (.inr 100)), .inl (f (Int.toNat (i + (1)))), .inr (.inr (.inl (some (0))))]) (h' := h) rfl ?_
  refine wq_scr (p' := 349) (cL_6_ok _ _ rfl) rfl ⟨by omega, by omega, by omega⟩ ?_
  refine av_wp_sqL cL_6_ok 4 (pc' := 353) (lv' := [some (.inr (.inr (.inr 100))), some (.inr (.inr (.inl (some (0))))), some (.inr (.inr (.inl (some (77))))), some (.inl i)]) (st' := [.inl (i + (3)), .inr (.inr (.inr 100)), .inl (f (Int.toNat (i + (2)))), .inl (f (Int.toNat (i + (1)))), .inr (.inr (.inl (some (0))))]) (h' := h) rfl ?_
  refine wq_scr (p' := 354) (cL_6_ok _ _ rfl) rfl ⟨by omega, by omega, by omega⟩ ?_
  refine wq_cv (p' := 357) (av_qc (.invokevirtual 41) 101 3 0 7) 6 cd_101 [.inl (f (Int.toNat (i + (3)))), .inl (f (Int.toNat (i + (2)))), .inl (f (Int.toNat (i + (1))))] (0) 7 [some (.inr (.inr (.inl (some (0))))), some (.inl (f (Int.toNat (i + (1))))), some (.inl (f (Int.toNat (i + (2))))), some (.inl (f (Int.toNat (i + (3))))), none, none] (cL_6_ok _ _ rfl) rfl rfl pp_101 rfl rfl rfl (congrArg Prod.fst (ly_k B.1.1.1 0 rfl)) rfl rfl rfl rfl ?_
  refine av_wp_mono (oz_101 B (f (Int.toNat (i + (1)))) (f (Int.toNat (i + (2)))) (f (Int.toNat (i + (3)))) (hf _) (hf _) (hf _)) (fun v h1 z => ?_)
  obtain ⟨x, rfl, k77, W⟩ := z
  show av_wp (some (L, f)) cd_L 357 [some (.inr (.inr (.inr 100))), some (.inr (.inr (.inl (some (0))))), some (.inr (.inr (.inl (some (77))))), some (.inl i)] [.inl x] h1 Q
  refine av_wp_sqL cL_6_ok 6 (pc' := 363) (lv' := [some (.inr (.inr (.inr 100))), some (.inr (.inr (.inl (some (0))))), some (.inr (.inr (.inl (some (77))))), some (.inl i)]) (st' := [.inl (i + (1)), .inr (.inr (.inr 100)), .inr (.inr (.inl (some (77))))]) (h' := h1) rfl ?_
  refine wq_scr (p' := 364) (cL_6_ok _ _ rfl) rfl ⟨by omega, by omega, by omega⟩ ?_
  refine av_wp_sqL cL_6_ok 4 (pc' := 368) (lv' := [some (.inr (.inr (.inr 100))), some (.inr (.inr (.inl (some (0))))), some (.inr (.inr (.inl (some (77))))), some (.inl i)]) (st' := [.inl (i + (2)), .inr (.inr (.inr 100)), .inl (f (Int.toNat (i + (1)))), .inr (.inr (.inl (some (77))))]) (h' := h1) rfl ?_
  refine wq_scr (p' := 369) (cL_6_ok _ _ rfl) rfl ⟨by omega, by omega, by omega⟩ ?_
  refine av_wp_sqL cL_6_ok 4 (pc' := 373) (lv' := [some (.inr (.inr (.inr 100))), some (.inr (.inr (.inl (some (0))))), some (.inr (.inr (.inl (some (77))))), some (.inl i)]) (st' := [.inl (i + (3)), .inr (.inr (.inr 100)), .inl (f (Int.toNat (i + (2)))), .inl (f (Int.toNat (i + (1)))), .inr (.inr (.inl (some (77))))]) (h' := h1) rfl ?_
  refine wq_scr (p' := 374) (cL_6_ok _ _ rfl) rfl ⟨by omega, by omega, by omega⟩ ?_
  refine wq_cv (p' := 377) (av_qc (.invokevirtual 45) 161 3 0 8) 5 cd_161 [.inl (f (Int.toNat (i + (3)))), .inl (f (Int.toNat (i + (2)))), .inl (f (Int.toNat (i + (1))))] (77) 8 [some (.inr (.inr (.inl (some (77))))), some (.inl (f (Int.toNat (i + (1))))), some (.inl (f (Int.toNat (i + (2))))), some (.inl (f (Int.toNat (i + (3))))), none] (cL_6_ok _ _ rfl) rfl rfl pp_161 rfl rfl rfl (congrArg Prod.fst k77) rfl rfl rfl rfl ?_
  refine av_wp_mono W (fun v h2 z => ?_)
  obtain ⟨y, rfl, e, B2, R2⟩ := z
  show av_wp (some (L, f)) cd_L 377 [some (.inr (.inr (.inr 100))), some (.inr (.inr (.inl (some (0))))), some (.inr (.inr (.inl (some (77))))), some (.inl i)] [.inl y] h2 Q
  refine av_wp_sqL cL_6_ok 2 (pc' := 1284) (lv' := [some (.inr (.inr (.inr 100))), some (.inr (.inr (.inl (some (0))))), some (.inr (.inr (.inl (some (77))))), some (.inl i)]) (st' := []) (h' := h2) rfl ?_
  exact hk h2 B2 R2
def cL_7 : List (Nat × av_E) := [(381, av_q (.aload_n 1)), (382, av_q (.aload_n 0)), (383, av_q (.iload_n 3)), (384, av_q (.iconst 1)), (385, av_q (.iadd)), (386, av_q (.iaload)), (387, av_q (.aload_n 0)), (388, av_q (.iload_n 3)), (389, av_q (.iconst 2)), (390, av_q (.iadd)), (391, av_q (.iaload)), (392, av_qc (.invokevirtual 46) 103 2 0 7), (395, av_q (.pop)), (396, av_q (.aload_n 2)), (397, av_q (.aload_n 0)), (398, av_q (.iload_n 3)), (399, av_q (.iconst 1)), (400, av_q (.iadd)), (401, av_q (.iaload)), (402, av_q (.aload_n 0)), (403, av_q (.iload_n 3)), (404, av_q (.iconst 2)), (405, av_q (.iadd)), (406, av_q (.iaload)), (407, av_qc (.invokevirtual 49) 187 2 0 8), (410, av_q (.pop)), (411, av_qa (.goto 873) 1284)]
set_option maxRecDepth 100000 in
set_option maxHeartbeats 8000000 in
theorem cL_7_ok : ∀ (pc : Nat) (x : av_E), cL_7.lookup pc = some x → cd_L.lookup pc = some x := av_lks (by decide +kernel)
set_option maxRecDepth 100000 in
set_option maxHeartbeats 8000000 in
theorem lo_7 {L : Nat} {f : Nat → Int} (hf : ∀ j, -2147483648 ≤ f j ∧ f j ≤ 2147483647) {i : Int} (hi : 0 ≤ i ∧ i + 6 ≤ (L : Int)) (hL : L ≤ 3072) {h : av_H} (B : BX h) {Q : Option av_V → av_H → Prop} (hk : ∀ h', BX h' → RM h h' → av_wp (some (L, f)) cd_L 1284 [some (.inr (.inr (.inr 100))), some (.inr (.inr (.inl (some (0))))), some (.inr (.inr (.inl (some (77))))), some (.inl i)] [] h' Q) : av_wp (some (L, f)) cd_L 381 [some (.inr (.inr (.inr 100))), some (.inr (.inr (.inl (some (0))))), some (.inr (.inr (.inl (some (77))))), some (.inl i)] [] h Q := by
  refine av_wp_sqL cL_7_ok 5 (pc' := 386) (lv' := [some (.inr (.inr (.inr 100))), some (.inr (.inr (.inl (some (0))))), some (.inr (.inr (.inl (some (77))))), some (.inl i)]) (st' := [.inl (i + (1)), .inr (.inr (.inr 100)), .inr (.inr (.inl (some (0))))]) (h' := h) rfl ?_
  refine wq_scr (p' := 387) (cL_7_ok _ _ rfl) rfl ⟨by omega, by omega, by omega⟩ ?_
  refine av_wp_sqL cL_7_ok 4 (pc' := 391) (lv' := [some (.inr (.inr (.inr 100))), some (.inr (.inr (.inl (some (0))))), some (.inr (.inr (.inl (some (77))))), some (.inl i)]) (st' := [.inl (i + (2)), .inr (.inr (.inr 100)), .inl (f (Int.toNat (i + (1)))), .inr (.inr (.inl (some (0))))]) (h' := h) rfl ?_
  refine wq_scr (p' := 392) (cL_7_ok _ _ rfl) rfl ⟨by omega, by omega, by omega⟩ ?_
  refine wq_cv (p' := 395) (av_qc (.invokevirtual 46) 103 2 0 7) 4 cd_103 [.inl (f (Int.toNat (i + (2)))), .inl (f (Int.toNat (i + (1))))] (0) 7 [some (.inr (.inr (.inl (some (0))))), some (.inl (f (Int.toNat (i + (1))))), some (.inl (f (Int.toNat (i + (2))))), none] (cL_7_ok _ _ rfl) rfl rfl pp_103 rfl rfl rfl (congrArg Prod.fst (ly_k B.1.1.1 0 rfl)) rfl rfl rfl rfl ?_
  refine av_wp_mono (oz_103 B (f (Int.toNat (i + (1)))) (f (Int.toNat (i + (2)))) (hf _) (hf _)) (fun v h1 z => ?_)
  obtain ⟨x, rfl, k77, W⟩ := z
  show av_wp (some (L, f)) cd_L 395 [some (.inr (.inr (.inr 100))), some (.inr (.inr (.inl (some (0))))), some (.inr (.inr (.inl (some (77))))), some (.inl i)] [.inl x] h1 Q
  refine av_wp_sqL cL_7_ok 6 (pc' := 401) (lv' := [some (.inr (.inr (.inr 100))), some (.inr (.inr (.inl (some (0))))), some (.inr (.inr (.inl (some (77))))), some (.inl i)]) (st' := [.inl (i + (1)), .inr (.inr (.inr 100)), .inr (.inr (.inl (some (77))))]) (h' := h1) rfl ?_
  refine wq_scr (p' := 402) (cL_7_ok _ _ rfl) rfl ⟨by omega, by omega, by omega⟩ ?_
  refine av_wp_sqL cL_7_ok 4 (pc' := 406) (lv' := [some (.inr (.inr (.inr 100))), some (.inr (.inr (.inl (some (0))))), some (.inr (.inr (.inl (some (77))))), some (.inl i)]) (st' := [.inl (i + (2)), .inr (.inr (.inr 100)), .inl (f (Int.toNat (i + (1)))), .inr (.inr (.inl (some (77))))]) (h' := h1) rfl ?_
  refine wq_scr (p' := 407) (cL_7_ok _ _ rfl) rfl ⟨by omega, by omega, by omega⟩ ?_
  refine wq_cv (p' := 410) (av_qc (.invokevirtual 49) 187 2 0 8) 3 cd_187 [.inl (f (Int.toNat (i + (2)))), .inl (f (Int.toNat (i + (1))))] (77) 8 [some (.inr (.inr (.inl (some (77))))), some (.inl (f (Int.toNat (i + (1))))), some (.inl (f (Int.toNat (i + (2)))))] (cL_7_ok _ _ rfl) rfl rfl pp_187 rfl rfl rfl (congrArg Prod.fst k77) rfl rfl rfl rfl ?_
  refine av_wp_mono W (fun v h2 z => ?_)
  obtain ⟨y, rfl, e, B2, R2⟩ := z
  show av_wp (some (L, f)) cd_L 410 [some (.inr (.inr (.inr 100))), some (.inr (.inr (.inl (some (0))))), some (.inr (.inr (.inl (some (77))))), some (.inl i)] [.inl y] h2 Q
  refine av_wp_sqL cL_7_ok 2 (pc' := 1284) (lv' := [some (.inr (.inr (.inr 100))), some (.inr (.inr (.inl (some (0))))), some (.inr (.inr (.inl (some (77))))), some (.inl i)]) (st' := []) (h' := h2) rfl ?_
  exact hk h2 B2 R2
def cL_8 : List (Nat × av_E) := [(414, av_q (.aload_n 1)), (415, av_q (.aload_n 0)), (416, av_q (.iload_n 3)), (417, av_q (.iconst 1)), (418, av_q (.iadd)), (419, av_q (.iaload)), (420, av_q (.aload_n 0)), (421, av_q (.iload_n 3)), (422, av_q (.iconst 2)), (423, av_q (.iadd)), (424, av_q (.iaload)), (425, av_q (.aload_n 0)), (426, av_q (.iload_n 3)), (427, av_q (.iconst 3)), (428, av_q (.iadd)), (429, av_q (.iaload)), (430, av_q (.aload_n 0)), (431, av_q (.iload_n 3)), (432, av_q (.iconst 4)), (433, av_q (.iadd)), (434, av_q (.iaload)), (435, av_qc (.invokevirtual 50) 104 4 0 7), (438, av_q (.pop)), (439, av_q (.aload_n 2)), (440, av_q (.aload_n 0)), (441, av_q (.iload_n 3)), (442, av_q (.iconst 1)), (443, av_q (.iadd)), (444, av_q (.iaload)), (445, av_q (.aload_n 0)), (446, av_q (.iload_n 3)), (447, av_q (.iconst 2)), (448, av_q (.iadd)), (449, av_q (.iaload)), (450, av_q (.aload_n 0)), (451, av_q (.iload_n 3)), (452, av_q (.iconst 3)), (453, av_q (.iadd)), (454, av_q (.iaload)), (455, av_q (.aload_n 0)), (456, av_q (.iload_n 3)), (457, av_q (.iconst 4)), (458, av_q (.iadd)), (459, av_q (.iaload)), (460, av_qc (.invokevirtual 54) 189 4 0 8), (463, av_q (.pop)), (464, av_qa (.goto 820) 1284)]
set_option maxRecDepth 100000 in
set_option maxHeartbeats 8000000 in
theorem cL_8_ok : ∀ (pc : Nat) (x : av_E), cL_8.lookup pc = some x → cd_L.lookup pc = some x := av_lks (by decide +kernel)
set_option maxRecDepth 100000 in
set_option maxHeartbeats 8000000 in
theorem lo_8 {L : Nat} {f : Nat → Int} (hf : ∀ j, -2147483648 ≤ f j ∧ f j ≤ 2147483647) {i : Int} (hi : 0 ≤ i ∧ i + 6 ≤ (L : Int)) (hL : L ≤ 3072) {h : av_H} (B : BX h) {Q : Option av_V → av_H → Prop} (hk : ∀ h', BX h' → RM h h' → av_wp (some (L, f)) cd_L 1284 [some (.inr (.inr (.inr 100))), some (.inr (.inr (.inl (some (0))))), some (.inr (.inr (.inl (some (77))))), some (.inl i)] [] h' Q) : av_wp (some (L, f)) cd_L 414 [some (.inr (.inr (.inr 100))), some (.inr (.inr (.inl (some (0))))), some (.inr (.inr (.inl (some (77))))), some (.inl i)] [] h Q := by
  refine av_wp_sqL cL_8_ok 5 (pc' := 419) (lv' := [some (.inr (.inr (.inr 100))), some (.inr (.inr (.inl (some (0))))), some (.inr (.inr (.inl (some (77))))), some (.inl i)]) (st' := [.inl (i + (1)), .inr (.inr (.inr 100)), .inr (.inr (.inl (some (0))))]) (h' := h) rfl ?_
  refine wq_scr (p' := 420) (cL_8_ok _ _ rfl) rfl ⟨by omega, by omega, by omega⟩ ?_
  refine av_wp_sqL cL_8_ok 4 (pc' := 424) (lv' := [some (.inr (.inr (.inr 100))), some (.inr (.inr (.inl (some (0))))), some (.inr (.inr (.inl (some (77))))), some (.inl i)]) (st' := [.inl (i + (2)), .inr (.inr (.inr 100)), .inl (f (Int.toNat (i + (1)))), .inr (.inr (.inl (some (0))))]) (h' := h) rfl ?_
  refine wq_scr (p' := 425) (cL_8_ok _ _ rfl) rfl ⟨by omega, by omega, by omega⟩ ?_
  refine av_wp_sqL cL_8_ok 4 (pc' := 429) (lv' := [some (.inr (.inr (.inr 100))), some (.inr (.inr (.inl (some (0))))), some (.inr (.inr (.inl (some (77))))), some (.inl i)]) (st' := [.inl (i + (3)), .inr (.inr (.inr 100)), .inl (f (Int.toNat (i + (2)))), .inl (f (Int.toNat (i + (1)))), .inr (.inr (.inl (some (0))))]) (h' := h) rfl ?_
  refine wq_scr (p' := 430) (cL_8_ok _ _ rfl) rfl ⟨by omega, by omega, by omega⟩ ?_
  refine av_wp_sqL cL_8_ok 4 (pc' := 434) (lv' := [some (.inr (.inr (.inr 100))), some (.inr (.inr (.inl (some (0))))), some (.inr (.inr (.inl (some (77))))), some (.inl i)]) (st' := [.inl (i + (4)), .inr (.inr (.inr 100)), .inl (f (Int.toNat (i + (3)))), .inl (f (Int.toNat (i + (2)))), .inl (f (Int.toNat (i + (1)))), .inr (.inr (.inl (some (0))))]) (h' := h) rfl ?_
  refine wq_scr (p' := 435) (cL_8_ok _ _ rfl) rfl ⟨by omega, by omega, by omega⟩ ?_
  refine wq_cv (p' := 438) (av_qc (.invokevirtual 50) 104 4 0 7) 6 cd_104 [.inl (f (Int.toNat (i + (4)))), .inl (f (Int.toNat (i + (3)))), .inl (f (Int.toNat (i + (2)))), .inl (f (Int.toNat (i + (1))))] (0) 7 [some (.inr (.inr (.inl (some (0))))), some (.inl (f (Int.toNat (i + (1))))), some (.inl (f (Int.toNat (i + (2))))), some (.inl (f (Int.toNat (i + (3))))), some (.inl (f (Int.toNat (i + (4))))), none] (cL_8_ok _ _ rfl) rfl rfl pp_104 rfl rfl rfl (congrArg Prod.fst (ly_k B.1.1.1 0 rfl)) rfl rfl rfl rfl ?_
  refine av_wp_mono (oz_104 B (f (Int.toNat (i + (1)))) (f (Int.toNat (i + (2)))) (f (Int.toNat (i + (3)))) (f (Int.toNat (i + (4)))) (hf _) (hf _) (hf _) (hf _)) (fun v h1 z => ?_)
  obtain ⟨x, rfl, k77, W⟩ := z
  show av_wp (some (L, f)) cd_L 438 [some (.inr (.inr (.inr 100))), some (.inr (.inr (.inl (some (0))))), some (.inr (.inr (.inl (some (77))))), some (.inl i)] [.inl x] h1 Q
  refine av_wp_sqL cL_8_ok 6 (pc' := 444) (lv' := [some (.inr (.inr (.inr 100))), some (.inr (.inr (.inl (some (0))))), some (.inr (.inr (.inl (some (77))))), some (.inl i)]) (st' := [.inl (i + (1)), .inr (.inr (.inr 100)), .inr (.inr (.inl (some (77))))]) (h' := h1) rfl ?_
  refine wq_scr (p' := 445) (cL_8_ok _ _ rfl) rfl ⟨by omega, by omega, by omega⟩ ?_
  refine av_wp_sqL cL_8_ok 4 (pc' := 449) (lv' := [some (.inr (.inr (.inr 100))), some (.inr (.inr (.inl (some (0))))), some (.inr (.inr (.inl (some (77))))), some (.inl i)]) (st' := [.inl (i + (2)), .inr (.inr (.inr 100)), .inl (f (Int.toNat (i + (1)))), .inr (.inr (.inl (some (77))))]) (h' := h1) rfl ?_
  refine wq_scr (p' := 450) (cL_8_ok _ _ rfl) rfl ⟨by omega, by omega, by omega⟩ ?_
  refine av_wp_sqL cL_8_ok 4 (pc' := 454) (lv' := [some (.inr (.inr (.inr 100))), some (.inr (.inr (.inl (some (0))))), some (.inr (.inr (.inl (some (77))))), some (.inl i)]) (st' := [.inl (i + (3)), .inr (.inr (.inr 100)), .inl (f (Int.toNat (i + (2)))), .inl (f (Int.toNat (i + (1)))), .inr (.inr (.inl (some (77))))]) (h' := h1) rfl ?_
  refine wq_scr (p' := 455) (cL_8_ok _ _ rfl) rfl ⟨by omega, by omega, by omega⟩ ?_
  refine av_wp_sqL cL_8_ok 4 (pc' := 459) (lv' := [some (.inr (.inr (.inr 100))), some (.inr (.inr (.inl (some (0))))), some (.inr (.inr (.inl (some (77))))), some (.inl i)]) (st' := [.inl (i + (4)), .inr (.inr (.inr 100)), .inl (f (Int.toNat (i + (3)))), .inl (f (Int.toNat (i + (2)))), .inl (f (Int.toNat (i + (1)))), .inr (.inr (.inl (some (77))))]) (h' := h1) rfl ?_
  refine wq_scr (p' := 460) (cL_8_ok _ _ rfl) rfl ⟨by omega, by omega, by omega⟩ ?_
  refine wq_cv (p' := 463) (av_qc (.invokevirtual 54) 189 4 0 8) 5 cd_189 [.inl (f (Int.toNat (i + (4)))), .inl (f (Int.toNat (i + (3)))), .inl (f (Int.toNat (i + (2)))), .inl (f (Int.toNat (i + (1))))] (77) 8 [some (.inr (.inr (.inl (some (77))))), some (.inl (f (Int.toNat (i + (1))))), some (.inl (f (Int.toNat (i + (2))))), some (.inl (f (Int.toNat (i + (3))))), some (.inl (f (Int.toNat (i + (4)))))] (cL_8_ok _ _ rfl) rfl rfl pp_189 rfl rfl rfl (congrArg Prod.fst k77) rfl rfl rfl rfl ?_
  refine av_wp_mono W (fun v h2 z => ?_)
  obtain ⟨y, rfl, e, B2, R2⟩ := z
  show av_wp (some (L, f)) cd_L 463 [some (.inr (.inr (.inr 100))), some (.inr (.inr (.inl (some (0))))), some (.inr (.inr (.inl (some (77))))), some (.inl i)] [.inl y] h2 Q
  refine av_wp_sqL cL_8_ok 2 (pc' := 1284) (lv' := [some (.inr (.inr (.inr 100))), some (.inr (.inr (.inl (some (0))))), some (.inr (.inr (.inl (some (77))))), some (.inl i)]) (st' := []) (h' := h2) rfl ?_
  exact hk h2 B2 R2
def cL_9 : List (Nat × av_E) := [(467, av_q (.aload_n 1)), (468, av_q (.aload_n 0)), (469, av_q (.iload_n 3)), (470, av_q (.iconst 1)), (471, av_q (.iadd)), (472, av_q (.iaload)), (473, av_q (.aload_n 0)), (474, av_q (.iload_n 3)), (475, av_q (.iconst 2)), (476, av_q (.iadd)), (477, av_q (.iaload)), (478, av_qc (.invokevirtual 55) 105 2 0 7), (481, av_q (.pop)), (482, av_q (.aload_n 2)), (483, av_q (.aload_n 0)), (484, av_q (.iload_n 3)), (485, av_q (.iconst 1)), (486, av_q (.iadd)), (487, av_q (.iaload)), (488, av_q (.aload_n 0)), (489, av_q (.iload_n 3)), (490, av_q (.iconst 2)), (491, av_q (.iadd)), (492, av_q (.iaload)), (493, av_qc (.invokevirtual 58) 160 2 0 8), (496, av_q (.pop)), (497, av_qa (.goto 787) 1284)]
set_option maxRecDepth 100000 in
set_option maxHeartbeats 8000000 in
theorem cL_9_ok : ∀ (pc : Nat) (x : av_E), cL_9.lookup pc = some x → cd_L.lookup pc = some x := av_lks (by decide +kernel)
set_option maxRecDepth 100000 in
set_option maxHeartbeats 8000000 in
theorem lo_9 {L : Nat} {f : Nat → Int} (hf : ∀ j, -2147483648 ≤ f j ∧ f j ≤ 2147483647) {i : Int} (hi : 0 ≤ i ∧ i + 6 ≤ (L : Int)) (hL : L ≤ 3072) {h : av_H} (B : BX h) {Q : Option av_V → av_H → Prop} (hk : ∀ h', BX h' → RM h h' → av_wp (some (L, f)) cd_L 1284 [some (.inr (.inr (.inr 100))), some (.inr (.inr (.inl (some (0))))), some (.inr (.inr (.inl (some (77))))), some (.inl i)] [] h' Q) : av_wp (some (L, f)) cd_L 467 [some (.inr (.inr (.inr 100))), some (.inr (.inr (.inl (some (0))))), some (.inr (.inr (.inl (some (77))))), some (.inl i)] [] h Q := by
  refine av_wp_sqL cL_9_ok 5 (pc' := 472) (lv' := [some (.inr (.inr (.inr 100))), some (.inr (.inr (.inl (some (0))))), some (.inr (.inr (.inl (some (77))))), some (.inl i)]) (st' := [.inl (i + (1)), .inr (.inr (.inr 100)), .inr (.inr (.inl (some (0))))]) (h' := h) rfl ?_
  refine wq_scr (p' := 473) (cL_9_ok _ _ rfl) rfl ⟨by omega, by omega, by omega⟩ ?_
  refine av_wp_sqL cL_9_ok 4 (pc' := 477) (lv' := [some (.inr (.inr (.inr 100))), some (.inr (.inr (.inl (some (0))))), some (.inr (.inr (.inl (some (77))))), some (.inl i)]) (st' := [.inl (i + (2)), .inr (.inr (.inr 100)), .inl (f (Int.toNat (i + (1)))), .inr (.inr (.inl (some (0))))]) (h' := h) rfl ?_
  refine wq_scr (p' := 478) (cL_9_ok _ _ rfl) rfl ⟨by omega, by omega, by omega⟩ ?_
  refine wq_cv (p' := 481) (av_qc (.invokevirtual 55) 105 2 0 7) 3 cd_105 [.inl (f (Int.toNat (i + (2)))), .inl (f (Int.toNat (i + (1))))] (0) 7 [some (.inr (.inr (.inl (some (0))))), some (.inl (f (Int.toNat (i + (1))))), some (.inl (f (Int.toNat (i + (2)))))] (cL_9_ok _ _ rfl) rfl rfl pp_105 rfl rfl rfl (congrArg Prod.fst (ly_k B.1.1.1 0 rfl)) rfl rfl rfl rfl ?_
  refine av_wp_mono (oz_105 B (f (Int.toNat (i + (1)))) (f (Int.toNat (i + (2)))) (hf _) (hf _)) (fun v h1 z => ?_)
  obtain ⟨x, rfl, k77, W⟩ := z
  show av_wp (some (L, f)) cd_L 481 [some (.inr (.inr (.inr 100))), some (.inr (.inr (.inl (some (0))))), some (.inr (.inr (.inl (some (77))))), some (.inl i)] [.inl x] h1 Q
  refine av_wp_sqL cL_9_ok 6 (pc' := 487) (lv' := [some (.inr (.inr (.inr 100))), some (.inr (.inr (.inl (some (0))))), some (.inr (.inr (.inl (some (77))))), some (.inl i)]) (st' := [.inl (i + (1)), .inr (.inr (.inr 100)), .inr (.inr (.inl (some (77))))]) (h' := h1) rfl ?_
  refine wq_scr (p' := 488) (cL_9_ok _ _ rfl) rfl ⟨by omega, by omega, by omega⟩ ?_
  refine av_wp_sqL cL_9_ok 4 (pc' := 492) (lv' := [some (.inr (.inr (.inr 100))), some (.inr (.inr (.inl (some (0))))), some (.inr (.inr (.inl (some (77))))), some (.inl i)]) (st' := [.inl (i + (2)), .inr (.inr (.inr 100)), .inl (f (Int.toNat (i + (1)))), .inr (.inr (.inl (some (77))))]) (h' := h1) rfl ?_
  refine wq_scr (p' := 493) (cL_9_ok _ _ rfl) rfl ⟨by omega, by omega, by omega⟩ ?_
  refine wq_cv (p' := 496) (av_qc (.invokevirtual 58) 160 2 0 8) 3 cd_160 [.inl (f (Int.toNat (i + (2)))), .inl (f (Int.toNat (i + (1))))] (77) 8 [some (.inr (.inr (.inl (some (77))))), some (.inl (f (Int.toNat (i + (1))))), some (.inl (f (Int.toNat (i + (2)))))] (cL_9_ok _ _ rfl) rfl rfl pp_160 rfl rfl rfl (congrArg Prod.fst k77) rfl rfl rfl rfl ?_
  refine av_wp_mono W (fun v h2 z => ?_)
  obtain ⟨y, rfl, e, B2, R2⟩ := z
  show av_wp (some (L, f)) cd_L 496 [some (.inr (.inr (.inr 100))), some (.inr (.inr (.inl (some (0))))), some (.inr (.inr (.inl (some (77))))), some (.inl i)] [.inl y] h2 Q
  refine av_wp_sqL cL_9_ok 2 (pc' := 1284) (lv' := [some (.inr (.inr (.inr 100))), some (.inr (.inr (.inl (some (0))))), some (.inr (.inr (.inl (some (77))))), some (.inl i)]) (st' := []) (h' := h2) rfl ?_
  exact hk h2 B2 R2
def cL_10 : List (Nat × av_E) := [(500, av_q (.aload_n 1)), (501, av_q (.aload_n 0)), (502, av_q (.iload_n 3)), (503, av_q (.iconst 1)), (504, av_q (.iadd)), (505, av_q (.iaload)), (506, av_q (.aload_n 0)), (507, av_q (.iload_n 3)), (508, av_q (.iconst 2)), (509, av_q (.iadd)), (510, av_q (.iaload)), (511, av_q (.aload_n 0)), (512, av_q (.iload_n 3)), (513, av_q (.iconst 3)), (514, av_q (.iadd)), (515, av_q (.iaload)), (516, av_q (.aload_n 0)), (517, av_q (.iload_n 3)), (518, av_q (.iconst 4)), (519, av_q (.iadd)), (520, av_q (.iaload)), (521, av_qc (.invokevirtual 59) 106 4 0 7), (524, av_q (.pop)), (525, av_q (.aload_n 2)), (526, av_q (.aload_n 0)), (527, av_q (.iload_n 3)), (528, av_q (.iconst 1)), (529, av_q (.iadd)), (530, av_q (.iaload)), (531, av_q (.aload_n 0)), (532, av_q (.iload_n 3)), (533, av_q (.iconst 2)), (534, av_q (.iadd)), (535, av_q (.iaload)), (536, av_q (.aload_n 0)), (537, av_q (.iload_n 3)), (538, av_q (.iconst 3)), (539, av_q (.iadd)), (540, av_q (.iaload)), (541, av_q (.aload_n 0)), (542, av_q (.iload_n 3)), (543, av_q (.iconst 4)), (544, av_q (.iadd)), (545, av_q (.iaload)), (546, av_qc (.invokevirtual 62) 190 4 0 8), (549, av_q (.pop)), (550, av_qa (.goto 734) 1284)]
set_option maxRecDepth 100000 in
set_option maxHeartbeats 8000000 in
theorem cL_10_ok : ∀ (pc : Nat) (x : av_E), cL_10.lookup pc = some x → cd_L.lookup pc = some x := av_lks (by decide +kernel)
set_option maxRecDepth 100000 in
set_option maxHeartbeats 8000000 in
theorem lo_10 {L : Nat} {f : Nat → Int} (hf : ∀ j, -2147483648 ≤ f j ∧ f j ≤ 2147483647) {i : Int} (hi : 0 ≤ i ∧ i + 6 ≤ (L : Int)) (hL : L ≤ 3072) {h : av_H} (B : BX h) {Q : Option av_V → av_H → Prop} (hk : ∀ h', BX h' → RM h h' → av_wp (some (L, f)) cd_L 1284 [some (.inr (.inr (.inr 100))), some (.inr (.inr (.inl (some (0))))), some (.inr (.inr (.inl (some (77))))), some (.inl i)] [] h' Q) : av_wp (some (L, f)) cd_L 500 [some (.inr (.inr (.inr 100))), some (.inr (.inr (.inl (some (0))))), some (.inr (.inr (.inl (some (77))))), some (.inl i)] [] h Q := by
  refine av_wp_sqL cL_10_ok 5 (pc' := 505) (lv' := [some (.inr (.inr (.inr 100))), some (.inr (.inr (.inl (some (0))))), some (.inr (.inr (.inl (some (77))))), some (.inl i)]) (st' := [.inl (i + (1)), .inr (.inr (.inr 100)), .inr (.inr (.inl (some (0))))]) (h' := h) rfl ?_
  refine wq_scr (p' := 506) (cL_10_ok _ _ rfl) rfl ⟨by omega, by omega, by omega⟩ ?_
  refine av_wp_sqL cL_10_ok 4 (pc' := 510) (lv' := [some (.inr (.inr (.inr 100))), some (.inr (.inr (.inl (some (0))))), some (.inr (.inr (.inl (some (77))))), some (.inl i)]) (st' := [.inl (i + (2)), .inr (.inr (.inr 100)), .inl (f (Int.toNat (i + (1)))), .inr (.inr (.inl (some (0))))]) (h' := h) rfl ?_
  refine wq_scr (p' := 511) (cL_10_ok _ _ rfl) rfl ⟨by omega, by omega, by omega⟩ ?_
  refine av_wp_sqL cL_10_ok 4 (pc' := 515) (lv' := [some (.inr (.inr (.inr 100))), some (.inr (.inr (.inl (some (0))))), some (.inr (.inr (.inl (some (77))))), some (.inl i)]) (st' := [.inl (i + (3)), .inr (.inr (.inr 100)), .inl (f (Int.toNat (i + (2)))), .inl (f (Int.toNat (i + (1)))), .inr (.inr (.inl (some (0))))]) (h' := h) rfl ?_
  refine wq_scr (p' := 516) (cL_10_ok _ _ rfl) rfl ⟨by omega, by omega, by omega⟩ ?_
  refine av_wp_sqL cL_10_ok 4 (pc' := 520) (lv' := [some (.inr (.inr (.inr 100))), some (.inr (.inr (.inl (some (0))))), some (.inr (.inr (.inl (some (77))))), some (.inl i)]) (st' := [.inl (i + (4)), .inr (.inr (.inr 100)), .inl (f (Int.toNat (i + (3)))), .inl (f (Int.toNat (i + (2)))), .inl (f (Int.toNat (i + (1)))), .inr (.inr (.inl (some (0))))]) (h' := h) rfl ?_
  refine wq_scr (p' := 521) (cL_10_ok _ _ rfl) rfl ⟨by omega, by omega, by omega⟩ ?_
  refine wq_cv (p' := 524) (av_qc (.invokevirtual 59) 106 4 0 7) 7 cd_106 [.inl (f (Int.toNat (i + (4)))), .inl (f (Int.toNat (i + (3)))), .inl (f (Int.toNat (i + (2)))), .inl (f (Int.toNat (i + (1))))] (0) 7 [some (.inr (.inr (.inl (some (0))))), some (.inl (f (Int.toNat (i + (1))))), some (.inl (f (Int.toNat (i + (2))))), some (.inl (f (Int.toNat (i + (3))))), some (.inl (f (Int.toNat (i + (4))))), none, none] (cL_10_ok _ _ rfl) rfl rfl pp_106 rfl rfl rfl (congrArg Prod.fst (ly_k B.1.1.1 0 rfl)) rfl rfl rfl rfl ?_
  refine av_wp_mono (oz_106 B (f (Int.toNat (i + (1)))) (f (Int.toNat (i + (2)))) (f (Int.toNat (i + (3)))) (f (Int.toNat (i + (4)))) (hf _) (hf _) (hf _) (hf _)) (fun v h1 z => ?_)
  obtain ⟨x, rfl, k77, W⟩ := z
  show av_wp (some (L, f)) cd_L 524 [some (.inr (.inr (.inr 100))), some (.inr (.inr (.inl (some (0))))), some (.inr (.inr (.inl (some (77))))), some (.inl i)] [.inl x] h1 Q
  refine av_wp_sqL cL_10_ok 6 (pc' := 530) (lv' := [some (.inr (.inr (.inr 100))), some (.inr (.inr (.inl (some (0))))), some (.inr (.inr (.inl (some (77))))), some (.inl i)]) (st' := [.inl (i + (1)), .inr (.inr (.inr 100)), .inr (.inr (.inl (some (77))))]) (h' := h1) rfl ?_
  refine wq_scr (p' := 531) (cL_10_ok _ _ rfl) rfl ⟨by omega, by omega, by omega⟩ ?_
  refine av_wp_sqL cL_10_ok 4 (pc' := 535) (lv' := [some (.inr (.inr (.inr 100))), some (.inr (.inr (.inl (some (0))))), some (.inr (.inr (.inl (some (77))))), some (.inl i)]) (st' := [.inl (i + (2)), .inr (.inr (.inr 100)), .inl (f (Int.toNat (i + (1)))), .inr (.inr (.inl (some (77))))]) (h' := h1) rfl ?_
  refine wq_scr (p' := 536) (cL_10_ok _ _ rfl) rfl ⟨by omega, by omega, by omega⟩ ?_
  refine av_wp_sqL cL_10_ok 4 (pc' := 540) (lv' := [some (.inr (.inr (.inr 100))), some (.inr (.inr (.inl (some (0))))), some (.inr (.inr (.inl (some (77))))), some (.inl i)]) (st' := [.inl (i + (3)), .inr (.inr (.inr 100)), .inl (f (Int.toNat (i + (2)))), .inl (f (Int.toNat (i + (1)))), .inr (.inr (.inl (some (77))))]) (h' := h1) rfl ?_
  refine wq_scr (p' := 541) (cL_10_ok _ _ rfl) rfl ⟨by omega, by omega, by omega⟩ ?_
  refine av_wp_sqL cL_10_ok 4 (pc' := 545) (lv' := [some (.inr (.inr (.inr 100))), some (.inr (.inr (.inl (some (0))))), some (.inr (.inr (.inl (some (77))))), some (.inl i)]) (st' := [.inl (i + (4)), .inr (.inr (.inr 100)), .inl (f (Int.toNat (i + (3)))), .inl (f (Int.toNat (i + (2)))), .inl (f (Int.toNat (i + (1)))), .inr (.inr (.inl (some (77))))]) (h' := h1) rfl ?_
  refine wq_scr (p' := 546) (cL_10_ok _ _ rfl) rfl ⟨by omega, by omega, by omega⟩ ?_
  refine wq_cv (p' := 549) (av_qc (.invokevirtual 62) 190 4 0 8) 5 cd_190 [.inl (f (Int.toNat (i + (4)))), .inl (f (Int.toNat (i + (3)))), .inl (f (Int.toNat (i + (2)))), .inl (f (Int.toNat (i + (1))))] (77) 8 [some (.inr (.inr (.inl (some (77))))), some (.inl (f (Int.toNat (i + (1))))), some (.inl (f (Int.toNat (i + (2))))), some (.inl (f (Int.toNat (i + (3))))), some (.inl (f (Int.toNat (i + (4)))))] (cL_10_ok _ _ rfl) rfl rfl pp_190 rfl rfl rfl (congrArg Prod.fst k77) rfl rfl rfl rfl ?_
  refine av_wp_mono W (fun v h2 z => ?_)
  obtain ⟨y, rfl, e, B2, R2⟩ := z
  show av_wp (some (L, f)) cd_L 549 [some (.inr (.inr (.inr 100))), some (.inr (.inr (.inl (some (0))))), some (.inr (.inr (.inl (some (77))))), some (.inl i)] [.inl y] h2 Q
  refine av_wp_sqL cL_10_ok 2 (pc' := 1284) (lv' := [some (.inr (.inr (.inr 100))), some (.inr (.inr (.inl (some (0))))), some (.inr (.inr (.inl (some (77))))), some (.inl i)]) (st' := []) (h' := h2) rfl ?_
  exact hk h2 B2 R2
def cL_11 : List (Nat × av_E) := [(553, av_q (.aload_n 1)), (554, av_q (.aload_n 0)), (555, av_q (.iload_n 3)), (556, av_q (.iconst 1)), (557, av_q (.iadd)), (558, av_q (.iaload)), (559, av_q (.aload_n 0)), (560, av_q (.iload_n 3)), (561, av_q (.iconst 2)), (562, av_q (.iadd)), (563, av_q (.iaload)), (564, av_q (.aload_n 0)), (565, av_q (.iload_n 3)), (566, av_q (.iconst 3)), (567, av_q (.iadd)), (568, av_q (.iaload)), (569, av_q (.aload_n 0)), (570, av_q (.iload_n 3)), (571, av_q (.iconst 4)), (572, av_q (.iadd)), (573, av_q (.iaload)), (574, av_q (.aload_n 0)), (575, av_q (.iload_n 3)), (576, av_q (.iconst 5)), (577, av_q (.iadd)), (578, av_q (.iaload)), (579, av_qc (.invokevirtual 63) 107 5 0 7), (582, av_q (.pop)), (583, av_q (.aload_n 2)), (584, av_q (.aload_n 0)), (585, av_q (.iload_n 3)), (586, av_q (.iconst 1)), (587, av_q (.iadd)), (588, av_q (.iaload)), (589, av_q (.aload_n 0)), (590, av_q (.iload_n 3)), (591, av_q (.iconst 2)), (592, av_q (.iadd)), (593, av_q (.iaload)), (594, av_q (.aload_n 0)), (595, av_q (.iload_n 3)), (596, av_q (.iconst 3)), (597, av_q (.iadd)), (598, av_q (.iaload)), (599, av_q (.aload_n 0)), (600, av_q (.iload_n 3)), (601, av_q (.iconst 4)), (602, av_q (.iadd)), (603, av_q (.iaload)), (604, av_q (.aload_n 0)), (605, av_q (.iload_n 3)), (606, av_q (.iconst 5)), (607, av_q (.iadd)), (608, av_q (.iaload)), (609, av_qc (.invokevirtual 66) 191 5 0 8), (612, av_q (.pop)), (613, av_qa (.goto 671) 1284)]
set_option maxRecDepth 100000 in
set_option maxHeartbeats 8000000 in
theorem cL_11_ok : ∀ (pc : Nat) (x : av_E), cL_11.lookup pc = some x → cd_L.lookup pc = some x := av_lks (by decide +kernel)
set_option maxRecDepth 100000 in
set_option maxHeartbeats 8000000 in
theorem lo_11 {L : Nat} {f : Nat → Int} (hf : ∀ j, -2147483648 ≤ f j ∧ f j ≤ 2147483647) {i : Int} (hi : 0 ≤ i ∧ i + 6 ≤ (L : Int)) (hL : L ≤ 3072) {h : av_H} (B : BX h) {Q : Option av_V → av_H → Prop} (hk : ∀ h', BX h' → RM h h' → av_wp (some (L, f)) cd_L 1284 [some (.inr (.inr (.inr 100))), some (.inr (.inr (.inl (some (0))))), some (.inr (.inr (.inl (some (77))))), some (.inl i)] [] h' Q) : av_wp (some (L, f)) cd_L 553 [some (.inr (.inr (.inr 100))), some (.inr (.inr (.inl (some (0))))), some (.inr (.inr (.inl (some (77))))), some (.inl i)] [] h Q := by
  refine av_wp_sqL cL_11_ok 5 (pc' := 558) (lv' := [some (.inr (.inr (.inr 100))), some (.inr (.inr (.inl (some (0))))), some (.inr (.inr (.inl (some (77))))), some (.inl i)]) (st' := [.inl (i + (1)), .inr (.inr (.inr 100)), .inr (.inr (.inl (some (0))))]) (h' := h) rfl ?_
  refine wq_scr (p' := 559) (cL_11_ok _ _ rfl) rfl ⟨by omega, by omega, by omega⟩ ?_
  refine av_wp_sqL cL_11_ok 4 (pc' := 563) (lv' := [some (.inr (.inr (.inr 100))), some (.inr (.inr (.inl (some (0))))), some (.inr (.inr (.inl (some (77))))), some (.inl i)]) (st' := [.inl (i + (2)), .inr (.inr (.inr 100)), .inl (f (Int.toNat (i + (1)))), .inr (.inr (.inl (some (0))))]) (h' := h) rfl ?_
  refine wq_scr (p' := 564) (cL_11_ok _ _ rfl) rfl ⟨by omega, by omega, by omega⟩ ?_
  refine av_wp_sqL cL_11_ok 4 (pc' := 568) (lv' := [some (.inr (.inr (.inr 100))), some (.inr (.inr (.inl (some (0))))), some (.inr (.inr (.inl (some (77))))), some (.inl i)]) (st' := [.inl (i + (3)), .inr (.inr (.inr 100)), .inl (f (Int.toNat (i + (2)))), .inl (f (Int.toNat (i + (1)))), .inr (.inr (.inl (some (0))))]) (h' := h) rfl ?_
  refine wq_scr (p' := 569) (cL_11_ok _ _ rfl) rfl ⟨by omega, by omega, by omega⟩ ?_
  refine av_wp_sqL cL_11_ok 4 (pc' := 573) (lv' := [some (.inr (.inr (.inr 100))), some (.inr (.inr (.inl (some (0))))), some (.inr (.inr (.inl (some (77))))), some (.inl i)]) (st' := [.inl (i + (4)), .inr (.inr (.inr 100)), .inl (f (Int.toNat (i + (3)))), .inl (f (Int.toNat (i + (2)))), .inl (f (Int.toNat (i + (1)))), .inr (.inr (.inl (some (0))))]) (h' := h) rfl ?_
  refine wq_scr (p' := 574) (cL_11_ok _ _ rfl) rfl ⟨by omega, by omega, by omega⟩ ?_
  refine av_wp_sqL cL_11_ok 4 (pc' := 578) (lv' := [some (.inr (.inr (.inr 100))), some (.inr (.inr (.inl (some (0))))), some (.inr (.inr (.inl (some (77))))), some (.inl i)]) (st' := [.inl (i + (5)), .inr (.inr (.inr 100)), .inl (f (Int.toNat (i + (4)))), .inl (f (Int.toNat (i + (3)))), .inl (f (Int.toNat (i + (2)))), .inl (f (Int.toNat (i + (1)))), .inr (.inr (.inl (some (0))))]) (h' := h) rfl ?_
  refine wq_scr (p' := 579) (cL_11_ok _ _ rfl) rfl ⟨by omega, by omega, by omega⟩ ?_
  refine wq_cv (p' := 582) (av_qc (.invokevirtual 63) 107 5 0 7) 6 cd_107 [.inl (f (Int.toNat (i + (5)))), .inl (f (Int.toNat (i + (4)))), .inl (f (Int.toNat (i + (3)))), .inl (f (Int.toNat (i + (2)))), .inl (f (Int.toNat (i + (1))))] (0) 7 [some (.inr (.inr (.inl (some (0))))), some (.inl (f (Int.toNat (i + (1))))), some (.inl (f (Int.toNat (i + (2))))), some (.inl (f (Int.toNat (i + (3))))), some (.inl (f (Int.toNat (i + (4))))), some (.inl (f (Int.toNat (i + (5)))))] (cL_11_ok _ _ rfl) rfl rfl pp_107 rfl rfl rfl (congrArg Prod.fst (ly_k B.1.1.1 0 rfl)) rfl rfl rfl rfl ?_
  refine av_wp_mono (oz_107 B (f (Int.toNat (i + (1)))) (f (Int.toNat (i + (2)))) (f (Int.toNat (i + (3)))) (f (Int.toNat (i + (4)))) (f (Int.toNat (i + (5)))) (hf _) (hf _) (hf _) (hf _) (hf _)) (fun v h1 z => ?_)
  obtain ⟨x, rfl, k77, W⟩ := z
  show av_wp (some (L, f)) cd_L 582 [some (.inr (.inr (.inr 100))), some (.inr (.inr (.inl (some (0))))), some (.inr (.inr (.inl (some (77))))), some (.inl i)] [.inl x] h1 Q
  refine av_wp_sqL cL_11_ok 6 (pc' := 588) (lv' := [some (.inr (.inr (.inr 100))), some (.inr (.inr (.inl (some (0))))), some (.inr (.inr (.inl (some (77))))), some (.inl i)]) (st' := [.inl (i + (1)), .inr (.inr (.inr 100)), .inr (.inr (.inl (some (77))))]) (h' := h1) rfl ?_
  refine wq_scr (p' := 589) (cL_11_ok _ _ rfl) rfl ⟨by omega, by omega, by omega⟩ ?_
  refine av_wp_sqL cL_11_ok 4 (pc' := 593) (lv' := [some (.inr (.inr (.inr 100))), some (.inr (.inr (.inl (some (0))))), some (.inr (.inr (.inl (some (77))))), some (.inl i)]) (st' := [.inl (i + (2)), .inr (.inr (.inr 100)), .inl (f (Int.toNat (i + (1)))), .inr (.inr (.inl (some (77))))]) (h' := h1) rfl ?_
  refine wq_scr (p' := 594) (cL_11_ok _ _ rfl) rfl ⟨by omega, by omega, by omega⟩ ?_
  refine av_wp_sqL cL_11_ok 4 (pc' := 598) (lv' := [some (.inr (.inr (.inr 100))), some (.inr (.inr (.inl (some (0))))), some (.inr (.inr (.inl (some (77))))), some (.inl i)]) (st' := [.inl (i + (3)), .inr (.inr (.inr 100)), .inl (f (Int.toNat (i + (2)))), .inl (f (Int.toNat (i + (1)))), .inr (.inr (.inl (some (77))))]) (h' := h1) rfl ?_
  refine wq_scr (p' := 599) (cL_11_ok _ _ rfl) rfl ⟨by omega, by omega, by omega⟩ ?_
  refine av_wp_sqL cL_11_ok 4 (pc' := 603) (lv' := [some (.inr (.inr (.inr 100))), some (.inr (.inr (.inl (some (0))))), some (.inr (.inr (.inl (some (77))))), some (.inl i)]) (st' := [.inl (i + (4)), .inr (.inr (.inr 100)), .inl (f (Int.toNat (i + (3)))), .inl (f (Int.toNat (i + (2)))), .inl (f (Int.toNat (i + (1)))), .inr (.inr (.inl (some (77))))]) (h' := h1) rfl ?_
  refine wq_scr (p' := 604) (cL_11_ok _ _ rfl) rfl ⟨by omega, by omega, by omega⟩ ?_
  refine av_wp_sqL cL_11_ok 4 (pc' := 608) (lv' := [some (.inr (.inr (.inr 100))), some (.inr (.inr (.inl (some (0))))), some (.inr (.inr (.inl (some (77))))), some (.inl i)]) (st' := [.inl (i + (5)), .inr (.inr (.inr 100)), .inl (f (Int.toNat (i + (4)))), .inl (f (Int.toNat (i + (3)))), .inl (f (Int.toNat (i + (2)))), .inl (f (Int.toNat (i + (1)))), .inr (.inr (.inl (some (77))))]) (h' := h1) rfl ?_
  refine wq_scr (p' := 609) (cL_11_ok _ _ rfl) rfl ⟨by omega, by omega, by omega⟩ ?_
  refine wq_cv (p' := 612) (av_qc (.invokevirtual 66) 191 5 0 8) 6 cd_191 [.inl (f (Int.toNat (i + (5)))), .inl (f (Int.toNat (i + (4)))), .inl (f (Int.toNat (i + (3)))), .inl (f (Int.toNat (i + (2)))), .inl (f (Int.toNat (i + (1))))] (77) 8 [some (.inr (.inr (.inl (some (77))))), some (.inl (f (Int.toNat (i + (1))))), some (.inl (f (Int.toNat (i + (2))))), some (.inl (f (Int.toNat (i + (3))))), some (.inl (f (Int.toNat (i + (4))))), some (.inl (f (Int.toNat (i + (5)))))] (cL_11_ok _ _ rfl) rfl rfl pp_191 rfl rfl rfl (congrArg Prod.fst k77) rfl rfl rfl rfl ?_
  refine av_wp_mono W (fun v h2 z => ?_)
  obtain ⟨y, rfl, e, B2, R2⟩ := z
  show av_wp (some (L, f)) cd_L 612 [some (.inr (.inr (.inr 100))), some (.inr (.inr (.inl (some (0))))), some (.inr (.inr (.inl (some (77))))), some (.inl i)] [.inl y] h2 Q
  refine av_wp_sqL cL_11_ok 2 (pc' := 1284) (lv' := [some (.inr (.inr (.inr 100))), some (.inr (.inr (.inl (some (0))))), some (.inr (.inr (.inl (some (77))))), some (.inl i)]) (st' := []) (h' := h2) rfl ?_
  exact hk h2 B2 R2
def cL_12 : List (Nat × av_E) := [(616, av_q (.aload_n 1)), (617, av_q (.aload_n 0)), (618, av_q (.iload_n 3)), (619, av_q (.iconst 1)), (620, av_q (.iadd)), (621, av_q (.iaload)), (622, av_q (.aload_n 0)), (623, av_q (.iload_n 3)), (624, av_q (.iconst 2)), (625, av_q (.iadd)), (626, av_q (.iaload)), (627, av_q (.aload_n 0)), (628, av_q (.iload_n 3)), (629, av_q (.iconst 3)), (630, av_q (.iadd)), (631, av_q (.iaload)), (632, av_qc (.invokevirtual 67) 108 3 0 7), (635, av_q (.pop)), (636, av_q (.aload_n 2)), (637, av_q (.aload_n 0)), (638, av_q (.iload_n 3)), (639, av_q (.iconst 1)), (640, av_q (.iadd)), (641, av_q (.iaload)), (642, av_q (.aload_n 0)), (643, av_q (.iload_n 3)), (644, av_q (.iconst 2)), (645, av_q (.iadd)), (646, av_q (.iaload)), (647, av_q (.aload_n 0)), (648, av_q (.iload_n 3)), (649, av_q (.iconst 3)), (650, av_q (.iadd)), (651, av_q (.iaload)), (652, av_qc (.invokevirtual 70) 192 3 0 8), (655, av_q (.pop)), (656, av_qa (.goto 628) 1284)]
set_option maxRecDepth 100000 in
set_option maxHeartbeats 8000000 in
theorem cL_12_ok : ∀ (pc : Nat) (x : av_E), cL_12.lookup pc = some x → cd_L.lookup pc = some x := av_lks (by decide +kernel)
set_option maxRecDepth 100000 in
set_option maxHeartbeats 8000000 in
theorem lo_12 {L : Nat} {f : Nat → Int} (hf : ∀ j, -2147483648 ≤ f j ∧ f j ≤ 2147483647) {i : Int} (hi : 0 ≤ i ∧ i + 6 ≤ (L : Int)) (hL : L ≤ 3072) {h : av_H} (B : BX h) {Q : Option av_V → av_H → Prop} (hk : ∀ h', BX h' → RM h h' → av_wp (some (L, f)) cd_L 1284 [some (.inr (.inr (.inr 100))), some (.inr (.inr (.inl (some (0))))), some (.inr (.inr (.inl (some (77))))), some (.inl i)] [] h' Q) : av_wp (some (L, f)) cd_L 616 [some (.inr (.inr (.inr 100))), some (.inr (.inr (.inl (some (0))))), some (.inr (.inr (.inl (some (77))))), some (.inl i)] [] h Q := by
  refine av_wp_sqL cL_12_ok 5 (pc' := 621) (lv' := [some (.inr (.inr (.inr 100))), some (.inr (.inr (.inl (some (0))))), some (.inr (.inr (.inl (some (77))))), some (.inl i)]) (st' := [.inl (i + (1)), .inr (.inr (.inr 100)), .inr (.inr (.inl (some (0))))]) (h' := h) rfl ?_
  refine wq_scr (p' := 622) (cL_12_ok _ _ rfl) rfl ⟨by omega, by omega, by omega⟩ ?_
  refine av_wp_sqL cL_12_ok 4 (pc' := 626) (lv' := [some (.inr (.inr (.inr 100))), some (.inr (.inr (.inl (some (0))))), some (.inr (.inr (.inl (some (77))))), some (.inl i)]) (st' := [.inl (i + (2)), .inr (.inr (.inr 100)), .inl (f (Int.toNat (i + (1)))), .inr (.inr (.inl (some (0))))]) (h' := h) rfl ?_
  refine wq_scr (p' := 627) (cL_12_ok _ _ rfl) rfl ⟨by omega, by omega, by omega⟩ ?_
  refine av_wp_sqL cL_12_ok 4 (pc' := 631) (lv' := [some (.inr (.inr (.inr 100))), some (.inr (.inr (.inl (some (0))))), some (.inr (.inr (.inl (some (77))))), some (.inl i)]) (st' := [.inl (i + (3)), .inr (.inr (.inr 100)), .inl (f (Int.toNat (i + (2)))), .inl (f (Int.toNat (i + (1)))), .inr (.inr (.inl (some (0))))]) (h' := h) rfl ?_
  refine wq_scr (p' := 632) (cL_12_ok _ _ rfl) rfl ⟨by omega, by omega, by omega⟩ ?_
  refine wq_cv (p' := 635) (av_qc (.invokevirtual 67) 108 3 0 7) 4 cd_108 [.inl (f (Int.toNat (i + (3)))), .inl (f (Int.toNat (i + (2)))), .inl (f (Int.toNat (i + (1))))] (0) 7 [some (.inr (.inr (.inl (some (0))))), some (.inl (f (Int.toNat (i + (1))))), some (.inl (f (Int.toNat (i + (2))))), some (.inl (f (Int.toNat (i + (3)))))] (cL_12_ok _ _ rfl) rfl rfl pp_108 rfl rfl rfl (congrArg Prod.fst (ly_k B.1.1.1 0 rfl)) rfl rfl rfl rfl ?_
  refine av_wp_mono (oz_108 B (f (Int.toNat (i + (1)))) (f (Int.toNat (i + (2)))) (f (Int.toNat (i + (3)))) (hf _) (hf _) (hf _)) (fun v h1 z => ?_)
  obtain ⟨x, rfl, k77, W⟩ := z
  show av_wp (some (L, f)) cd_L 635 [some (.inr (.inr (.inr 100))), some (.inr (.inr (.inl (some (0))))), some (.inr (.inr (.inl (some (77))))), some (.inl i)] [.inl x] h1 Q
  refine av_wp_sqL cL_12_ok 6 (pc' := 641) (lv' := [some (.inr (.inr (.inr 100))), some (.inr (.inr (.inl (some (0))))), some (.inr (.inr (.inl (some (77))))), some (.inl i)]) (st' := [.inl (i + (1)), .inr (.inr (.inr 100)), .inr (.inr (.inl (some (77))))]) (h' := h1) rfl ?_
  refine wq_scr (p' := 642) (cL_12_ok _ _ rfl) rfl ⟨by omega, by omega, by omega⟩ ?_
  refine av_wp_sqL cL_12_ok 4 (pc' := 646) (lv' := [some (.inr (.inr (.inr 100))), some (.inr (.inr (.inl (some (0))))), some (.inr (.inr (.inl (some (77))))), some (.inl i)]) (st' := [.inl (i + (2)), .inr (.inr (.inr 100)), .inl (f (Int.toNat (i + (1)))), .inr (.inr (.inl (some (77))))]) (h' := h1) rfl ?_
  refine wq_scr (p' := 647) (cL_12_ok _ _ rfl) rfl ⟨by omega, by omega, by omega⟩ ?_
  refine av_wp_sqL cL_12_ok 4 (pc' := 651) (lv' := [some (.inr (.inr (.inr 100))), some (.inr (.inr (.inl (some (0))))), some (.inr (.inr (.inl (some (77))))), some (.inl i)]) (st' := [.inl (i + (3)), .inr (.inr (.inr 100)), .inl (f (Int.toNat (i + (2)))), .inl (f (Int.toNat (i + (1)))), .inr (.inr (.inl (some (77))))]) (h' := h1) rfl ?_
  refine wq_scr (p' := 652) (cL_12_ok _ _ rfl) rfl ⟨by omega, by omega, by omega⟩ ?_
  refine wq_cv (p' := 655) (av_qc (.invokevirtual 70) 192 3 0 8) 4 cd_192 [.inl (f (Int.toNat (i + (3)))), .inl (f (Int.toNat (i + (2)))), .inl (f (Int.toNat (i + (1))))] (77) 8 [some (.inr (.inr (.inl (some (77))))), some (.inl (f (Int.toNat (i + (1))))), some (.inl (f (Int.toNat (i + (2))))), some (.inl (f (Int.toNat (i + (3)))))] (cL_12_ok _ _ rfl) rfl rfl pp_192 rfl rfl rfl (congrArg Prod.fst k77) rfl rfl rfl rfl ?_
  refine av_wp_mono W (fun v h2 z => ?_)
  obtain ⟨y, rfl, e, B2, R2⟩ := z
  show av_wp (some (L, f)) cd_L 655 [some (.inr (.inr (.inr 100))), some (.inr (.inr (.inl (some (0))))), some (.inr (.inr (.inl (some (77))))), some (.inl i)] [.inl y] h2 Q
  refine av_wp_sqL cL_12_ok 2 (pc' := 1284) (lv' := [some (.inr (.inr (.inr 100))), some (.inr (.inr (.inl (some (0))))), some (.inr (.inr (.inl (some (77))))), some (.inl i)]) (st' := []) (h' := h2) rfl ?_
  exact hk h2 B2 R2
def cL_13 : List (Nat × av_E) := [(659, av_q (.aload_n 1)), (660, av_q (.aload_n 0)), (661, av_q (.iload_n 3)), (662, av_q (.iconst 1)), (663, av_q (.iadd)), (664, av_q (.iaload)), (665, av_q (.aload_n 0)), (666, av_q (.iload_n 3)), (667, av_q (.iconst 2)), (668, av_q (.iadd)), (669, av_q (.iaload)), (670, av_q (.aload_n 0)), (671, av_q (.iload_n 3)), (672, av_q (.iconst 3)), (673, av_q (.iadd)), (674, av_q (.iaload)), (675, av_qc (.invokevirtual 71) 109 3 0 7), (678, av_q (.pop)), (679, av_q (.aload_n 2)), (680, av_q (.aload_n 0)), (681, av_q (.iload_n 3)), (682, av_q (.iconst 1)), (683, av_q (.iadd)), (684, av_q (.iaload)), (685, av_q (.aload_n 0)), (686, av_q (.iload_n 3)), (687, av_q (.iconst 2)), (688, av_q (.iadd)), (689, av_q (.iaload)), (690, av_q (.aload_n 0)), (691, av_q (.iload_n 3)), (692, av_q (.iconst 3)), (693, av_q (.iadd)), (694, av_q (.iaload)), (695, av_qc (.invokevirtual 74) 193 3 0 8), (698, av_q (.pop)), (699, av_qa (.goto 585) 1284)]
set_option maxRecDepth 100000 in
set_option maxHeartbeats 8000000 in
theorem cL_13_ok : ∀ (pc : Nat) (x : av_E), cL_13.lookup pc = some x → cd_L.lookup pc = some x := av_lks (by decide +kernel)
set_option maxRecDepth 100000 in
set_option maxHeartbeats 8000000 in
theorem lo_13 {L : Nat} {f : Nat → Int} (hf : ∀ j, -2147483648 ≤ f j ∧ f j ≤ 2147483647) {i : Int} (hi : 0 ≤ i ∧ i + 6 ≤ (L : Int)) (hL : L ≤ 3072) {h : av_H} (B : BX h) {Q : Option av_V → av_H → Prop} (hk : ∀ h', BX h' → RM h h' → av_wp (some (L, f)) cd_L 1284 [some (.inr (.inr (.inr 100))), some (.inr (.inr (.inl (some (0))))), some (.inr (.inr (.inl (some (77))))), some (.inl i)] [] h' Q) : av_wp (some (L, f)) cd_L 659 [some (.inr (.inr (.inr 100))), some (.inr (.inr (.inl (some (0))))), some (.inr (.inr (.inl (some (77))))), some (.inl i)] [] h Q := by
  refine av_wp_sqL cL_13_ok 5 (pc' := 664) (lv' := [some (.inr (.inr (.inr 100))), some (.inr (.inr (.inl (some (0))))), some (.inr (.inr (.inl (some (77))))), some (.inl i)]) (st' := [.inl (i + (1)), .inr (.inr (.inr 100)), .inr (.inr (.inl (some (0))))]) (h' := h) rfl ?_
  refine wq_scr (p' := 665) (cL_13_ok _ _ rfl) rfl ⟨by omega, by omega, by omega⟩ ?_
  refine av_wp_sqL cL_13_ok 4 (pc' := 669) (lv' := [some (.inr (.inr (.inr 100))), some (.inr (.inr (.inl (some (0))))), some (.inr (.inr (.inl (some (77))))), some (.inl i)]) (st' := [.inl (i + (2)), .inr (.inr (.inr 100)), .inl (f (Int.toNat (i + (1)))), .inr (.inr (.inl (some (0))))]) (h' := h) rfl ?_
  refine wq_scr (p' := 670) (cL_13_ok _ _ rfl) rfl ⟨by omega, by omega, by omega⟩ ?_
  refine av_wp_sqL cL_13_ok 4 (pc' := 674) (lv' := [some (.inr (.inr (.inr 100))), some (.inr (.inr (.inl (some (0))))), some (.inr (.inr (.inl (some (77))))), some (.inl i)]) (st' := [.inl (i + (3)), .inr (.inr (.inr 100)), .inl (f (Int.toNat (i + (2)))), .inl (f (Int.toNat (i + (1)))), .inr (.inr (.inl (some (0))))]) (h' := h) rfl ?_
  refine wq_scr (p' := 675) (cL_13_ok _ _ rfl) rfl ⟨by omega, by omega, by omega⟩ ?_
  refine wq_cv (p' := 678) (av_qc (.invokevirtual 71) 109 3 0 7) 4 cd_109 [.inl (f (Int.toNat (i + (3)))), .inl (f (Int.toNat (i + (2)))), .inl (f (Int.toNat (i + (1))))] (0) 7 [some (.inr (.inr (.inl (some (0))))), some (.inl (f (Int.toNat (i + (1))))), some (.inl (f (Int.toNat (i + (2))))), some (.inl (f (Int.toNat (i + (3)))))] (cL_13_ok _ _ rfl) rfl rfl pp_109 rfl rfl rfl (congrArg Prod.fst (ly_k B.1.1.1 0 rfl)) rfl rfl rfl rfl ?_
  refine av_wp_mono (oz_109 B (f (Int.toNat (i + (1)))) (f (Int.toNat (i + (2)))) (f (Int.toNat (i + (3)))) (hf _) (hf _) (hf _)) (fun v h1 z => ?_)
  obtain ⟨x, rfl, k77, W⟩ := z
  show av_wp (some (L, f)) cd_L 678 [some (.inr (.inr (.inr 100))), some (.inr (.inr (.inl (some (0))))), some (.inr (.inr (.inl (some (77))))), some (.inl i)] [.inl x] h1 Q
  refine av_wp_sqL cL_13_ok 6 (pc' := 684) (lv' := [some (.inr (.inr (.inr 100))), some (.inr (.inr (.inl (some (0))))), some (.inr (.inr (.inl (some (77))))), some (.inl i)]) (st' := [.inl (i + (1)), .inr (.inr (.inr 100)), .inr (.inr (.inl (some (77))))]) (h' := h1) rfl ?_
  refine wq_scr (p' := 685) (cL_13_ok _ _ rfl) rfl ⟨by omega, by omega, by omega⟩ ?_
  refine av_wp_sqL cL_13_ok 4 (pc' := 689) (lv' := [some (.inr (.inr (.inr 100))), some (.inr (.inr (.inl (some (0))))), some (.inr (.inr (.inl (some (77))))), some (.inl i)]) (st' := [.inl (i + (2)), .inr (.inr (.inr 100)), .inl (f (Int.toNat (i + (1)))), .inr (.inr (.inl (some (77))))]) (h' := h1) rfl ?_
  refine wq_scr (p' := 690) (cL_13_ok _ _ rfl) rfl ⟨by omega, by omega, by omega⟩ ?_
  refine av_wp_sqL cL_13_ok 4 (pc' := 694) (lv' := [some (.inr (.inr (.inr 100))), some (.inr (.inr (.inl (some (0))))), some (.inr (.inr (.inl (some (77))))), some (.inl i)]) (st' := [.inl (i + (3)), .inr (.inr (.inr 100)), .inl (f (Int.toNat (i + (2)))), .inl (f (Int.toNat (i + (1)))), .inr (.inr (.inl (some (77))))]) (h' := h1) rfl ?_
  refine wq_scr (p' := 695) (cL_13_ok _ _ rfl) rfl ⟨by omega, by omega, by omega⟩ ?_
  refine wq_cv (p' := 698) (av_qc (.invokevirtual 74) 193 3 0 8) 10 cd_193 [.inl (f (Int.toNat (i + (3)))), .inl (f (Int.toNat (i + (2)))), .inl (f (Int.toNat (i + (1))))] (77) 8 [some (.inr (.inr (.inl (some (77))))), some (.inl (f (Int.toNat (i + (1))))), some (.inl (f (Int.toNat (i + (2))))), some (.inl (f (Int.toNat (i + (3))))), none, none, none, none, none, none] (cL_13_ok _ _ rfl) rfl rfl pp_193 rfl rfl rfl (congrArg Prod.fst k77) rfl rfl rfl rfl ?_
  refine av_wp_mono W (fun v h2 z => ?_)
  obtain ⟨y, rfl, e, B2, R2⟩ := z
  show av_wp (some (L, f)) cd_L 698 [some (.inr (.inr (.inr 100))), some (.inr (.inr (.inl (some (0))))), some (.inr (.inr (.inl (some (77))))), some (.inl i)] [.inl y] h2 Q
  refine av_wp_sqL cL_13_ok 2 (pc' := 1284) (lv' := [some (.inr (.inr (.inr 100))), some (.inr (.inr (.inl (some (0))))), some (.inr (.inr (.inl (some (77))))), some (.inl i)]) (st' := []) (h' := h2) rfl ?_
  exact hk h2 B2 R2
def cL_14 : List (Nat × av_E) := [(702, av_q (.aload_n 1)), (703, av_q (.aload_n 0)), (704, av_q (.iload_n 3)), (705, av_q (.iconst 1)), (706, av_q (.iadd)), (707, av_q (.iaload)), (708, av_q (.aload_n 0)), (709, av_q (.iload_n 3)), (710, av_q (.iconst 2)), (711, av_q (.iadd)), (712, av_q (.iaload)), (713, av_qc (.invokevirtual 75) 110 2 0 7), (716, av_q (.pop)), (717, av_q (.aload_n 2)), (718, av_q (.aload_n 0)), (719, av_q (.iload_n 3)), (720, av_q (.iconst 1)), (721, av_q (.iadd)), (722, av_q (.iaload)), (723, av_q (.aload_n 0)), (724, av_q (.iload_n 3)), (725, av_q (.iconst 2)), (726, av_q (.iadd)), (727, av_q (.iaload)), (728, av_qc (.invokevirtual 78) 197 2 0 8), (731, av_q (.pop)), (732, av_qa (.goto 552) 1284)]
set_option maxRecDepth 100000 in
set_option maxHeartbeats 8000000 in
theorem cL_14_ok : ∀ (pc : Nat) (x : av_E), cL_14.lookup pc = some x → cd_L.lookup pc = some x := av_lks (by decide +kernel)
set_option maxRecDepth 100000 in
set_option maxHeartbeats 8000000 in
theorem lo_14 {L : Nat} {f : Nat → Int} (hf : ∀ j, -2147483648 ≤ f j ∧ f j ≤ 2147483647) {i : Int} (hi : 0 ≤ i ∧ i + 6 ≤ (L : Int)) (hL : L ≤ 3072) {h : av_H} (B : BX h) {Q : Option av_V → av_H → Prop} (hk : ∀ h', BX h' → RM h h' → av_wp (some (L, f)) cd_L 1284 [some (.inr (.inr (.inr 100))), some (.inr (.inr (.inl (some (0))))), some (.inr (.inr (.inl (some (77))))), some (.inl i)] [] h' Q) : av_wp (some (L, f)) cd_L 702 [some (.inr (.inr (.inr 100))), some (.inr (.inr (.inl (some (0))))), some (.inr (.inr (.inl (some (77))))), some (.inl i)] [] h Q := by
  refine av_wp_sqL cL_14_ok 5 (pc' := 707) (lv' := [some (.inr (.inr (.inr 100))), some (.inr (.inr (.inl (some (0))))), some (.inr (.inr (.inl (some (77))))), some (.inl i)]) (st' := [.inl (i + (1)), .inr (.inr (.inr 100)), .inr (.inr (.inl (some (0))))]) (h' := h) rfl ?_
  refine wq_scr (p' := 708) (cL_14_ok _ _ rfl) rfl ⟨by omega, by omega, by omega⟩ ?_
  refine av_wp_sqL cL_14_ok 4 (pc' := 712) (lv' := [some (.inr (.inr (.inr 100))), some (.inr (.inr (.inl (some (0))))), some (.inr (.inr (.inl (some (77))))), some (.inl i)]) (st' := [.inl (i + (2)), .inr (.inr (.inr 100)), .inl (f (Int.toNat (i + (1)))), .inr (.inr (.inl (some (0))))]) (h' := h) rfl ?_
  refine wq_scr (p' := 713) (cL_14_ok _ _ rfl) rfl ⟨by omega, by omega, by omega⟩ ?_
  refine wq_cv (p' := 716) (av_qc (.invokevirtual 75) 110 2 0 7) 3 cd_110 [.inl (f (Int.toNat (i + (2)))), .inl (f (Int.toNat (i + (1))))] (0) 7 [some (.inr (.inr (.inl (some (0))))), some (.inl (f (Int.toNat (i + (1))))), some (.inl (f (Int.toNat (i + (2)))))] (cL_14_ok _ _ rfl) rfl rfl pp_110 rfl rfl rfl (congrArg Prod.fst (ly_k B.1.1.1 0 rfl)) rfl rfl rfl rfl ?_
  refine av_wp_mono (oz_110 B (f (Int.toNat (i + (1)))) (f (Int.toNat (i + (2)))) (hf _) (hf _)) (fun v h1 z => ?_)
  obtain ⟨x, rfl, k77, W⟩ := z
  show av_wp (some (L, f)) cd_L 716 [some (.inr (.inr (.inr 100))), some (.inr (.inr (.inl (some (0))))), some (.inr (.inr (.inl (some (77))))), some (.inl i)] [.inl x] h1 Q
  refine av_wp_sqL cL_14_ok 6 (pc' := 722) (lv' := [some (.inr (.inr (.inr 100))), some (.inr (.inr (.inl (some (0))))), some (.inr (.inr (.inl (some (77))))), some (.inl i)]) (st' := [.inl (i + (1)), .inr (.inr (.inr 100)), .inr (.inr (.inl (some (77))))]) (h' := h1) rfl ?_
  refine wq_scr (p' := 723) (cL_14_ok _ _ rfl) rfl ⟨by omega, by omega, by omega⟩ ?_
  refine av_wp_sqL cL_14_ok 4 (pc' := 727) (lv' := [some (.inr (.inr (.inr 100))), some (.inr (.inr (.inl (some (0))))), some (.inr (.inr (.inl (some (77))))), some (.inl i)]) (st' := [.inl (i + (2)), .inr (.inr (.inr 100)), .inl (f (Int.toNat (i + (1)))), .inr (.inr (.inl (some (77))))]) (h' := h1) rfl ?_
  refine wq_scr (p' := 728) (cL_14_ok _ _ rfl) rfl ⟨by omega, by omega, by omega⟩ ?_
  refine wq_cv (p' := 731) (av_qc (.invokevirtual 78) 197 2 0 8) 5 cd_197 [.inl (f (Int.toNat (i + (2)))), .inl (f (Int.toNat (i + (1))))] (77) 8 [some (.inr (.inr (.inl (some (77))))), some (.inl (f (Int.toNat (i + (1))))), some (.inl (f (Int.toNat (i + (2))))), none, none] (cL_14_ok _ _ rfl) rfl rfl pp_197 rfl rfl rfl (congrArg Prod.fst k77) rfl rfl rfl rfl ?_
  refine av_wp_mono W (fun v h2 z => ?_)
  obtain ⟨y, rfl, e, B2, R2⟩ := z
  show av_wp (some (L, f)) cd_L 731 [some (.inr (.inr (.inr 100))), some (.inr (.inr (.inl (some (0))))), some (.inr (.inr (.inl (some (77))))), some (.inl i)] [.inl y] h2 Q
  refine av_wp_sqL cL_14_ok 2 (pc' := 1284) (lv' := [some (.inr (.inr (.inr 100))), some (.inr (.inr (.inl (some (0))))), some (.inr (.inr (.inl (some (77))))), some (.inl i)]) (st' := []) (h' := h2) rfl ?_
  exact hk h2 B2 R2
def cL_15 : List (Nat × av_E) := [(735, av_q (.aload_n 1)), (736, av_q (.aload_n 0)), (737, av_q (.iload_n 3)), (738, av_q (.iconst 1)), (739, av_q (.iadd)), (740, av_q (.iaload)), (741, av_q (.aload_n 0)), (742, av_q (.iload_n 3)), (743, av_q (.iconst 2)), (744, av_q (.iadd)), (745, av_q (.iaload)), (746, av_q (.aload_n 0)), (747, av_q (.iload_n 3)), (748, av_q (.iconst 3)), (749, av_q (.iadd)), (750, av_q (.iaload)), (751, av_q (.aload_n 0)), (752, av_q (.iload_n 3)), (753, av_q (.iconst 4)), (754, av_q (.iadd)), (755, av_q (.iaload)), (756, av_qc (.invokevirtual 79) 111 4 0 7), (759, av_q (.pop)), (760, av_q (.aload_n 2)), (761, av_q (.aload_n 0)), (762, av_q (.iload_n 3)), (763, av_q (.iconst 1)), (764, av_q (.iadd)), (765, av_q (.iaload)), (766, av_q (.aload_n 0)), (767, av_q (.iload_n 3)), (768, av_q (.iconst 2)), (769, av_q (.iadd)), (770, av_q (.iaload)), (771, av_q (.aload_n 0)), (772, av_q (.iload_n 3)), (773, av_q (.iconst 3)), (774, av_q (.iadd)), (775, av_q (.iaload)), (776, av_q (.aload_n 0)), (777, av_q (.iload_n 3)), (778, av_q (.iconst 4)), (779, av_q (.iadd)), (780, av_q (.iaload)), (781, av_qc (.invokevirtual 82) 198 4 0 8), (784, av_q (.pop)), (785, av_qa (.goto 499) 1284)]
