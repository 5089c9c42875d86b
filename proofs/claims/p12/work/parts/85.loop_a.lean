/-! THE LAW'S LOOP -/
theorem wq_scr {cd : List (Nat × av_E)} {Q : Option av_V → av_H → Prop} {pc p' : Nat} {lv : av_L} {r : List av_V} {h : av_H} {L : Nat} {f : Nat → Int} {i : Int} (hx : cd.lookup pc = some (av_q (.iaload))) (hp : pc + 1 = p') (hi : 0 ≤ i ∧ i < (L : Int) ∧ (L : Int) < 2147483648) (hw : av_wp (some (L, f)) cd p' lv (.inl (f i.toNat) :: r) h Q) : av_wp (some (L, f)) cd pc lv (.inl i :: .inr (.inr (.inr 100)) :: r) h Q := by
  subst hp
  refine av_wp_st1 hx (pc' := pc + 1) (lv' := lv) (st' := .inl (f i.toNat) :: r) (h' := h) rfl ?_ hw
  show av_ald (some (L, f)) [20] pc lv (.inl i :: .inr (.inr (.inr 100)) :: r) h = _
  simp only [av_ald]
  rw [if_pos ⟨trivial, av_inO hi⟩, av_rgw ⟨by omega, by omega⟩]
theorem av_and31 (x : Int) : ∃ k : Nat, k < 32 ∧ av_and x 31 = (k : Int) := by
  have hle : ((Int32.ofInt x).toBitVec &&& (Int32.ofInt 31).toBitVec).toNat < 32 := by
    rw [BitVec.toNat_and]
    exact Nat.lt_of_le_of_lt Nat.and_le_right (by decide)
  refine ⟨((Int32.ofInt x).toBitVec &&& (Int32.ofInt 31).toBitVec).toNat, hle, ?_⟩
  show ((Int32.ofInt x) &&& (Int32.ofInt 31)).toBitVec.toInt = _
  rw [Int32.toBitVec_and]
  exact BitVec.toInt_eq_toNat_of_lt (by omega)
set_option maxRecDepth 100000 in
set_option maxHeartbeats 8000000 in
theorem lo_0 {L : Nat} {f : Nat → Int} (hf : ∀ j, -2147483648 ≤ f j ∧ f j ≤ 2147483647) {i : Int} (hi : 0 ≤ i ∧ i + 6 ≤ (L : Int)) (hL : L ≤ 3072) {h : av_H} (B : BX h) {Q : Option av_V → av_H → Prop} (hk : ∀ h', BX h' → RM h h' → av_wp (some (L, f)) cd_L 1284 [some (.inr (.inr (.inr 100))), some (.inr (.inr (.inl (some (0))))), some (.inr (.inr (.inl (some (77))))), some (.inl i)] [] h' Q) : av_wp (some (L, f)) cd_L 160 [some (.inr (.inr (.inr 100))), some (.inr (.inr (.inl (some (0))))), some (.inr (.inr (.inl (some (77))))), some (.inl i)] [] h Q := by
  refine av_wp_seq 5 (pc' := 165) (lv' := [some (.inr (.inr (.inr 100))), some (.inr (.inr (.inl (some (0))))), some (.inr (.inr (.inl (some (77))))), some (.inl i)]) (st' := [.inl (i + (1)), .inr (.inr (.inr 100)), .inr (.inr (.inl (some (0))))]) (h' := h) rfl ?_
  refine wq_scr (p' := 166) rfl rfl ⟨by omega, by omega, by omega⟩ ?_
  refine av_wp_seq 4 (pc' := 170) (lv' := [some (.inr (.inr (.inr 100))), some (.inr (.inr (.inl (some (0))))), some (.inr (.inr (.inl (some (77))))), some (.inl i)]) (st' := [.inl (i + (2)), .inr (.inr (.inr 100)), .inl (f (Int.toNat (i + (1)))), .inr (.inr (.inl (some (0))))]) (h' := h) rfl ?_
  refine wq_scr (p' := 171) rfl rfl ⟨by omega, by omega, by omega⟩ ?_
  refine av_wp_seq 4 (pc' := 175) (lv' := [some (.inr (.inr (.inr 100))), some (.inr (.inr (.inl (some (0))))), some (.inr (.inr (.inl (some (77))))), some (.inl i)]) (st' := [.inl (i + (3)), .inr (.inr (.inr 100)), .inl (f (Int.toNat (i + (2)))), .inl (f (Int.toNat (i + (1)))), .inr (.inr (.inl (some (0))))]) (h' := h) rfl ?_
  refine wq_scr (p' := 176) rfl rfl ⟨by omega, by omega, by omega⟩ ?_
  refine av_wp_seq 4 (pc' := 180) (lv' := [some (.inr (.inr (.inr 100))), some (.inr (.inr (.inl (some (0))))), some (.inr (.inr (.inl (some (77))))), some (.inl i)]) (st' := [.inl (i + (4)), .inr (.inr (.inr 100)), .inl (f (Int.toNat (i + (3)))), .inl (f (Int.toNat (i + (2)))), .inl (f (Int.toNat (i + (1)))), .inr (.inr (.inl (some (0))))]) (h' := h) rfl ?_
  refine wq_scr (p' := 181) rfl rfl ⟨by omega, by omega, by omega⟩ ?_
  refine av_wp_seq 4 (pc' := 185) (lv' := [some (.inr (.inr (.inr 100))), some (.inr (.inr (.inl (some (0))))), some (.inr (.inr (.inl (some (77))))), some (.inl i)]) (st' := [.inl (i + (5)), .inr (.inr (.inr 100)), .inl (f (Int.toNat (i + (4)))), .inl (f (Int.toNat (i + (3)))), .inl (f (Int.toNat (i + (2)))), .inl (f (Int.toNat (i + (1)))), .inr (.inr (.inl (some (0))))]) (h' := h) rfl ?_
  refine wq_scr (p' := 186) rfl rfl ⟨by omega, by omega, by omega⟩ ?_
  refine wq_cv (p' := 189) (av_qc (.invokevirtual 13) 94 5 0 7) 6 cd_94 [.inl (f (Int.toNat (i + (5)))), .inl (f (Int.toNat (i + (4)))), .inl (f (Int.toNat (i + (3)))), .inl (f (Int.toNat (i + (2)))), .inl (f (Int.toNat (i + (1))))] (0) 7 [some (.inr (.inr (.inl (some (0))))), some (.inl (f (Int.toNat (i + (1))))), some (.inl (f (Int.toNat (i + (2))))), some (.inl (f (Int.toNat (i + (3))))), some (.inl (f (Int.toNat (i + (4))))), some (.inl (f (Int.toNat (i + (5)))))] rfl rfl rfl pp_94 rfl rfl rfl (congrArg Prod.fst (ly_k B.1.1.1 0 rfl)) rfl rfl rfl rfl ?_
  refine av_wp_mono (oz_feed B (f (Int.toNat (i + (1)))) (f (Int.toNat (i + (2)))) (f (Int.toNat (i + (3)))) (f (Int.toNat (i + (4)))) (f (Int.toNat (i + (5))))) (fun v h1 z => ?_)
  obtain ⟨x, rfl, k77, W⟩ := z
  show av_wp (some (L, f)) cd_L 189 [some (.inr (.inr (.inr 100))), some (.inr (.inr (.inl (some (0))))), some (.inr (.inr (.inl (some (77))))), some (.inl i)] [.inl x] h1 Q
  refine av_wp_seq 6 (pc' := 195) (lv' := [some (.inr (.inr (.inr 100))), some (.inr (.inr (.inl (some (0))))), some (.inr (.inr (.inl (some (77))))), some (.inl i)]) (st' := [.inl (i + (1)), .inr (.inr (.inr 100)), .inr (.inr (.inl (some (77))))]) (h' := h1) rfl ?_
  refine wq_scr (p' := 196) rfl rfl ⟨by omega, by omega, by omega⟩ ?_
  refine av_wp_seq 4 (pc' := 200) (lv' := [some (.inr (.inr (.inr 100))), some (.inr (.inr (.inl (some (0))))), some (.inr (.inr (.inl (some (77))))), some (.inl i)]) (st' := [.inl (i + (2)), .inr (.inr (.inr 100)), .inl (f (Int.toNat (i + (1)))), .inr (.inr (.inl (some (77))))]) (h' := h1) rfl ?_
  refine wq_scr (p' := 201) rfl rfl ⟨by omega, by omega, by omega⟩ ?_
  refine av_wp_seq 4 (pc' := 205) (lv' := [some (.inr (.inr (.inr 100))), some (.inr (.inr (.inl (some (0))))), some (.inr (.inr (.inl (some (77))))), some (.inl i)]) (st' := [.inl (i + (3)), .inr (.inr (.inr 100)), .inl (f (Int.toNat (i + (2)))), .inl (f (Int.toNat (i + (1)))), .inr (.inr (.inl (some (77))))]) (h' := h1) rfl ?_
  refine wq_scr (p' := 206) rfl rfl ⟨by omega, by omega, by omega⟩ ?_
  refine av_wp_seq 4 (pc' := 210) (lv' := [some (.inr (.inr (.inr 100))), some (.inr (.inr (.inl (some (0))))), some (.inr (.inr (.inl (some (77))))), some (.inl i)]) (st' := [.inl (i + (4)), .inr (.inr (.inr 100)), .inl (f (Int.toNat (i + (3)))), .inl (f (Int.toNat (i + (2)))), .inl (f (Int.toNat (i + (1)))), .inr (.inr (.inl (some (77))))]) (h' := h1) rfl ?_
  refine wq_scr (p' := 211) rfl rfl ⟨by omega, by omega, by omega⟩ ?_
  refine av_wp_seq 4 (pc' := 215) (lv' := [some (.inr (.inr (.inr 100))), some (.inr (.inr (.inl (some (0))))), some (.inr (.inr (.inl (some (77))))), some (.inl i)]) (st' := [.inl (i + (5)), .inr (.inr (.inr 100)), .inl (f (Int.toNat (i + (4)))), .inl (f (Int.toNat (i + (3)))), .inl (f (Int.toNat (i + (2)))), .inl (f (Int.toNat (i + (1)))), .inr (.inr (.inl (some (77))))]) (h' := h1) rfl ?_
  refine wq_scr (p' := 216) rfl rfl ⟨by omega, by omega, by omega⟩ ?_
  refine wq_cv (p' := 219) (av_qc (.invokevirtual 17) 128 5 0 8) 8 cd_128 [.inl (f (Int.toNat (i + (5)))), .inl (f (Int.toNat (i + (4)))), .inl (f (Int.toNat (i + (3)))), .inl (f (Int.toNat (i + (2)))), .inl (f (Int.toNat (i + (1))))] (77) 8 [some (.inr (.inr (.inl (some (77))))), some (.inl (f (Int.toNat (i + (1))))), some (.inl (f (Int.toNat (i + (2))))), some (.inl (f (Int.toNat (i + (3))))), some (.inl (f (Int.toNat (i + (4))))), some (.inl (f (Int.toNat (i + (5))))), none, none] rfl rfl rfl pp_128 rfl rfl rfl (congrArg Prod.fst k77) rfl rfl rfl rfl ?_
  refine av_wp_mono W (fun v h2 z => ?_)
  obtain ⟨y, rfl, e, B2, R2⟩ := z
  show av_wp (some (L, f)) cd_L 219 [some (.inr (.inr (.inr 100))), some (.inr (.inr (.inl (some (0))))), some (.inr (.inr (.inl (some (77))))), some (.inl i)] [.inl y] h2 Q
  refine av_wp_seq 2 (pc' := 1284) (lv' := [some (.inr (.inr (.inr 100))), some (.inr (.inr (.inl (some (0))))), some (.inr (.inr (.inl (some (77))))), some (.inl i)]) (st' := []) (h' := h2) rfl ?_
  exact hk h2 B2 R2
set_option maxRecDepth 100000 in
set_option maxHeartbeats 8000000 in
theorem lo_1 {L : Nat} {f : Nat → Int} (hf : ∀ j, -2147483648 ≤ f j ∧ f j ≤ 2147483647) {i : Int} (hi : 0 ≤ i ∧ i + 6 ≤ (L : Int)) (hL : L ≤ 3072) {h : av_H} (B : BX h) {Q : Option av_V → av_H → Prop} (hk : ∀ h', BX h' → RM h h' → av_wp (some (L, f)) cd_L 1284 [some (.inr (.inr (.inr 100))), some (.inr (.inr (.inl (some (0))))), some (.inr (.inr (.inl (some (77))))), some (.inl i)] [] h' Q) : av_wp (some (L, f)) cd_L 223 [some (.inr (.inr (.inr 100))), some (.inr (.inr (.inl (some (0))))), some (.inr (.inr (.inl (some (77))))), some (.inl i)] [] h Q := by
  refine av_wp_seq 5 (pc' := 228) (lv' := [some (.inr (.inr (.inr 100))), some (.inr (.inr (.inl (some (0))))), some (.inr (.inr (.inl (some (77))))), some (.inl i)]) (st' := [.inl (i + (1)), .inr (.inr (.inr 100)), .inr (.inr (.inl (some (0))))]) (h' := h) rfl ?_
  refine wq_scr (p' := 229) rfl rfl ⟨by omega, by omega, by omega⟩ ?_
  refine wq_cv (p' := 232) (av_qc (.invokevirtual 18) 95 1 0 7) 3 cd_95 [.inl (f (Int.toNat (i + (1))))] (0) 7 [some (.inr (.inr (.inl (some (0))))), some (.inl (f (Int.toNat (i + (1))))), none] rfl rfl rfl pp_95 rfl rfl rfl (congrArg Prod.fst (ly_k B.1.1.1 0 rfl)) rfl rfl rfl rfl ?_
  refine av_wp_mono (oz_tell B (f (Int.toNat (i + (1)))) (hf _)) (fun v h1 z => ?_)
  obtain ⟨x, rfl, k77, W⟩ := z
  show av_wp (some (L, f)) cd_L 232 [some (.inr (.inr (.inr 100))), some (.inr (.inr (.inl (some (0))))), some (.inr (.inr (.inl (some (77))))), some (.inl i)] [.inl x] h1 Q
  refine av_wp_seq 6 (pc' := 238) (lv' := [some (.inr (.inr (.inr 100))), some (.inr (.inr (.inl (some (0))))), some (.inr (.inr (.inl (some (77))))), some (.inl i)]) (st' := [.inl (i + (1)), .inr (.inr (.inr 100)), .inr (.inr (.inl (some (77))))]) (h' := h1) rfl ?_
  refine wq_scr (p' := 239) rfl rfl ⟨by omega, by omega, by omega⟩ ?_
  refine wq_cv (p' := 242) (av_qc (.invokevirtual 22) 148 1 0 8) 3 cd_148 [.inl (f (Int.toNat (i + (1))))] (77) 8 [some (.inr (.inr (.inl (some (77))))), some (.inl (f (Int.toNat (i + (1))))), none] rfl rfl rfl pp_148 rfl rfl rfl (congrArg Prod.fst k77) rfl rfl rfl rfl ?_
  refine av_wp_mono W (fun v h2 z => ?_)
  obtain ⟨y, rfl, e, B2, R2⟩ := z
  show av_wp (some (L, f)) cd_L 242 [some (.inr (.inr (.inr 100))), some (.inr (.inr (.inl (some (0))))), some (.inr (.inr (.inl (some (77))))), some (.inl i)] [.inl y] h2 Q
  refine av_wp_seq 2 (pc' := 1284) (lv' := [some (.inr (.inr (.inr 100))), some (.inr (.inr (.inl (some (0))))), some (.inr (.inr (.inl (some (77))))), some (.inl i)]) (st' := []) (h' := h2) rfl ?_
  exact hk h2 B2 R2
set_option maxRecDepth 100000 in
set_option maxHeartbeats 8000000 in
theorem lo_2 {L : Nat} {f : Nat → Int} (hf : ∀ j, -2147483648 ≤ f j ∧ f j ≤ 2147483647) {i : Int} (hi : 0 ≤ i ∧ i + 6 ≤ (L : Int)) (hL : L ≤ 3072) {h : av_H} (B : BX h) {Q : Option av_V → av_H → Prop} (hk : ∀ h', BX h' → RM h h' → av_wp (some (L, f)) cd_L 1284 [some (.inr (.inr (.inr 100))), some (.inr (.inr (.inl (some (0))))), some (.inr (.inr (.inl (some (77))))), some (.inl i)] [] h' Q) : av_wp (some (L, f)) cd_L 246 [some (.inr (.inr (.inr 100))), some (.inr (.inr (.inl (some (0))))), some (.inr (.inr (.inl (some (77))))), some (.inl i)] [] h Q := by
  refine av_wp_seq 5 (pc' := 251) (lv' := [some (.inr (.inr (.inr 100))), some (.inr (.inr (.inl (some (0))))), some (.inr (.inr (.inl (some (77))))), some (.inl i)]) (st' := [.inl (i + (1)), .inr (.inr (.inr 100)), .inr (.inr (.inl (some (0))))]) (h' := h) rfl ?_
  refine wq_scr (p' := 252) rfl rfl ⟨by omega, by omega, by omega⟩ ?_
  refine av_wp_seq 4 (pc' := 256) (lv' := [some (.inr (.inr (.inr 100))), some (.inr (.inr (.inl (some (0))))), some (.inr (.inr (.inl (some (77))))), some (.inl i)]) (st' := [.inl (i + (2)), .inr (.inr (.inr 100)), .inl (f (Int.toNat (i + (1)))), .inr (.inr (.inl (some (0))))]) (h' := h) rfl ?_
  refine wq_scr (p' := 257) rfl rfl ⟨by omega, by omega, by omega⟩ ?_
  refine wq_cv (p' := 260) (av_qc (.invokevirtual 23) 96 2 0 7) 5 cd_96 [.inl (f (Int.toNat (i + (2)))), .inl (f (Int.toNat (i + (1))))] (0) 7 [some (.inr (.inr (.inl (some (0))))), some (.inl (f (Int.toNat (i + (1))))), some (.inl (f (Int.toNat (i + (2))))), none, none] rfl rfl rfl pp_96 rfl rfl rfl (congrArg Prod.fst (ly_k B.1.1.1 0 rfl)) rfl rfl rfl rfl ?_
  refine av_wp_mono (oz_more B (f (Int.toNat (i + (1)))) (f (Int.toNat (i + (2)))) (hf _) (hf _)) (fun v h1 z => ?_)
  obtain ⟨x, rfl, k77, W⟩ := z
  show av_wp (some (L, f)) cd_L 260 [some (.inr (.inr (.inr 100))), some (.inr (.inr (.inl (some (0))))), some (.inr (.inr (.inl (some (77))))), some (.inl i)] [.inl x] h1 Q
  refine av_wp_seq 6 (pc' := 266) (lv' := [some (.inr (.inr (.inr 100))), some (.inr (.inr (.inl (some (0))))), some (.inr (.inr (.inl (some (77))))), some (.inl i)]) (st' := [.inl (i + (1)), .inr (.inr (.inr 100)), .inr (.inr (.inl (some (77))))]) (h' := h1) rfl ?_
  refine wq_scr (p' := 267) rfl rfl ⟨by omega, by omega, by omega⟩ ?_
  refine av_wp_seq 4 (pc' := 271) (lv' := [some (.inr (.inr (.inr 100))), some (.inr (.inr (.inl (some (0))))), some (.inr (.inr (.inl (some (77))))), some (.inl i)]) (st' := [.inl (i + (2)), .inr (.inr (.inr 100)), .inl (f (Int.toNat (i + (1)))), .inr (.inr (.inl (some (77))))]) (h' := h1) rfl ?_
  refine wq_scr (p' := 272) rfl rfl ⟨by omega, by omega, by omega⟩ ?_
  refine wq_cv (p' := 275) (av_qc (.invokevirtual 27) 151 2 0 8) 4 cd_151 [.inl (f (Int.toNat (i + (2)))), .inl (f (Int.toNat (i + (1))))] (77) 8 [some (.inr (.inr (.inl (some (77))))), some (.inl (f (Int.toNat (i + (1))))), some (.inl (f (Int.toNat (i + (2))))), none] rfl rfl rfl pp_151 rfl rfl rfl (congrArg Prod.fst k77) rfl rfl rfl rfl ?_
  refine av_wp_mono W (fun v h2 z => ?_)
  obtain ⟨y, rfl, e, B2, R2⟩ := z
  show av_wp (some (L, f)) cd_L 275 [some (.inr (.inr (.inr 100))), some (.inr (.inr (.inl (some (0))))), some (.inr (.inr (.inl (some (77))))), some (.inl i)] [.inl y] h2 Q
  refine av_wp_seq 2 (pc' := 1284) (lv' := [some (.inr (.inr (.inr 100))), some (.inr (.inr (.inl (some (0))))), some (.inr (.inr (.inl (some (77))))), some (.inl i)]) (st' := []) (h' := h2) rfl ?_
  exact hk h2 B2 R2
set_option maxRecDepth 100000 in
set_option maxHeartbeats 8000000 in
theorem lo_3 {L : Nat} {f : Nat → Int} (hf : ∀ j, -2147483648 ≤ f j ∧ f j ≤ 2147483647) {i : Int} (hi : 0 ≤ i ∧ i + 6 ≤ (L : Int)) (hL : L ≤ 3072) {h : av_H} (B : BX h) {Q : Option av_V → av_H → Prop} (hk : ∀ h', BX h' → RM h h' → av_wp (some (L, f)) cd_L 1284 [some (.inr (.inr (.inr 100))), some (.inr (.inr (.inl (some (0))))), some (.inr (.inr (.inl (some (77))))), some (.inl i)] [] h' Q) : av_wp (some (L, f)) cd_L 279 [some (.inr (.inr (.inr 100))), some (.inr (.inr (.inl (some (0))))), some (.inr (.inr (.inl (some (77))))), some (.inl i)] [] h Q := by
  refine av_wp_seq 5 (pc' := 284) (lv' := [some (.inr (.inr (.inr 100))), some (.inr (.inr (.inl (some (0))))), some (.inr (.inr (.inl (some (77))))), some (.inl i)]) (st' := [.inl (i + (1)), .inr (.inr (.inr 100)), .inr (.inr (.inl (some (0))))]) (h' := h) rfl ?_
  refine wq_scr (p' := 285) rfl rfl ⟨by omega, by omega, by omega⟩ ?_
  refine wq_cv (p' := 288) (av_qc (.invokevirtual 28) 97 1 0 7) 3 cd_97 [.inl (f (Int.toNat (i + (1))))] (0) 7 [some (.inr (.inr (.inl (some (0))))), some (.inl (f (Int.toNat (i + (1))))), none] rfl rfl rfl pp_97 rfl rfl rfl (congrArg Prod.fst (ly_k B.1.1.1 0 rfl)) rfl rfl rfl rfl ?_
  refine av_wp_mono (oz_law B (f (Int.toNat (i + (1)))) (hf _)) (fun v h1 z => ?_)
  obtain ⟨x, rfl, k77, W⟩ := z
  show av_wp (some (L, f)) cd_L 288 [some (.inr (.inr (.inr 100))), some (.inr (.inr (.inl (some (0))))), some (.inr (.inr (.inl (some (77))))), some (.inl i)] [.inl x] h1 Q
  refine av_wp_seq 6 (pc' := 294) (lv' := [some (.inr (.inr (.inr 100))), some (.inr (.inr (.inl (some (0))))), some (.inr (.inr (.inl (some (77))))), some (.inl i)]) (st' := [.inl (i + (1)), .inr (.inr (.inr 100)), .inr (.inr (.inl (some (77))))]) (h' := h1) rfl ?_
  refine wq_scr (p' := 295) rfl rfl ⟨by omega, by omega, by omega⟩ ?_
  refine wq_cv (p' := 298) (av_qc (.invokevirtual 31) 156 1 0 8) 2 cd_156 [.inl (f (Int.toNat (i + (1))))] (77) 8 [some (.inr (.inr (.inl (some (77))))), some (.inl (f (Int.toNat (i + (1)))))] rfl rfl rfl pp_156 rfl rfl rfl (congrArg Prod.fst k77) rfl rfl rfl rfl ?_
  refine av_wp_mono W (fun v h2 z => ?_)
  obtain ⟨y, rfl, e, B2, R2⟩ := z
  show av_wp (some (L, f)) cd_L 298 [some (.inr (.inr (.inr 100))), some (.inr (.inr (.inl (some (0))))), some (.inr (.inr (.inl (some (77))))), some (.inl i)] [.inl y] h2 Q
  refine av_wp_seq 2 (pc' := 1284) (lv' := [some (.inr (.inr (.inr 100))), some (.inr (.inr (.inl (some (0))))), some (.inr (.inr (.inl (some (77))))), some (.inl i)]) (st' := []) (h' := h2) rfl ?_
  exact hk h2 B2 R2
set_option maxRecDepth 100000 in
set_option maxHeartbeats 8000000 in
theorem lo_4 {L : Nat} {f : Nat → Int} (hf : ∀ j, -2147483648 ≤ f j ∧ f j ≤ 2147483647) {i : Int} (hi : 0 ≤ i ∧ i + 6 ≤ (L : Int)) (hL : L ≤ 3072) {h : av_H} (B : BX h) {Q : Option av_V → av_H → Prop} (hk : ∀ h', BX h' → RM h h' → av_wp (some (L, f)) cd_L 1284 [some (.inr (.inr (.inr 100))), some (.inr (.inr (.inl (some (0))))), some (.inr (.inr (.inl (some (77))))), some (.inl i)] [] h' Q) : av_wp (some (L, f)) cd_L 302 [some (.inr (.inr (.inr 100))), some (.inr (.inr (.inl (some (0))))), some (.inr (.inr (.inl (some (77))))), some (.inl i)] [] h Q := by
  refine av_wp_seq 5 (pc' := 307) (lv' := [some (.inr (.inr (.inr 100))), some (.inr (.inr (.inl (some (0))))), some (.inr (.inr (.inl (some (77))))), some (.inl i)]) (st' := [.inl (i + (1)), .inr (.inr (.inr 100)), .inr (.inr (.inl (some (0))))]) (h' := h) rfl ?_
  refine wq_scr (p' := 308) rfl rfl ⟨by omega, by omega, by omega⟩ ?_
  refine wq_cv (p' := 311) (av_qc (.invokevirtual 32) 98 1 0 7) 3 cd_98 [.inl (f (Int.toNat (i + (1))))] (0) 7 [some (.inr (.inr (.inl (some (0))))), some (.inl (f (Int.toNat (i + (1))))), none] rfl rfl rfl pp_98 rfl rfl rfl (congrArg Prod.fst (ly_k B.1.1.1 0 rfl)) rfl rfl rfl rfl ?_
  refine av_wp_mono (oz_clause B (f (Int.toNat (i + (1)))) (hf _)) (fun v h1 z => ?_)
  obtain ⟨x, rfl, k77, W⟩ := z
  show av_wp (some (L, f)) cd_L 311 [some (.inr (.inr (.inr 100))), some (.inr (.inr (.inl (some (0))))), some (.inr (.inr (.inl (some (77))))), some (.inl i)] [.inl x] h1 Q
  refine av_wp_seq 6 (pc' := 317) (lv' := [some (.inr (.inr (.inr 100))), some (.inr (.inr (.inl (some (0))))), some (.inr (.inr (.inl (some (77))))), some (.inl i)]) (st' := [.inl (i + (1)), .inr (.inr (.inr 100)), .inr (.inr (.inl (some (77))))]) (h' := h1) rfl ?_
  refine wq_scr (p' := 318) rfl rfl ⟨by omega, by omega, by omega⟩ ?_
  refine wq_cv (p' := 321) (av_qc (.invokevirtual 35) 157 1 0 8) 2 cd_157 [.inl (f (Int.toNat (i + (1))))] (77) 8 [some (.inr (.inr (.inl (some (77))))), some (.inl (f (Int.toNat (i + (1)))))] rfl rfl rfl pp_157 rfl rfl rfl (congrArg Prod.fst k77) rfl rfl rfl rfl ?_
  refine av_wp_mono W (fun v h2 z => ?_)
  obtain ⟨y, rfl, e, B2, R2⟩ := z
  show av_wp (some (L, f)) cd_L 321 [some (.inr (.inr (.inr 100))), some (.inr (.inr (.inl (some (0))))), some (.inr (.inr (.inl (some (77))))), some (.inl i)] [.inl y] h2 Q
  refine av_wp_seq 2 (pc' := 1284) (lv' := [some (.inr (.inr (.inr 100))), some (.inr (.inr (.inl (some (0))))), some (.inr (.inr (.inl (some (77))))), some (.inl i)]) (st' := []) (h' := h2) rfl ?_
  exact hk h2 B2 R2
set_option maxRecDepth 100000 in
set_option maxHeartbeats 8000000 in
theorem lo_5 {L : Nat} {f : Nat → Int} (hf : ∀ j, -2147483648 ≤ f j ∧ f j ≤ 2147483647) {i : Int} (hi : 0 ≤ i ∧ i + 6 ≤ (L : Int)) (hL : L ≤ 3072) {h : av_H} (B : BX h) {Q : Option av_V → av_H → Prop} (hk : ∀ h', BX h' → RM h h' → av_wp (some (L, f)) cd_L 1284 [some (.inr (.inr (.inr 100))), some (.inr (.inr (.inl (some (0))))), some (.inr (.inr (.inl (some (77))))), some (.inl i)] [] h' Q) : av_wp (some (L, f)) cd_L 325 [some (.inr (.inr (.inr 100))), some (.inr (.inr (.inl (some (0))))), some (.inr (.inr (.inl (some (77))))), some (.inl i)] [] h Q := by
  refine av_wp_seq 1 (pc' := 326) (lv' := [some (.inr (.inr (.inr 100))), some (.inr (.inr (.inl (some (0))))), some (.inr (.inr (.inl (some (77))))), some (.inl i)]) (st' := [.inr (.inr (.inl (some (0))))]) (h' := h) rfl ?_
  refine wq_cv (p' := 329) (av_qc (.invokevirtual 36) 100 0 0 7) 1 cd_100 [] (0) 7 [some (.inr (.inr (.inl (some (0)))))] rfl rfl rfl pp_100 rfl rfl rfl (congrArg Prod.fst (ly_k B.1.1.1 0 rfl)) rfl rfl rfl rfl ?_
  refine av_wp_mono (oz_100 B  ) (fun v h1 z => ?_)
  obtain ⟨x, rfl, k77, W⟩ := z
  show av_wp (some (L, f)) cd_L 329 [some (.inr (.inr (.inr 100))), some (.inr (.inr (.inl (some (0))))), some (.inr (.inr (.inl (some (77))))), some (.inl i)] [.inl x] h1 Q
  refine av_wp_seq 2 (pc' := 331) (lv' := [some (.inr (.inr (.inr 100))), some (.inr (.inr (.inl (some (0))))), some (.inr (.inr (.inl (some (77))))), some (.inl i)]) (st' := [.inr (.inr (.inl (some (77))))]) (h' := h1) rfl ?_
  refine wq_cv (p' := 334) (av_qc (.invokevirtual 40) 158 0 0 8) 1 cd_158 [] (77) 8 [some (.inr (.inr (.inl (some (77)))))] rfl rfl rfl pp_158 rfl rfl rfl (congrArg Prod.fst k77) rfl rfl rfl rfl ?_
  refine av_wp_mono W (fun v h2 z => ?_)
  obtain ⟨y, rfl, e, B2, R2⟩ := z
  show av_wp (some (L, f)) cd_L 334 [some (.inr (.inr (.inr 100))), some (.inr (.inr (.inl (some (0))))), some (.inr (.inr (.inl (some (77))))), some (.inl i)] [.inl y] h2 Q
  refine av_wp_seq 2 (pc' := 1284) (lv' := [some (.inr (.inr (.inr 100))), some (.inr (.inr (.inl (some (0))))), some (.inr (.inr (.inl (some (77))))), some (.inl i)]) (st' := []) (h' := h2) rfl ?_
  exact hk h2 B2 R2
set_option maxRecDepth 100000 in
set_option maxHeartbeats 8000000 in
theorem lo_6 {L : Nat} {f : Nat → Int} (hf : ∀ j, -2147483648 ≤ f j ∧ f j ≤ 2147483647) {i : Int} (hi : 0 ≤ i ∧ i + 6 ≤ (L : Int)) (hL : L ≤ 3072) {h : av_H} (B : BX h) {Q : Option av_V → av_H → Prop} (hk : ∀ h', BX h' → RM h h' → av_wp (some (L, f)) cd_L 1284 [some (.inr (.inr (.inr 100))), some (.inr (.inr (.inl (some (0))))), some (.inr (.inr (.inl (some (77))))), some (.inl i)] [] h' Q) : av_wp (some (L, f)) cd_L 338 [some (.inr (.inr (.inr 100))), some (.inr (.inr (.inl (some (0))))), some (.inr (.inr (.inl (some (77))))), some (.inl i)] [] h Q := by
  refine av_wp_seq 5 (pc' := 343) (lv' := [some (.inr (.inr (.inr 100))), some (.inr (.inr (.inl (some (0))))), some (.inr (.inr (.inl (some (77))))), some (.inl i)]) (st' := [.inl (i + (1)), .inr (.inr (.inr 100)), .inr (.inr (.inl (some (0))))]) (h' := h) rfl ?_
  refine wq_scr (p' := 344) rfl rfl ⟨by omega, by omega, by omega⟩ ?_
  refine av_wp_seq 4 (pc' := 348) (lv' := [some (.inr (.inr (.inr 100))), some (.inr (.inr (.inl (some (0))))), some (.inr (.inr (.inl (some (77))))), some (.inl i)]) (st' := [.inl (i + (2)), .inr (.inr (.inr 100)), .inl (f (Int.toNat (i + (1)))), .inr (.inr (.inl (some (0))))]) (h' := h) rfl ?_
  refine wq_scr (p' := 349) rfl rfl ⟨by omega, by omega, by omega⟩ ?_
  refine av_wp_seq 4 (pc' := 353) (lv' := [some (.inr (.inr (.inr 100))), some (.inr (.inr (.inl (some (0))))), some (.inr (.inr (.inl (some (77))))), some (.inl i)]) (st' := [.inl (i + (3)), .inr (.inr (.inr 100)), .inl (f (Int.toNat (i + (2)))), .inl (f (Int.toNat (i + (1)))), .inr (.inr (.inl (some (0))))]) (h' := h) rfl ?_
  refine wq_scr (p' := 354) rfl rfl ⟨by omega, by omega, by omega⟩ ?_
  refine wq_cv (p' := 357) (av_qc (.invokevirtual 41) 101 3 0 7) 6 cd_101 [.inl (f (Int.toNat (i + (3)))), .inl (f (Int.toNat (i + (2)))), .inl (f (Int.toNat (i + (1))))] (0) 7 [some (.inr (.inr (.inl (some (0))))), some (.inl (f (Int.toNat (i + (1))))), some (.inl (f (Int.toNat (i + (2))))), some (.inl (f (Int.toNat (i + (3))))), none, none] rfl rfl rfl pp_101 rfl rfl rfl (congrArg Prod.fst (ly_k B.1.1.1 0 rfl)) rfl rfl rfl rfl ?_
  refine av_wp_mono (oz_101 B (f (Int.toNat (i + (1)))) (f (Int.toNat (i + (2)))) (f (Int.toNat (i + (3)))) (hf _) (hf _) (hf _)) (fun v h1 z => ?_)
  obtain ⟨x, rfl, k77, W⟩ := z
  show av_wp (some (L, f)) cd_L 357 [some (.inr (.inr (.inr 100))), some (.inr (.inr (.inl (some (0))))), some (.inr (.inr (.inl (some (77))))), some (.inl i)] [.inl x] h1 Q
  refine av_wp_seq 6 (pc' := 363) (lv' := [some (.inr (.inr (.inr 100))), some (.inr (.inr (.inl (some (0))))), some (.inr (.inr (.inl (some (77))))), some (.inl i)]) (st' := [.inl (i + (1)), .inr (.inr (.inr 100)), .inr (.inr (.inl (some (77))))]) (h' := h1) rfl ?_
  refine wq_scr (p' := 364) rfl rfl ⟨by omega, by omega, by omega⟩ ?_
  refine av_wp_seq 4 (pc' := 368) (lv' := [some (.inr (.inr (.inr 100))), some (.inr (.inr (.inl (some (0))))), some (.inr (.inr (.inl (some (77))))), some (.inl i)]) (st' := [.inl (i + (2)), .inr (.inr (.inr 100)), .inl (f (Int.toNat (i + (1)))), .inr (.inr (.inl (some (77))))]) (h' := h1) rfl ?_
  refine wq_scr (p' := 369) rfl rfl ⟨by omega, by omega, by omega⟩ ?_
  refine av_wp_seq 4 (pc' := 373) (lv' := [some (.inr (.inr (.inr 100))), some (.inr (.inr (.inl (some (0))))), some (.inr (.inr (.inl (some (77))))), some (.inl i)]) (st' := [.inl (i + (3)), .inr (.inr (.inr 100)), .inl (f (Int.toNat (i + (2)))), .inl (f (Int.toNat (i + (1)))), .inr (.inr (.inl (some (77))))]) (h' := h1) rfl ?_
  refine wq_scr (p' := 374) rfl rfl ⟨by omega, by omega, by omega⟩ ?_
  refine wq_cv (p' := 377) (av_qc (.invokevirtual 45) 161 3 0 8) 5 cd_161 [.inl (f (Int.toNat (i + (3)))), .inl (f (Int.toNat (i + (2)))), .inl (f (Int.toNat (i + (1))))] (77) 8 [some (.inr (.inr (.inl (some (77))))), some (.inl (f (Int.toNat (i + (1))))), some (.inl (f (Int.toNat (i + (2))))), some (.inl (f (Int.toNat (i + (3))))), none] rfl rfl rfl pp_161 rfl rfl rfl (congrArg Prod.fst k77) rfl rfl rfl rfl ?_
  refine av_wp_mono W (fun v h2 z => ?_)
  obtain ⟨y, rfl, e, B2, R2⟩ := z
  show av_wp (some (L, f)) cd_L 377 [some (.inr (.inr (.inr 100))), some (.inr (.inr (.inl (some (0))))), some (.inr (.inr (.inl (some (77))))), some (.inl i)] [.inl y] h2 Q
  refine av_wp_seq 2 (pc' := 1284) (lv' := [some (.inr (.inr (.inr 100))), some (.inr (.inr (.inl (some (0))))), some (.inr (.inr (.inl (some (77))))), some (.inl i)]) (st' := []) (h' := h2) rfl ?_
  exact hk h2 B2 R2
set_option maxRecDepth 100000 in
set_option maxHeartbeats 8000000 in
theorem lo_7 {L : Nat} {f : Nat → Int} (hf : ∀ j, -2147483648 ≤ f j ∧ f j ≤ 2147483647) {i : Int} (hi : 0 ≤ i ∧ i + 6 ≤ (L : Int)) (hL : L ≤ 3072) {h : av_H} (B : BX h) {Q : Option av_V → av_H → Prop} (hk : ∀ h', BX h' → RM h h' → av_wp (some (L, f)) cd_L 1284 [some (.inr (.inr (.inr 100))), some (.inr (.inr (.inl (some (0))))), some (.inr (.inr (.inl (some (77))))), some (.inl i)] [] h' Q) : av_wp (some (L, f)) cd_L 381 [some (.inr (.inr (.inr 100))), some (.inr (.inr (.inl (some (0))))), some (.inr (.inr (.inl (some (77))))), some (.inl i)] [] h Q := by
  refine av_wp_seq 5 (pc' := 386) (lv' := [some (.inr (.inr (.inr 100))), some (.inr (.inr (.inl (some (0))))), some (.inr (.inr (.inl (some (77))))), some (.inl i)]) (st' := [.inl (i + (1)), .inr (.inr (.inr 100)), .inr (.inr (.inl (some (0))))]) (h' := h) rfl ?_
  refine wq_scr (p' := 387) rfl rfl ⟨by omega, by omega, by omega⟩ ?_
  refine av_wp_seq 4 (pc' := 391) (lv' := [some (.inr (.inr (.inr 100))), some (.inr (.inr (.inl (some (0))))), some (.inr (.inr (.inl (some (77))))), some (.inl i)]) (st' := [.inl (i + (2)), .inr (.inr (.inr 100)), .inl (f (Int.toNat (i + (1)))), .inr (.inr (.inl (some (0))))]) (h' := h) rfl ?_
  refine wq_scr (p' := 392) rfl rfl ⟨by omega, by omega, by omega⟩ ?_
  refine wq_cv (p' := 395) (av_qc (.invokevirtual 46) 103 2 0 7) 4 cd_103 [.inl (f (Int.toNat (i + (2)))), .inl (f (Int.toNat (i + (1))))] (0) 7 [some (.inr (.inr (.inl (some (0))))), some (.inl (f (Int.toNat (i + (1))))), some (.inl (f (Int.toNat (i + (2))))), none] rfl rfl rfl pp_103 rfl rfl rfl (congrArg Prod.fst (ly_k B.1.1.1 0 rfl)) rfl rfl rfl rfl ?_
  refine av_wp_mono (oz_103 B (f (Int.toNat (i + (1)))) (f (Int.toNat (i + (2)))) (hf _) (hf _)) (fun v h1 z => ?_)
  obtain ⟨x, rfl, k77, W⟩ := z
  show av_wp (some (L, f)) cd_L 395 [some (.inr (.inr (.inr 100))), some (.inr (.inr (.inl (some (0))))), some (.inr (.inr (.inl (some (77))))), some (.inl i)] [.inl x] h1 Q
  refine av_wp_seq 6 (pc' := 401) (lv' := [some (.inr (.inr (.inr 100))), some (.inr (.inr (.inl (some (0))))), some (.inr (.inr (.inl (some (77))))), some (.inl i)]) (st' := [.inl (i + (1)), .inr (.inr (.inr 100)), .inr (.inr (.inl (some (77))))]) (h' := h1) rfl ?_
  refine wq_scr (p' := 402) rfl rfl ⟨by omega, by omega, by omega⟩ ?_
  refine av_wp_seq 4 (pc' := 406) (lv' := [some (.inr (.inr (.inr 100))), some (.inr (.inr (.inl (some (0))))), some (.inr (.inr (.inl (some (77))))), some (.inl i)]) (st' := [.inl (i + (2)), .inr (.inr (.inr 100)), .inl (f (Int.toNat (i + (1)))), .inr (.inr (.inl (some (77))))]) (h' := h1) rfl ?_
  refine wq_scr (p' := 407) rfl rfl ⟨by omega, by omega, by omega⟩ ?_
  refine wq_cv (p' := 410) (av_qc (.invokevirtual 49) 187 2 0 8) 3 cd_187 [.inl (f (Int.toNat (i + (2)))), .inl (f (Int.toNat (i + (1))))] (77) 8 [some (.inr (.inr (.inl (some (77))))), some (.inl (f (Int.toNat (i + (1))))), some (.inl (f (Int.toNat (i + (2)))))] rfl rfl rfl pp_187 rfl rfl rfl (congrArg Prod.fst k77) rfl rfl rfl rfl ?_
  refine av_wp_mono W (fun v h2 z => ?_)
  obtain ⟨y, rfl, e, B2, R2⟩ := z
  show av_wp (some (L, f)) cd_L 410 [some (.inr (.inr (.inr 100))), some (.inr (.inr (.inl (some (0))))), some (.inr (.inr (.inl (some (77))))), some (.inl i)] [.inl y] h2 Q
  refine av_wp_seq 2 (pc' := 1284) (lv' := [some (.inr (.inr (.inr 100))), some (.inr (.inr (.inl (some (0))))), some (.inr (.inr (.inl (some (77))))), some (.inl i)]) (st' := []) (h' := h2) rfl ?_
  exact hk h2 B2 R2
set_option maxRecDepth 100000 in
set_option maxHeartbeats 8000000 in
theorem lo_8 {L : Nat} {f : Nat → Int} (hf : ∀ j, -2147483648 ≤ f j ∧ f j ≤ 2147483647) {i : Int} (hi : 0 ≤ i ∧ i + 6 ≤ (L : Int)) (hL : L ≤ 3072) {h : av_H} (B : BX h) {Q : Option av_V → av_H → Prop} (hk : ∀ h', BX h' → RM h h' → av_wp (some (L, f)) cd_L 1284 [some (.inr (.inr (.inr 100))), some (.inr (.inr (.inl (some (0))))), some (.inr (.inr (.inl (some (77))))), some (.inl i)] [] h' Q) : av_wp (some (L, f)) cd_L 414 [some (.inr (.inr (.inr 100))), some (.inr (.inr (.inl (some (0))))), some (.inr (.inr (.inl (some (77))))), some (.inl i)] [] h Q := by
  refine av_wp_seq 5 (pc' := 419) (lv' := [some (.inr (.inr (.inr 100))), some (.inr (.inr (.inl (some (0))))), some (.inr (.inr (.inl (some (77))))), some (.inl i)]) (st' := [.inl (i + (1)), .inr (.inr (.inr 100)), .inr (.inr (.inl (some (0))))]) (h' := h) rfl ?_
  refine wq_scr (p' := 420) rfl rfl ⟨by omega, by omega, by omega⟩ ?_
  refine av_wp_seq 4 (pc' := 424) (lv' := [some (.inr (.inr (.inr 100))), some (.inr (.inr (.inl (some (0))))), some (.inr (.inr (.inl (some (77))))), some (.inl i)]) (st' := [.inl (i + (2)), .inr (.inr (.inr 100)), .inl (f (Int.toNat (i + (1)))), .inr (.inr (.inl (some (0))))]) (h' := h) rfl ?_
  refine wq_scr (p' := 425) rfl rfl ⟨by omega, by omega, by omega⟩ ?_
  refine av_wp_seq 4 (pc' := 429) (lv' := [some (.inr (.inr (.inr 100))), some (.inr (.inr (.inl (some (0))))), some (.inr (.inr (.inl (some (77))))), some (.inl i)]) (st' := [.inl (i + (3)), .inr (.inr (.inr 100)), .inl (f (Int.toNat (i + (2)))), .inl (f (Int.toNat (i + (1)))), .inr (.inr (.inl (some (0))))]) (h' := h) rfl ?_
  refine wq_scr (p' := 430) rfl rfl ⟨by omega, by omega, by omega⟩ ?_
  refine av_wp_seq 4 (pc' := 434) (lv' := [some (.inr (.inr (.inr 100))), some (.inr (.inr (.inl (some (0))))), some (.inr (.inr (.inl (some (77))))), some (.inl i)]) (st' := [.inl (i + (4)), .inr (.inr (.inr 100)), .inl (f (Int.toNat (i + (3)))), .inl (f (Int.toNat (i + (2)))), .inl (f (Int.toNat (i + (1)))), .inr (.inr (.inl (some (0))))]) (h' := h) rfl ?_
  refine wq_scr (p' := 435) rfl rfl ⟨by omega, by omega, by omega⟩ ?_
  refine wq_cv (p' := 438) (av_qc (.invokevirtual 50) 104 4 0 7) 6 cd_104 [.inl (f (Int.toNat (i + (4)))), .inl (f (Int.toNat (i + (3)))), .inl (f (Int.toNat (i + (2)))), .inl (f (Int.toNat (i + (1))))] (0) 7 [some (.inr (.inr (.inl (some (0))))), some (.inl (f (Int.toNat (i + (1))))), some (.inl (f (Int.toNat (i + (2))))), some (.inl (f (Int.toNat (i + (3))))), some (.inl (f (Int.toNat (i + (4))))), none] rfl rfl rfl pp_104 rfl rfl rfl (congrArg Prod.fst (ly_k B.1.1.1 0 rfl)) rfl rfl rfl rfl ?_
  refine av_wp_mono (oz_104 B (f (Int.toNat (i + (1)))) (f (Int.toNat (i + (2)))) (f (Int.toNat (i + (3)))) (f (Int.toNat (i + (4)))) (hf _) (hf _) (hf _) (hf _)) (fun v h1 z => ?_)
  obtain ⟨x, rfl, k77, W⟩ := z
  show av_wp (some (L, f)) cd_L 438 [some (.inr (.inr (.inr 100))), some (.inr (.inr (.inl (some (0))))), some (.inr (.inr (.inl (some (77))))), some (.inl i)] [.inl x] h1 Q
  refine av_wp_seq 6 (pc' := 444) (lv' := [some (.inr (.inr (.inr 100))), some (.inr (.inr (.inl (some (0))))), some (.inr (.inr (.inl (some (77))))), some (.inl i)]) (st' := [.inl (i + (1)), .inr (.inr (.inr 100)), .inr (.inr (.inl (some (77))))]) (h' := h1) rfl ?_
  refine wq_scr (p' := 445) rfl rfl ⟨by omega, by omega, by omega⟩ ?_
  refine av_wp_seq 4 (pc' := 449) (lv' := [some (.inr (.inr (.inr 100))), some (.inr (.inr (.inl (some (0))))), some (.inr (.inr (.inl (some (77))))), some (.inl i)]) (st' := [.inl (i + (2)), .inr (.inr (.inr 100)), .inl (f (Int.toNat (i + (1)))), .inr (.inr (.inl (some (77))))]) (h' := h1) rfl ?_
  refine wq_scr (p' := 450) rfl rfl ⟨by omega, by omega, by omega⟩ ?_
  refine av_wp_seq 4 (pc' := 454) (lv' := [some (.inr (.inr (.inr 100))), some (.inr (.inr (.inl (some (0))))), some (.inr (.inr (.inl (some (77))))), some (.inl i)]) (st' := [.inl (i + (3)), .inr (.inr (.inr 100)), .inl (f (Int.toNat (i + (2)))), .inl (f (Int.toNat (i + (1)))), .inr (.inr (.inl (some (77))))]) (h' := h1) rfl ?_
  refine wq_scr (p' := 455) rfl rfl ⟨by omega, by omega, by omega⟩ ?_
  refine av_wp_seq 4 (pc' := 459) (lv' := [some (.inr (.inr (.inr 100))), some (.inr (.inr (.inl (some (0))))), some (.inr (.inr (.inl (some (77))))), some (.inl i)]) (st' := [.inl (i + (4)), .inr (.inr (.inr 100)), .inl (f (Int.toNat (i + (3)))), .inl (f (Int.toNat (i + (2)))), .inl (f (Int.toNat (i + (1)))), .inr (.inr (.inl (some (77))))]) (h' := h1) rfl ?_
  refine wq_scr (p' := 460) rfl rfl ⟨by omega, by omega, by omega⟩ ?_
  refine wq_cv (p' := 463) (av_qc (.invokevirtual 54) 189 4 0 8) 5 cd_189 [.inl (f (Int.toNat (i + (4)))), .inl (f (Int.toNat (i + (3)))), .inl (f (Int.toNat (i + (2)))), .inl (f (Int.toNat (i + (1))))] (77) 8 [some (.inr (.inr (.inl (some (77))))), some (.inl (f (Int.toNat (i + (1))))), some (.inl (f (Int.toNat (i + (2))))), some (.inl (f (Int.toNat (i + (3))))), some (.inl (f (Int.toNat (i + (4)))))] rfl rfl rfl pp_189 rfl rfl rfl (congrArg Prod.fst k77) rfl rfl rfl rfl ?_
  refine av_wp_mono W (fun v h2 z => ?_)
  obtain ⟨y, rfl, e, B2, R2⟩ := z
  show av_wp (some (L, f)) cd_L 463 [some (.inr (.inr (.inr 100))), some (.inr (.inr (.inl (some (0))))), some (.inr (.inr (.inl (some (77))))), some (.inl i)] [.inl y] h2 Q
  refine av_wp_seq 2 (pc' := 1284) (lv' := [some (.inr (.inr (.inr 100))), some (.inr (.inr (.inl (some (0))))), some (.inr (.inr (.inl (some (77))))), some (.inl i)]) (st' := []) (h' := h2) rfl ?_
  exact hk h2 B2 R2
set_option maxRecDepth 100000 in
set_option maxHeartbeats 8000000 in
theorem lo_9 {L : Nat} {f : Nat → Int} (hf : ∀ j, -2147483648 ≤ f j ∧ f j ≤ 2147483647) {i : Int} (hi : 0 ≤ i ∧ i + 6 ≤ (L : Int)) (hL : L ≤ 3072) {h : av_H} (B : BX h) {Q : Option av_V → av_H → Prop} (hk : ∀ h', BX h' → RM h h' → av_wp (some (L, f)) cd_L 1284 [some (.inr (.inr (.inr 100))), some (.inr (.inr (.inl (some (0))))), some (.inr (.inr (.inl (some (77))))), some (.inl i)] [] h' Q) : av_wp (some (L, f)) cd_L 467 [some (.inr (.inr (.inr 100))), some (.inr (.inr (.inl (some (0))))), some (.inr (.inr (.inl (some (77))))), some (.inl i)] [] h Q := by
  refine av_wp_seq 5 (pc' := 472) (lv' := [some (.inr (.inr (.inr 100))), some (.inr (.inr (.inl (some (0))))), some (.inr (.inr (.inl (some (77))))), some (.inl i)]) (st' := [.inl (i + (1)), .inr (.inr (.inr 100)), .inr (.inr (.inl (some (0))))]) (h' := h) rfl ?_
  refine wq_scr (p' := 473) rfl rfl ⟨by omega, by omega, by omega⟩ ?_
  refine av_wp_seq 4 (pc' := 477) (lv' := [some (.inr (.inr (.inr 100))), some (.inr (.inr (.inl (some (0))))), some (.inr (.inr (.inl (some (77))))), some (.inl i)]) (st' := [.inl (i + (2)), .inr (.inr (.inr 100)), .inl (f (Int.toNat (i + (1)))), .inr (.inr (.inl (some (0))))]) (h' := h) rfl ?_
  refine wq_scr (p' := 478) rfl rfl ⟨by omega, by omega, by omega⟩ ?_
  refine wq_cv (p' := 481) (av_qc (.invokevirtual 55) 105 2 0 7) 3 cd_105 [.inl (f (Int.toNat (i + (2)))), .inl (f (Int.toNat (i + (1))))] (0) 7 [some (.inr (.inr (.inl (some (0))))), some (.inl (f (Int.toNat (i + (1))))), some (.inl (f (Int.toNat (i + (2)))))] rfl rfl rfl pp_105 rfl rfl rfl (congrArg Prod.fst (ly_k B.1.1.1 0 rfl)) rfl rfl rfl rfl ?_
  refine av_wp_mono (oz_105 B (f (Int.toNat (i + (1)))) (f (Int.toNat (i + (2)))) (hf _) (hf _)) (fun v h1 z => ?_)
  obtain ⟨x, rfl, k77, W⟩ := z
  show av_wp (some (L, f)) cd_L 481 [some (.inr (.inr (.inr 100))), some (.inr (.inr (.inl (some (0))))), some (.inr (.inr (.inl (some (77))))), some (.inl i)] [.inl x] h1 Q
  refine av_wp_seq 6 (pc' := 487) (lv' := [some (.inr (.inr (.inr 100))), some (.inr (.inr (.inl (some (0))))), some (.inr (.inr (.inl (some (77))))), some (.inl i)]) (st' := [.inl (i + (1)), .inr (.inr (.inr 100)), .inr (.inr (.inl (some (77))))]) (h' := h1) rfl ?_
  refine wq_scr (p' := 488) rfl rfl ⟨by omega, by omega, by omega⟩ ?_
  refine av_wp_seq 4 (pc' := 492) (lv' := [some (.inr (.inr (.inr 100))), some (.inr (.inr (.inl (some (0))))), some (.inr (.inr (.inl (some (77))))), some (.inl i)]) (st' := [.inl (i + (2)), .inr (.inr (.inr 100)), .inl (f (Int.toNat (i + (1)))), .inr (.inr (.inl (some (77))))]) (h' := h1) rfl ?_
  refine wq_scr (p' := 493) rfl rfl ⟨by omega, by omega, by omega⟩ ?_
  refine wq_cv (p' := 496) (av_qc (.invokevirtual 58) 160 2 0 8) 3 cd_160 [.inl (f (Int.toNat (i + (2)))), .inl (f (Int.toNat (i + (1))))] (77) 8 [some (.inr (.inr (.inl (some (77))))), some (.inl (f (Int.toNat (i + (1))))), some (.inl (f (Int.toNat (i + (2)))))] rfl rfl rfl pp_160 rfl rfl rfl (congrArg Prod.fst k77) rfl rfl rfl rfl ?_
  refine av_wp_mono W (fun v h2 z => ?_)
  obtain ⟨y, rfl, e, B2, R2⟩ := z
  show av_wp (some (L, f)) cd_L 496 [some (.inr (.inr (.inr 100))), some (.inr (.inr (.inl (some (0))))), some (.inr (.inr (.inl (some (77))))), some (.inl i)] [.inl y] h2 Q
  refine av_wp_seq 2 (pc' := 1284) (lv' := [some (.inr (.inr (.inr 100))), some (.inr (.inr (.inl (some (0))))), some (.inr (.inr (.inl (some (77))))), some (.inl i)]) (st' := []) (h' := h2) rfl ?_
  exact hk h2 B2 R2
set_option maxRecDepth 100000 in
set_option maxHeartbeats 8000000 in
theorem lo_10 {L : Nat} {f : Nat → Int} (hf : ∀ j, -2147483648 ≤ f j ∧ f j ≤ 2147483647) {i : Int} (hi : 0 ≤ i ∧ i + 6 ≤ (L : Int)) (hL : L ≤ 3072) {h : av_H} (B : BX h) {Q : Option av_V → av_H → Prop} (hk : ∀ h', BX h' → RM h h' → av_wp (some (L, f)) cd_L 1284 [some (.inr (.inr (.inr 100))), some (.inr (.inr (.inl (some (0))))), some (.inr (.inr (.inl (some (77))))), some (.inl i)] [] h' Q) : av_wp (some (L, f)) cd_L 500 [some (.inr (.inr (.inr 100))), some (.inr (.inr (.inl (some (0))))), some (.inr (.inr (.inl (some (77))))), some (.inl i)] [] h Q := by
  refine av_wp_seq 5 (pc' := 505) (lv' := [some (.inr (.inr (.inr 100))), some (.inr (.inr (.inl (some (0))))), some (.inr (.inr (.inl (some (77))))), some (.inl i)]) (st' := [.inl (i + (1)), .inr (.inr (.inr 100)), .inr (.inr (.inl (some (0))))]) (h' := h) rfl ?_
  refine wq_scr (p' := 506) rfl rfl ⟨by omega, by omega, by omega⟩ ?_
  refine av_wp_seq 4 (pc' := 510) (lv' := [some (.inr (.inr (.inr 100))), some (.inr (.inr (.inl (some (0))))), some (.inr (.inr (.inl (some (77))))), some (.inl i)]) (st' := [.inl (i + (2)), .inr (.inr (.inr 100)), .inl (f (Int.toNat (i + (1)))), .inr (.inr (.inl (some (0))))]) (h' := h) rfl ?_
  refine wq_scr (p' := 511) rfl rfl ⟨by omega, by omega, by omega⟩ ?_
  refine av_wp_seq 4 (pc' := 515) (lv' := [some (.inr (.inr (.inr 100))), some (.inr (.inr (.inl (some (0))))), some (.inr (.inr (.inl (some (77))))), some (.inl i)]) (st' := [.inl (i + (3)), .inr (.inr (.inr 100)), .inl (f (Int.toNat (i + (2)))), .inl (f (Int.toNat (i + (1)))), .inr (.inr (.inl (some (0))))]) (h' := h) rfl ?_
  refine wq_scr (p' := 516) rfl rfl ⟨by omega, by omega, by omega⟩ ?_
  refine av_wp_seq 4 (pc' := 520) (lv' := [some (.inr (.inr (.inr 100))), some (.inr (.inr (.inl (some (0))))), some (.inr (.inr (.inl (some (77))))), some (.inl i)]) (st' := [.inl (i + (4)), .inr (.inr (.inr 100)), .inl (f (Int.toNat (i + (3)))), .inl (f (Int.toNat (i + (2)))), .inl (f (Int.toNat (i + (1)))), .inr (.inr (.inl (some (0))))]) (h' := h) rfl ?_
  refine wq_scr (p' := 521) rfl rfl ⟨by omega, by omega, by omega⟩ ?_
  refine wq_cv (p' := 524) (av_qc (.invokevirtual 59) 106 4 0 7) 7 cd_106 [.inl (f (Int.toNat (i + (4)))), .inl (f (Int.toNat (i + (3)))), .inl (f (Int.toNat (i + (2)))), .inl (f (Int.toNat (i + (1))))] (0) 7 [some (.inr (.inr (.inl (some (0))))), some (.inl (f (Int.toNat (i + (1))))), some (.inl (f (Int.toNat (i + (2))))), some (.inl (f (Int.toNat (i + (3))))), some (.inl (f (Int.toNat (i + (4))))), none, none] rfl rfl rfl pp_106 rfl rfl rfl (congrArg Prod.fst (ly_k B.1.1.1 0 rfl)) rfl rfl rfl rfl ?_
  refine av_wp_mono (oz_106 B (f (Int.toNat (i + (1)))) (f (Int.toNat (i + (2)))) (f (Int.toNat (i + (3)))) (f (Int.toNat (i + (4)))) (hf _) (hf _) (hf _) (hf _)) (fun v h1 z => ?_)
  obtain ⟨x, rfl, k77, W⟩ := z
  show av_wp (some (L, f)) cd_L 524 [some (.inr (.inr (.inr 100))), some (.inr (.inr (.inl (some (0))))), some (.inr (.inr (.inl (some (77))))), some (.inl i)] [.inl x] h1 Q
  refine av_wp_seq 5 (pc' := 529) (lv' := [some (.inr (.inr (.inr 100))), some (.inr (.inr (.inl (some (0))))), some (.inr (.inr (.inl (some (77))))), some (.inl i)]) (st' := [.inl (i + (1)), .inr (.inr (.inr 100)), .inr (.inr (.inl (some (77)))), .inl x]) (h' := h1) rfl ?_
  refine wq_scr (p' := 530) rfl rfl ⟨by omega, by omega, by omega⟩ ?_
  refine av_wp_seq 4 (pc' := 534) (lv' := [some (.inr (.inr (.inr 100))), some (.inr (.inr (.inl (some (0))))), some (.inr (.inr (.inl (some (77))))), some (.inl i)]) (st' := [.inl (i + (2)), .inr (.inr (.inr 100)), .inl (f (Int.toNat (i + (1)))), .inr (.inr (.inl (some (77)))), .inl x]) (h' := h1) rfl ?_
  refine wq_scr (p' := 535) rfl rfl ⟨by omega, by omega, by omega⟩ ?_
  refine av_wp_seq 4 (pc' := 539) (lv' := [some (.inr (.inr (.inr 100))), some (.inr (.inr (.inl (some (0))))), some (.inr (.inr (.inl (some (77))))), some (.inl i)]) (st' := [.inl (i + (3)), .inr (.inr (.inr 100)), .inl (f (Int.toNat (i + (2)))), .inl (f (Int.toNat (i + (1)))), .inr (.inr (.inl (some (77)))), .inl x]) (h' := h1) rfl ?_
  refine wq_scr (p' := 540) rfl rfl ⟨by omega, by omega, by omega⟩ ?_
  refine av_wp_seq 4 (pc' := 544) (lv' := [some (.inr (.inr (.inr 100))), some (.inr (.inr (.inl (some (0))))), some (.inr (.inr (.inl (some (77))))), some (.inl i)]) (st' := [.inl (i + (4)), .inr (.inr (.inr 100)), .inl (f (Int.toNat (i + (3)))), .inl (f (Int.toNat (i + (2)))), .inl (f (Int.toNat (i + (1)))), .inr (.inr (.inl (some (77)))), .inl x]) (h' := h1) rfl ?_
  refine wq_scr (p' := 545) rfl rfl ⟨by omega, by omega, by omega⟩ ?_
  refine wq_cv (p' := 548) (av_qc (.invokevirtual 62) 190 4 0 8) 5 cd_190 [.inl (f (Int.toNat (i + (4)))), .inl (f (Int.toNat (i + (3)))), .inl (f (Int.toNat (i + (2)))), .inl (f (Int.toNat (i + (1))))] (77) 8 [some (.inr (.inr (.inl (some (77))))), some (.inl (f (Int.toNat (i + (1))))), some (.inl (f (Int.toNat (i + (2))))), some (.inl (f (Int.toNat (i + (3))))), some (.inl (f (Int.toNat (i + (4)))))] rfl rfl rfl pp_190 rfl rfl rfl (congrArg Prod.fst k77) rfl rfl rfl rfl ?_
  refine av_wp_mono W (fun v h2 z => ?_)
  obtain ⟨y, rfl, e, B2, R2⟩ := z
  show av_wp (some (L, f)) cd_L 548 [some (.inr (.inr (.inr 100))), some (.inr (.inr (.inl (some (0))))), some (.inr (.inr (.inl (some (77))))), some (.inl i)] [.inl y, .inl x] h2 Q
  subst e
  exact wq_w2 (p' := 551) rfl rfl (fun _ => hk h2 B2 R2) (fun c => absurd rfl c)
set_option maxRecDepth 100000 in
set_option maxHeartbeats 8000000 in
theorem lo_11 {L : Nat} {f : Nat → Int} (hf : ∀ j, -2147483648 ≤ f j ∧ f j ≤ 2147483647) {i : Int} (hi : 0 ≤ i ∧ i + 6 ≤ (L : Int)) (hL : L ≤ 3072) {h : av_H} (B : BX h) {Q : Option av_V → av_H → Prop} (hk : ∀ h', BX h' → RM h h' → av_wp (some (L, f)) cd_L 1284 [some (.inr (.inr (.inr 100))), some (.inr (.inr (.inl (some (0))))), some (.inr (.inr (.inl (some (77))))), some (.inl i)] [] h' Q) : av_wp (some (L, f)) cd_L 553 [some (.inr (.inr (.inr 100))), some (.inr (.inr (.inl (some (0))))), some (.inr (.inr (.inl (some (77))))), some (.inl i)] [] h Q := by
  refine av_wp_seq 5 (pc' := 558) (lv' := [some (.inr (.inr (.inr 100))), some (.inr (.inr (.inl (some (0))))), some (.inr (.inr (.inl (some (77))))), some (.inl i)]) (st' := [.inl (i + (1)), .inr (.inr (.inr 100)), .inr (.inr (.inl (some (0))))]) (h' := h) rfl ?_
  refine wq_scr (p' := 559) rfl rfl ⟨by omega, by omega, by omega⟩ ?_
  refine av_wp_seq 4 (pc' := 563) (lv' := [some (.inr (.inr (.inr 100))), some (.inr (.inr (.inl (some (0))))), some (.inr (.inr (.inl (some (77))))), some (.inl i)]) (st' := [.inl (i + (2)), .inr (.inr (.inr 100)), .inl (f (Int.toNat (i + (1)))), .inr (.inr (.inl (some (0))))]) (h' := h) rfl ?_
  refine wq_scr (p' := 564) rfl rfl ⟨by omega, by omega, by omega⟩ ?_
  refine av_wp_seq 4 (pc' := 568) (lv' := [some (.inr (.inr (.inr 100))), some (.inr (.inr (.inl (some (0))))), some (.inr (.inr (.inl (some (77))))), some (.inl i)]) (st' := [.inl (i + (3)), .inr (.inr (.inr 100)), .inl (f (Int.toNat (i + (2)))), .inl (f (Int.toNat (i + (1)))), .inr (.inr (.inl (some (0))))]) (h' := h) rfl ?_
  refine wq_scr (p' := 569) rfl rfl ⟨by omega, by omega, by omega⟩ ?_
  refine av_wp_seq 4 (pc' := 573) (lv' := [some (.inr (.inr (.inr 100))), some (.inr (.inr (.inl (some (0))))), some (.inr (.inr (.inl (some (77))))), some (.inl i)]) (st' := [.inl (i + (4)), .inr (.inr (.inr 100)), .inl (f (Int.toNat (i + (3)))), .inl (f (Int.toNat (i + (2)))), .inl (f (Int.toNat (i + (1)))), .inr (.inr (.inl (some (0))))]) (h' := h) rfl ?_
  refine wq_scr (p' := 574) rfl rfl ⟨by omega, by omega, by omega⟩ ?_
  refine av_wp_seq 4 (pc' := 578) (lv' := [some (.inr (.inr (.inr 100))), some (.inr (.inr (.inl (some (0))))), some (.inr (.inr (.inl (some (77))))), some (.inl i)]) (st' := [.inl (i + (5)), .inr (.inr (.inr 100)), .inl (f (Int.toNat (i + (4)))), .inl (f (Int.toNat (i + (3)))), .inl (f (Int.toNat (i + (2)))), .inl (f (Int.toNat (i + (1)))), .inr (.inr (.inl (some (0))))]) (h' := h) rfl ?_
  refine wq_scr (p' := 579) rfl rfl ⟨by omega, by omega, by omega⟩ ?_
  refine wq_cv (p' := 582) (av_qc (.invokevirtual 63) 107 5 0 7) 6 cd_107 [.inl (f (Int.toNat (i + (5)))), .inl (f (Int.toNat (i + (4)))), .inl (f (Int.toNat (i + (3)))), .inl (f (Int.toNat (i + (2)))), .inl (f (Int.toNat (i + (1))))] (0) 7 [some (.inr (.inr (.inl (some (0))))), some (.inl (f (Int.toNat (i + (1))))), some (.inl (f (Int.toNat (i + (2))))), some (.inl (f (Int.toNat (i + (3))))), some (.inl (f (Int.toNat (i + (4))))), some (.inl (f (Int.toNat (i + (5)))))] rfl rfl rfl pp_107 rfl rfl rfl (congrArg Prod.fst (ly_k B.1.1.1 0 rfl)) rfl rfl rfl rfl ?_
  refine av_wp_mono (oz_107 B (f (Int.toNat (i + (1)))) (f (Int.toNat (i + (2)))) (f (Int.toNat (i + (3)))) (f (Int.toNat (i + (4)))) (f (Int.toNat (i + (5)))) (hf _) (hf _) (hf _) (hf _) (hf _)) (fun v h1 z => ?_)
  obtain ⟨x, rfl, k77, W⟩ := z
  show av_wp (some (L, f)) cd_L 582 [some (.inr (.inr (.inr 100))), some (.inr (.inr (.inl (some (0))))), some (.inr (.inr (.inl (some (77))))), some (.inl i)] [.inl x] h1 Q
  refine av_wp_seq 6 (pc' := 588) (lv' := [some (.inr (.inr (.inr 100))), some (.inr (.inr (.inl (some (0))))), some (.inr (.inr (.inl (some (77))))), some (.inl i)]) (st' := [.inl (i + (1)), .inr (.inr (.inr 100)), .inr (.inr (.inl (some (77))))]) (h' := h1) rfl ?_
  refine wq_scr (p' := 589) rfl rfl ⟨by omega, by omega, by omega⟩ ?_
  refine av_wp_seq 4 (pc' := 593) (lv' := [some (.inr (.inr (.inr 100))), some (.inr (.inr (.inl (some (0))))), some (.inr (.inr (.inl (some (77))))), some (.inl i)]) (st' := [.inl (i + (2)), .inr (.inr (.inr 100)), .inl (f (Int.toNat (i + (1)))), .inr (.inr (.inl (some (77))))]) (h' := h1) rfl ?_
  refine wq_scr (p' := 594) rfl rfl ⟨by omega, by omega, by omega⟩ ?_
  refine av_wp_seq 4 (pc' := 598) (lv' := [some (.inr (.inr (.inr 100))), some (.inr (.inr (.inl (some (0))))), some (.inr (.inr (.inl (some (77))))), some (.inl i)]) (st' := [.inl (i + (3)), .inr (.inr (.inr 100)), .inl (f (Int.toNat (i + (2)))), .inl (f (Int.toNat (i + (1)))), .inr (.inr (.inl (some (77))))]) (h' := h1) rfl ?_
  refine wq_scr (p' := 599) rfl rfl ⟨by omega, by omega, by omega⟩ ?_
  refine av_wp_seq 4 (pc' := 603) (lv' := [some (.inr (.inr (.inr 100))), some (.inr (.inr (.inl (some (0))))), some (.inr (.inr (.inl (some (77))))), some (.inl i)]) (st' := [.inl (i + (4)), .inr (.inr (.inr 100)), .inl (f (Int.toNat (i + (3)))), .inl (f (Int.toNat (i + (2)))), .inl (f (Int.toNat (i + (1)))), .inr (.inr (.inl (some (77))))]) (h' := h1) rfl ?_
  refine wq_scr (p' := 604) rfl rfl ⟨by omega, by omega, by omega⟩ ?_
  refine av_wp_seq 4 (pc' := 608) (lv' := [some (.inr (.inr (.inr 100))), some (.inr (.inr (.inl (some (0))))), some (.inr (.inr (.inl (some (77))))), some (.inl i)]) (st' := [.inl (i + (5)), .inr (.inr (.inr 100)), .inl (f (Int.toNat (i + (4)))), .inl (f (Int.toNat (i + (3)))), .inl (f (Int.toNat (i + (2)))), .inl (f (Int.toNat (i + (1)))), .inr (.inr (.inl (some (77))))]) (h' := h1) rfl ?_
  refine wq_scr (p' := 609) rfl rfl ⟨by omega, by omega, by omega⟩ ?_
  refine wq_cv (p' := 612) (av_qc (.invokevirtual 66) 191 5 0 8) 6 cd_191 [.inl (f (Int.toNat (i + (5)))), .inl (f (Int.toNat (i + (4)))), .inl (f (Int.toNat (i + (3)))), .inl (f (Int.toNat (i + (2)))), .inl (f (Int.toNat (i + (1))))] (77) 8 [some (.inr (.inr (.inl (some (77))))), some (.inl (f (Int.toNat (i + (1))))), some (.inl (f (Int.toNat (i + (2))))), some (.inl (f (Int.toNat (i + (3))))), some (.inl (f (Int.toNat (i + (4))))), some (.inl (f (Int.toNat (i + (5)))))] rfl rfl rfl pp_191 rfl rfl rfl (congrArg Prod.fst k77) rfl rfl rfl rfl ?_
  refine av_wp_mono W (fun v h2 z => ?_)
  obtain ⟨y, rfl, e, B2, R2⟩ := z
  show av_wp (some (L, f)) cd_L 612 [some (.inr (.inr (.inr 100))), some (.inr (.inr (.inl (some (0))))), some (.inr (.inr (.inl (some (77))))), some (.inl i)] [.inl y] h2 Q
  refine av_wp_seq 2 (pc' := 1284) (lv' := [some (.inr (.inr (.inr 100))), some (.inr (.inr (.inl (some (0))))), some (.inr (.inr (.inl (some (77))))), some (.inl i)]) (st' := []) (h' := h2) rfl ?_
  exact hk h2 B2 R2
set_option maxRecDepth 100000 in
set_option maxHeartbeats 8000000 in
theorem lo_12 {L : Nat} {f : Nat → Int} (hf : ∀ j, -2147483648 ≤ f j ∧ f j ≤ 2147483647) {i : Int} (hi : 0 ≤ i ∧ i + 6 ≤ (L : Int)) (hL : L ≤ 3072) {h : av_H} (B : BX h) {Q : Option av_V → av_H → Prop} (hk : ∀ h', BX h' → RM h h' → av_wp (some (L, f)) cd_L 1284 [some (.inr (.inr (.inr 100))), some (.inr (.inr (.inl (some (0))))), some (.inr (.inr (.inl (some (77))))), some (.inl i)] [] h' Q) : av_wp (some (L, f)) cd_L 616 [some (.inr (.inr (.inr 100))), some (.inr (.inr (.inl (some (0))))), some (.inr (.inr (.inl (some (77))))), some (.inl i)] [] h Q := by
  refine av_wp_seq 5 (pc' := 621) (lv' := [some (.inr (.inr (.inr 100))), some (.inr (.inr (.inl (some (0))))), some (.inr (.inr (.inl (some (77))))), some (.inl i)]) (st' := [.inl (i + (1)), .inr (.inr (.inr 100)), .inr (.inr (.inl (some (0))))]) (h' := h) rfl ?_
  refine wq_scr (p' := 622) rfl rfl ⟨by omega, by omega, by omega⟩ ?_
  refine av_wp_seq 4 (pc' := 626) (lv' := [some (.inr (.inr (.inr 100))), some (.inr (.inr (.inl (some (0))))), some (.inr (.inr (.inl (some (77))))), some (.inl i)]) (st' := [.inl (i + (2)), .inr (.inr (.inr 100)), .inl (f (Int.toNat (i + (1)))), .inr (.inr (.inl (some (0))))]) (h' := h) rfl ?_
  refine wq_scr (p' := 627) rfl rfl ⟨by omega, by omega, by omega⟩ ?_
  refine av_wp_seq 4 (pc' := 631) (lv' := [some (.inr (.inr (.inr 100))), some (.inr (.inr (.inl (some (0))))), some (.inr (.inr (.inl (some (77))))), some (.inl i)]) (st' := [.inl (i + (3)), .inr (.inr (.inr 100)), .inl (f (Int.toNat (i + (2)))), .inl (f (Int.toNat (i + (1)))), .inr (.inr (.inl (some (0))))]) (h' := h) rfl ?_
  refine wq_scr (p' := 632) rfl rfl ⟨by omega, by omega, by omega⟩ ?_
  refine wq_cv (p' := 635) (av_qc (.invokevirtual 67) 108 3 0 7) 4 cd_108 [.inl (f (Int.toNat (i + (3)))), .inl (f (Int.toNat (i + (2)))), .inl (f (Int.toNat (i + (1))))] (0) 7 [some (.inr (.inr (.inl (some (0))))), some (.inl (f (Int.toNat (i + (1))))), some (.inl (f (Int.toNat (i + (2))))), some (.inl (f (Int.toNat (i + (3)))))] rfl rfl rfl pp_108 rfl rfl rfl (congrArg Prod.fst (ly_k B.1.1.1 0 rfl)) rfl rfl rfl rfl ?_
  refine av_wp_mono (oz_108 B (f (Int.toNat (i + (1)))) (f (Int.toNat (i + (2)))) (f (Int.toNat (i + (3)))) (hf _) (hf _) (hf _)) (fun v h1 z => ?_)
  obtain ⟨x, rfl, k77, W⟩ := z
  show av_wp (some (L, f)) cd_L 635 [some (.inr (.inr (.inr 100))), some (.inr (.inr (.inl (some (0))))), some (.inr (.inr (.inl (some (77))))), some (.inl i)] [.inl x] h1 Q
  refine av_wp_seq 6 (pc' := 641) (lv' := [some (.inr (.inr (.inr 100))), some (.inr (.inr (.inl (some (0))))), some (.inr (.inr (.inl (some (77))))), some (.inl i)]) (st' := [.inl (i + (1)), .inr (.inr (.inr 100)), .inr (.inr (.inl (some (77))))]) (h' := h1) rfl ?_
  refine wq_scr (p' := 642) rfl rfl ⟨by omega, by omega, by omega⟩ ?_
  refine av_wp_seq 4 (pc' := 646) (lv' := [some (.inr (.inr (.inr 100))), some (.inr (.inr (.inl (some (0))))), some (.inr (.inr (.inl (some (77))))), some (.inl i)]) (st' := [.inl (i + (2)), .inr (.inr (.inr 100)), .inl (f (Int.toNat (i + (1)))), .inr (.inr (.inl (some (77))))]) (h' := h1) rfl ?_
  refine wq_scr (p' := 647) rfl rfl ⟨by omega, by omega, by omega⟩ ?_
  refine av_wp_seq 4 (pc' := 651) (lv' := [some (.inr (.inr (.inr 100))), some (.inr (.inr (.inl (some (0))))), some (.inr (.inr (.inl (some (77))))), some (.inl i)]) (st' := [.inl (i + (3)), .inr (.inr (.inr 100)), .inl (f (Int.toNat (i + (2)))), .inl (f (Int.toNat (i + (1)))), .inr (.inr (.inl (some (77))))]) (h' := h1) rfl ?_
  refine wq_scr (p' := 652) rfl rfl ⟨by omega, by omega, by omega⟩ ?_
  refine wq_cv (p' := 655) (av_qc (.invokevirtual 70) 192 3 0 8) 4 cd_192 [.inl (f (Int.toNat (i + (3)))), .inl (f (Int.toNat (i + (2)))), .inl (f (Int.toNat (i + (1))))] (77) 8 [some (.inr (.inr (.inl (some (77))))), some (.inl (f (Int.toNat (i + (1))))), some (.inl (f (Int.toNat (i + (2))))), some (.inl (f (Int.toNat (i + (3)))))] rfl rfl rfl pp_192 rfl rfl rfl (congrArg Prod.fst k77) rfl rfl rfl rfl ?_
  refine av_wp_mono W (fun v h2 z => ?_)
  obtain ⟨y, rfl, e, B2, R2⟩ := z
  show av_wp (some (L, f)) cd_L 655 [some (.inr (.inr (.inr 100))), some (.inr (.inr (.inl (some (0))))), some (.inr (.inr (.inl (some (77))))), some (.inl i)] [.inl y] h2 Q
  refine av_wp_seq 2 (pc' := 1284) (lv' := [some (.inr (.inr (.inr 100))), some (.inr (.inr (.inl (some (0))))), some (.inr (.inr (.inl (some (77))))), some (.inl i)]) (st' := []) (h' := h2) rfl ?_
  exact hk h2 B2 R2
set_option maxRecDepth 100000 in
set_option maxHeartbeats 8000000 in
theorem lo_13 {L : Nat} {f : Nat → Int} (hf : ∀ j, -2147483648 ≤ f j ∧ f j ≤ 2147483647) {i : Int} (hi : 0 ≤ i ∧ i + 6 ≤ (L : Int)) (hL : L ≤ 3072) {h : av_H} (B : BX h) {Q : Option av_V → av_H → Prop} (hk : ∀ h', BX h' → RM h h' → av_wp (some (L, f)) cd_L 1284 [some (.inr (.inr (.inr 100))), some (.inr (.inr (.inl (some (0))))), some (.inr (.inr (.inl (some (77))))), some (.inl i)] [] h' Q) : av_wp (some (L, f)) cd_L 659 [some (.inr (.inr (.inr 100))), some (.inr (.inr (.inl (some (0))))), some (.inr (.inr (.inl (some (77))))), some (.inl i)] [] h Q := by
  refine av_wp_seq 5 (pc' := 664) (lv' := [some (.inr (.inr (.inr 100))), some (.inr (.inr (.inl (some (0))))), some (.inr (.inr (.inl (some (77))))), some (.inl i)]) (st' := [.inl (i + (1)), .inr (.inr (.inr 100)), .inr (.inr (.inl (some (0))))]) (h' := h) rfl ?_
  refine wq_scr (p' := 665) rfl rfl ⟨by omega, by omega, by omega⟩ ?_
  refine av_wp_seq 4 (pc' := 669) (lv' := [some (.inr (.inr (.inr 100))), some (.inr (.inr (.inl (some (0))))), some (.inr (.inr (.inl (some (77))))), some (.inl i)]) (st' := [.inl (i + (2)), .inr (.inr (.inr 100)), .inl (f (Int.toNat (i + (1)))), .inr (.inr (.inl (some (0))))]) (h' := h) rfl ?_
  refine wq_scr (p' := 670) rfl rfl ⟨by omega, by omega, by omega⟩ ?_
  refine av_wp_seq 4 (pc' := 674) (lv' := [some (.inr (.inr (.inr 100))), some (.inr (.inr (.inl (some (0))))), some (.inr (.inr (.inl (some (77))))), some (.inl i)]) (st' := [.inl (i + (3)), .inr (.inr (.inr 100)), .inl (f (Int.toNat (i + (2)))), .inl (f (Int.toNat (i + (1)))), .inr (.inr (.inl (some (0))))]) (h' := h) rfl ?_
  refine wq_scr (p' := 675) rfl rfl ⟨by omega, by omega, by omega⟩ ?_
  refine wq_cv (p' := 678) (av_qc (.invokevirtual 71) 109 3 0 7) 4 cd_109 [.inl (f (Int.toNat (i + (3)))), .inl (f (Int.toNat (i + (2)))), .inl (f (Int.toNat (i + (1))))] (0) 7 [some (.inr (.inr (.inl (some (0))))), some (.inl (f (Int.toNat (i + (1))))), some (.inl (f (Int.toNat (i + (2))))), some (.inl (f (Int.toNat (i + (3)))))] rfl rfl rfl pp_109 rfl rfl rfl (congrArg Prod.fst (ly_k B.1.1.1 0 rfl)) rfl rfl rfl rfl ?_
  refine av_wp_mono (oz_109 B (f (Int.toNat (i + (1)))) (f (Int.toNat (i + (2)))) (f (Int.toNat (i + (3)))) (hf _) (hf _) (hf _)) (fun v h1 z => ?_)
  obtain ⟨x, rfl, k77, W⟩ := z
  show av_wp (some (L, f)) cd_L 678 [some (.inr (.inr (.inr 100))), some (.inr (.inr (.inl (some (0))))), some (.inr (.inr (.inl (some (77))))), some (.inl i)] [.inl x] h1 Q
  refine av_wp_seq 6 (pc' := 684) (lv' := [some (.inr (.inr (.inr 100))), some (.inr (.inr (.inl (some (0))))), some (.inr (.inr (.inl (some (77))))), some (.inl i)]) (st' := [.inl (i + (1)), .inr (.inr (.inr 100)), .inr (.inr (.inl (some (77))))]) (h' := h1) rfl ?_
  refine wq_scr (p' := 685) rfl rfl ⟨by omega, by omega, by omega⟩ ?_
  refine av_wp_seq 4 (pc' := 689) (lv' := [some (.inr (.inr (.inr 100))), some (.inr (.inr (.inl (some (0))))), some (.inr (.inr (.inl (some (77))))), some (.inl i)]) (st' := [.inl (i + (2)), .inr (.inr (.inr 100)), .inl (f (Int.toNat (i + (1)))), .inr (.inr (.inl (some (77))))]) (h' := h1) rfl ?_
  refine wq_scr (p' := 690) rfl rfl ⟨by omega, by omega, by omega⟩ ?_
  refine av_wp_seq 4 (pc' := 694) (lv' := [some (.inr (.inr (.inr 100))), some (.inr (.inr (.inl (some (0))))), some (.inr (.inr (.inl (some (77))))), some (.inl i)]) (st' := [.inl (i + (3)), .inr (.inr (.inr 100)), .inl (f (Int.toNat (i + (2)))), .inl (f (Int.toNat (i + (1)))), .inr (.inr (.inl (some (77))))]) (h' := h1) rfl ?_
  refine wq_scr (p' := 695) rfl rfl ⟨by omega, by omega, by omega⟩ ?_
  refine wq_cv (p' := 698) (av_qc (.invokevirtual 74) 193 3 0 8) 10 cd_193 [.inl (f (Int.toNat (i + (3)))), .inl (f (Int.toNat (i + (2)))), .inl (f (Int.toNat (i + (1))))] (77) 8 [some (.inr (.inr (.inl (some (77))))), some (.inl (f (Int.toNat (i + (1))))), some (.inl (f (Int.toNat (i + (2))))), some (.inl (f (Int.toNat (i + (3))))), none, none, none, none, none, none] rfl rfl rfl pp_193 rfl rfl rfl (congrArg Prod.fst k77) rfl rfl rfl rfl ?_
  refine av_wp_mono W (fun v h2 z => ?_)
  obtain ⟨y, rfl, e, B2, R2⟩ := z
  show av_wp (some (L, f)) cd_L 698 [some (.inr (.inr (.inr 100))), some (.inr (.inr (.inl (some (0))))), some (.inr (.inr (.inl (some (77))))), some (.inl i)] [.inl y] h2 Q
  refine av_wp_seq 2 (pc' := 1284) (lv' := [some (.inr (.inr (.inr 100))), some (.inr (.inr (.inl (some (0))))), some (.inr (.inr (.inl (some (77))))), some (.inl i)]) (st' := []) (h' := h2) rfl ?_
  exact hk h2 B2 R2
set_option maxRecDepth 100000 in
set_option maxHeartbeats 8000000 in
theorem lo_14 {L : Nat} {f : Nat → Int} (hf : ∀ j, -2147483648 ≤ f j ∧ f j ≤ 2147483647) {i : Int} (hi : 0 ≤ i ∧ i + 6 ≤ (L : Int)) (hL : L ≤ 3072) {h : av_H} (B : BX h) {Q : Option av_V → av_H → Prop} (hk : ∀ h', BX h' → RM h h' → av_wp (some (L, f)) cd_L 1284 [some (.inr (.inr (.inr 100))), some (.inr (.inr (.inl (some (0))))), some (.inr (.inr (.inl (some (77))))), some (.inl i)] [] h' Q) : av_wp (some (L, f)) cd_L 702 [some (.inr (.inr (.inr 100))), some (.inr (.inr (.inl (some (0))))), some (.inr (.inr (.inl (some (77))))), some (.inl i)] [] h Q := by
  refine av_wp_seq 5 (pc' := 707) (lv' := [some (.inr (.inr (.inr 100))), some (.inr (.inr (.inl (some (0))))), some (.inr (.inr (.inl (some (77))))), some (.inl i)]) (st' := [.inl (i + (1)), .inr (.inr (.inr 100)), .inr (.inr (.inl (some (0))))]) (h' := h) rfl ?_
  refine wq_scr (p' := 708) rfl rfl ⟨by omega, by omega, by omega⟩ ?_
  refine av_wp_seq 4 (pc' := 712) (lv' := [some (.inr (.inr (.inr 100))), some (.inr (.inr (.inl (some (0))))), some (.inr (.inr (.inl (some (77))))), some (.inl i)]) (st' := [.inl (i + (2)), .inr (.inr (.inr 100)), .inl (f (Int.toNat (i + (1)))), .inr (.inr (.inl (some (0))))]) (h' := h) rfl ?_
  refine wq_scr (p' := 713) rfl rfl ⟨by omega, by omega, by omega⟩ ?_
  refine wq_cv (p' := 716) (av_qc (.invokevirtual 75) 110 2 0 7) 3 cd_110 [.inl (f (Int.toNat (i + (2)))), .inl (f (Int.toNat (i + (1))))] (0) 7 [some (.inr (.inr (.inl (some (0))))), some (.inl (f (Int.toNat (i + (1))))), some (.inl (f (Int.toNat (i + (2)))))] rfl rfl rfl pp_110 rfl rfl rfl (congrArg Prod.fst (ly_k B.1.1.1 0 rfl)) rfl rfl rfl rfl ?_
  refine av_wp_mono (oz_110 B (f (Int.toNat (i + (1)))) (f (Int.toNat (i + (2)))) (hf _) (hf _)) (fun v h1 z => ?_)
  obtain ⟨x, rfl, k77, W⟩ := z
  show av_wp (some (L, f)) cd_L 716 [some (.inr (.inr (.inr 100))), some (.inr (.inr (.inl (some (0))))), some (.inr (.inr (.inl (some (77))))), some (.inl i)] [.inl x] h1 Q
  refine av_wp_seq 6 (pc' := 722) (lv' := [some (.inr (.inr (.inr 100))), some (.inr (.inr (.inl (some (0))))), some (.inr (.inr (.inl (some (77))))), some (.inl i)]) (st' := [.inl (i + (1)), .inr (.inr (.inr 100)), .inr (.inr (.inl (some (77))))]) (h' := h1) rfl ?_
  refine wq_scr (p' := 723) rfl rfl ⟨by omega, by omega, by omega⟩ ?_
  refine av_wp_seq 4 (pc' := 727) (lv' := [some (.inr (.inr (.inr 100))), some (.inr (.inr (.inl (some (0))))), some (.inr (.inr (.inl (some (77))))), some (.inl i)]) (st' := [.inl (i + (2)), .inr (.inr (.inr 100)), .inl (f (Int.toNat (i + (1)))), .inr (.inr (.inl (some (77))))]) (h' := h1) rfl ?_
  refine wq_scr (p' := 728) rfl rfl ⟨by omega, by omega, by omega⟩ ?_
  refine wq_cv (p' := 731) (av_qc (.invokevirtual 78) 197 2 0 8) 5 cd_197 [.inl (f (Int.toNat (i + (2)))), .inl (f (Int.toNat (i + (1))))] (77) 8 [some (.inr (.inr (.inl (some (77))))), some (.inl (f (Int.toNat (i + (1))))), some (.inl (f (Int.toNat (i + (2))))), none, none] rfl rfl rfl pp_197 rfl rfl rfl (congrArg Prod.fst k77) rfl rfl rfl rfl ?_
  refine av_wp_mono W (fun v h2 z => ?_)
  obtain ⟨y, rfl, e, B2, R2⟩ := z
  show av_wp (some (L, f)) cd_L 731 [some (.inr (.inr (.inr 100))), some (.inr (.inr (.inl (some (0))))), some (.inr (.inr (.inl (some (77))))), some (.inl i)] [.inl y] h2 Q
  refine av_wp_seq 2 (pc' := 1284) (lv' := [some (.inr (.inr (.inr 100))), some (.inr (.inr (.inl (some (0))))), some (.inr (.inr (.inl (some (77))))), some (.inl i)]) (st' := []) (h' := h2) rfl ?_
  exact hk h2 B2 R2
set_option maxRecDepth 100000 in
set_option maxHeartbeats 8000000 in
theorem lo_15 {L : Nat} {f : Nat → Int} (hf : ∀ j, -2147483648 ≤ f j ∧ f j ≤ 2147483647) {i : Int} (hi : 0 ≤ i ∧ i + 6 ≤ (L : Int)) (hL : L ≤ 3072) {h : av_H} (B : BX h) {Q : Option av_V → av_H → Prop} (hk : ∀ h', BX h' → RM h h' → av_wp (some (L, f)) cd_L 1284 [some (.inr (.inr (.inr 100))), some (.inr (.inr (.inl (some (0))))), some (.inr (.inr (.inl (some (77))))), some (.inl i)] [] h' Q) : av_wp (some (L, f)) cd_L 735 [some (.inr (.inr (.inr 100))), some (.inr (.inr (.inl (some (0))))), some (.inr (.inr (.inl (some (77))))), some (.inl i)] [] h Q := by
  refine av_wp_seq 5 (pc' := 740) (lv' := [some (.inr (.inr (.inr 100))), some (.inr (.inr (.inl (some (0))))), some (.inr (.inr (.inl (some (77))))), some (.inl i)]) (st' := [.inl (i + (1)), .inr (.inr (.inr 100)), .inr (.inr (.inl (some (0))))]) (h' := h) rfl ?_
  refine wq_scr (p' := 741) rfl rfl ⟨by omega, by omega, by omega⟩ ?_
  refine av_wp_seq 4 (pc' := 745) (lv' := [some (.inr (.inr (.inr 100))), some (.inr (.inr (.inl (some (0))))), some (.inr (.inr (.inl (some (77))))), some (.inl i)]) (st' := [.inl (i + (2)), .inr (.inr (.inr 100)), .inl (f (Int.toNat (i + (1)))), .inr (.inr (.inl (some (0))))]) (h' := h) rfl ?_
  refine wq_scr (p' := 746) rfl rfl ⟨by omega, by omega, by omega⟩ ?_
  refine av_wp_seq 4 (pc' := 750) (lv' := [some (.inr (.inr (.inr 100))), some (.inr (.inr (.inl (some (0))))), some (.inr (.inr (.inl (some (77))))), some (.inl i)]) (st' := [.inl (i + (3)), .inr (.inr (.inr 100)), .inl (f (Int.toNat (i + (2)))), .inl (f (Int.toNat (i + (1)))), .inr (.inr (.inl (some (0))))]) (h' := h) rfl ?_
  refine wq_scr (p' := 751) rfl rfl ⟨by omega, by omega, by omega⟩ ?_
  refine av_wp_seq 4 (pc' := 755) (lv' := [some (.inr (.inr (.inr 100))), some (.inr (.inr (.inl (some (0))))), some (.inr (.inr (.inl (some (77))))), some (.inl i)]) (st' := [.inl (i + (4)), .inr (.inr (.inr 100)), .inl (f (Int.toNat (i + (3)))), .inl (f (Int.toNat (i + (2)))), .inl (f (Int.toNat (i + (1)))), .inr (.inr (.inl (some (0))))]) (h' := h) rfl ?_
  refine wq_scr (p' := 756) rfl rfl ⟨by omega, by omega, by omega⟩ ?_
  refine wq_cv (p' := 759) (av_qc (.invokevirtual 79) 111 4 0 7) 5 cd_111 [.inl (f (Int.toNat (i + (4)))), .inl (f (Int.toNat (i + (3)))), .inl (f (Int.toNat (i + (2)))), .inl (f (Int.toNat (i + (1))))] (0) 7 [some (.inr (.inr (.inl (some (0))))), some (.inl (f (Int.toNat (i + (1))))), some (.inl (f (Int.toNat (i + (2))))), some (.inl (f (Int.toNat (i + (3))))), some (.inl (f (Int.toNat (i + (4)))))] rfl rfl rfl pp_111 rfl rfl rfl (congrArg Prod.fst (ly_k B.1.1.1 0 rfl)) rfl rfl rfl rfl ?_
  refine av_wp_mono (oz_111 B (f (Int.toNat (i + (1)))) (f (Int.toNat (i + (2)))) (f (Int.toNat (i + (3)))) (f (Int.toNat (i + (4)))) (hf _) (hf _) (hf _) (hf _)) (fun v h1 z => ?_)
  obtain ⟨x, rfl, k77, W⟩ := z
  show av_wp (some (L, f)) cd_L 759 [some (.inr (.inr (.inr 100))), some (.inr (.inr (.inl (some (0))))), some (.inr (.inr (.inl (some (77))))), some (.inl i)] [.inl x] h1 Q
  refine av_wp_seq 6 (pc' := 765) (lv' := [some (.inr (.inr (.inr 100))), some (.inr (.inr (.inl (some (0))))), some (.inr (.inr (.inl (some (77))))), some (.inl i)]) (st' := [.inl (i + (1)), .inr (.inr (.inr 100)), .inr (.inr (.inl (some (77))))]) (h' := h1) rfl ?_
  refine wq_scr (p' := 766) rfl rfl ⟨by omega, by omega, by omega⟩ ?_
  refine av_wp_seq 4 (pc' := 770) (lv' := [some (.inr (.inr (.inr 100))), some (.inr (.inr (.inl (some (0))))), some (.inr (.inr (.inl (some (77))))), some (.inl i)]) (st' := [.inl (i + (2)), .inr (.inr (.inr 100)), .inl (f (Int.toNat (i + (1)))), .inr (.inr (.inl (some (77))))]) (h' := h1) rfl ?_
  refine wq_scr (p' := 771) rfl rfl ⟨by omega, by omega, by omega⟩ ?_
  refine av_wp_seq 4 (pc' := 775) (lv' := [some (.inr (.inr (.inr 100))), some (.inr (.inr (.inl (some (0))))), some (.inr (.inr (.inl (some (77))))), some (.inl i)]) (st' := [.inl (i + (3)), .inr (.inr (.inr 100)), .inl (f (Int.toNat (i + (2)))), .inl (f (Int.toNat (i + (1)))), .inr (.inr (.inl (some (77))))]) (h' := h1) rfl ?_
  refine wq_scr (p' := 776) rfl rfl ⟨by omega, by omega, by omega⟩ ?_
  refine av_wp_seq 4 (pc' := 780) (lv' := [some (.inr (.inr (.inr 100))), some (.inr (.inr (.inl (some (0))))), some (.inr (.inr (.inl (some (77))))), some (.inl i)]) (st' := [.inl (i + (4)), .inr (.inr (.inr 100)), .inl (f (Int.toNat (i + (3)))), .inl (f (Int.toNat (i + (2)))), .inl (f (Int.toNat (i + (1)))), .inr (.inr (.inl (some (77))))]) (h' := h1) rfl ?_
  refine wq_scr (p' := 781) rfl rfl ⟨by omega, by omega, by omega⟩ ?_
  refine wq_cv (p' := 784) (av_qc (.invokevirtual 82) 198 4 0 8) 8 cd_198 [.inl (f (Int.toNat (i + (4)))), .inl (f (Int.toNat (i + (3)))), .inl (f (Int.toNat (i + (2)))), .inl (f (Int.toNat (i + (1))))] (77) 8 [some (.inr (.inr (.inl (some (77))))), some (.inl (f (Int.toNat (i + (1))))), some (.inl (f (Int.toNat (i + (2))))), some (.inl (f (Int.toNat (i + (3))))), some (.inl (f (Int.toNat (i + (4))))), none, none, none] rfl rfl rfl pp_198 rfl rfl rfl (congrArg Prod.fst k77) rfl rfl rfl rfl ?_
  refine av_wp_mono W (fun v h2 z => ?_)
  obtain ⟨y, rfl, e, B2, R2⟩ := z
  show av_wp (some (L, f)) cd_L 784 [some (.inr (.inr (.inr 100))), some (.inr (.inr (.inl (some (0))))), some (.inr (.inr (.inl (some (77))))), some (.inl i)] [.inl y] h2 Q
  refine av_wp_seq 2 (pc' := 1284) (lv' := [some (.inr (.inr (.inr 100))), some (.inr (.inr (.inl (some (0))))), some (.inr (.inr (.inl (some (77))))), some (.inl i)]) (st' := []) (h' := h2) rfl ?_
  exact hk h2 B2 R2
