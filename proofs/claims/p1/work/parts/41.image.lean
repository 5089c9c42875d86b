/-! image() OF THE REFERENCE ON A FRESH OBJECT: what the copies hold is of no concern here -/
set_option maxRecDepth 100000 in
set_option maxHeartbeats 8000000 in
theorem lk_L_1225 : cd_L.lookup 1225 = some (av_q (.aload_n 1)) := by decide +kernel
set_option maxRecDepth 100000 in
set_option maxHeartbeats 8000000 in
theorem lk_L_1226 : cd_L.lookup 1226 = some (av_qc (.invokevirtual 119) 123 0 0 7) := by decide +kernel
set_option maxRecDepth 100000 in
set_option maxHeartbeats 8000000 in
theorem lk_L_1229 : cd_L.lookup 1229 = some (av_q (.aload_n 2)) := by decide +kernel
set_option maxRecDepth 100000 in
set_option maxHeartbeats 8000000 in
theorem lk_L_1230 : cd_L.lookup 1230 = some (av_qc (.invokevirtual 122) 214 0 0 8) := by decide +kernel
set_option maxRecDepth 100000 in
set_option maxHeartbeats 8000000 in
theorem lk_L_1233 : cd_L.lookup 1233 = some (av_qa (.if_icmp .eq 51) 1284) := by decide +kernel
def hI (A : Nat → Nat → Int) : av_H := (av_hI1.1, av_hI1.2.1, av_hI1.2.2.1, A, av_hI1.2.2.2.2.1, av_hI1.2.2.2.2.2.1, av_hI1.2.2.2.2.2.2.1, ())
theorem av_wid {x : Int} (h1 : -2147483648 ≤ x) (h2 : x < 2147483648) : av_w x = x := Int.bmod_eq_of_le (by omega) (by omega)
theorem av_inB_of {x : Int} {n : Nat} (h0 : 0 ≤ x) (h1 : x < n) (hn : n < 2147483648) : av_inB x n = true := by
  unfold av_inB
  rw [av_wid (by omega) (by omega), Bool.and_eq_true]
  exact ⟨decide_eq_true h0, decide_eq_true h1⟩
theorem av_nge {x y : Int} (h0 : -2147483648 ≤ x) (h1 : x < y) (h2 : y < 2147483648) : ¬ av_cmp .ge (av_w x) (av_w y) = true := by
  rw [av_wid (x := x) h0 (by omega), av_wid (x := y) (by omega) h2]
  intro z
  have z' : y ≤ x := of_decide_eq_true z
  omega
set_option maxRecDepth 100000 in
theorem av_wp_iald {cd : List (Nat × av_E)} {pc : Nat} {lv : av_L} {r : List av_V} {h : av_H} {Q : Option av_V → av_H → Prop} {i : Int} {q n : Nat} (hx : cd.lookup pc = some (av_q (.iaload))) (ho : q < h.1) (hk : h.2.2.1 q = (20, n)) (hi : av_inB i n = true) (hw : ∀ v : Int, av_wp none cd (pc + 1) lv (.inl v :: r) h Q) : av_wp none cd pc lv (.inl i :: .inr (.inr (.inl (some q))) :: r) h Q := by
  refine av_wp_st1 hx (pc' := pc + 1) (lv' := lv) (st' := .inl (h.2.2.2.1 q (av_w i).toNat) :: r) (h' := h) rfl ?_ (hw _)
  show av_ald none [20] pc lv (.inl i :: .inr (.inr (.inl (some q))) :: r) h = _
  simp only [av_ald, hk]
  rw [if_pos ⟨⟨ho, by simp⟩, hi⟩]
set_option maxRecDepth 100000 in
theorem av_wp_iast {cd : List (Nat × av_E)} {pc : Nat} {lv : av_L} {r : List av_V} {h : av_H} {Q : Option av_V → av_H → Prop} {i v : Int} {q n : Nat} (hx : cd.lookup pc = some (av_q (.iastore))) (ho : q < h.1) (hk : h.2.2.1 q = (20, n)) (hi : av_inB i n = true) (hw : ∀ A, av_wp none cd (pc + 1) lv r (h.1, h.2.1, h.2.2.1, A, h.2.2.2.2) Q) : av_wp none cd pc lv (.inl v :: .inl i :: .inr (.inr (.inl (some q))) :: r) h Q := by
  refine av_wp_st1 hx (pc' := pc + 1) (lv' := lv) (st' := r) (h' := (h.1, h.2.1, h.2.2.1, av_u2 h.2.2.2.1 q (av_w i).toNat v, h.2.2.2.2)) rfl ?_ (hw _)
  show av_iast pc lv (.inl v :: .inl i :: .inr (.inr (.inl (some q))) :: r) h = _
  simp only [av_iast, hk]
  rw [if_pos ⟨⟨ho, trivial⟩, hi⟩]
set_option maxRecDepth 100000 in
theorem hI_iald {cd : List (Nat × av_E)} {pc : Nat} {lv : av_L} {r : List av_V} {A : Nat → Nat → Int} {Q : Option av_V → av_H → Prop} {i : Int} {q n : Nat} (hx : cd.lookup pc = some (av_q (.iaload))) (ho : q < (hI A).1) (hk : (hI A).2.2.1 q = (20, n)) (hi : av_inB i n = true) (hw : ∀ v : Int, av_wp none cd (pc + 1) lv (.inl v :: r) (hI A) Q) : av_wp none cd pc lv (.inl i :: .inr (.inr (.inl (some q))) :: r) (hI A) Q := av_wp_iald hx ho hk hi hw
set_option maxRecDepth 100000 in
theorem hI_iast {cd : List (Nat × av_E)} {pc : Nat} {lv : av_L} {r : List av_V} {A : Nat → Nat → Int} {Q : Option av_V → av_H → Prop} {i v : Int} {q n : Nat} (hx : cd.lookup pc = some (av_q (.iastore))) (ho : q < (hI A).1) (hk : (hI A).2.2.1 q = (20, n)) (hi : av_inB i n = true) (hw : ∀ A, av_wp none cd (pc + 1) lv r (hI A) Q) : av_wp none cd pc lv (.inl v :: .inl i :: .inr (.inr (.inl (some q))) :: r) (hI A) Q := av_wp_iast hx ho hk hi hw
set_option maxRecDepth 100000 in
set_option maxHeartbeats 8000000 in
theorem cp_0 {Q : Option av_V → av_H → Prop} (hend : ∀ A, av_wp none cd_213 72 [some (.inr (.inr (.inl (some 77)))), some (.inl (0)), some (.inl (1)), some (.inl (16))] [] (hI A) Q) : ∀ (m k : Nat), k + m = 16 → ∀ A, av_wp none cd_213 38 [some (.inr (.inr (.inl (some 77)))), some (.inl (0)), some (.inl (1)), some (.inl ((k : Nat) : Int))] [] (hI A) Q := by
  intro m
  induction m with
  | zero =>
    intro k hk A
    have hk : k = 16 := by omega
    subst hk
    refine av_wp_seq 3 (pc' := 72) (lv' := [some (.inr (.inr (.inl (some 77)))), some (.inl (0)), some (.inl (1)), some (.inl (((16 : Nat)) : Int))]) (st' := []) (h' := hI A) rfl ?_
    exact hend A
  | succ m ih =>
    intro k hk A
    refine av_wp_seq 3 (pc' := (if av_cmp .ge (av_w ((k : Nat) : Int)) (av_w (16)) = true then 72 else 44)) (lv' := [some (.inr (.inr (.inl (some 77)))), some (.inl (0)), some (.inl (1)), some (.inl ((k : Nat) : Int))]) (st' := []) (h' := hI A) rfl ?_
    rw [if_neg (av_nge (x := ((k : Nat) : Int)) (y := 16) (by omega) (by omega) (by omega))]
    refine av_wp_seq 14 (pc' := 64) (lv' := [some (.inr (.inr (.inl (some 77)))), some (.inl (0)), some (.inl (1)), some (.inl ((k : Nat) : Int))]) (st' := [.inl ((0) + ((k : Nat) : Int)), .inr (.inr (.inl (some 81))), .inl ((16) + ((k : Nat) : Int)), .inr (.inr (.inl (some 81)))]) (h' := hI A) rfl ?_
    refine hI_iald (n := 80) rfl (Nat.le_of_ble_eq_true rfl) rfl (av_inB_of (by omega) (by omega) (by omega)) (fun v1 => ?_)
    show av_wp none cd_213 65 [some (.inr (.inr (.inl (some 77)))), some (.inl (0)), some (.inl (1)), some (.inl ((k : Nat) : Int))] [.inl v1, .inl ((16) + ((k : Nat) : Int)), .inr (.inr (.inl (some 81)))] (hI A) Q
    refine hI_iast (n := 80) rfl (Nat.le_of_ble_eq_true rfl) rfl (av_inB_of (by omega) (by omega) (by omega)) (fun A => ?_)
    show av_wp none cd_213 66 [some (.inr (.inr (.inl (some 77)))), some (.inl (0)), some (.inl (1)), some (.inl ((k : Nat) : Int))] [] (hI A) Q
    refine av_wp_seq 1 (pc' := 69) (lv' := [some (.inr (.inr (.inl (some 77)))), some (.inl (0)), some (.inl (1)), some (.inl (((k : Nat) : Int) + (1)))]) (st' := []) (h' := hI A) rfl ?_
    refine av_wp_seq 1 (pc' := 38) (lv' := [some (.inr (.inr (.inl (some 77)))), some (.inl (0)), some (.inl (1)), some (.inl (((k : Nat) : Int) + (1)))]) (st' := []) (h' := hI A) rfl ?_
    have e : ((k : Nat) : Int) + (1) = ((k + 1 : Nat) : Int) := by omega
    rw [e]
    exact ih (k + 1) (by omega) A
set_option maxRecDepth 100000 in
set_option maxHeartbeats 8000000 in
theorem cp_1 {Q : Option av_V → av_H → Prop} (hend : ∀ A, av_wp none cd_213 279 [some (.inr (.inr (.inl (some 77)))), some (.inl (0)), some (.inl (1)), some (.inl (192))] [] (hI A) Q) : ∀ (m k : Nat), k + m = 192 → ∀ A, av_wp none cd_213 74 [some (.inr (.inr (.inl (some 77)))), some (.inl (0)), some (.inl (1)), some (.inl ((k : Nat) : Int))] [] (hI A) Q := by
  intro m
  induction m with
  | zero =>
    intro k hk A
    have hk : k = 192 := by omega
    subst hk
    refine av_wp_seq 3 (pc' := 279) (lv' := [some (.inr (.inr (.inl (some 77)))), some (.inl (0)), some (.inl (1)), some (.inl (((192 : Nat)) : Int))]) (st' := []) (h' := hI A) rfl ?_
    exact hend A
  | succ m ih =>
    intro k hk A
    refine av_wp_seq 3 (pc' := (if av_cmp .ge (av_w ((k : Nat) : Int)) (av_w (192)) = true then 279 else 81)) (lv' := [some (.inr (.inr (.inl (some 77)))), some (.inl (0)), some (.inl (1)), some (.inl ((k : Nat) : Int))]) (st' := []) (h' := hI A) rfl ?_
    rw [if_neg (av_nge (x := ((k : Nat) : Int)) (y := 192) (by omega) (by omega) (by omega))]
    refine av_wp_seq 14 (pc' := 103) (lv' := [some (.inr (.inr (.inl (some 77)))), some (.inl (0)), some (.inl (1)), some (.inl ((k : Nat) : Int))]) (st' := [.inl ((0) + ((k : Nat) : Int)), .inr (.inr (.inl (some 82))), .inl ((192) + ((k : Nat) : Int)), .inr (.inr (.inl (some 82)))]) (h' := hI A) rfl ?_
    refine hI_iald (n := 960) rfl (Nat.le_of_ble_eq_true rfl) rfl (av_inB_of (by omega) (by omega) (by omega)) (fun v1 => ?_)
    show av_wp none cd_213 104 [some (.inr (.inr (.inl (some 77)))), some (.inl (0)), some (.inl (1)), some (.inl ((k : Nat) : Int))] [.inl v1, .inl ((192) + ((k : Nat) : Int)), .inr (.inr (.inl (some 82)))] (hI A) Q
    refine hI_iast (n := 960) rfl (Nat.le_of_ble_eq_true rfl) rfl (av_inB_of (by omega) (by omega) (by omega)) (fun A => ?_)
    show av_wp none cd_213 105 [some (.inr (.inr (.inl (some 77)))), some (.inl (0)), some (.inl (1)), some (.inl ((k : Nat) : Int))] [] (hI A) Q
    refine av_wp_seq 14 (pc' := 127) (lv' := [some (.inr (.inr (.inl (some 77)))), some (.inl (0)), some (.inl (1)), some (.inl ((k : Nat) : Int))]) (st' := [.inl ((0) + ((k : Nat) : Int)), .inr (.inr (.inl (some 83))), .inl ((192) + ((k : Nat) : Int)), .inr (.inr (.inl (some 83)))]) (h' := hI A) rfl ?_
    refine hI_iald (n := 960) rfl (Nat.le_of_ble_eq_true rfl) rfl (av_inB_of (by omega) (by omega) (by omega)) (fun v2 => ?_)
    show av_wp none cd_213 128 [some (.inr (.inr (.inl (some 77)))), some (.inl (0)), some (.inl (1)), some (.inl ((k : Nat) : Int))] [.inl v2, .inl ((192) + ((k : Nat) : Int)), .inr (.inr (.inl (some 83)))] (hI A) Q
    refine hI_iast (n := 960) rfl (Nat.le_of_ble_eq_true rfl) rfl (av_inB_of (by omega) (by omega) (by omega)) (fun A => ?_)
    show av_wp none cd_213 129 [some (.inr (.inr (.inl (some 77)))), some (.inl (0)), some (.inl (1)), some (.inl ((k : Nat) : Int))] [] (hI A) Q
    refine av_wp_seq 14 (pc' := 151) (lv' := [some (.inr (.inr (.inl (some 77)))), some (.inl (0)), some (.inl (1)), some (.inl ((k : Nat) : Int))]) (st' := [.inl ((0) + ((k : Nat) : Int)), .inr (.inr (.inl (some 84))), .inl ((192) + ((k : Nat) : Int)), .inr (.inr (.inl (some 84)))]) (h' := hI A) rfl ?_
    refine hI_iald (n := 960) rfl (Nat.le_of_ble_eq_true rfl) rfl (av_inB_of (by omega) (by omega) (by omega)) (fun v3 => ?_)
    show av_wp none cd_213 152 [some (.inr (.inr (.inl (some 77)))), some (.inl (0)), some (.inl (1)), some (.inl ((k : Nat) : Int))] [.inl v3, .inl ((192) + ((k : Nat) : Int)), .inr (.inr (.inl (some 84)))] (hI A) Q
    refine hI_iast (n := 960) rfl (Nat.le_of_ble_eq_true rfl) rfl (av_inB_of (by omega) (by omega) (by omega)) (fun A => ?_)
    show av_wp none cd_213 153 [some (.inr (.inr (.inl (some 77)))), some (.inl (0)), some (.inl (1)), some (.inl ((k : Nat) : Int))] [] (hI A) Q
    refine av_wp_seq 14 (pc' := 175) (lv' := [some (.inr (.inr (.inl (some 77)))), some (.inl (0)), some (.inl (1)), some (.inl ((k : Nat) : Int))]) (st' := [.inl ((0) + ((k : Nat) : Int)), .inr (.inr (.inl (some 85))), .inl ((192) + ((k : Nat) : Int)), .inr (.inr (.inl (some 85)))]) (h' := hI A) rfl ?_
    refine hI_iald (n := 960) rfl (Nat.le_of_ble_eq_true rfl) rfl (av_inB_of (by omega) (by omega) (by omega)) (fun v4 => ?_)
    show av_wp none cd_213 176 [some (.inr (.inr (.inl (some 77)))), some (.inl (0)), some (.inl (1)), some (.inl ((k : Nat) : Int))] [.inl v4, .inl ((192) + ((k : Nat) : Int)), .inr (.inr (.inl (some 85)))] (hI A) Q
    refine hI_iast (n := 960) rfl (Nat.le_of_ble_eq_true rfl) rfl (av_inB_of (by omega) (by omega) (by omega)) (fun A => ?_)
    show av_wp none cd_213 177 [some (.inr (.inr (.inl (some 77)))), some (.inl (0)), some (.inl (1)), some (.inl ((k : Nat) : Int))] [] (hI A) Q
    refine av_wp_seq 14 (pc' := 199) (lv' := [some (.inr (.inr (.inl (some 77)))), some (.inl (0)), some (.inl (1)), some (.inl ((k : Nat) : Int))]) (st' := [.inl ((0) + ((k : Nat) : Int)), .inr (.inr (.inl (some 86))), .inl ((192) + ((k : Nat) : Int)), .inr (.inr (.inl (some 86)))]) (h' := hI A) rfl ?_
    refine hI_iald (n := 960) rfl (Nat.le_of_ble_eq_true rfl) rfl (av_inB_of (by omega) (by omega) (by omega)) (fun v5 => ?_)
    show av_wp none cd_213 200 [some (.inr (.inr (.inl (some 77)))), some (.inl (0)), some (.inl (1)), some (.inl ((k : Nat) : Int))] [.inl v5, .inl ((192) + ((k : Nat) : Int)), .inr (.inr (.inl (some 86)))] (hI A) Q
    refine hI_iast (n := 960) rfl (Nat.le_of_ble_eq_true rfl) rfl (av_inB_of (by omega) (by omega) (by omega)) (fun A => ?_)
    show av_wp none cd_213 201 [some (.inr (.inr (.inl (some 77)))), some (.inl (0)), some (.inl (1)), some (.inl ((k : Nat) : Int))] [] (hI A) Q
    refine av_wp_seq 14 (pc' := 223) (lv' := [some (.inr (.inr (.inl (some 77)))), some (.inl (0)), some (.inl (1)), some (.inl ((k : Nat) : Int))]) (st' := [.inl ((0) + ((k : Nat) : Int)), .inr (.inr (.inl (some 87))), .inl ((192) + ((k : Nat) : Int)), .inr (.inr (.inl (some 87)))]) (h' := hI A) rfl ?_
    refine hI_iald (n := 960) rfl (Nat.le_of_ble_eq_true rfl) rfl (av_inB_of (by omega) (by omega) (by omega)) (fun v6 => ?_)
    show av_wp none cd_213 224 [some (.inr (.inr (.inl (some 77)))), some (.inl (0)), some (.inl (1)), some (.inl ((k : Nat) : Int))] [.inl v6, .inl ((192) + ((k : Nat) : Int)), .inr (.inr (.inl (some 87)))] (hI A) Q
    refine hI_iast (n := 960) rfl (Nat.le_of_ble_eq_true rfl) rfl (av_inB_of (by omega) (by omega) (by omega)) (fun A => ?_)
    show av_wp none cd_213 225 [some (.inr (.inr (.inl (some 77)))), some (.inl (0)), some (.inl (1)), some (.inl ((k : Nat) : Int))] [] (hI A) Q
    refine av_wp_seq 14 (pc' := 247) (lv' := [some (.inr (.inr (.inl (some 77)))), some (.inl (0)), some (.inl (1)), some (.inl ((k : Nat) : Int))]) (st' := [.inl ((0) + ((k : Nat) : Int)), .inr (.inr (.inl (some 88))), .inl ((192) + ((k : Nat) : Int)), .inr (.inr (.inl (some 88)))]) (h' := hI A) rfl ?_
    refine hI_iald (n := 960) rfl (Nat.le_of_ble_eq_true rfl) rfl (av_inB_of (by omega) (by omega) (by omega)) (fun v7 => ?_)
    show av_wp none cd_213 248 [some (.inr (.inr (.inl (some 77)))), some (.inl (0)), some (.inl (1)), some (.inl ((k : Nat) : Int))] [.inl v7, .inl ((192) + ((k : Nat) : Int)), .inr (.inr (.inl (some 88)))] (hI A) Q
    refine hI_iast (n := 960) rfl (Nat.le_of_ble_eq_true rfl) rfl (av_inB_of (by omega) (by omega) (by omega)) (fun A => ?_)
    show av_wp none cd_213 249 [some (.inr (.inr (.inl (some 77)))), some (.inl (0)), some (.inl (1)), some (.inl ((k : Nat) : Int))] [] (hI A) Q
    refine av_wp_seq 14 (pc' := 271) (lv' := [some (.inr (.inr (.inl (some 77)))), some (.inl (0)), some (.inl (1)), some (.inl ((k : Nat) : Int))]) (st' := [.inl ((0) + ((k : Nat) : Int)), .inr (.inr (.inl (some 89))), .inl ((192) + ((k : Nat) : Int)), .inr (.inr (.inl (some 89)))]) (h' := hI A) rfl ?_
    refine hI_iald (n := 960) rfl (Nat.le_of_ble_eq_true rfl) rfl (av_inB_of (by omega) (by omega) (by omega)) (fun v8 => ?_)
    show av_wp none cd_213 272 [some (.inr (.inr (.inl (some 77)))), some (.inl (0)), some (.inl (1)), some (.inl ((k : Nat) : Int))] [.inl v8, .inl ((192) + ((k : Nat) : Int)), .inr (.inr (.inl (some 89)))] (hI A) Q
    refine hI_iast (n := 960) rfl (Nat.le_of_ble_eq_true rfl) rfl (av_inB_of (by omega) (by omega) (by omega)) (fun A => ?_)
    show av_wp none cd_213 273 [some (.inr (.inr (.inl (some 77)))), some (.inl (0)), some (.inl (1)), some (.inl ((k : Nat) : Int))] [] (hI A) Q
    refine av_wp_seq 1 (pc' := 276) (lv' := [some (.inr (.inr (.inl (some 77)))), some (.inl (0)), some (.inl (1)), some (.inl (((k : Nat) : Int) + (1)))]) (st' := []) (h' := hI A) rfl ?_
    refine av_wp_seq 1 (pc' := 74) (lv' := [some (.inr (.inr (.inl (some 77)))), some (.inl (0)), some (.inl (1)), some (.inl (((k : Nat) : Int) + (1)))]) (st' := []) (h' := hI A) rfl ?_
    have e : ((k : Nat) : Int) + (1) = ((k + 1 : Nat) : Int) := by omega
    rw [e]
    exact ih (k + 1) (by omega) A
set_option maxRecDepth 100000 in
set_option maxHeartbeats 8000000 in
theorem cp_2 {Q : Option av_V → av_H → Prop} (hend : ∀ A, av_wp none cd_213 318 [some (.inr (.inr (.inl (some 77)))), some (.inl (0)), some (.inl (1)), some (.inl (960))] [] (hI A) Q) : ∀ (m k : Nat), k + m = 960 → ∀ A, av_wp none cd_213 281 [some (.inr (.inr (.inl (some 77)))), some (.inl (0)), some (.inl (1)), some (.inl ((k : Nat) : Int))] [] (hI A) Q := by
  intro m
  induction m with
  | zero =>
    intro k hk A
    have hk : k = 960 := by omega
    subst hk
    refine av_wp_seq 3 (pc' := 318) (lv' := [some (.inr (.inr (.inl (some 77)))), some (.inl (0)), some (.inl (1)), some (.inl (((960 : Nat)) : Int))]) (st' := []) (h' := hI A) rfl ?_
    exact hend A
  | succ m ih =>
    intro k hk A
    refine av_wp_seq 3 (pc' := (if av_cmp .ge (av_w ((k : Nat) : Int)) (av_w (960)) = true then 318 else 288)) (lv' := [some (.inr (.inr (.inl (some 77)))), some (.inl (0)), some (.inl (1)), some (.inl ((k : Nat) : Int))]) (st' := []) (h' := hI A) rfl ?_
    rw [if_neg (av_nge (x := ((k : Nat) : Int)) (y := 960) (by omega) (by omega) (by omega))]
    refine av_wp_seq 14 (pc' := 310) (lv' := [some (.inr (.inr (.inl (some 77)))), some (.inl (0)), some (.inl (1)), some (.inl ((k : Nat) : Int))]) (st' := [.inl ((0) + ((k : Nat) : Int)), .inr (.inr (.inl (some 90))), .inl ((960) + ((k : Nat) : Int)), .inr (.inr (.inl (some 90)))]) (h' := hI A) rfl ?_
    refine hI_iald (n := 4800) rfl (Nat.le_of_ble_eq_true rfl) rfl (av_inB_of (by omega) (by omega) (by omega)) (fun v1 => ?_)
    show av_wp none cd_213 311 [some (.inr (.inr (.inl (some 77)))), some (.inl (0)), some (.inl (1)), some (.inl ((k : Nat) : Int))] [.inl v1, .inl ((960) + ((k : Nat) : Int)), .inr (.inr (.inl (some 90)))] (hI A) Q
    refine hI_iast (n := 4800) rfl (Nat.le_of_ble_eq_true rfl) rfl (av_inB_of (by omega) (by omega) (by omega)) (fun A => ?_)
    show av_wp none cd_213 312 [some (.inr (.inr (.inl (some 77)))), some (.inl (0)), some (.inl (1)), some (.inl ((k : Nat) : Int))] [] (hI A) Q
    refine av_wp_seq 1 (pc' := 315) (lv' := [some (.inr (.inr (.inl (some 77)))), some (.inl (0)), some (.inl (1)), some (.inl (((k : Nat) : Int) + (1)))]) (st' := []) (h' := hI A) rfl ?_
    refine av_wp_seq 1 (pc' := 281) (lv' := [some (.inr (.inr (.inl (some 77)))), some (.inl (0)), some (.inl (1)), some (.inl (((k : Nat) : Int) + (1)))]) (st' := []) (h' := hI A) rfl ?_
    have e : ((k : Nat) : Int) + (1) = ((k + 1 : Nat) : Int) := by omega
    rw [e]
    exact ih (k + 1) (by omega) A
set_option maxRecDepth 100000 in
set_option maxHeartbeats 8000000 in
theorem cp_3 {Q : Option av_V → av_H → Prop} (hend : ∀ A, av_wp none cd_213 381 [some (.inr (.inr (.inl (some 77)))), some (.inl (0)), some (.inl (1)), some (.inl (576))] [] (hI A) Q) : ∀ (m k : Nat), k + m = 576 → ∀ A, av_wp none cd_213 320 [some (.inr (.inr (.inl (some 77)))), some (.inl (0)), some (.inl (1)), some (.inl ((k : Nat) : Int))] [] (hI A) Q := by
  intro m
  induction m with
  | zero =>
    intro k hk A
    have hk : k = 576 := by omega
    subst hk
    refine av_wp_seq 3 (pc' := 381) (lv' := [some (.inr (.inr (.inl (some 77)))), some (.inl (0)), some (.inl (1)), some (.inl (((576 : Nat)) : Int))]) (st' := []) (h' := hI A) rfl ?_
    exact hend A
  | succ m ih =>
    intro k hk A
    refine av_wp_seq 3 (pc' := (if av_cmp .ge (av_w ((k : Nat) : Int)) (av_w (576)) = true then 381 else 327)) (lv' := [some (.inr (.inr (.inl (some 77)))), some (.inl (0)), some (.inl (1)), some (.inl ((k : Nat) : Int))]) (st' := []) (h' := hI A) rfl ?_
    rw [if_neg (av_nge (x := ((k : Nat) : Int)) (y := 576) (by omega) (by omega) (by omega))]
    refine av_wp_seq 14 (pc' := 349) (lv' := [some (.inr (.inr (.inl (some 77)))), some (.inl (0)), some (.inl (1)), some (.inl ((k : Nat) : Int))]) (st' := [.inl ((0) + ((k : Nat) : Int)), .inr (.inr (.inl (some 91))), .inl ((576) + ((k : Nat) : Int)), .inr (.inr (.inl (some 91)))]) (h' := hI A) rfl ?_
    refine hI_iald (n := 2880) rfl (Nat.le_of_ble_eq_true rfl) rfl (av_inB_of (by omega) (by omega) (by omega)) (fun v1 => ?_)
    show av_wp none cd_213 350 [some (.inr (.inr (.inl (some 77)))), some (.inl (0)), some (.inl (1)), some (.inl ((k : Nat) : Int))] [.inl v1, .inl ((576) + ((k : Nat) : Int)), .inr (.inr (.inl (some 91)))] (hI A) Q
    refine hI_iast (n := 2880) rfl (Nat.le_of_ble_eq_true rfl) rfl (av_inB_of (by omega) (by omega) (by omega)) (fun A => ?_)
    show av_wp none cd_213 351 [some (.inr (.inr (.inl (some 77)))), some (.inl (0)), some (.inl (1)), some (.inl ((k : Nat) : Int))] [] (hI A) Q
    refine av_wp_seq 14 (pc' := 373) (lv' := [some (.inr (.inr (.inl (some 77)))), some (.inl (0)), some (.inl (1)), some (.inl ((k : Nat) : Int))]) (st' := [.inl ((0) + ((k : Nat) : Int)), .inr (.inr (.inl (some 92))), .inl ((576) + ((k : Nat) : Int)), .inr (.inr (.inl (some 92)))]) (h' := hI A) rfl ?_
    refine hI_iald (n := 2880) rfl (Nat.le_of_ble_eq_true rfl) rfl (av_inB_of (by omega) (by omega) (by omega)) (fun v2 => ?_)
    show av_wp none cd_213 374 [some (.inr (.inr (.inl (some 77)))), some (.inl (0)), some (.inl (1)), some (.inl ((k : Nat) : Int))] [.inl v2, .inl ((576) + ((k : Nat) : Int)), .inr (.inr (.inl (some 92)))] (hI A) Q
    refine hI_iast (n := 2880) rfl (Nat.le_of_ble_eq_true rfl) rfl (av_inB_of (by omega) (by omega) (by omega)) (fun A => ?_)
    show av_wp none cd_213 375 [some (.inr (.inr (.inl (some 77)))), some (.inl (0)), some (.inl (1)), some (.inl ((k : Nat) : Int))] [] (hI A) Q
    refine av_wp_seq 1 (pc' := 378) (lv' := [some (.inr (.inr (.inl (some 77)))), some (.inl (0)), some (.inl (1)), some (.inl (((k : Nat) : Int) + (1)))]) (st' := []) (h' := hI A) rfl ?_
    refine av_wp_seq 1 (pc' := 320) (lv' := [some (.inr (.inr (.inl (some 77)))), some (.inl (0)), some (.inl (1)), some (.inl (((k : Nat) : Int) + (1)))]) (st' := []) (h' := hI A) rfl ?_
    have e : ((k : Nat) : Int) + (1) = ((k + 1 : Nat) : Int) := by omega
    rw [e]
    exact ih (k + 1) (by omega) A
set_option maxRecDepth 100000 in
set_option maxHeartbeats 8000000 in
theorem cp_4 {Q : Option av_V → av_H → Prop} (hend : ∀ A, av_wp none cd_213 420 [some (.inr (.inr (.inl (some 77)))), some (.inl (0)), some (.inl (1)), some (.inl (196))] [] (hI A) Q) : ∀ (m k : Nat), k + m = 196 → ∀ A, av_wp none cd_213 383 [some (.inr (.inr (.inl (some 77)))), some (.inl (0)), some (.inl (1)), some (.inl ((k : Nat) : Int))] [] (hI A) Q := by
  intro m
  induction m with
  | zero =>
    intro k hk A
    have hk : k = 196 := by omega
    subst hk
    refine av_wp_seq 3 (pc' := 420) (lv' := [some (.inr (.inr (.inl (some 77)))), some (.inl (0)), some (.inl (1)), some (.inl (((196 : Nat)) : Int))]) (st' := []) (h' := hI A) rfl ?_
    exact hend A
  | succ m ih =>
    intro k hk A
    refine av_wp_seq 3 (pc' := (if av_cmp .ge (av_w ((k : Nat) : Int)) (av_w (196)) = true then 420 else 390)) (lv' := [some (.inr (.inr (.inl (some 77)))), some (.inl (0)), some (.inl (1)), some (.inl ((k : Nat) : Int))]) (st' := []) (h' := hI A) rfl ?_
    rw [if_neg (av_nge (x := ((k : Nat) : Int)) (y := 196) (by omega) (by omega) (by omega))]
    refine av_wp_seq 14 (pc' := 412) (lv' := [some (.inr (.inr (.inl (some 77)))), some (.inl (0)), some (.inl (1)), some (.inl ((k : Nat) : Int))]) (st' := [.inl ((0) + ((k : Nat) : Int)), .inr (.inr (.inl (some 93))), .inl ((196) + ((k : Nat) : Int)), .inr (.inr (.inl (some 93)))]) (h' := hI A) rfl ?_
    refine hI_iald (n := 980) rfl (Nat.le_of_ble_eq_true rfl) rfl (av_inB_of (by omega) (by omega) (by omega)) (fun v1 => ?_)
    show av_wp none cd_213 413 [some (.inr (.inr (.inl (some 77)))), some (.inl (0)), some (.inl (1)), some (.inl ((k : Nat) : Int))] [.inl v1, .inl ((196) + ((k : Nat) : Int)), .inr (.inr (.inl (some 93)))] (hI A) Q
    refine hI_iast (n := 980) rfl (Nat.le_of_ble_eq_true rfl) rfl (av_inB_of (by omega) (by omega) (by omega)) (fun A => ?_)
    show av_wp none cd_213 414 [some (.inr (.inr (.inl (some 77)))), some (.inl (0)), some (.inl (1)), some (.inl ((k : Nat) : Int))] [] (hI A) Q
    refine av_wp_seq 1 (pc' := 417) (lv' := [some (.inr (.inr (.inl (some 77)))), some (.inl (0)), some (.inl (1)), some (.inl (((k : Nat) : Int) + (1)))]) (st' := []) (h' := hI A) rfl ?_
    refine av_wp_seq 1 (pc' := 383) (lv' := [some (.inr (.inr (.inl (some 77)))), some (.inl (0)), some (.inl (1)), some (.inl (((k : Nat) : Int) + (1)))]) (st' := []) (h' := hI A) rfl ?_
    have e : ((k : Nat) : Int) + (1) = ((k + 1 : Nat) : Int) := by omega
    rw [e]
    exact ih (k + 1) (by omega) A
set_option maxRecDepth 100000 in
set_option maxHeartbeats 8000000 in
theorem cp_all {Q : Option av_V → av_H → Prop} (hq : ∀ A, Q none (hI A)) (A : Nat → Nat → Int) : av_wp none cd_213 0 [some (.inr (.inr (.inl (some 77)))), some (.inl (0)), some (.inl (1)), none] [] (hI A) Q := by
  refine av_wp_seq 6 (pc' := 10) (lv' := [some (.inr (.inr (.inl (some 77)))), some (.inl (0)), some (.inl (1)), none]) (st' := [.inl (0), .inr (.inr (.inl (some 78))), .inl (1), .inr (.inr (.inl (some 78)))]) (h' := hI A) rfl ?_
  refine hI_iald (n := 5) rfl (Nat.le_of_ble_eq_true rfl) rfl (av_inB_of (by omega) (by omega) (by omega)) (fun v1 => ?_)
  show av_wp none cd_213 11 [some (.inr (.inr (.inl (some 77)))), some (.inl (0)), some (.inl (1)), none] [.inl v1, .inl (1), .inr (.inr (.inl (some 78)))] (hI A) Q
  refine hI_iast (n := 5) rfl (Nat.le_of_ble_eq_true rfl) rfl (av_inB_of (by omega) (by omega) (by omega)) (fun A => ?_)
  show av_wp none cd_213 12 [some (.inr (.inr (.inl (some 77)))), some (.inl (0)), some (.inl (1)), none] [] (hI A) Q
  refine av_wp_seq 6 (pc' := 22) (lv' := [some (.inr (.inr (.inl (some 77)))), some (.inl (0)), some (.inl (1)), none]) (st' := [.inl (0), .inr (.inr (.inl (some 79))), .inl (1), .inr (.inr (.inl (some 79)))]) (h' := hI A) rfl ?_
  refine hI_iald (n := 5) rfl (Nat.le_of_ble_eq_true rfl) rfl (av_inB_of (by omega) (by omega) (by omega)) (fun v2 => ?_)
  show av_wp none cd_213 23 [some (.inr (.inr (.inl (some 77)))), some (.inl (0)), some (.inl (1)), none] [.inl v2, .inl (1), .inr (.inr (.inl (some 79)))] (hI A) Q
  refine hI_iast (n := 5) rfl (Nat.le_of_ble_eq_true rfl) rfl (av_inB_of (by omega) (by omega) (by omega)) (fun A => ?_)
  show av_wp none cd_213 24 [some (.inr (.inr (.inl (some 77)))), some (.inl (0)), some (.inl (1)), none] [] (hI A) Q
  refine av_wp_seq 6 (pc' := 34) (lv' := [some (.inr (.inr (.inl (some 77)))), some (.inl (0)), some (.inl (1)), none]) (st' := [.inl (0), .inr (.inr (.inl (some 80))), .inl (1), .inr (.inr (.inl (some 80)))]) (h' := hI A) rfl ?_
  refine hI_iald (n := 5) rfl (Nat.le_of_ble_eq_true rfl) rfl (av_inB_of (by omega) (by omega) (by omega)) (fun v3 => ?_)
  show av_wp none cd_213 35 [some (.inr (.inr (.inl (some 77)))), some (.inl (0)), some (.inl (1)), none] [.inl v3, .inl (1), .inr (.inr (.inl (some 80)))] (hI A) Q
  refine hI_iast (n := 5) rfl (Nat.le_of_ble_eq_true rfl) rfl (av_inB_of (by omega) (by omega) (by omega)) (fun A => ?_)
  show av_wp none cd_213 36 [some (.inr (.inr (.inl (some 77)))), some (.inl (0)), some (.inl (1)), none] [] (hI A) Q
  refine av_wp_seq 2 (pc' := 38) (lv' := [some (.inr (.inr (.inl (some 77)))), some (.inl (0)), some (.inl (1)), some (.inl (0))]) (st' := []) (h' := hI A) rfl ?_
  refine cp_0 (fun A => ?_) 16 0 rfl A
  refine av_wp_seq 2 (pc' := 74) (lv' := [some (.inr (.inr (.inl (some 77)))), some (.inl (0)), some (.inl (1)), some (.inl (0))]) (st' := []) (h' := hI A) rfl ?_
  refine cp_1 (fun A => ?_) 192 0 rfl A
  refine av_wp_seq 2 (pc' := 281) (lv' := [some (.inr (.inr (.inl (some 77)))), some (.inl (0)), some (.inl (1)), some (.inl (0))]) (st' := []) (h' := hI A) rfl ?_
  refine cp_2 (fun A => ?_) 960 0 rfl A
  refine av_wp_seq 2 (pc' := 320) (lv' := [some (.inr (.inr (.inl (some 77)))), some (.inl (0)), some (.inl (1)), some (.inl (0))]) (st' := []) (h' := hI A) rfl ?_
  refine cp_3 (fun A => ?_) 576 0 rfl A
  refine av_wp_seq 2 (pc' := 383) (lv' := [some (.inr (.inr (.inl (some 77)))), some (.inl (0)), some (.inl (1)), some (.inl (0))]) (st' := []) (h' := hI A) rfl ?_
  refine cp_4 (fun A => ?_) 196 0 rfl A
  exact av_wp_ret (v := none) rfl rfl rfl (hq A)
set_option maxRecDepth 100000 in
set_option maxHeartbeats 8000000 in
theorem p1_op25 {f : Nat → Int} (hw : ∀ j, av_w (f j) = f j) (hf : ∀ j, -2147483648 ≤ f j ∧ f j ≤ 2147483647) {sc : av_Sr} (hsc : sc = some (6, f)) : av_wp sc cd_L 33 [some (.inr (.inr (.inr 100))), some (.inr (.inr (.inl (some 0)))), some (.inr (.inr (.inl (some 77)))), some (.inl (0))] [.inl 25] av_h3 (fun v h' => v = some (.inl 1) ∧ h'.1 ≤ 600000 ∧ h'.2.1 ≤ 7302250) := by
  subst hsc
  refine av_wp_st1 lk_L_33 (pc' := 1225) (lv' := [some (.inr (.inr (.inr 100))), some (.inr (.inr (.inl (some 0)))), some (.inr (.inr (.inl (some 77)))), some (.inl (0))]) (st' := []) (h' := av_h3) rfl rfl ?_
  refine av_wp_st1 lk_L_1225 (pc' := 1226) (lv' := [some (.inr (.inr (.inr 100))), some (.inr (.inr (.inl (some 0)))), some (.inr (.inr (.inl (some 77)))), some (.inl (0))]) (st' := [.inr (.inr (.inl (some 0)))]) (h' := av_h3) rfl rfl ?_
  refine av_wp_ck (av_qc (.invokevirtual 119) 123 0 0 7) 2 cd_123 [.inr (.inr (.inl (some 0)))] [] [some (.inr (.inr (.inl (some 0)))), none] lk_L_1226 rfl pp_123 rfl (Nat.le_of_ble_eq_true rfl) rfl ?_
  refine av_wp_cl 4000 _ _ av_hI1_ok ?_
  show av_wp (some (6, f)) cd_L 1229 [some (.inr (.inr (.inr 100))), some (.inr (.inr (.inl (some 0)))), some (.inr (.inr (.inl (some 77)))), some (.inl (0))] [.inl (0)] (hI av_hI1.2.2.2.1) _
  refine av_wp_st1 lk_L_1229 (pc' := 1230) (lv' := [some (.inr (.inr (.inr 100))), some (.inr (.inr (.inl (some 0)))), some (.inr (.inr (.inl (some 77)))), some (.inl (0))]) (st' := [.inr (.inr (.inl (some 77))), .inl (0)]) (h' := (hI av_hI1.2.2.2.1)) rfl rfl ?_
  refine av_wp_ck (av_qc (.invokevirtual 122) 214 0 0 8) 1 cd_214 [.inr (.inr (.inl (some 77)))] [.inl (0)] [some (.inr (.inr (.inl (some 77))))] lk_L_1230 rfl pp_214 rfl (Nat.le_of_ble_eq_true rfl) rfl ?_
  refine av_wp_seq 10 (pc' := 18) (lv' := [some (.inr (.inr (.inl (some 77))))]) (st' := [.inl (1), .inl (0), .inr (.inr (.inl (some 77)))]) (h' := (hI av_hI1.2.2.2.1)) rfl ?_
  refine av_wp_ck (av_qc (.invokevirtual 485) 213 2 0 8) 4 cd_213 [.inr (.inr (.inl (some 77))), .inl (0), .inl (1)] [] [some (.inr (.inr (.inl (some 77)))), some (.inl (0)), some (.inl (1)), none] rfl rfl pp_213 rfl (Nat.le_of_ble_eq_true rfl) rfl ?_
  refine cp_all (fun A => ?_) _
  show av_wp none cd_214 21 [some (.inr (.inr (.inl (some 77))))] [] (hI A) _
  refine av_wp_seq 10 (pc' := 37) (lv' := [some (.inr (.inr (.inl (some 77))))]) (st' := [.inl (0)]) (h' := ((hI A).1, (hI A).2.1, (hI A).2.2.1, (hI A).2.2.2.1, (av_u2 (hI A).2.2.2.2.1 77 62 (1)), (hI A).2.2.2.2.2.1, (hI A).2.2.2.2.2.2.1, ())) rfl ?_
  refine av_wp_ret (v := (some (.inl (0)))) rfl rfl rfl ?_
  show av_wp (some (6, f)) cd_L 1233 [some (.inr (.inr (.inr 100))), some (.inr (.inr (.inl (some 0)))), some (.inr (.inr (.inl (some 77)))), some (.inl (0))] [.inl (0), .inl (0)] ((hI A).1, (hI A).2.1, (hI A).2.2.1, (hI A).2.2.2.1, (av_u2 (hI A).2.2.2.2.1 77 62 (1)), (hI A).2.2.2.2.2.1, (hI A).2.2.2.2.2.2.1, ()) _
  refine av_wp_st1 lk_L_1233 (pc' := 1284) (lv' := [some (.inr (.inr (.inr 100))), some (.inr (.inr (.inl (some 0)))), some (.inr (.inr (.inl (some 77)))), some (.inl (0))]) (st' := []) (h' := ((hI A).1, (hI A).2.1, (hI A).2.2.1, (hI A).2.2.2.1, (av_u2 (hI A).2.2.2.2.1 77 62 (1)), (hI A).2.2.2.2.2.1, (hI A).2.2.2.2.2.2.1, ())) rfl rfl ?_
  refine av_wp_st1 lk_L_1284 (pc' := 1287) (lv' := [some (.inr (.inr (.inr 100))), some (.inr (.inr (.inl (some 0)))), some (.inr (.inr (.inl (some 77)))), some (.inl (6))]) (st' := []) (h' := ((hI A).1, (hI A).2.1, (hI A).2.2.1, (hI A).2.2.2.1, (av_u2 (hI A).2.2.2.2.1 77 62 (1)), (hI A).2.2.2.2.2.1, (hI A).2.2.2.2.2.2.1, ())) rfl rfl ?_
  refine av_wp_st1 lk_L_1287 (pc' := 18) (lv' := [some (.inr (.inr (.inr 100))), some (.inr (.inr (.inl (some 0)))), some (.inr (.inr (.inl (some 77)))), some (.inl (6))]) (st' := []) (h' := ((hI A).1, (hI A).2.1, (hI A).2.2.1, (hI A).2.2.2.1, (av_u2 (hI A).2.2.2.2.1 77 62 (1)), (hI A).2.2.2.2.2.1, (hI A).2.2.2.2.2.2.1, ())) rfl rfl ?_
  refine av_wp_st1 lk_L_18 (pc' := 19) (lv' := [some (.inr (.inr (.inr 100))), some (.inr (.inr (.inl (some 0)))), some (.inr (.inr (.inl (some 77)))), some (.inl (6))]) (st' := [.inl (6)]) (h' := ((hI A).1, (hI A).2.1, (hI A).2.2.1, (hI A).2.2.2.1, (av_u2 (hI A).2.2.2.2.1 77 62 (1)), (hI A).2.2.2.2.2.1, (hI A).2.2.2.2.2.2.1, ())) rfl rfl ?_
  refine av_wp_st1 lk_L_19 (pc' := 20) (lv' := [some (.inr (.inr (.inr 100))), some (.inr (.inr (.inl (some 0)))), some (.inr (.inr (.inl (some 77)))), some (.inl (6))]) (st' := [.inr (.inr (.inr 100)), .inl (6)]) (h' := ((hI A).1, (hI A).2.1, (hI A).2.2.1, (hI A).2.2.2.1, (av_u2 (hI A).2.2.2.2.1 77 62 (1)), (hI A).2.2.2.2.2.1, (hI A).2.2.2.2.2.2.1, ())) rfl rfl ?_
  refine av_wp_st1 lk_L_20 (pc' := 21) (lv' := [some (.inr (.inr (.inr 100))), some (.inr (.inr (.inl (some 0)))), some (.inr (.inr (.inl (some 77)))), some (.inl (6))]) (st' := [.inl (6), .inl (6)]) (h' := ((hI A).1, (hI A).2.1, (hI A).2.2.1, (hI A).2.2.2.1, (av_u2 (hI A).2.2.2.2.1 77 62 (1)), (hI A).2.2.2.2.2.1, (hI A).2.2.2.2.2.2.1, ())) rfl rfl ?_
  refine av_wp_st1 lk_L_21 (pc' := 23) (lv' := [some (.inr (.inr (.inr 100))), some (.inr (.inr (.inl (some 0)))), some (.inr (.inr (.inl (some 77)))), some (.inl (6))]) (st' := [.inl (6), .inl (6), .inl (6)]) (h' := ((hI A).1, (hI A).2.1, (hI A).2.2.1, (hI A).2.2.2.1, (av_u2 (hI A).2.2.2.2.1 77 62 (1)), (hI A).2.2.2.2.2.1, (hI A).2.2.2.2.2.2.1, ())) rfl rfl ?_
  refine av_wp_st1 lk_L_23 (pc' := 24) (lv' := [some (.inr (.inr (.inr 100))), some (.inr (.inr (.inl (some 0)))), some (.inr (.inr (.inl (some 77)))), some (.inl (6))]) (st' := [.inl (0), .inl (6)]) (h' := ((hI A).1, (hI A).2.1, (hI A).2.2.1, (hI A).2.2.2.1, (av_u2 (hI A).2.2.2.2.1 77 62 (1)), (hI A).2.2.2.2.2.1, (hI A).2.2.2.2.2.2.1, ())) rfl rfl ?_
  refine av_wp_st1 lk_L_24 (pc' := 1290) (lv' := [some (.inr (.inr (.inr 100))), some (.inr (.inr (.inl (some 0)))), some (.inr (.inr (.inl (some 77)))), some (.inl (6))]) (st' := []) (h' := ((hI A).1, (hI A).2.1, (hI A).2.2.1, (hI A).2.2.2.1, (av_u2 (hI A).2.2.2.2.1 77 62 (1)), (hI A).2.2.2.2.2.1, (hI A).2.2.2.2.2.2.1, ())) rfl rfl ?_
  refine av_wp_st1 lk_L_1290 (pc' := 1291) (lv' := [some (.inr (.inr (.inr 100))), some (.inr (.inr (.inl (some 0)))), some (.inr (.inr (.inl (some 77)))), some (.inl (6))]) (st' := [.inl (1)]) (h' := ((hI A).1, (hI A).2.1, (hI A).2.2.1, (hI A).2.2.2.1, (av_u2 (hI A).2.2.2.2.1 77 62 (1)), (hI A).2.2.2.2.2.1, (hI A).2.2.2.2.2.2.1, ())) rfl rfl ?_
  refine av_wp_ret (v := (some (.inl (1)))) lk_L_1291 rfl rfl ?_
  exact ⟨rfl, Nat.le_of_ble_eq_true rfl, Nat.le_of_ble_eq_true rfl⟩
