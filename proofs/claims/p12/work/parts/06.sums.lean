/-! ONE STEP: sums, jumps, the stack -/
section AVA
variable {p : Program} {l : Launch} {e : Env} {R : Room} {s : State} {m : MethodId} {args : Array Value} {below : List Frame} {meth : Method} {c : Code} {Q : State → Prop}
variable {a0 : Array Value} {s0 : State} {D : va_G} {TY : Nat → ClassId} {kr : Nat → Nat} {sc : av_Sr} {own nL : Nat} {cc : ByteArray} {ini : Bool} {h0 hf h h' : av_H} {pc pc' : Nat} {lv lv' : av_L} {st st' : List av_V}

theorem av_s_iadd (C : av_Cx p R s m meth c a0 s0 D TY own nL cc ini h0 hf) (hd : decode cc pc = .ok (.iadd, 1)) (hs : av_bin (fun x y => x + y) pc lv st h = some (pc', lv', st', h')) (k : av_W p l e R s m args below meth c Q s0 D TY kr sc nL h0 pc' lv' st' h') : av_W p l e R s m args below meth c Q s0 D TY kr sc nL h0 pc lv st h := by
  intro H locs ls hR hl hL h1 h2
  unfold av_bin at hs
  split at hs
  · next y x r =>
    cases hs
    have kk := k H locs ls hR hl hL h1 h2
    refine lv_iadd C.1 C.2.1 hd (lv_topi (fun v hv => ?_))
    have hv : v = Int32.ofInt ((fun x y => x + y) x y) := hv.trans (((Int32.ofInt_add x y).symm).symm).symm
    subst hv
    exact kk
  · cases hs
theorem av_s_isub (C : av_Cx p R s m meth c a0 s0 D TY own nL cc ini h0 hf) (hd : decode cc pc = .ok (.isub, 1)) (hs : av_bin (fun x y => x - y) pc lv st h = some (pc', lv', st', h')) (k : av_W p l e R s m args below meth c Q s0 D TY kr sc nL h0 pc' lv' st' h') : av_W p l e R s m args below meth c Q s0 D TY kr sc nL h0 pc lv st h := by
  intro H locs ls hR hl hL h1 h2
  unfold av_bin at hs
  split at hs
  · next y x r =>
    cases hs
    have kk := k H locs ls hR hl hL h1 h2
    refine lv_isub C.1 C.2.1 hd (lv_topi (fun v hv => ?_))
    have hv : v = Int32.ofInt ((fun x y => x - y) x y) := hv.trans (((Int32.ofInt_sub x y).symm).symm).symm
    subst hv
    exact kk
  · cases hs
theorem av_s_imul (C : av_Cx p R s m meth c a0 s0 D TY own nL cc ini h0 hf) (hd : decode cc pc = .ok (.imul, 1)) (hs : av_bin (fun x y => x * y) pc lv st h = some (pc', lv', st', h')) (k : av_W p l e R s m args below meth c Q s0 D TY kr sc nL h0 pc' lv' st' h') : av_W p l e R s m args below meth c Q s0 D TY kr sc nL h0 pc lv st h := by
  intro H locs ls hR hl hL h1 h2
  unfold av_bin at hs
  split at hs
  · next y x r =>
    cases hs
    have kk := k H locs ls hR hl hL h1 h2
    refine lv_imul C.1 C.2.1 hd (lv_topi (fun v hv => ?_))
    have hv : v = Int32.ofInt ((fun x y => x * y) x y) := hv.trans (((Int32.ofInt_mul x y).symm).symm).symm
    subst hv
    exact kk
  · cases hs
theorem av_s_iand (C : av_Cx p R s m meth c a0 s0 D TY own nL cc ini h0 hf) (hd : decode cc pc = .ok (.iand, 1)) (hs : av_bin av_and pc lv st h = some (pc', lv', st', h')) (k : av_W p l e R s m args below meth c Q s0 D TY kr sc nL h0 pc' lv' st' h') : av_W p l e R s m args below meth c Q s0 D TY kr sc nL h0 pc lv st h := by
  intro H locs ls hR hl hL h1 h2
  unfold av_bin at hs
  split at hs
  · next y x r =>
    cases hs
    have kk := k H locs ls hR hl hL h1 h2
    refine lv_iand C.1 C.2.1 hd (lv_topi (fun v hv => ?_))
    have hv : v = Int32.ofInt (av_and x y) := hv.trans (((Int32.ofInt_toInt _).symm).symm).symm
    subst hv
    exact kk
  · cases hs
theorem av_s_ior (C : av_Cx p R s m meth c a0 s0 D TY own nL cc ini h0 hf) (hd : decode cc pc = .ok (.ior, 1)) (hs : av_bin av_or pc lv st h = some (pc', lv', st', h')) (k : av_W p l e R s m args below meth c Q s0 D TY kr sc nL h0 pc' lv' st' h') : av_W p l e R s m args below meth c Q s0 D TY kr sc nL h0 pc lv st h := by
  intro H locs ls hR hl hL h1 h2
  unfold av_bin at hs
  split at hs
  · next y x r =>
    cases hs
    have kk := k H locs ls hR hl hL h1 h2
    refine lv_ior C.1 C.2.1 hd (lv_topi (fun v hv => ?_))
    have hv : v = Int32.ofInt (av_or x y) := hv.trans (((Int32.ofInt_toInt _).symm).symm).symm
    subst hv
    exact kk
  · cases hs
theorem av_s_ishl (C : av_Cx p R s m meth c a0 s0 D TY own nL cc ini h0 hf) (hd : decode cc pc = .ok (.ishl, 1)) (hs : av_bin av_shl pc lv st h = some (pc', lv', st', h')) (k : av_W p l e R s m args below meth c Q s0 D TY kr sc nL h0 pc' lv' st' h') : av_W p l e R s m args below meth c Q s0 D TY kr sc nL h0 pc lv st h := by
  intro H locs ls hR hl hL h1 h2
  unfold av_bin at hs
  split at hs
  · next y x r =>
    cases hs
    have kk := k H locs ls hR hl hL h1 h2
    refine lv_ishl C.1 C.2.1 hd (lv_topi (fun v hv => ?_))
    have hv : v = Int32.ofInt (av_shl x y) := hv.trans (((Int32.ofInt_toInt _).symm).symm).symm
    subst hv
    exact kk
  · cases hs
theorem av_s_ishr (C : av_Cx p R s m meth c a0 s0 D TY own nL cc ini h0 hf) (hd : decode cc pc = .ok (.ishr, 1)) (hs : av_bin av_shr pc lv st h = some (pc', lv', st', h')) (k : av_W p l e R s m args below meth c Q s0 D TY kr sc nL h0 pc' lv' st' h') : av_W p l e R s m args below meth c Q s0 D TY kr sc nL h0 pc lv st h := by
  intro H locs ls hR hl hL h1 h2
  unfold av_bin at hs
  split at hs
  · next y x r =>
    cases hs
    have kk := k H locs ls hR hl hL h1 h2
    refine lv_ishr C.1 C.2.1 hd (lv_topi (fun v hv => ?_))
    have hv : v = Int32.ofInt (av_shr x y) := hv.trans (((Int32.ofInt_toInt _).symm).symm).symm
    subst hv
    exact kk
  · cases hs
theorem av_s_iushr (C : av_Cx p R s m meth c a0 s0 D TY own nL cc ini h0 hf) (hd : decode cc pc = .ok (.iushr, 1)) (hs : av_bin av_ushr pc lv st h = some (pc', lv', st', h')) (k : av_W p l e R s m args below meth c Q s0 D TY kr sc nL h0 pc' lv' st' h') : av_W p l e R s m args below meth c Q s0 D TY kr sc nL h0 pc lv st h := by
  intro H locs ls hR hl hL h1 h2
  unfold av_bin at hs
  split at hs
  · next y x r =>
    cases hs
    have kk := k H locs ls hR hl hL h1 h2
    exact lv_iushr C.1 C.2.1 hd (v := Int32.ofInt (av_ushr x y)) (Int32.ofInt_toInt _).symm kk
  · cases hs
theorem av_s_idiv {x y : Int} {r : List av_V} (C : av_Cx p R s m meth c a0 s0 D TY own nL cc ini h0 hf) (hd : decode cc pc = .ok (.idiv, 1)) (hy : ¬ av_w y = 0) (k : av_W p l e R s m args below meth c Q s0 D TY kr sc nL h0 (pc + 1) lv (.inl ((av_w x).tdiv (av_w y)) :: r) h) : av_W p l e R s m args below meth c Q s0 D TY kr sc nL h0 pc lv (.inl y :: .inl x :: r) h := by
  intro H locs ls hR hl hL h1 h2
  have kk := k H locs ls hR hl hL h1 h2
  refine lv_idiv C.1 C.2.1 hd (fun q => hy ?_) (lv_topi (fun v hv => ?_))
  · have := (av_eq y 0).mp q
    exact this
  · have hv : v = Int32.ofInt ((av_w x).tdiv (av_w y)) := hv.trans (av_tdiv x y).symm
    subst hv
    exact kk
theorem av_s_irem {x y : Int} {r : List av_V} (C : av_Cx p R s m meth c a0 s0 D TY own nL cc ini h0 hf) (hd : decode cc pc = .ok (.irem, 1)) (hy : ¬ av_w y = 0) (k : av_W p l e R s m args below meth c Q s0 D TY kr sc nL h0 (pc + 1) lv (.inl ((av_w x).tmod (av_w y)) :: r) h) : av_W p l e R s m args below meth c Q s0 D TY kr sc nL h0 pc lv (.inl y :: .inl x :: r) h := by
  intro H locs ls hR hl hL h1 h2
  have kk := k H locs ls hR hl hL h1 h2
  refine lv_irem C.1 C.2.1 hd (fun q => hy ?_) (lv_topi (fun v hv => ?_))
  · have := (av_eq y 0).mp q
    exact this
  · have hv : v = Int32.ofInt ((av_w x).tmod (av_w y)) := hv.trans (av_tmod x y).symm
    subst hv
    exact kk
theorem av_s_ladd {x y : Int} {r : List av_V} (C : av_Cx p R s m meth c a0 s0 D TY own nL cc ini h0 hf) (hd : decode cc pc = .ok (.ladd, 1)) (k : av_W p l e R s m args below meth c Q s0 D TY kr sc nL h0 (pc + 1) lv (.inr (.inl (x + y)) :: r) h) : av_W p l e R s m args below meth c Q s0 D TY kr sc nL h0 pc lv (.inr (.inl y) :: .inr (.inl x) :: r) h := by
  intro H locs ls hR hl hL h1 h2
  have kk := k H locs ls hR hl hL h1 h2
  refine lv_ladd C.1 C.2.1 hd (lv_topl (fun v hv => ?_))
  have hv : v = Int64.ofInt (x + y) := hv.trans (Int64.ofInt_add x y).symm
  subst hv
  exact kk
theorem av_s_lmul {x y : Int} {r : List av_V} (C : av_Cx p R s m meth c a0 s0 D TY own nL cc ini h0 hf) (hd : decode cc pc = .ok (.lmul, 1)) (k : av_W p l e R s m args below meth c Q s0 D TY kr sc nL h0 (pc + 1) lv (.inr (.inl (x * y)) :: r) h) : av_W p l e R s m args below meth c Q s0 D TY kr sc nL h0 pc lv (.inr (.inl y) :: .inr (.inl x) :: r) h := by
  intro H locs ls hR hl hL h1 h2
  have kk := k H locs ls hR hl hL h1 h2
  refine lv_lmul C.1 C.2.1 hd (lv_topl (fun v hv => ?_))
  have hv : v = Int64.ofInt (x * y) := hv.trans (Int64.ofInt_mul x y).symm
  subst hv
  exact kk
theorem av_lcmp (x y : Int) : lg_cmp (Int64.ofInt x) (Int64.ofInt y) = Int32.ofInt (if av_wl y < av_wl x then 1 else if av_wl x = av_wl y then 0 else -1) := by
  have e1 : Int64.ofInt y < Int64.ofInt x ↔ av_wl y < av_wl x := by rw [Int64.lt_iff_toInt_lt, av_wl_eq, av_wl_eq]
  have e2 : Int64.ofInt x = Int64.ofInt y ↔ av_wl x = av_wl y := by rw [← Int64.toInt_inj, av_wl_eq, av_wl_eq]
  unfold lg_cmp
  by_cases q1 : av_wl y < av_wl x
  · simp [e1, q1]
  · by_cases q2 : av_wl x = av_wl y
    · simp [e1, e2, q2]
    · simp [e1, e2, q1, q2]
theorem av_s_lcmp {x y : Int} {r : List av_V} (C : av_Cx p R s m meth c a0 s0 D TY own nL cc ini h0 hf) (hd : decode cc pc = .ok (.lcmp, 1)) (k : av_W p l e R s m args below meth c Q s0 D TY kr sc nL h0 (pc + 1) lv (.inl (if av_wl y < av_wl x then 1 else if av_wl x = av_wl y then 0 else -1) :: r) h) : av_W p l e R s m args below meth c Q s0 D TY kr sc nL h0 pc lv (.inr (.inl y) :: .inr (.inl x) :: r) h := by
  intro H locs ls hR hl hL h1 h2
  have kk := k H locs ls hR hl hL h1 h2
  refine W.lcmp C.1 C.2.1 hd (lv_topi (fun v hv => ?_))
  have hv : v = Int32.ofInt (if av_wl y < av_wl x then 1 else if av_wl x = av_wl y then 0 else -1) := hv.trans (av_lcmp x y)
  subst hv
  exact kk
theorem av_s_i2l {x : Int} {r : List av_V} (C : av_Cx p R s m meth c a0 s0 D TY own nL cc ini h0 hf) (hd : decode cc pc = .ok (.i2l, 1)) (k : av_W p l e R s m args below meth c Q s0 D TY kr sc nL h0 (pc + 1) lv (.inr (.inl (av_w x)) :: r) h) : av_W p l e R s m args below meth c Q s0 D TY kr sc nL h0 pc lv (.inl x :: r) h :=
  fun H locs ls hR hl hL h1 h2 => lv_i2l C.1 C.2.1 hd (v := Int64.ofInt (av_w x)) (by rw [← av_w_eq, ← Int64.toInt_inj, Int32.toInt_toInt64, Int64.toInt_ofInt]; exact (Int.bmod_eq_of_le (by have := Int32.le_toInt (Int32.ofInt x); simp at this ⊢; omega) (by have := Int32.toInt_lt (Int32.ofInt x); simp at this ⊢; omega)).symm) (k H locs ls hR hl hL h1 h2)
theorem av_s_l2i {x : Int} {r : List av_V} (C : av_Cx p R s m meth c a0 s0 D TY own nL cc ini h0 hf) (hd : decode cc pc = .ok (.l2i, 1)) (k : av_W p l e R s m args below meth c Q s0 D TY kr sc nL h0 (pc + 1) lv (.inl x :: r) h) : av_W p l e R s m args below meth c Q s0 D TY kr sc nL h0 pc lv (.inr (.inl x) :: r) h :=
  fun H locs ls hR hl hL h1 h2 => lv_l2i C.1 C.2.1 hd (v := Int32.ofInt x) (by rw [← Int32.toInt_inj, Int64.toInt_toInt32, Int64.toInt_ofInt, Int32.toInt_ofInt]; exact Int.bmod_bmod_of_dvd ⟨4294967296, rfl⟩) (k H locs ls hR hl hL h1 h2)
theorem av_s_i2b {x : Int} {r : List av_V} (C : av_Cx p R s m meth c a0 s0 D TY own nL cc ini h0 hf) (hd : decode cc pc = .ok (.i2b, 1)) (k : av_W p l e R s m args below meth c Q s0 D TY kr sc nL h0 (pc + 1) lv (.inl (av_b x) :: r) h) : av_W p l e R s m args below meth c Q s0 D TY kr sc nL h0 pc lv (.inl x :: r) h :=
  fun H locs ls hR hl hL h1 h2 => lv_i2b C.1 C.2.1 hd (v := Int32.ofInt (av_b x)) (av_byte x).symm (k H locs ls hR hl hL h1 h2)
theorem av_s_dup {v : av_V} {r : List av_V} (C : av_Cx p R s m meth c a0 s0 D TY own nL cc ini h0 hf) (hd : decode cc pc = .ok (.dup, 1)) (hv : av_cat v = 1) (k : av_W p l e R s m args below meth c Q s0 D TY kr sc nL h0 (pc + 1) lv (v :: v :: r) h) : av_W p l e R s m args below meth c Q s0 D TY kr sc nL h0 pc lv (v :: r) h :=
  fun H locs ls hR hl hL h1 h2 => lv_dup C.1 C.2.1 hd (by rw [av_ev_cat]; exact hv) (k H locs ls hR hl hL h1 h2)
theorem av_s_pop {v : av_V} {r : List av_V} (C : av_Cx p R s m meth c a0 s0 D TY own nL cc ini h0 hf) (hd : decode cc pc = .ok (.pop, 1)) (hv : av_cat v = 1) (k : av_W p l e R s m args below meth c Q s0 D TY kr sc nL h0 (pc + 1) lv r h) : av_W p l e R s m args below meth c Q s0 D TY kr sc nL h0 pc lv (v :: r) h :=
  fun H locs ls hR hl hL h1 h2 => lv_pop C.1 C.2.1 hd (by rw [av_ev_cat]; exact hv) (k H locs ls hR hl hL h1 h2)
theorem av_s_dup2 {v u : av_V} {r : List av_V} (C : av_Cx p R s m meth c a0 s0 D TY own nL cc ini h0 hf) (hd : decode cc pc = .ok (.dup2, 1)) (hv : av_cat v = 1) (hu : av_cat u = 1) (k : av_W p l e R s m args below meth c Q s0 D TY kr sc nL h0 (pc + 1) lv (v :: u :: v :: u :: r) h) : av_W p l e R s m args below meth c Q s0 D TY kr sc nL h0 pc lv (v :: u :: r) h :=
  fun H locs ls hR hl hL h1 h2 => lv_dup2_11 C.1 C.2.1 hd (by rw [av_ev_cat]; exact hv) (by rw [av_ev_cat]; exact hu) (k H locs ls hR hl hL h1 h2)
theorem av_s_goto {off : Int} {t : Nat} (C : av_Cx p R s m meth c a0 s0 D TY own nL cc ini h0 hf) (hd : decode cc pc = .ok (.goto off, 3)) (ht : (pc : Int) + off = (t : Int)) (k : av_W p l e R s m args below meth c Q s0 D TY kr sc nL h0 t lv st h) : av_W p l e R s m args below meth c Q s0 D TY kr sc nL h0 pc lv st h :=
  fun H locs ls hR hl hL h1 h2 => lv_goto C.1 C.2.1 hd ht (k H locs ls hR hl hL h1 h2)
theorem av_s_icmp {cd : Jvm.ClassFile.Cond} {off : Int} {t : Nat} {x y : Int} {r : List av_V} (C : av_Cx p R s m meth c a0 s0 D TY own nL cc ini h0 hf) (hd : decode cc pc = .ok (.if_icmp cd off, 3)) (ht : (pc : Int) + off = (t : Int)) (k : av_W p l e R s m args below meth c Q s0 D TY kr sc nL h0 (if av_cmp cd (av_w x) (av_w y) = true then t else pc + 3) lv r h) : av_W p l e R s m args below meth c Q s0 D TY kr sc nL h0 pc lv (.inl y :: .inl x :: r) h := by
  intro H locs ls hR hl hL h1 h2
  cases cd with
  | eq =>
    refine lv_icmp_eq C.1 C.2.1 hd ht (fun q => ?_) (fun q => ?_)
    · have hc : av_cmp .eq (av_w x) (av_w y) = true := by simpa [av_cmp, av_eq, av_lt, av_le] using q
      rw [if_pos hc] at k
      exact k H locs ls hR hl hL h1 h2
    · have hc : ¬ av_cmp .eq (av_w x) (av_w y) = true := by simpa [av_cmp, av_eq, av_lt, av_le] using q
      rw [if_neg hc] at k
      exact k H locs ls hR hl hL h1 h2
  | ne =>
    refine lv_icmp_ne C.1 C.2.1 hd ht (fun q => ?_) (fun q => ?_)
    · have hc : av_cmp .ne (av_w x) (av_w y) = true := by simpa [av_cmp, av_eq, av_lt, av_le] using q
      rw [if_pos hc] at k
      exact k H locs ls hR hl hL h1 h2
    · have hc : ¬ av_cmp .ne (av_w x) (av_w y) = true := by simpa [av_cmp, av_eq, av_lt, av_le] using q
      rw [if_neg hc] at k
      exact k H locs ls hR hl hL h1 h2
  | lt =>
    refine lv_icmp_lt C.1 C.2.1 hd ht (fun q => ?_) (fun q => ?_)
    · have hc : av_cmp .lt (av_w x) (av_w y) = true := by simpa [av_cmp, av_eq, av_lt, av_le] using q
      rw [if_pos hc] at k
      exact k H locs ls hR hl hL h1 h2
    · have hc : ¬ av_cmp .lt (av_w x) (av_w y) = true := by simpa [av_cmp, av_eq, av_lt, av_le] using q
      rw [if_neg hc] at k
      exact k H locs ls hR hl hL h1 h2
  | ge =>
    refine lv_icmp_ge C.1 C.2.1 hd ht (fun q => ?_) (fun q => ?_)
    · have hc : av_cmp .ge (av_w x) (av_w y) = true := by simpa [av_cmp, av_eq, av_lt, av_le] using q
      rw [if_pos hc] at k
      exact k H locs ls hR hl hL h1 h2
    · have hc : ¬ av_cmp .ge (av_w x) (av_w y) = true := by simpa [av_cmp, av_eq, av_lt, av_le] using q
      rw [if_neg hc] at k
      exact k H locs ls hR hl hL h1 h2
  | gt =>
    refine lv_icmp_gt C.1 C.2.1 hd ht (fun q => ?_) (fun q => ?_)
    · have hc : av_cmp .gt (av_w x) (av_w y) = true := by simpa [av_cmp, av_eq, av_lt, av_le] using q
      rw [if_pos hc] at k
      exact k H locs ls hR hl hL h1 h2
    · have hc : ¬ av_cmp .gt (av_w x) (av_w y) = true := by simpa [av_cmp, av_eq, av_lt, av_le] using q
      rw [if_neg hc] at k
      exact k H locs ls hR hl hL h1 h2
  | le =>
    refine lv_icmp_le C.1 C.2.1 hd ht (fun q => ?_) (fun q => ?_)
    · have hc : av_cmp .le (av_w x) (av_w y) = true := by simpa [av_cmp, av_eq, av_lt, av_le] using q
      rw [if_pos hc] at k
      exact k H locs ls hR hl hL h1 h2
    · have hc : ¬ av_cmp .le (av_w x) (av_w y) = true := by simpa [av_cmp, av_eq, av_lt, av_le] using q
      rw [if_neg hc] at k
      exact k H locs ls hR hl hL h1 h2
theorem av_s_if {cd : Jvm.ClassFile.Cond} {off : Int} {t : Nat} {x : Int} {r : List av_V} (C : av_Cx p R s m meth c a0 s0 D TY own nL cc ini h0 hf) (hd : decode cc pc = .ok (.ifCond cd off, 3)) (ht : (pc : Int) + off = (t : Int)) (k : av_W p l e R s m args below meth c Q s0 D TY kr sc nL h0 (if av_cmp cd (av_w x) 0 = true then t else pc + 3) lv r h) : av_W p l e R s m args below meth c Q s0 D TY kr sc nL h0 pc lv (.inl x :: r) h := by
  intro H locs ls hR hl hL h1 h2
  have e0 : Int32.ofInt x = 0 ↔ av_w x = 0 := av_eq x 0
  have e1 : Int32.ofInt x < 0 ↔ av_w x < 0 := av_lt x 0
  have e2 : Int32.ofInt x ≤ 0 ↔ av_w x ≤ 0 := av_le x 0
  have e3 : (0 : Int32) < Int32.ofInt x ↔ 0 < av_w x := av_lt 0 x
  have e4 : (0 : Int32) ≤ Int32.ofInt x ↔ 0 ≤ av_w x := av_le 0 x
  cases cd with
  | eq =>
    refine lv_if_eq C.1 C.2.1 hd ht (fun q => ?_) (fun q => ?_)
    · have hc : av_cmp .eq (av_w x) 0 = true := by simpa [av_cmp, e0, e1, e2, e3, e4] using q
      rw [if_pos hc] at k
      exact k H locs ls hR hl hL h1 h2
    · have hc : ¬ av_cmp .eq (av_w x) 0 = true := by simpa [av_cmp, e0, e1, e2, e3, e4] using q
      rw [if_neg hc] at k
      exact k H locs ls hR hl hL h1 h2
  | ne =>
    refine lv_if_ne C.1 C.2.1 hd ht (fun q => ?_) (fun q => ?_)
    · have hc : av_cmp .ne (av_w x) 0 = true := by simpa [av_cmp, e0, e1, e2, e3, e4] using q
      rw [if_pos hc] at k
      exact k H locs ls hR hl hL h1 h2
    · have hc : ¬ av_cmp .ne (av_w x) 0 = true := by simpa [av_cmp, e0, e1, e2, e3, e4] using q
      rw [if_neg hc] at k
      exact k H locs ls hR hl hL h1 h2
  | lt =>
    refine lv_if_lt C.1 C.2.1 hd ht (fun q => ?_) (fun q => ?_)
    · have hc : av_cmp .lt (av_w x) 0 = true := by simpa [av_cmp, e0, e1, e2, e3, e4] using q
      rw [if_pos hc] at k
      exact k H locs ls hR hl hL h1 h2
    · have hc : ¬ av_cmp .lt (av_w x) 0 = true := by simpa [av_cmp, e0, e1, e2, e3, e4] using q
      rw [if_neg hc] at k
      exact k H locs ls hR hl hL h1 h2
  | ge =>
    refine lv_if_ge C.1 C.2.1 hd ht (fun q => ?_) (fun q => ?_)
    · have hc : av_cmp .ge (av_w x) 0 = true := by simpa [av_cmp, e0, e1, e2, e3, e4] using q
      rw [if_pos hc] at k
      exact k H locs ls hR hl hL h1 h2
    · have hc : ¬ av_cmp .ge (av_w x) 0 = true := by simpa [av_cmp, e0, e1, e2, e3, e4] using q
      rw [if_neg hc] at k
      exact k H locs ls hR hl hL h1 h2
  | gt =>
    refine lv_if_gt C.1 C.2.1 hd ht (fun q => ?_) (fun q => ?_)
    · have hc : av_cmp .gt (av_w x) 0 = true := by simpa [av_cmp, e0, e1, e2, e3, e4] using q
      rw [if_pos hc] at k
      exact k H locs ls hR hl hL h1 h2
    · have hc : ¬ av_cmp .gt (av_w x) 0 = true := by simpa [av_cmp, e0, e1, e2, e3, e4] using q
      rw [if_neg hc] at k
      exact k H locs ls hR hl hL h1 h2
  | le =>
    refine lv_if_le C.1 C.2.1 hd ht (fun q => ?_) (fun q => ?_)
    · have hc : av_cmp .le (av_w x) 0 = true := by simpa [av_cmp, e0, e1, e2, e3, e4] using q
      rw [if_pos hc] at k
      exact k H locs ls hR hl hL h1 h2
    · have hc : ¬ av_cmp .le (av_w x) 0 = true := by simpa [av_cmp, e0, e1, e2, e3, e4] using q
      rw [if_neg hc] at k
      exact k H locs ls hR hl hL h1 h2
theorem av_s_ifnull {off : Int} {t : Nat} {v : Option Nat} {r : List av_V} (C : av_Cx p R s m meth c a0 s0 D TY own nL cc ini h0 hf) (hd : decode cc pc = .ok (.ifnull off, 3)) (ht : (pc : Int) + off = (t : Int)) (k : av_W p l e R s m args below meth c Q s0 D TY kr sc nL h0 (match v with
      | none => t
      | some _ => pc + 3) lv r h) : av_W p l e R s m args below meth c Q s0 D TY kr sc nL h0 pc lv (.inr (.inr (.inl v)) :: r) h := by
  intro H locs ls hR hl hL h1 h2
  cases v with
  | none => exact lv_ifnullN C.1 C.2.1 hd ht (k H locs ls hR hl hL h1 h2)
  | some o => exact lv_ifnull C.1 C.2.1 hd (k H locs ls hR hl hL h1 h2)
theorem av_s_ifnonnull {off : Int} {t : Nat} {v : Option Nat} {r : List av_V} (C : av_Cx p R s m meth c a0 s0 D TY own nL cc ini h0 hf) (hd : decode cc pc = .ok (.ifnonnull off, 3)) (ht : (pc : Int) + off = (t : Int)) (k : av_W p l e R s m args below meth c Q s0 D TY kr sc nL h0 (match v with
      | none => pc + 3
      | some _ => t) lv r h) : av_W p l e R s m args below meth c Q s0 D TY kr sc nL h0 pc lv (.inr (.inr (.inl v)) :: r) h := by
  intro H locs ls hR hl hL h1 h2
  cases v with
  | none => exact lv_ifnonnullN C.1 C.2.1 hd (k H locs ls hR hl hL h1 h2)
  | some o => exact lv_ifnonnull C.1 C.2.1 hd ht (k H locs ls hR hl hL h1 h2)
theorem av_s_table {d lo hi : Int} {offs : Array Int} {len : Nat} {x : Int} {r : List av_V} (C : av_Cx p R s m meth c a0 s0 D TY own nL cc ini h0 hf) (hd : decode cc pc = .ok (.tableswitch d lo hi offs, len)) (h3 : 0 ≤ (pc : Int) + d) (h4 : ∀ q ∈ offs.toList, 0 ≤ (pc : Int) + q) (h5 : hi - lo < offs.toList.length) (k : av_W p l e R s m args below meth c Q s0 D TY kr sc nL h0 ((pc : Int) + (if av_w x < lo ∨ hi < av_w x then d else offs.toList.getD (av_w x - lo).toNat 0)).toNat lv r h) : av_W p l e R s m args below meth c Q s0 D TY kr sc nL h0 pc lv (.inl x :: r) h := by
  intro H locs ls hR hl hL h1 h2
  by_cases q : av_w x < lo ∨ hi < av_w x
  · rw [if_pos q] at k
    refine lv_tableOut C.1 C.2.1 hd (by rw [av_w_eq]; exact q) (tgt := ((pc : Int) + d).toNat) ?_ (k H locs ls hR hl hL h1 h2)
    omega
  · rw [if_neg q] at k
    have hi1 : (av_w x - lo).toNat < offs.toList.length := by omega
    have e1 : offs.toList.getD (av_w x - lo).toNat 0 = offs.toList[(av_w x - lo).toNat] := by
      rw [List.getD_eq_getElem?_getD, List.getElem?_eq_getElem hi1]; rfl
    have hm : offs.toList.getD (av_w x - lo).toNat 0 ∈ offs.toList := by rw [e1]; exact List.getElem_mem hi1
    refine lv_tableIn C.1 C.2.1 hd (by rw [av_w_eq]; omega) (by rw [av_w_eq]; omega) (off := offs.toList.getD (av_w x - lo).toNat 0) ?_ (tgt := ((pc : Int) + offs.toList.getD (av_w x - lo).toNat 0).toNat) ?_ (k H locs ls hR hl hL h1 h2)
    · rw [av_w_eq, ← Array.getElem?_toList, List.getElem?_eq_getElem hi1, e1]
    · have := h4 _ hm
      omega
theorem av_s_lookup {d : Int} {ps : Array (Int × Int)} {len : Nat} {x : Int} {r : List av_V} (C : av_Cx p R s m meth c a0 s0 D TY own nL cc ini h0 hf) (hd : decode cc pc = .ok (.lookupswitch d ps, len)) (h3 : (ps.toList.zip (ps.toList.drop 1)).all (fun (a, next) => a.1 < next.1) = true) (h4 : 0 ≤ (pc : Int) + Op.lookupswitch.offset ps.toList d (av_w x)) (k : av_W p l e R s m args below meth c Q s0 D TY kr sc nL h0 ((pc : Int) + Op.lookupswitch.offset ps.toList d (av_w x)).toNat lv r h) : av_W p l e R s m args below meth c Q s0 D TY kr sc nL h0 pc lv (.inl x :: r) h :=
  fun H locs ls hR hl hL h1 h2 => lv_lookup C.1 C.2.1 hd h3 (by rw [av_w_eq]) (tgt := ((pc : Int) + Op.lookupswitch.offset ps.toList d (av_w x)).toNat) (by omega) (k H locs ls hR hl hL h1 h2)
end AVA
