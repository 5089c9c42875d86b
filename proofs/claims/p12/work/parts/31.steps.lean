/-! STEPS OVER ANY HEAP: a row a kind of instruction that looks at the heap or at unknown numbers -/
abbrev hK (h : av_H) : Nat → Nat × Nat := h.2.2.1
abbrev hA (h : av_H) : Nat → Nat → Int := h.2.2.2.1
abbrev hF (h : av_H) : Nat → Nat → Int := h.2.2.2.2.1
abbrev hG (h : av_H) : Nat → Nat → Option Nat := h.2.2.2.2.2.1
abbrev hR (h : av_H) : Nat → Nat → Option Nat := h.2.2.2.2.2.2.1
def hwA (h : av_H) (o j : Nat) (x : Int) : av_H := (h.1, h.2.1, h.2.2.1, av_u2 h.2.2.2.1 o j x, h.2.2.2.2)
def hwF (h : av_H) (o f : Nat) (x : Int) : av_H := (h.1, h.2.1, h.2.2.1, h.2.2.2.1, av_u2 h.2.2.2.2.1 o f x, h.2.2.2.2.2)
def hwG (h : av_H) (o f : Nat) (x : Option Nat) : av_H := (h.1, h.2.1, h.2.2.1, h.2.2.2.1, h.2.2.2.2.1, av_u2 h.2.2.2.2.2.1 o f x, h.2.2.2.2.2.2)
def hwR (h : av_H) (o j : Nat) (x : Option Nat) : av_H := (h.1, h.2.1, h.2.2.1, h.2.2.2.1, h.2.2.2.2.1, h.2.2.2.2.2.1, av_u2 h.2.2.2.2.2.2.1 o j x, h.2.2.2.2.2.2.2)
/-- a number of 32 bits -/
abbrev av_rg (x : Int) : Prop := -2147483648 ≤ x ∧ x < 2147483648
theorem av_rgw {x : Int} (h : av_rg x) : av_w x = x := Int.bmod_eq_of_le (by have := h.1; omega) (by have := h.2; omega)
theorem av_inO {x : Int} {n : Nat} (h : 0 ≤ x ∧ x < n ∧ (n : Int) < 2147483648) : av_inB x n = true := by
  unfold av_inB
  rw [av_rgw ⟨by omega, by omega⟩, Bool.and_eq_true]
  exact ⟨decide_eq_true h.1, decide_eq_true h.2.1⟩
theorem av_wp_st1 {sc : av_Sr} {cd : List (Nat × av_E)} {Q : Option av_V → av_H → Prop} {pc : Nat} {lv : av_L} {st : List av_V} {h : av_H} {x : av_E} (hx : cd.lookup pc = some x) {pc' : Nat} {lv' : av_L} {st' : List av_V} {h' : av_H} (hk : av_kd x = 0) (hs : av_stp sc x pc lv st h = some (pc', lv', st', h')) (hw : av_wp sc cd pc' lv' st' h' Q) : av_wp sc cd pc lv st h Q := by
  refine av_wp_seq 1 (pc' := pc') (lv' := lv') (st' := st') (h' := h') ?_ hw
  simp only [av_seq, hx, hk, if_true, hs]
theorem av_w_add {x i : Int} (h1 : -2147483648 ≤ av_w x + i) (h2 : av_w x + i < 2147483648) : av_w (x + i) = av_w x + i := by
  have e : av_w (x + i) = av_w (av_w x + i) := by
    unfold av_w
    simp
  rw [e, av_rgw ⟨h1, h2⟩]
section
variable {sc : av_Sr} {cd : List (Nat × av_E)} {Q : Option av_V → av_H → Prop} {pc p' : Nat} {lv : av_L} {r : List av_V} {h : av_H}
theorem av_ltN {o ci : Nat} (hg : av_Gd h) (hk : (hK h o).1 = ci) (hc : Nat.ble ci 98 = true) : o < h.1 := hg o (by
  have h1 := Nat.le_of_ble_eq_true hc
  have h2 : (h.2.2.1 o).1 = ci := hk
  omega)
/-- fields -/
theorem wq_gi {idx o ci f : Nat} {v : Int} (hx : cd.lookup pc = some (av_qf (.getfield idx) ci f 0)) (hp : pc + 3 = p') (hk : (hK h o).1 = ci) (hc : Nat.ble ci 98 = true) (hv : hF h o f = v) (hw : av_wp sc cd p' lv (.inl v :: r) h Q) : av_wp sc cd pc lv (.inr (.inr (.inl (some o))) :: r) h Q := by
  intro hg
  subst hp
  refine av_wp_st1 hx (pc' := pc + 3) (lv' := lv) (st' := .inl v :: r) (h' := h) rfl ?_ hw hg
  show av_getf (av_qf (.getfield idx) ci f 0) pc lv (.inr (.inr (.inl (some o))) :: r) h = _
  simp only [av_getf, av_qf]
  rw [if_pos ⟨av_ltN hg hk hc, hk⟩, ← hv]
theorem wq_gb {idx o ci f : Nat} {v : Int} (hx : cd.lookup pc = some (av_qf (.getfield idx) ci f 3)) (hp : pc + 3 = p') (hk : (hK h o).1 = ci) (hc : Nat.ble ci 98 = true) (hv : hF h o f = v) (hw : av_wp sc cd p' lv (.inl v :: r) h Q) : av_wp sc cd pc lv (.inr (.inr (.inl (some o))) :: r) h Q := by
  intro hg
  subst hp
  refine av_wp_st1 hx (pc' := pc + 3) (lv' := lv) (st' := .inl v :: r) (h' := h) rfl ?_ hw hg
  show av_getf (av_qf (.getfield idx) ci f 3) pc lv (.inr (.inr (.inl (some o))) :: r) h = _
  simp only [av_getf, av_qf]
  rw [if_pos ⟨av_ltN hg hk hc, hk⟩, ← hv]
theorem wq_gl {idx o ci f : Nat} {v : Int} (hx : cd.lookup pc = some (av_qf (.getfield idx) ci f 1)) (hp : pc + 3 = p') (hk : (hK h o).1 = ci) (hc : Nat.ble ci 98 = true) (hv : hF h o f = v) (hw : av_wp sc cd p' lv (.inr (.inl v) :: r) h Q) : av_wp sc cd pc lv (.inr (.inr (.inl (some o))) :: r) h Q := by
  intro hg
  subst hp
  refine av_wp_st1 hx (pc' := pc + 3) (lv' := lv) (st' := .inr (.inl v) :: r) (h' := h) rfl ?_ hw hg
  show av_getf (av_qf (.getfield idx) ci f 1) pc lv (.inr (.inr (.inl (some o))) :: r) h = _
  simp only [av_getf, av_qf]
  rw [if_pos ⟨av_ltN hg hk hc, hk⟩, ← hv]
theorem wq_gr {idx o ci f : Nat} {v : Option Nat} (hx : cd.lookup pc = some (av_qf (.getfield idx) ci f 2)) (hp : pc + 3 = p') (hk : (hK h o).1 = ci) (hc : Nat.ble ci 98 = true) (hv : hG h o f = v) (hw : av_wp sc cd p' lv (.inr (.inr (.inl v)) :: r) h Q) : av_wp sc cd pc lv (.inr (.inr (.inl (some o))) :: r) h Q := by
  intro hg
  subst hp
  refine av_wp_st1 hx (pc' := pc + 3) (lv' := lv) (st' := .inr (.inr (.inl v)) :: r) (h' := h) rfl ?_ hw hg
  show av_getf (av_qf (.getfield idx) ci f 2) pc lv (.inr (.inr (.inl (some o))) :: r) h = _
  simp only [av_getf, av_qf]
  rw [if_pos ⟨av_ltN hg hk hc, hk⟩, ← hv]
theorem wq_pi {idx o ci f : Nat} {v : Int} (hx : cd.lookup pc = some (av_qf (.putfield idx) ci f 0)) (hp : pc + 3 = p') (hk : (hK h o).1 = ci) (hc : Nat.ble ci 98 = true) (hw : av_wp sc cd p' lv r (hwF h o f v) Q) : av_wp sc cd pc lv (.inl v :: .inr (.inr (.inl (some o))) :: r) h Q := by
  intro hg
  subst hp
  refine av_wp_st1 hx (pc' := pc + 3) (lv' := lv) (st' := r) (h' := hwF h o f v) rfl ?_ hw hg
  show av_putf (av_qf (.putfield idx) ci f 0) pc lv (.inl v :: .inr (.inr (.inl (some o))) :: r) h = _
  exact if_pos (c := o < h.1 ∧ (h.2.2.1 o).1 = ci) ⟨av_ltN hg hk hc, hk⟩
theorem wq_pl {idx o ci f : Nat} {v : Int} (hx : cd.lookup pc = some (av_qf (.putfield idx) ci f 1)) (hp : pc + 3 = p') (hk : (hK h o).1 = ci) (hc : Nat.ble ci 98 = true) (hw : av_wp sc cd p' lv r (hwF h o f v) Q) : av_wp sc cd pc lv (.inr (.inl v) :: .inr (.inr (.inl (some o))) :: r) h Q := by
  intro hg
  subst hp
  refine av_wp_st1 hx (pc' := pc + 3) (lv' := lv) (st' := r) (h' := hwF h o f v) rfl ?_ hw hg
  show av_putf (av_qf (.putfield idx) ci f 1) pc lv (.inr (.inl v) :: .inr (.inr (.inl (some o))) :: r) h = _
  exact if_pos (c := o < h.1 ∧ (h.2.2.1 o).1 = ci) ⟨av_ltN hg hk hc, hk⟩
theorem wq_pb {idx o ci f : Nat} {v : Int} (hx : cd.lookup pc = some (av_qf (.putfield idx) ci f 3)) (hp : pc + 3 = p') (hk : (hK h o).1 = ci) (hc : Nat.ble ci 98 = true) (hv : v = 0 ∨ v = 1) (hw : av_wp sc cd p' lv r (hwF h o f v) Q) : av_wp sc cd pc lv (.inl v :: .inr (.inr (.inl (some o))) :: r) h Q := by
  intro hg
  subst hp
  refine av_wp_st1 hx (pc' := pc + 3) (lv' := lv) (st' := r) (h' := hwF h o f v) rfl ?_ hw hg
  show av_putf (av_qf (.putfield idx) ci f 3) pc lv (.inl v :: .inr (.inr (.inl (some o))) :: r) h = _
  exact if_pos (c := (o < h.1 ∧ (h.2.2.1 o).1 = ci) ∧ (v = 0 ∨ v = 1)) ⟨⟨av_ltN hg hk hc, hk⟩, hv⟩
theorem wq_pr {idx o ci f : Nat} {v : Option Nat} (hx : cd.lookup pc = some (av_qf (.putfield idx) ci f 2)) (hp : pc + 3 = p') (hk : (hK h o).1 = ci) (hc : Nat.ble ci 98 = true) (hw : av_wp sc cd p' lv r (hwG h o f v) Q) : av_wp sc cd pc lv (.inr (.inr (.inl v)) :: .inr (.inr (.inl (some o))) :: r) h Q := by
  intro hg
  subst hp
  refine av_wp_st1 hx (pc' := pc + 3) (lv' := lv) (st' := r) (h' := hwG h o f v) rfl ?_ hw hg
  show av_putf (av_qf (.putfield idx) ci f 2) pc lv (.inr (.inr (.inl v)) :: .inr (.inr (.inl (some o))) :: r) h = _
  exact if_pos (c := o < h.1 ∧ (h.2.2.1 o).1 = ci) ⟨av_ltN hg hk hc, hk⟩
/-- arrays -/
theorem wq_al {o n : Nat} {i v : Int} (hx : cd.lookup pc = some (av_q (.iaload))) (hp : pc + 1 = p') (hk : hK h o = (20, n)) (hi : 0 ≤ i ∧ i < n ∧ (n : Int) < 2147483648) (hv : hA h o i.toNat = v) (hw : av_wp sc cd p' lv (.inl v :: r) h Q) : av_wp sc cd pc lv (.inl i :: .inr (.inr (.inl (some o))) :: r) h Q := by
  intro hg
  subst hp
  refine av_wp_st1 hx (pc' := pc + 1) (lv' := lv) (st' := .inl v :: r) (h' := h) rfl ?_ hw hg
  show av_ald sc [20] pc lv (.inl i :: .inr (.inr (.inl (some o))) :: r) h = _
  have hk1 : (h.2.2.1 o).1 = 20 := by rw [show h.2.2.1 o = (20, n) from hk]
  have hk2 : (h.2.2.1 o).2 = n := by rw [show h.2.2.1 o = (20, n) from hk]
  simp only [av_ald]
  rw [hk2, if_pos ⟨⟨av_ltN hg hk1 rfl, by rw [hk1]; simp⟩, av_inO hi⟩, av_rgw ⟨by omega, by omega⟩, ← hv]
theorem wq_bl {o n : Nat} {i v : Int} (hx : cd.lookup pc = some (av_q (.baload))) (hp : pc + 1 = p') (hk : hK h o = (21, n) ∨ hK h o = (22, n)) (hi : 0 ≤ i ∧ i < n ∧ (n : Int) < 2147483648) (hv : hA h o i.toNat = v) (hw : av_wp sc cd p' lv (.inl v :: r) h Q) : av_wp sc cd pc lv (.inl i :: .inr (.inr (.inl (some o))) :: r) h Q := by
  intro hg
  subst hp
  refine av_wp_st1 hx (pc' := pc + 1) (lv' := lv) (st' := .inl v :: r) (h' := h) rfl ?_ hw hg
  show av_ald sc [21, 22] pc lv (.inl i :: .inr (.inr (.inl (some o))) :: r) h = _
  have hk2 : (h.2.2.1 o).2 = n := by rcases hk with hk | hk <;> rw [show h.2.2.1 o = (_, n) from hk]
  have hk1 : (h.2.2.1 o).1 = 21 ∨ (h.2.2.1 o).1 = 22 := by rcases hk with hk | hk <;> rw [show h.2.2.1 o = (_, n) from hk] <;> simp
  have ho : o < h.1 := by rcases hk1 with hk1 | hk1 <;> exact av_ltN hg hk1 rfl
  simp only [av_ald]
  rw [hk2, if_pos ⟨⟨ho, by rcases hk1 with hk1 | hk1 <;> rw [hk1] <;> simp⟩, av_inO hi⟩, av_rgw ⟨by omega, by omega⟩, ← hv]
theorem wq_as {o n : Nat} {i v : Int} (hx : cd.lookup pc = some (av_q (.iastore))) (hp : pc + 1 = p') (hk : hK h o = (20, n)) (hi : 0 ≤ i ∧ i < n ∧ (n : Int) < 2147483648) (hw : av_wp sc cd p' lv r (hwA h o i.toNat v) Q) : av_wp sc cd pc lv (.inl v :: .inl i :: .inr (.inr (.inl (some o))) :: r) h Q := by
  intro hg
  subst hp
  refine av_wp_st1 hx (pc' := pc + 1) (lv' := lv) (st' := r) (h' := hwA h o i.toNat v) rfl ?_ hw hg
  show av_iast pc lv (.inl v :: .inl i :: .inr (.inr (.inl (some o))) :: r) h = _
  have hk1 : (h.2.2.1 o).1 = 20 := by rw [show h.2.2.1 o = (20, n) from hk]
  have hk2 : (h.2.2.1 o).2 = n := by rw [show h.2.2.1 o = (20, n) from hk]
  simp only [av_iast]
  rw [hk2, if_pos ⟨⟨av_ltN hg hk1 rfl, hk1⟩, av_inO hi⟩, av_rgw ⟨by omega, by omega⟩]
  rfl
theorem wq_zs {o n : Nat} {i v : Int} (hx : cd.lookup pc = some (av_q (.bastore))) (hp : pc + 1 = p') (hk : hK h o = (22, n)) (hi : 0 ≤ i ∧ i < n ∧ (n : Int) < 2147483648) (hv : v = 0 ∨ v = 1) (hw : av_wp sc cd p' lv r (hwA h o i.toNat v) Q) : av_wp sc cd pc lv (.inl v :: .inl i :: .inr (.inr (.inl (some o))) :: r) h Q := by
  intro hg
  subst hp
  refine av_wp_st1 hx (pc' := pc + 1) (lv' := lv) (st' := r) (h' := hwA h o i.toNat v) rfl ?_ hw hg
  show av_bast pc lv (.inl v :: .inl i :: .inr (.inr (.inl (some o))) :: r) h = _
  have hk1 : (h.2.2.1 o).1 = 22 := by rw [show h.2.2.1 o = (22, n) from hk]
  have hk2 : (h.2.2.1 o).2 = n := by rw [show h.2.2.1 o = (22, n) from hk]
  simp only [av_bast]
  rw [hk2, if_neg (fun z => by have := z.1.2; omega), if_pos ⟨⟨av_ltN hg hk1 rfl, hk1⟩, av_inO hi, hv⟩, av_rgw ⟨by omega, by omega⟩]
  rfl
theorem wq_bs {o n : Nat} {i v : Int} (hx : cd.lookup pc = some (av_q (.bastore))) (hp : pc + 1 = p') (hk : hK h o = (21, n)) (hi : 0 ≤ i ∧ i < n ∧ (n : Int) < 2147483648) (hw : av_wp sc cd p' lv r (hwA h o i.toNat (av_b v)) Q) : av_wp sc cd pc lv (.inl v :: .inl i :: .inr (.inr (.inl (some o))) :: r) h Q := by
  intro hg
  subst hp
  refine av_wp_st1 hx (pc' := pc + 1) (lv' := lv) (st' := r) (h' := hwA h o i.toNat (av_b v)) rfl ?_ hw hg
  show av_bast pc lv (.inl v :: .inl i :: .inr (.inr (.inl (some o))) :: r) h = _
  have hk1 : (h.2.2.1 o).1 = 21 := by rw [show h.2.2.1 o = (21, n) from hk]
  have hk2 : (h.2.2.1 o).2 = n := by rw [show h.2.2.1 o = (21, n) from hk]
  simp only [av_bast]
  rw [hk2, if_pos ⟨⟨av_ltN hg hk1 rfl, hk1⟩, av_inO hi⟩, av_rgw ⟨by omega, by omega⟩]
  rfl
theorem wq_ar {o n k : Nat} {i : Int} {v : Option Nat} (hx : cd.lookup pc = some (av_q (.aaload))) (hp : pc + 1 = p') (hk : hK h o = (k, n)) (hkk : k = 30 ∨ k = 31 ∨ k = 32) (hi : 0 ≤ i ∧ i < n ∧ (n : Int) < 2147483648) (hv : hR h o i.toNat = v) (hw : av_wp sc cd p' lv (.inr (.inr (.inl v)) :: r) h Q) : av_wp sc cd pc lv (.inl i :: .inr (.inr (.inl (some o))) :: r) h Q := by
  intro hg
  subst hp
  refine av_wp_st1 hx (pc' := pc + 1) (lv' := lv) (st' := .inr (.inr (.inl v)) :: r) (h' := h) rfl ?_ hw hg
  show av_aald pc lv (.inl i :: .inr (.inr (.inl (some o))) :: r) h = _
  have hk1 : (h.2.2.1 o).1 = k := by rw [show h.2.2.1 o = (k, n) from hk]
  have hk2 : (h.2.2.1 o).2 = n := by rw [show h.2.2.1 o = (k, n) from hk]
  have ho : o < h.1 := hg o (by rw [hk1]; omega)
  simp only [av_aald]
  rw [hk2, if_pos ⟨⟨ho, by rw [hk1]; rcases hkk with e | e | e <;> rw [e] <;> simp⟩, av_inO hi⟩, av_rgw ⟨by omega, by omega⟩, ← hv]
theorem wq_ln {o n k : Nat} (hx : cd.lookup pc = some (av_q (.arraylength))) (hp : pc + 1 = p') (hk : hK h o = (k, n)) (hkk : k ∈ [20, 21, 22, 30, 31, 32]) (hw : av_wp sc cd p' lv (.inl (n : Int) :: r) h Q) : av_wp sc cd pc lv (.inr (.inr (.inl (some o))) :: r) h Q := by
  intro hg
  subst hp
  refine av_wp_st1 hx (pc' := pc + 1) (lv' := lv) (st' := .inl (n : Int) :: r) (h' := h) rfl ?_ hw hg
  show av_alen sc pc lv (.inr (.inr (.inl (some o))) :: r) h = _
  have hk1 : (h.2.2.1 o).1 = k := by rw [show h.2.2.1 o = (k, n) from hk]
  have hk2 : (h.2.2.1 o).2 = n := by rw [show h.2.2.1 o = (k, n) from hk]
  have ho : o < h.1 := hg o (by rw [hk1]; intro z; rw [z] at hkk; simp at hkk)
  simp only [av_alen]
  rw [hk2, if_pos ⟨ho, by rw [hk1]; exact hkk⟩]
/-- ways that part: nothing is kept of what was asked -/
theorem wq_c2 {c : Jvm.ClassFile.Cond} {off : Int} {t : Nat} {x y : Int} (hx : cd.lookup pc = some (av_qa (.if_icmp c off) t)) (hp : pc + 3 = p') (h1 : av_wp sc cd t lv r h Q) (h2 : av_wp sc cd p' lv r h Q) : av_wp sc cd pc lv (.inl y :: .inl x :: r) h Q := by
  subst hp
  refine av_wp_st1 hx (pc' := if av_cmp c (av_w x) (av_w y) = true then t else pc + 3) (lv' := lv) (st' := r) (h' := h) rfl rfl ?_
  split
  · exact h1
  · exact h2
theorem wq_c1 {c : Jvm.ClassFile.Cond} {off : Int} {t : Nat} {x : Int} (hx : cd.lookup pc = some (av_qa (.ifCond c off) t)) (hp : pc + 3 = p') (h1 : av_wp sc cd t lv r h Q) (h2 : av_wp sc cd p' lv r h Q) : av_wp sc cd pc lv (.inl x :: r) h Q := by
  subst hp
  refine av_wp_st1 hx (pc' := if av_cmp c (av_w x) 0 = true then t else pc + 3) (lv' := lv) (st' := r) (h' := h) rfl rfl ?_
  split
  · exact h1
  · exact h2
/-- what is asked of numbers of 32 bits -/
def av_cP : Jvm.ClassFile.Cond → Int → Int → Prop
  | .eq, x, y => x = y
  | .ne, x, y => x ≠ y
  | .lt, x, y => x < y
  | .ge, x, y => y ≤ x
  | .gt, x, y => y < x
  | .le, x, y => x ≤ y
def av_cN : Jvm.ClassFile.Cond → Int → Int → Prop
  | .eq, x, y => x ≠ y
  | .ne, x, y => x = y
  | .lt, x, y => y ≤ x
  | .ge, x, y => x < y
  | .gt, x, y => x ≤ y
  | .le, x, y => y < x
theorem av_cP_of {c : Jvm.ClassFile.Cond} {x y : Int} (h : av_cmp c x y = true) : av_cP c x y := by
  cases c <;> (simp only [av_cmp, decide_eq_true_eq] at h; exact h)
theorem av_cN_of {c : Jvm.ClassFile.Cond} {x y : Int} (h : ¬ av_cmp c x y = true) : av_cN c x y := by
  cases c <;> simp only [av_cmp, decide_eq_true_eq] at h <;> simp only [av_cN] <;> omega
theorem wq_k2 {c : Jvm.ClassFile.Cond} {off : Int} {t : Nat} {x y : Int} (hx : cd.lookup pc = some (av_qa (.if_icmp c off) t)) (hp : pc + 3 = p') (rx : av_rg x) (ry : av_rg y) (h1 : av_cP c x y → av_wp sc cd t lv r h Q) (h2 : av_cN c x y → av_wp sc cd p' lv r h Q) : av_wp sc cd pc lv (.inl y :: .inl x :: r) h Q := by
  subst hp
  refine av_wp_st1 hx (pc' := if av_cmp c (av_w x) (av_w y) = true then t else pc + 3) (lv' := lv) (st' := r) (h' := h) rfl rfl ?_
  rw [av_rgw rx, av_rgw ry]
  split
  · next z => exact h1 (av_cP_of z)
  · next z => exact h2 (av_cN_of z)
theorem wq_k1 {c : Jvm.ClassFile.Cond} {off : Int} {t : Nat} {x : Int} (hx : cd.lookup pc = some (av_qa (.ifCond c off) t)) (hp : pc + 3 = p') (rx : av_rg x) (h1 : av_cP c x 0 → av_wp sc cd t lv r h Q) (h2 : av_cN c x 0 → av_wp sc cd p' lv r h Q) : av_wp sc cd pc lv (.inl x :: r) h Q := by
  subst hp
  refine av_wp_st1 hx (pc' := if av_cmp c (av_w x) 0 = true then t else pc + 3) (lv' := lv) (st' := r) (h' := h) rfl rfl ?_
  rw [av_rgw rx]
  split
  · next z => exact h1 (av_cP_of z)
  · next z => exact h2 (av_cN_of z)
/-- what is asked of numbers that may be any -/
theorem wq_w2 {c : Jvm.ClassFile.Cond} {off : Int} {t : Nat} {x y : Int} (hx : cd.lookup pc = some (av_qa (.if_icmp c off) t)) (hp : pc + 3 = p') (h1 : av_cP c (av_w x) (av_w y) → av_wp sc cd t lv r h Q) (h2 : av_cN c (av_w x) (av_w y) → av_wp sc cd p' lv r h Q) : av_wp sc cd pc lv (.inl y :: .inl x :: r) h Q := by
  subst hp
  refine av_wp_st1 hx (pc' := if av_cmp c (av_w x) (av_w y) = true then t else pc + 3) (lv' := lv) (st' := r) (h' := h) rfl rfl ?_
  split
  · next z => exact h1 (av_cP_of z)
  · next z => exact h2 (av_cN_of z)
theorem wq_dw {x y : Int} (hx : cd.lookup pc = some (av_q (.idiv))) (hp : pc + 1 = p') (hy : av_w y ≠ 0) (hw : ∀ v : Int, av_wp sc cd p' lv (.inl v :: r) h Q) : av_wp sc cd pc lv (.inl y :: .inl x :: r) h Q := by
  subst hp
  refine av_wp_st1 hx (pc' := pc + 1) (lv' := lv) (st' := .inl ((av_w x).tdiv (av_w y)) :: r) (h' := h) rfl ?_ (hw _)
  show (if av_w y = 0 then none else some (pc + 1, lv, .inl ((av_w x).tdiv (av_w y)) :: r, h)) = _
  rw [if_neg hy]
theorem wq_bw {o n : Nat} {i : Int} (hx : cd.lookup pc = some (av_q (.baload))) (hp : pc + 1 = p') (hk : hK h o = (21, n) ∨ hK h o = (22, n)) (hi : 0 ≤ av_w i ∧ av_w i < n) (hw : ∀ v : Int, av_wp sc cd p' lv (.inl v :: r) h Q) : av_wp sc cd pc lv (.inl i :: .inr (.inr (.inl (some o))) :: r) h Q := by
  intro hg
  subst hp
  refine av_wp_st1 hx (pc' := pc + 1) (lv' := lv) (st' := .inl (hA h o (av_w i).toNat) :: r) (h' := h) rfl ?_ (hw _) hg
  show av_ald sc [21, 22] pc lv (.inl i :: .inr (.inr (.inl (some o))) :: r) h = _
  have hk2 : (h.2.2.1 o).2 = n := by rcases hk with hk | hk <;> rw [show h.2.2.1 o = (_, n) from hk]
  have hk1 : (h.2.2.1 o).1 = 21 ∨ (h.2.2.1 o).1 = 22 := by rcases hk with hk | hk <;> rw [show h.2.2.1 o = (_, n) from hk] <;> simp
  have ho : o < h.1 := by rcases hk1 with hk1 | hk1 <;> exact av_ltN hg hk1 rfl
  have hb : av_inB i n = true := by
    unfold av_inB
    rw [Bool.and_eq_true]
    exact ⟨decide_eq_true hi.1, decide_eq_true hi.2⟩
  simp only [av_ald]
  rw [hk2, if_pos ⟨⟨ho, by rcases hk1 with hk1 | hk1 <;> rw [hk1] <;> simp⟩, hb⟩]
/-- null or not -/
theorem wq_nu {off : Int} {t : Nat} {v : Option Nat} (hx : cd.lookup pc = some (av_qa (.ifnull off) t)) (hp : pc + 3 = p') (h1 : v = none → av_wp sc cd t lv r h Q) (h2 : ∀ o, v = some o → av_wp sc cd p' lv r h Q) : av_wp sc cd pc lv (.inr (.inr (.inl v)) :: r) h Q := by
  subst hp
  cases v with
  | none => exact av_wp_st1 hx (pc' := t) (lv' := lv) (st' := r) (h' := h) rfl rfl (h1 rfl)
  | some o => exact av_wp_st1 hx (pc' := pc + 3) (lv' := lv) (st' := r) (h' := h) rfl rfl (h2 o rfl)
theorem wq_nn {off : Int} {t : Nat} {v : Option Nat} (hx : cd.lookup pc = some (av_qa (.ifnonnull off) t)) (hp : pc + 3 = p') (h1 : ∀ o, v = some o → av_wp sc cd t lv r h Q) (h2 : v = none → av_wp sc cd p' lv r h Q) : av_wp sc cd pc lv (.inr (.inr (.inl v)) :: r) h Q := by
  subst hp
  cases v with
  | none => exact av_wp_st1 hx (pc' := pc + 3) (lv' := lv) (st' := r) (h' := h) rfl rfl (h2 rfl)
  | some o => exact av_wp_st1 hx (pc' := t) (lv' := lv) (st' := r) (h' := h) rfl rfl (h1 o rfl)
/-- a number laid into a local behind one that is dead -/
theorem wq_si {ins : Instr} {st0 : List av_V} {lv' : av_L} {n : Nat} (hx : cd.lookup pc = some (av_q ins)) (hp : pc + n = p') (hk : av_kd (av_q ins) = 0) (hs : av_stp sc (av_q ins) pc lv st0 h = some (pc + n, lv', r, h)) (hw : av_wp sc cd p' lv' r h Q) : av_wp sc cd pc lv st0 h Q := by
  subst hp
  exact av_wp_st1 hx (pc' := pc + n) (lv' := lv') (st' := r) (h' := h) hk hs hw
/-- the library's max, min -/
theorem wq_mx {ins : Instr} {x y : Int} (hx : cd.lookup pc = some (av_qa ins 1001)) (hp : pc + 3 = p') (hk : av_kd (av_qa ins 1001) = 0) (hs : ∀ lv st, av_stp sc (av_qa ins 1001) pc lv st h = av_lib 1001 pc lv st h) (hr : Nat.ble (r.map av_cat).sum 8 = true) (hw : ∀ v : Int, (v = x ∨ v = y) → (av_rg x → av_rg y → x ≤ v ∧ y ≤ v) → av_wp sc cd p' lv (.inl v :: r) h Q) : av_wp sc cd pc lv (.inl y :: .inl x :: r) h Q := by
  subst hp
  refine av_wp_st1 hx (pc' := pc + 3) (lv' := lv) (st' := .inl (if av_w x < av_w y then y else x) :: r) (h' := h) hk ?_ (hw _ ?_ ?_)
  · rw [hs]
    simp only [av_lib]
    rw [if_pos (Nat.le_of_ble_eq_true hr)]
  · split <;> simp
  · intro rx ry
    rw [av_rgw rx, av_rgw ry]
    split <;> omega
theorem wq_mn {ins : Instr} {x y : Int} (hx : cd.lookup pc = some (av_qa ins 1002)) (hp : pc + 3 = p') (hk : av_kd (av_qa ins 1002) = 0) (hs : ∀ lv st, av_stp sc (av_qa ins 1002) pc lv st h = av_lib 1002 pc lv st h) (hr : Nat.ble (r.map av_cat).sum 8 = true) (hw : ∀ v : Int, (v = x ∨ v = y) → (av_rg x → av_rg y → v ≤ x ∧ v ≤ y) → av_wp sc cd p' lv (.inl v :: r) h Q) : av_wp sc cd pc lv (.inl y :: .inl x :: r) h Q := by
  subst hp
  refine av_wp_st1 hx (pc' := pc + 3) (lv' := lv) (st' := .inl (if av_w y < av_w x then y else x) :: r) (h' := h) hk ?_ (hw _ ?_ ?_)
  · rw [hs]
    simp only [av_lib]
    rw [if_pos (Nat.le_of_ble_eq_true hr)]
  · split <;> simp
  · intro rx ry
    rw [av_rgw rx, av_rgw ry]
    split <;> omega
/-- division -/
theorem wq_dv {x y : Int} (hx : cd.lookup pc = some (av_q (.idiv))) (hp : pc + 1 = p') (ry : av_rg y) (hy : y ≠ 0) (hw : ∀ v : Int, (av_rg x → v = x.tdiv y) → av_wp sc cd p' lv (.inl v :: r) h Q) : av_wp sc cd pc lv (.inl y :: .inl x :: r) h Q := by
  subst hp
  refine av_wp_st1 hx (pc' := pc + 1) (lv' := lv) (st' := .inl ((av_w x).tdiv (av_w y)) :: r) (h' := h) rfl ?_ (hw _ ?_)
  · show (if av_w y = 0 then none else some (pc + 1, lv, .inl ((av_w x).tdiv (av_w y)) :: r, h)) = _
    rw [if_neg (by rw [av_rgw ry]; exact hy)]
  · intro rx
    rw [av_rgw rx, av_rgw ry]
theorem wq_rm {x y : Int} (hx : cd.lookup pc = some (av_q (.irem))) (hp : pc + 1 = p') (ry : av_rg y) (hy : y ≠ 0) (hw : ∀ v : Int, (av_rg x → v = x.tmod y) → av_wp sc cd p' lv (.inl v :: r) h Q) : av_wp sc cd pc lv (.inl y :: .inl x :: r) h Q := by
  subst hp
  refine av_wp_st1 hx (pc' := pc + 1) (lv' := lv) (st' := .inl ((av_w x).tmod (av_w y)) :: r) (h' := h) rfl ?_ (hw _ ?_)
  · show (if av_w y = 0 then none else some (pc + 1, lv, .inl ((av_w x).tmod (av_w y)) :: r, h)) = _
    rw [if_neg (by rw [av_rgw ry]; exact hy)]
  · intro rx
    rw [av_rgw rx, av_rgw ry]
/-- a call of an object's method, of a constructor -/
theorem wq_cv (x : av_E) (mL : Nat) (cdj : List (Nat × av_E)) (as : List av_V) (o ci : Nat) (lv' : av_L) (hx : cd.lookup pc = some x) (hp : pc + 3 = p') (hkd : av_kd x = 2) (hM : av_PP x.2.2.1 = some (mL, cdj)) (hn : Nat.beq x.2.2.2.1 as.length = true) (hk2 : Nat.ble x.2.2.2.2.1 1 = true) (hci : x.2.2.2.2.2 = (ci : Int)) (hk : (hK h o).1 = ci) (hc : Nat.ble ci 98 = true) (hr : Nat.ble (r.map av_cat).sum 8 = true) (hl : Nat.ble (av_args (.inr (.inr (.inl (some o))) :: as.reverse)).length mL = true) (he : av_ent mL (.inr (.inr (.inl (some o))) :: as.reverse) = lv')
    (hcall : av_wp none cdj 0 lv' [] h (fun v h' => av_wp sc cd p' lv (v.toList ++ r) h' Q)) : av_wp sc cd pc lv (as ++ .inr (.inr (.inl (some o))) :: r) h Q := by
  subst hp
  subst he
  refine av_wp_call hx hkd hM (vs := .inr (.inr (.inl (some o))) :: as.reverse) (r := r) ?_ (Nat.le_of_ble_eq_true hl) hcall (fun v h' hq => hq)
  intro hg
  have hn' : x.2.2.2.1 = as.length := Nat.eq_of_beq_eq_true hn
  unfold av_pop
  rw [hn', if_pos (by simp), List.drop_left, List.take_left]
  have h2 := Nat.le_of_ble_eq_true hk2
  have hcond : (r.map av_cat).sum ≤ 8 ∧ o < h.1 ∧ ((h.2.2.1 o).1 : Int) = x.2.2.2.2.2 := ⟨Nat.le_of_ble_eq_true hr, av_ltN hg hk hc, by rw [hci]; exact congrArg Int.ofNat hk⟩
  rcases hx2 : x.2.2.2.2.1 with _ | _ | n
  · exact if_pos hcond
  · exact if_pos hcond
  · omega
/-- a call of a static method -/
theorem wq_cs (x : av_E) (mL : Nat) (cdj : List (Nat × av_E)) (vs : List av_V) (st : List av_V) (lv' : av_L) (hx : cd.lookup pc = some x) (hp : pc + 3 = p') (hkd : av_kd x = 2) (hM : av_PP x.2.2.1 = some (mL, cdj)) (hpop : ∀ h', av_pop x st h' = some (vs, r)) (hl : Nat.ble (av_args vs).length mL = true) (he : av_ent mL vs = lv')
    (hcall : av_wp none cdj 0 lv' [] h (fun v h' => av_wp sc cd p' lv (v.toList ++ r) h' Q)) : av_wp sc cd pc lv st h Q := by
  subst hp
  subst he
  exact av_wp_call hx hkd hM (fun _ => hpop h) (Nat.le_of_ble_eq_true hl) hcall (fun v h' hq => hq)
/-- a truth value goes back -/
theorem wq_rb {v : Int} (hx : cd.lookup pc = some (av_qa (.ireturn) 1)) (hv : v = 0 ∨ v = 1) (hq : Q (some (.inl v)) h) : av_wp sc cd pc lv [.inl v] h Q := by
  refine av_wp_ret (v := some (.inl v)) hx rfl ?_ hq
  exact if_pos (c := (1 : Nat) = 0 ∨ v = 0 ∨ v = 1) (Or.inr hv)
/-- a switch -/
theorem wq_tc {x c d lo hi : Int} {offs : Array Int} {ln t : Nat} (hx : cd.lookup pc = some (av_qw (.tableswitch d lo hi offs) ln)) (he : x = c) (ht : ((pc : Int) + (if av_w c < lo ∨ hi < av_w c then d else offs.toList.getD (av_w c - lo).toNat 0)).toNat = t) (hw : av_wp sc cd t lv r h Q) : av_wp sc cd pc lv (.inl x :: r) h Q := by
  subst he
  subst ht
  exact av_wp_st1 hx (pc' := ((pc : Int) + (if av_w x < lo ∨ hi < av_w x then d else offs.toList.getD (av_w x - lo).toNat 0)).toNat) (lv' := lv) (st' := r) (h' := h) rfl rfl hw
theorem wq_td {x d lo hi : Int} {offs : Array Int} {ln t : Nat} (hx : cd.lookup pc = some (av_qw (.tableswitch d lo hi offs) ln)) (rx : av_rg x) (he : x < lo ∨ hi < x) (ht : ((pc : Int) + d).toNat = t) (hw : av_wp sc cd t lv r h Q) : av_wp sc cd pc lv (.inl x :: r) h Q := by
  subst ht
  refine av_wp_st1 hx (pc' := ((pc : Int) + d).toNat) (lv' := lv) (st' := r) (h' := h) rfl ?_ hw
  show some (((pc : Int) + (if av_w x < lo ∨ hi < av_w x then d else offs.toList.getD (av_w x - lo).toNat 0)).toNat, lv, r, h) = _
  rw [av_rgw rx, if_pos he]
theorem wq_lc {x c d : Int} {ps : Array (Int × Int)} {ln t : Nat} (hx : cd.lookup pc = some (av_qw (.lookupswitch d ps) ln)) (he : x = c) (ht : ((pc : Int) + Op.lookupswitch.offset ps.toList d (av_w c)).toNat = t) (hw : av_wp sc cd t lv r h Q) : av_wp sc cd pc lv (.inl x :: r) h Q := by
  subst he
  subst ht
  exact av_wp_st1 hx (pc' := ((pc : Int) + Op.lookupswitch.offset ps.toList d (av_w x)).toNat) (lv' := lv) (st' := r) (h' := h) rfl rfl hw
theorem wq_ld {x d : Int} {ps : Array (Int × Int)} {ln t : Nat} (hx : cd.lookup pc = some (av_qw (.lookupswitch d ps) ln)) (rx : av_rg x) (he : Op.lookupswitch.offset ps.toList d x = d) (ht : ((pc : Int) + d).toNat = t) (hw : av_wp sc cd t lv r h Q) : av_wp sc cd pc lv (.inl x :: r) h Q := by
  subst ht
  refine av_wp_st1 hx (pc' := ((pc : Int) + d).toNat) (lv' := lv) (st' := r) (h' := h) rfl ?_ hw
  show some (((pc : Int) + Op.lookupswitch.offset ps.toList d (av_w x)).toNat, lv, r, h) = _
  rw [av_rgw rx, he]
end
theorem shl_le {n : Int} (e : 0 ≤ n ∧ n ≤ 12) : 1 ≤ av_shl (1) n ∧ (n ≤ 6 → av_shl (1) n ≤ 64) ∧ av_shl (1) n ≤ 4096 := by
  rcases (show n = 0 ∨ n = 1 ∨ n = 2 ∨ n = 3 ∨ n = 4 ∨ n = 5 ∨ n = 6 ∨ n = 7 ∨ n = 8 ∨ n = 9 ∨ n = 10 ∨ n = 11 ∨ n = 12 by omega) with e | e | e | e | e | e | e | e | e | e | e | e | e <;> subst e <;> decide
