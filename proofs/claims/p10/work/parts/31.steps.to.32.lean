section
/-! STEPS OVER ANY HEAP: a row a kind of instruction that looks at the heap or at unknown numbers -/
abbrev hK (h : av_H) : Nat → Nat × Nat := h.2.2.1
abbrev hA (h : av_H) : Nat → Nat → Int := h.2.2.2.1
abbrev hF (h : av_H) : Nat → Nat → Int := h.2.2.2.2.1
abbrev hG (h : av_H) : Nat → Nat → Option Nat := h.2.2.2.2.2.1
abbrev hR (h : av_H) : Nat → Nat → Option Nat := h.2.2.2.2.2.2.1
def hwA (h : av_H) (o j : Nat) (x : Int) : av_H := (h.1, h.2.1, h.2.2.1, av_u2 h.2.2.2.1 o j x, h.2.2.2.2)
def hwF (h : av_H) (o f : Nat) (x : Int) : av_H := (h.1, h.2.1, h.2.2.1, h.2.2.2.1, av_u2 h.2.2.2.2.1 o f x, h.2.2.2.2.2)
def hwG (h : av_H) (o f : Nat) (x : Option Nat) : av_H := (h.1, h.2.1, h.2.2.1, h.2.2.2.1, h.2.2.2.2.1, av_u2 h.2.2.2.2.2.1 o f x, h.2.2.2.2.2.2)
def hwR (h : av_H) (o j : Nat) (x : Option Nat) : av_H := (h.1, h.2.1, h.2.2.1, h.2.2.2.1, h.2.2.2.2.1, h.2.2.2.2.2.1, av_u2 h.2.2.2.2.2.2.1 o j x, h.2.2.2.2.2.2.2)
/-- a number of 32 bits -/
abbrev av_rg (x : Int) : Prop := -2147483648 ≤ x ∧ x < 2147483648
theorem av_rgw {x : Int} (h : av_rg x) : av_w x = x := Int.bmod_eq_of_le (by have := h.1; omega) (by have := h.2; omega)
theorem av_inO {x : Int} {n : Nat} (h : 0 ≤ x ∧ x < n ∧ (n : Int) < 2147483648) : av_inB x n = true := by
  unfold av_inB
  rw [av_rgw ⟨by omega, by omega⟩, Bool.and_eq_true]
  exact ⟨decide_eq_true h.1, decide_eq_true h.2.1⟩
theorem av_wp_st1 {sc : av_Sr} {cd : List (Nat × av_E)} {Q : Option av_V → av_H → Prop} {pc : Nat} {lv : av_L} {st : List av_V} {h : av_H} {x : av_E} (hx : cd.lookup pc = some x) {pc' : Nat} {lv' : av_L} {st' : List av_V} {h' : av_H} (hk : av_kd x = 0) (hs : av_stp sc x pc lv st h = some (pc', lv', st', h')) (hw : av_wp sc cd pc' lv' st' h' Q) : av_wp sc cd pc lv st h Q := by
  refine av_wp_seq 1 (pc' := pc') (lv' := lv') (st' := st') (h' := h') ?_ hw
  simp only [av_seq, hx, hk, if_true, hs]
theorem av_w_add {x i : Int} (h1 : -2147483648 ≤ av_w x + i) (h2 : av_w x + i < 2147483648) : av_w (x + i) = av_w x + i := by
  have e : av_w (x + i) = av_w (av_w x + i) := by
    unfold av_w
    simp
  rw [e, av_rgw ⟨h1, h2⟩]
section
variable {sc : av_Sr} {cd : List (Nat × av_E)} {Q : Option av_V → av_H → Prop} {pc p' : Nat} {lv : av_L} {r : List av_V} {h : av_H}
theorem av_ltN {o ci : Nat} (hg : av_Gd h) (hk : (hK h o).1 = ci) (hc : Nat.ble ci 98 = true) : o < h.1 := hg o (by
  have h1 := Nat.le_of_ble_eq_true hc
  have h2 : (h.2.2.1 o).1 = ci := hk
  omega)
/-- fields -/
theorem wq_gi {idx o ci f : Nat} {v : Int} (hx : cd.lookup pc = some (av_qf (.getfield idx) ci f 0)) (hp : pc + 3 = p') (hk : (hK h o).1 = ci) (hc : Nat.ble ci 98 = true) (hv : hF h o f = v) (hw : av_wp sc cd p' lv (.inl v :: r) h Q) : av_wp sc cd pc lv (.inr (.inr (.inl (some o))) :: r) h Q := by
  intro hg
  subst hp
  refine av_wp_st1 hx (pc' := pc + 3) (lv' := lv) (st' := .inl v :: r) (h' := h) rfl ?_ hw hg
  show av_getf (av_qf (.getfield idx) ci f 0) pc lv (.inr (.inr (.inl (some o))) :: r) h = _
  simp only [av_getf, av_qf]
  rw [if_pos ⟨av_ltN hg hk hc, hk⟩, ← hv]
theorem wq_gb {idx o ci f : Nat} {v : Int} (hx : cd.lookup pc = some (av_qf (.getfield idx) ci f 3)) (hp : pc + 3 = p') (hk : (hK h o).1 = ci) (hc : Nat.ble ci 98 = true) (hv : hF h o f = v) (hw : av_wp sc cd p' lv (.inl v :: r) h Q) : av_wp sc cd pc lv (.inr (.inr (.inl (some o))) :: r) h Q := by
  intro hg
  subst hp
  refine av_wp_st1 hx (pc' := pc + 3) (lv' := lv) (st' := .inl v :: r) (h' := h) rfl ?_ hw hg
  show av_getf (av_qf (.getfield idx) ci f 3) pc lv (.inr (.inr (.inl (some o))) :: r) h = _
  simp only [av_getf, av_qf]
  rw [if_pos ⟨av_ltN hg hk hc, hk⟩, ← hv]
theorem wq_gl {idx o ci f : Nat} {v : Int} (hx : cd.lookup pc = some (av_qf (.getfield idx) ci f 1)) (hp : pc + 3 = p') (hk : (hK h o).1 = ci) (hc : Nat.ble ci 98 = true) (hv : hF h o f = v) (hw : av_wp sc cd p' lv (.inr (.inl v) :: r) h Q) : av_wp sc cd pc lv (.inr (.inr (.inl (some o))) :: r) h Q := by
  intro hg
  subst hp
  refine av_wp_st1 hx (pc' := pc + 3) (lv' := lv) (st' := .inr (.inl v) :: r) (h' := h) rfl ?_ hw hg
  show av_getf (av_qf (.getfield idx) ci f 1) pc lv (.inr (.inr (.inl (some o))) :: r) h = _
  simp only [av_getf, av_qf]
  rw [if_pos ⟨av_ltN hg hk hc, hk⟩, ← hv]
theorem wq_gr {idx o ci f : Nat} {v : Option Nat} (hx : cd.lookup pc = some (av_qf (.getfield idx) ci f 2)) (hp : pc + 3 = p') (hk : (hK h o).1 = ci) (hc : Nat.ble ci 98 = true) (hv : hG h o f = v) (hw : av_wp sc cd p' lv (.inr (.inr (.inl v)) :: r) h Q) : av_wp sc cd pc lv (.inr (.inr (.inl (some o))) :: r) h Q := by
  intro hg
  subst hp
  refine av_wp_st1 hx (pc' := pc + 3) (lv' := lv) (st' := .inr (.inr (.inl v)) :: r) (h' := h) rfl ?_ hw hg
  show av_getf (av_qf (.getfield idx) ci f 2) pc lv (.inr (.inr (.inl (some o))) :: r) h = _
  simp only [av_getf, av_qf]
  rw [if_pos ⟨av_ltN hg hk hc, hk⟩, ← hv]
theorem wq_pi {idx o ci f : Nat} {v : Int} (hx : cd.lookup pc = some (av_qf (.putfield idx) ci f 0)) (hp : pc + 3 = p') (hk : (hK h o).1 = ci) (hc : Nat.ble ci 98 = true) (hw : av_wp sc cd p' lv r (hwF h o f v) Q) : av_wp sc cd pc lv (.inl v :: .inr (.inr (.inl (some o))) :: r) h Q := by
  intro hg
  subst hp
  refine av_wp_st1 hx (pc' := pc + 3) (lv' := lv) (st' := r) (h' := hwF h o f v) rfl ?_ hw hg
  show av_putf (av_qf (.putfield idx) ci f 0) pc lv (.inl v :: .inr (.inr (.inl (some o))) :: r) h = _
  exact if_pos (c := o < h.1 ∧ (h.2.2.1 o).1 = ci) ⟨av_ltN hg hk hc, hk⟩
theorem wq_pl {idx o ci f : Nat} {v : Int} (hx : cd.lookup pc = some (av_qf (.putfield idx) ci f 1)) (hp : pc + 3 = p') (hk : (hK h o).1 = ci) (hc : Nat.ble ci 98 = true) (hw : av_wp sc cd p' lv r (hwF h o f v) Q) : av_wp sc cd pc lv (.inr (.inl v) :: .inr (.inr (.inl (some o))) :: r) h Q := by
  intro hg
  subst hp
  refine av_wp_st1 hx (pc' := pc + 3) (lv' := lv) (st' := r) (h' := hwF h o f v) rfl ?_ hw hg
  show av_putf (av_qf (.putfield idx) ci f 1) pc lv (.inr (.inl v) :: .inr (.inr (.inl (some o))) :: r) h = _
  exact if_pos (c := o < h.1 ∧ (h.2.2.1 o).1 = ci) ⟨av_ltN hg hk hc, hk⟩
theorem wq_pb {idx o ci f : Nat} {v : Int} (hx : cd.lookup pc = some (av_qf (.putfield idx) ci f 3)) (hp : pc + 3 = p') (hk : (hK h o).1 = ci) (hc : Nat.ble ci 98 = true) (hv : v = 0 ∨ v = 1) (hw : av_wp sc cd p' lv r (hwF h o f v) Q) : av_wp sc cd pc lv (.inl v :: .inr (.inr (.inl (some o))) :: r) h Q := by
  intro hg
  subst hp
  refine av_wp_st1 hx (pc' := pc + 3) (lv' := lv) (st' := r) (h' := hwF h o f v) rfl ?_ hw hg
  show av_putf (av_qf (.putfield idx) ci f 3) pc lv (.inl v :: .inr (.inr (.inl (some o))) :: r) h = _
  exact if_pos (c := (o < h.1 ∧ (h.2.2.1 o).1 = ci) ∧ (v = 0 ∨ v = 1)) ⟨⟨av_ltN hg hk hc, hk⟩, hv⟩
theorem wq_pr {idx o ci f : Nat} {v : Option Nat} (hx : cd.lookup pc = some (av_qf (.putfield idx) ci f 2)) (hp : pc + 3 = p') (hk : (hK h o).1 = ci) (hc : Nat.ble ci 98 = true) (hw : av_wp sc cd p' lv r (hwG h o f v) Q) : av_wp sc cd pc lv (.inr (.inr (.inl v)) :: .inr (.inr (.inl (some o))) :: r) h Q := by
  intro hg
  subst hp
  refine av_wp_st1 hx (pc' := pc + 3) (lv' := lv) (st' := r) (h' := hwG h o f v) rfl ?_ hw hg
  show av_putf (av_qf (.putfield idx) ci f 2) pc lv (.inr (.inr (.inl v)) :: .inr (.inr (.inl (some o))) :: r) h = _
  exact if_pos (c := o < h.1 ∧ (h.2.2.1 o).1 = ci) ⟨av_ltN hg hk hc, hk⟩
/-- arrays -/
theorem wq_al {o n : Nat} {i v : Int} (hx : cd.lookup pc = some (av_q (.iaload))) (hp : pc + 1 = p') (hk : hK h o = (20, n)) (hi : 0 ≤ i ∧ i < n ∧ (n : Int) < 2147483648) (hv : hA h o i.toNat = v) (hw : av_wp sc cd p' lv (.inl v :: r) h Q) : av_wp sc cd pc lv (.inl i :: .inr (.inr (.inl (some o))) :: r) h Q := by
  intro hg
  subst hp
  refine av_wp_st1 hx (pc' := pc + 1) (lv' := lv) (st' := .inl v :: r) (h' := h) rfl ?_ hw hg
  show av_ald sc [20] pc lv (.inl i :: .inr (.inr (.inl (some o))) :: r) h = _
  have hk1 : (h.2.2.1 o).1 = 20 := by rw [show h.2.2.1 o = (20, n) from hk]
  have hk2 : (h.2.2.1 o).2 = n := by rw [show h.2.2.1 o = (20, n) from hk]
  simp only [av_ald]
  rw [hk2, if_pos ⟨⟨av_ltN hg hk1 rfl, by rw [hk1]; simp⟩, av_inO hi⟩, av_rgw ⟨by omega, by omega⟩, ← hv]
theorem wq_bl {o n : Nat} {i v : Int} (hx : cd.lookup pc = some (av_q (.baload))) (hp : pc + 1 = p') (hk : hK h o = (21, n) ∨ hK h o = (22, n)) (hi : 0 ≤ i ∧ i < n ∧ (n : Int) < 2147483648) (hv : hA h o i.toNat = v) (hw : av_wp sc cd p' lv (.inl v :: r) h Q) : av_wp sc cd pc lv (.inl i :: .inr (.inr (.inl (some o))) :: r) h Q := by
  intro hg
  subst hp
  refine av_wp_st1 hx (pc' := pc + 1) (lv' := lv) (st' := .inl v :: r) (h' := h) rfl ?_ hw hg
  show av_ald sc [21, 22] pc lv (.inl i :: .inr (.inr (.inl (some o))) :: r) h = _
  have hk2 : (h.2.2.1 o).2 = n := by rcases hk with hk | hk <;> rw [show h.2.2.1 o = (_, n) from hk]
  have hk1 : (h.2.2.1 o).1 = 21 ∨ (h.2.2.1 o).1 = 22 := by rcases hk with hk | hk <;> rw [show h.2.2.1 o = (_, n) from hk] <;> simp
  have ho : o < h.1 := by rcases hk1 with hk1 | hk1 <;> exact av_ltN hg hk1 rfl
  simp only [av_ald]
  rw [hk2, if_pos ⟨⟨ho, by rcases hk1 with hk1 | hk1 <;> rw [hk1] <;> simp⟩, av_inO hi⟩, av_rgw ⟨by omega, by omega⟩, ← hv]
theorem wq_as {o n : Nat} {i v : Int} (hx : cd.lookup pc = some (av_q (.iastore))) (hp : pc + 1 = p') (hk : hK h o = (20, n)) (hi : 0 ≤ i ∧ i < n ∧ (n : Int) < 2147483648) (hw : av_wp sc cd p' lv r (hwA h o i.toNat v) Q) : av_wp sc cd pc lv (.inl v :: .inl i :: .inr (.inr (.inl (some o))) :: r) h Q := by
  intro hg
  subst hp
  refine av_wp_st1 hx (pc' := pc + 1) (lv' := lv) (st' := r) (h' := hwA h o i.toNat v) rfl ?_ hw hg
  show av_iast pc lv (.inl v :: .inl i :: .inr (.inr (.inl (some o))) :: r) h = _
  have hk1 : (h.2.2.1 o).1 = 20 := by rw [show h.2.2.1 o = (20, n) from hk]
  have hk2 : (h.2.2.1 o).2 = n := by rw [show h.2.2.1 o = (20, n) from hk]
  simp only [av_iast]
  rw [hk2, if_pos ⟨⟨av_ltN hg hk1 rfl, hk1⟩, av_inO hi⟩, av_rgw ⟨by omega, by omega⟩]
  rfl
theorem wq_zs {o n : Nat} {i v : Int} (hx : cd.lookup pc = some (av_q (.bastore))) (hp : pc + 1 = p') (hk : hK h o = (22, n)) (hi : 0 ≤ i ∧ i < n ∧ (n : Int) < 2147483648) (hv : v = 0 ∨ v = 1) (hw : av_wp sc cd p' lv r (hwA h o i.toNat v) Q) : av_wp sc cd pc lv (.inl v :: .inl i :: .inr (.inr (.inl (some o))) :: r) h Q := by
  intro hg
  subst hp
  refine av_wp_st1 hx (pc' := pc + 1) (lv' := lv) (st' := r) (h' := hwA h o i.toNat v) rfl ?_ hw hg
  show av_bast pc lv (.inl v :: .inl i :: .inr (.inr (.inl (some o))) :: r) h = _
  have hk1 : (h.2.2.1 o).1 = 22 := by rw [show h.2.2.1 o = (22, n) from hk]
  have hk2 : (h.2.2.1 o).2 = n := by rw [show h.2.2.1 o = (22, n) from hk]
  simp only [av_bast]
  rw [hk2, if_neg (fun z => by have := z.1.2; omega), if_pos ⟨⟨av_ltN hg hk1 rfl, hk1⟩, av_inO hi, hv⟩, av_rgw ⟨by omega, by omega⟩]
  rfl
theorem wq_bs {o n : Nat} {i v : Int} (hx : cd.lookup pc = some (av_q (.bastore))) (hp : pc + 1 = p') (hk : hK h o = (21, n)) (hi : 0 ≤ i ∧ i < n ∧ (n : Int) < 2147483648) (hw : av_wp sc cd p' lv r (hwA h o i.toNat (av_b v)) Q) : av_wp sc cd pc lv (.inl v :: .inl i :: .inr (.inr (.inl (some o))) :: r) h Q := by
  intro hg
  subst hp
  refine av_wp_st1 hx (pc' := pc + 1) (lv' := lv) (st' := r) (h' := hwA h o i.toNat (av_b v)) rfl ?_ hw hg
  show av_bast pc lv (.inl v :: .inl i :: .inr (.inr (.inl (some o))) :: r) h = _
  have hk1 : (h.2.2.1 o).1 = 21 := by rw [show h.2.2.1 o = (21, n) from hk]
  have hk2 : (h.2.2.1 o).2 = n := by rw [show h.2.2.1 o = (21, n) from hk]
  simp only [av_bast]
  rw [hk2, if_pos ⟨⟨av_ltN hg hk1 rfl, hk1⟩, av_inO hi⟩, av_rgw ⟨by omega, by omega⟩]
  rfl
theorem wq_ar {o n k : Nat} {i : Int} {v : Option Nat} (hx : cd.lookup pc = some (av_q (.aaload))) (hp : pc + 1 = p') (hk : hK h o = (k, n)) (hkk : k = 30 ∨ k = 31 ∨ k = 32) (hi : 0 ≤ i ∧ i < n ∧ (n : Int) < 2147483648) (hv : hR h o i.toNat = v) (hw : av_wp sc cd p' lv (.inr (.inr (.inl v)) :: r) h Q) : av_wp sc cd pc lv (.inl i :: .inr (.inr (.inl (some o))) :: r) h Q := by
  intro hg
  subst hp
  refine av_wp_st1 hx (pc' := pc + 1) (lv' := lv) (st' := .inr (.inr (.inl v)) :: r) (h' := h) rfl ?_ hw hg
  show av_aald pc lv (.inl i :: .inr (.inr (.inl (some o))) :: r) h = _
  have hk1 : (h.2.2.1 o).1 = k := by rw [show h.2.2.1 o = (k, n) from hk]
  have hk2 : (h.2.2.1 o).2 = n := by rw [show h.2.2.1 o = (k, n) from hk]
  have ho : o < h.1 := hg o (by rw [hk1]; omega)
  simp only [av_aald]
  rw [hk2, if_pos ⟨⟨ho, by rw [hk1]; rcases hkk with e | e | e <;> rw [e] <;> simp⟩, av_inO hi⟩, av_rgw ⟨by omega, by omega⟩, ← hv]
theorem wq_ln {o n k : Nat} (hx : cd.lookup pc = some (av_q (.arraylength))) (hp : pc + 1 = p') (hk : hK h o = (k, n)) (hkk : k ∈ [20, 21, 22, 30, 31, 32]) (hw : av_wp sc cd p' lv (.inl (n : Int) :: r) h Q) : av_wp sc cd pc lv (.inr (.inr (.inl (some o))) :: r) h Q := by
  intro hg
  subst hp
  refine av_wp_st1 hx (pc' := pc + 1) (lv' := lv) (st' := .inl (n : Int) :: r) (h' := h) rfl ?_ hw hg
  show av_alen sc pc lv (.inr (.inr (.inl (some o))) :: r) h = _
  have hk1 : (h.2.2.1 o).1 = k := by rw [show h.2.2.1 o = (k, n) from hk]
  have hk2 : (h.2.2.1 o).2 = n := by rw [show h.2.2.1 o = (k, n) from hk]
  have ho : o < h.1 := hg o (by rw [hk1]; intro z; rw [z] at hkk; simp at hkk)
  simp only [av_alen]
  rw [hk2, if_pos ⟨ho, by rw [hk1]; exact hkk⟩]
/-- ways that part: nothing is kept of what was asked -/
theorem wq_c2 {c : Jvm.ClassFile.Cond} {off : Int} {t : Nat} {x y : Int} (hx : cd.lookup pc = some (av_qa (.if_icmp c off) t)) (hp : pc + 3 = p') (h1 : av_wp sc cd t lv r h Q) (h2 : av_wp sc cd p' lv r h Q) : av_wp sc cd pc lv (.inl y :: .inl x :: r) h Q := by
  subst hp
  refine av_wp_st1 hx (pc' := if av_cmp c (av_w x) (av_w y) = true then t else pc + 3) (lv' := lv) (st' := r) (h' := h) rfl rfl ?_
  split
  · exact h1
  · exact h2
theorem wq_c1 {c : Jvm.ClassFile.Cond} {off : Int} {t : Nat} {x : Int} (hx : cd.lookup pc = some (av_qa (.ifCond c off) t)) (hp : pc + 3 = p') (h1 : av_wp sc cd t lv r h Q) (h2 : av_wp sc cd p' lv r h Q) : av_wp sc cd pc lv (.inl x :: r) h Q := by
  subst hp
  refine av_wp_st1 hx (pc' := if av_cmp c (av_w x) 0 = true then t else pc + 3) (lv' := lv) (st' := r) (h' := h) rfl rfl ?_
  split
  · exact h1
  · exact h2
/-- what is asked of numbers of 32 bits -/
def av_cP : Jvm.ClassFile.Cond → Int → Int → Prop
  | .eq, x, y => x = y
  | .ne, x, y => x ≠ y
  | .lt, x, y => x < y
  | .ge, x, y => y ≤ x
  | .gt, x, y => y < x
  | .le, x, y => x ≤ y
def av_cN : Jvm.ClassFile.Cond → Int → Int → Prop
  | .eq, x, y => x ≠ y
  | .ne, x, y => x = y
  | .lt, x, y => y ≤ x
  | .ge, x, y => x < y
  | .gt, x, y => x ≤ y
  | .le, x, y => y < x
theorem av_cP_of {c : Jvm.ClassFile.Cond} {x y : Int} (h : av_cmp c x y = true) : av_cP c x y := by
  cases c <;> (simp only [av_cmp, decide_eq_true_eq] at h; exact h)
theorem av_cN_of {c : Jvm.ClassFile.Cond} {x y : Int} (h : ¬ av_cmp c x y = true) : av_cN c x y := by
  cases c <;> simp only [av_cmp, decide_eq_true_eq] at h <;> simp only [av_cN] <;> omega
theorem wq_k2 {c : Jvm.ClassFile.Cond} {off : Int} {t : Nat} {x y : Int} (hx : cd.lookup pc = some (av_qa (.if_icmp c off) t)) (hp : pc + 3 = p') (rx : av_rg x) (ry : av_rg y) (h1 : av_cP c x y → av_wp sc cd t lv r h Q) (h2 : av_cN c x y → av_wp sc cd p' lv r h Q) : av_wp sc cd pc lv (.inl y :: .inl x :: r) h Q := by
  subst hp
  refine av_wp_st1 hx (pc' := if av_cmp c (av_w x) (av_w y) = true then t else pc + 3) (lv' := lv) (st' := r) (h' := h) rfl rfl ?_
  rw [av_rgw rx, av_rgw ry]
  split
  · next z => exact h1 (av_cP_of z)
  · next z => exact h2 (av_cN_of z)
theorem wq_k1 {c : Jvm.ClassFile.Cond} {off : Int} {t : Nat} {x : Int} (hx : cd.lookup pc = some (av_qa (.ifCond c off) t)) (hp : pc + 3 = p') (rx : av_rg x) (h1 : av_cP c x 0 → av_wp sc cd t lv r h Q) (h2 : av_cN c x 0 → av_wp sc cd p' lv r h Q) : av_wp sc cd pc lv (.inl x :: r) h Q := by
  subst hp
  refine av_wp_st1 hx (pc' := if av_cmp c (av_w x) 0 = true then t else pc + 3) (lv' := lv) (st' := r) (h' := h) rfl rfl ?_
  rw [av_rgw rx]
  split
  · next z => exact h1 (av_cP_of z)
  · next z => exact h2 (av_cN_of z)
/-- what is asked of numbers that may be any -/
theorem wq_w2 {c : Jvm.ClassFile.Cond} {off : Int} {t : Nat} {x y : Int} (hx : cd.lookup pc = some (av_qa (.if_icmp c off) t)) (hp : pc + 3 = p') (h1 : av_cP c (av_w x) (av_w y) → av_wp sc cd t lv r h Q) (h2 : av_cN c (av_w x) (av_w y) → av_wp sc cd p' lv r h Q) : av_wp sc cd pc lv (.inl y :: .inl x :: r) h Q := by
  subst hp
  refine av_wp_st1 hx (pc' := if av_cmp c (av_w x) (av_w y) = true then t else pc + 3) (lv' := lv) (st' := r) (h' := h) rfl rfl ?_
  split
  · next z => exact h1 (av_cP_of z)
  · next z => exact h2 (av_cN_of z)
theorem wq_dw {x y : Int} (hx : cd.lookup pc = some (av_q (.idiv))) (hp : pc + 1 = p') (hy : av_w y ≠ 0) (hw : ∀ v : Int, av_wp sc cd p' lv (.inl v :: r) h Q) : av_wp sc cd pc lv (.inl y :: .inl x :: r) h Q := by
  subst hp
  refine av_wp_st1 hx (pc' := pc + 1) (lv' := lv) (st' := .inl ((av_w x).tdiv (av_w y)) :: r) (h' := h) rfl ?_ (hw _)
  show (if av_w y = 0 then none else some (pc + 1, lv, .inl ((av_w x).tdiv (av_w y)) :: r, h)) = _
  rw [if_neg hy]
theorem wq_bw {o n : Nat} {i : Int} (hx : cd.lookup pc = some (av_q (.baload))) (hp : pc + 1 = p') (hk : hK h o = (21, n) ∨ hK h o = (22, n)) (hi : 0 ≤ av_w i ∧ av_w i < n) (hw : ∀ v : Int, av_wp sc cd p' lv (.inl v :: r) h Q) : av_wp sc cd pc lv (.inl i :: .inr (.inr (.inl (some o))) :: r) h Q := by
  intro hg
  subst hp
  refine av_wp_st1 hx (pc' := pc + 1) (lv' := lv) (st' := .inl (hA h o (av_w i).toNat) :: r) (h' := h) rfl ?_ (hw _) hg
  show av_ald sc [21, 22] pc lv (.inl i :: .inr (.inr (.inl (some o))) :: r) h = _
  have hk2 : (h.2.2.1 o).2 = n := by rcases hk with hk | hk <;> rw [show h.2.2.1 o = (_, n) from hk]
  have hk1 : (h.2.2.1 o).1 = 21 ∨ (h.2.2.1 o).1 = 22 := by rcases hk with hk | hk <;> rw [show h.2.2.1 o = (_, n) from hk] <;> simp
  have ho : o < h.1 := by rcases hk1 with hk1 | hk1 <;> exact av_ltN hg hk1 rfl
  have hb : av_inB i n = true := by
    unfold av_inB
    rw [Bool.and_eq_true]
    exact ⟨decide_eq_true hi.1, decide_eq_true hi.2⟩
  simp only [av_ald]
  rw [hk2, if_pos ⟨⟨ho, by rcases hk1 with hk1 | hk1 <;> rw [hk1] <;> simp⟩, hb⟩]
/-- null or not -/
theorem wq_nu {off : Int} {t : Nat} {v : Option Nat} (hx : cd.lookup pc = some (av_qa (.ifnull off) t)) (hp : pc + 3 = p') (h1 : v = none → av_wp sc cd t lv r h Q) (h2 : ∀ o, v = some o → av_wp sc cd p' lv r h Q) : av_wp sc cd pc lv (.inr (.inr (.inl v)) :: r) h Q := by
  subst hp
  cases v with
  | none => exact av_wp_st1 hx (pc' := t) (lv' := lv) (st' := r) (h' := h) rfl rfl (h1 rfl)
  | some o => exact av_wp_st1 hx (pc' := pc + 3) (lv' := lv) (st' := r) (h' := h) rfl rfl (h2 o rfl)
/-- the library's max, min -/
theorem wq_mx {ins : Instr} {x y : Int} (hx : cd.lookup pc = some (av_qa ins 1001)) (hp : pc + 3 = p') (hk : av_kd (av_qa ins 1001) = 0) (hs : ∀ lv st, av_stp sc (av_qa ins 1001) pc lv st h = av_lib 1001 pc lv st h) (hr : Nat.ble (r.map av_cat).sum 8 = true) (hw : ∀ v : Int, (v = x ∨ v = y) → (av_rg x → av_rg y → x ≤ v ∧ y ≤ v) → av_wp sc cd p' lv (.inl v :: r) h Q) : av_wp sc cd pc lv (.inl y :: .inl x :: r) h Q := by
  subst hp
  refine av_wp_st1 hx (pc' := pc + 3) (lv' := lv) (st' := .inl (if av_w x < av_w y then y else x) :: r) (h' := h) hk ?_ (hw _ ?_ ?_)
  · rw [hs]
    simp only [av_lib]
    rw [if_pos (Nat.le_of_ble_eq_true hr)]
  · split <;> simp
  · intro rx ry
    rw [av_rgw rx, av_rgw ry]
    split <;> omega
theorem wq_mn {ins : Instr} {x y : Int} (hx : cd.lookup pc = some (av_qa ins 1002)) (hp : pc + 3 = p') (hk : av_kd (av_qa ins 1002) = 0) (hs : ∀ lv st, av_stp sc (av_qa ins 1002) pc lv st h = av_lib 1002 pc lv st h) (hr : Nat.ble (r.map av_cat).sum 8 = true) (hw : ∀ v : Int, (v = x ∨ v = y) → (av_rg x → av_rg y → v ≤ x ∧ v ≤ y) → av_wp sc cd p' lv (.inl v :: r) h Q) : av_wp sc cd pc lv (.inl y :: .inl x :: r) h Q := by
  subst hp
  refine av_wp_st1 hx (pc' := pc + 3) (lv' := lv) (st' := .inl (if av_w y < av_w x then y else x) :: r) (h' := h) hk ?_ (hw _ ?_ ?_)
  · rw [hs]
    simp only [av_lib]
    rw [if_pos (Nat.le_of_ble_eq_true hr)]
  · split <;> simp
  · intro rx ry
    rw [av_rgw rx, av_rgw ry]
    split <;> omega
/-- division -/
theorem wq_dv {x y : Int} (hx : cd.lookup pc = some (av_q (.idiv))) (hp : pc + 1 = p') (ry : av_rg y) (hy : y ≠ 0) (hw : ∀ v : Int, (av_rg x → v = x.tdiv y) → av_wp sc cd p' lv (.inl v :: r) h Q) : av_wp sc cd pc lv (.inl y :: .inl x :: r) h Q := by
  subst hp
  refine av_wp_st1 hx (pc' := pc + 1) (lv' := lv) (st' := .inl ((av_w x).tdiv (av_w y)) :: r) (h' := h) rfl ?_ (hw _ ?_)
  · show (if av_w y = 0 then none else some (pc + 1, lv, .inl ((av_w x).tdiv (av_w y)) :: r, h)) = _
    rw [if_neg (by rw [av_rgw ry]; exact hy)]
  · intro rx
    rw [av_rgw rx, av_rgw ry]
theorem wq_rm {x y : Int} (hx : cd.lookup pc = some (av_q (.irem))) (hp : pc + 1 = p') (ry : av_rg y) (hy : y ≠ 0) (hw : ∀ v : Int, (av_rg x → v = x.tmod y) → av_wp sc cd p' lv (.inl v :: r) h Q) : av_wp sc cd pc lv (.inl y :: .inl x :: r) h Q := by
  subst hp
  refine av_wp_st1 hx (pc' := pc + 1) (lv' := lv) (st' := .inl ((av_w x).tmod (av_w y)) :: r) (h' := h) rfl ?_ (hw _ ?_)
  · show (if av_w y = 0 then none else some (pc + 1, lv, .inl ((av_w x).tmod (av_w y)) :: r, h)) = _
    rw [if_neg (by rw [av_rgw ry]; exact hy)]
  · intro rx
    rw [av_rgw rx, av_rgw ry]
/-- a call of an object's method, of a constructor -/
theorem wq_cv (x : av_E) (mL : Nat) (cdj : List (Nat × av_E)) (as : List av_V) (o ci : Nat) (lv' : av_L) (hx : cd.lookup pc = some x) (hp : pc + 3 = p') (hkd : av_kd x = 2) (hM : av_PP x.2.2.1 = some (mL, cdj)) (hn : Nat.beq x.2.2.2.1 as.length = true) (hk2 : Nat.ble x.2.2.2.2.1 1 = true) (hci : x.2.2.2.2.2 = (ci : Int)) (hk : (hK h o).1 = ci) (hc : Nat.ble ci 98 = true) (hr : Nat.ble (r.map av_cat).sum 8 = true) (hl : Nat.ble (av_args (.inr (.inr (.inl (some o))) :: as.reverse)).length mL = true) (he : av_ent mL (.inr (.inr (.inl (some o))) :: as.reverse) = lv')
    (hcall : av_wp none cdj 0 lv' [] h (fun v h' => av_wp sc cd p' lv (v.toList ++ r) h' Q)) : av_wp sc cd pc lv (as ++ .inr (.inr (.inl (some o))) :: r) h Q := by
  subst hp
  subst he
  refine av_wp_call hx hkd hM (vs := .inr (.inr (.inl (some o))) :: as.reverse) (r := r) ?_ (Nat.le_of_ble_eq_true hl) hcall (fun v h' hq => hq)
  intro hg
  have hn' : x.2.2.2.1 = as.length := Nat.eq_of_beq_eq_true hn
  unfold av_pop
  rw [hn', if_pos (by simp), List.drop_left, List.take_left]
  have h2 := Nat.le_of_ble_eq_true hk2
  have hcond : (r.map av_cat).sum ≤ 8 ∧ o < h.1 ∧ ((h.2.2.1 o).1 : Int) = x.2.2.2.2.2 := ⟨Nat.le_of_ble_eq_true hr, av_ltN hg hk hc, by rw [hci]; exact congrArg Int.ofNat hk⟩
  rcases hx2 : x.2.2.2.2.1 with _ | _ | n
  · exact if_pos hcond
  · exact if_pos hcond
  · omega
/-- a call of a static method -/
theorem wq_cs (x : av_E) (mL : Nat) (cdj : List (Nat × av_E)) (vs : List av_V) (st : List av_V) (lv' : av_L) (hx : cd.lookup pc = some x) (hp : pc + 3 = p') (hkd : av_kd x = 2) (hM : av_PP x.2.2.1 = some (mL, cdj)) (hpop : ∀ h', av_pop x st h' = some (vs, r)) (hl : Nat.ble (av_args vs).length mL = true) (he : av_ent mL vs = lv')
    (hcall : av_wp none cdj 0 lv' [] h (fun v h' => av_wp sc cd p' lv (v.toList ++ r) h' Q)) : av_wp sc cd pc lv st h Q := by
  subst hp
  subst he
  exact av_wp_call hx hkd hM (fun _ => hpop h) (Nat.le_of_ble_eq_true hl) hcall (fun v h' hq => hq)
/-- a truth value goes back -/
theorem wq_rb {v : Int} (hx : cd.lookup pc = some (av_qa (.ireturn) 1)) (hv : v = 0 ∨ v = 1) (hq : Q (some (.inl v)) h) : av_wp sc cd pc lv [.inl v] h Q := by
  refine av_wp_ret (v := some (.inl v)) hx rfl ?_ hq
  exact if_pos (c := (1 : Nat) = 0 ∨ v = 0 ∨ v = 1) (Or.inr hv)
/-- a switch -/
theorem wq_tc {x c d lo hi : Int} {offs : Array Int} {ln t : Nat} (hx : cd.lookup pc = some (av_qw (.tableswitch d lo hi offs) ln)) (he : x = c) (ht : ((pc : Int) + (if av_w c < lo ∨ hi < av_w c then d else offs.toList.getD (av_w c - lo).toNat 0)).toNat = t) (hw : av_wp sc cd t lv r h Q) : av_wp sc cd pc lv (.inl x :: r) h Q := by
  subst he
  subst ht
  exact av_wp_st1 hx (pc' := ((pc : Int) + (if av_w x < lo ∨ hi < av_w x then d else offs.toList.getD (av_w x - lo).toNat 0)).toNat) (lv' := lv) (st' := r) (h' := h) rfl rfl hw
theorem wq_td {x d lo hi : Int} {offs : Array Int} {ln t : Nat} (hx : cd.lookup pc = some (av_qw (.tableswitch d lo hi offs) ln)) (rx : av_rg x) (he : x < lo ∨ hi < x) (ht : ((pc : Int) + d).toNat = t) (hw : av_wp sc cd t lv r h Q) : av_wp sc cd pc lv (.inl x :: r) h Q := by
  subst ht
  refine av_wp_st1 hx (pc' := ((pc : Int) + d).toNat) (lv' := lv) (st' := r) (h' := h) rfl ?_ hw
  show some (((pc : Int) + (if av_w x < lo ∨ hi < av_w x then d else offs.toList.getD (av_w x - lo).toNat 0)).toNat, lv, r, h) = _
  rw [av_rgw rx, if_pos he]
theorem wq_lc {x c d : Int} {ps : Array (Int × Int)} {ln t : Nat} (hx : cd.lookup pc = some (av_qw (.lookupswitch d ps) ln)) (he : x = c) (ht : ((pc : Int) + Op.lookupswitch.offset ps.toList d (av_w c)).toNat = t) (hw : av_wp sc cd t lv r h Q) : av_wp sc cd pc lv (.inl x :: r) h Q := by
  subst he
  subst ht
  exact av_wp_st1 hx (pc' := ((pc : Int) + Op.lookupswitch.offset ps.toList d (av_w x)).toNat) (lv' := lv) (st' := r) (h' := h) rfl rfl hw
theorem wq_ld {x d : Int} {ps : Array (Int × Int)} {ln t : Nat} (hx : cd.lookup pc = some (av_qw (.lookupswitch d ps) ln)) (rx : av_rg x) (he : Op.lookupswitch.offset ps.toList d x = d) (ht : ((pc : Int) + d).toNat = t) (hw : av_wp sc cd t lv r h Q) : av_wp sc cd pc lv (.inl x :: r) h Q := by
  subst ht
  refine av_wp_st1 hx (pc' := ((pc : Int) + d).toNat) (lv' := lv) (st' := r) (h' := h) rfl ?_ hw
  show some (((pc : Int) + Op.lookupswitch.offset ps.toList d (av_w x)).toNat, lv, r, h) = _
  rw [av_rgw rx, he]
end
theorem shl_le {n : Int} (e : 0 ≤ n ∧ n ≤ 12) : 1 ≤ av_shl (1) n ∧ (n ≤ 6 → av_shl (1) n ≤ 64) ∧ av_shl (1) n ≤ 4096 := by
  rcases (show n = 0 ∨ n = 1 ∨ n = 2 ∨ n = 3 ∨ n = 4 ∨ n = 5 ∨ n = 6 ∨ n = 7 ∨ n = 8 ∨ n = 9 ∨ n = 10 ∨ n = 11 ∨ n = 12 by omega) with e | e | e | e | e | e | e | e | e | e | e | e | e <;> subst e <;> decide
end
section
/-! WHERE ALL LIES: the cells 0 to 121 of class and reference, the same in every run; cases; benches; what a look may change -/
def c_Kt : List (Nat × Nat) := [(7, 0), (6, 0), (21, 900), (5, 0), (30, 16), (32, 8), (20, 14), (20, 14), (20, 14), (20, 14), (20, 14), (20, 14), (20, 14), (20, 14), (32, 6), (20, 14), (20, 14), (20, 14), (20, 14), (20, 14), (20, 14), (31, 4), (2, 0), (20, 252), (4, 0), (20, 14), (3, 0), (20, 144), (22, 16), (22, 1024), (20, 14), (20, 5), (1, 0), (20, 0), (20, 0), (0, 0), (20, 36), (20, 12), (22, 12), (22, 12), (22, 12), (20, 12), (20, 12), (20, 12), (20, 12), (20, 12), (20, 12), (20, 14), (0, 0), (20, 36), (20, 12), (22, 12), (22, 12), (22, 12), (20, 12), (20, 12), (20, 12), (20, 12), (20, 12), (20, 12), (20, 14), (0, 0), (20, 36), (20, 12), (22, 12), (22, 12), (22, 12), (20, 12), (20, 12), (20, 12), (20, 12), (20, 12), (20, 12), (20, 14), (1, 0), (20, 0), (20, 0), (8, 0), (20, 5), (20, 5), (20, 5), (20, 80), (20, 960), (20, 960), (20, 960), (20, 960), (20, 960), (20, 960), (20, 960), (20, 960), (20, 4800), (20, 2880), (20, 2880), (20, 980), (21, 900), (20, 13), (20, 12), (20, 12), (20, 12), (20, 12), (20, 12), (20, 12), (20, 12), (22, 12), (20, 60), (20, 36), (20, 36), (20, 48), (20, 48), (20, 12), (20, 12), (20, 12), (20, 48), (20, 12), (20, 12), (20, 12), (22, 16), (22, 16), (22, 1024), (20, 1024), (20, 1024), (20, 5120)]
def c_K (a : Nat) : Nat × Nat := c_Kt.getD a (99, 0)
def c_Gt : List (List (Option Nat)) := [[some 1, some 3, some 21, some 22, some 24, some 26, some 74, none, none], [some 2, none, none, none, none, none, none], [], [some 4, some 5, some 14, none, none, none], [], [], [], [], [], [], [], [], [], [], [], [], [], [], [], [], [], [], [some 1, some 23, none], [], [some 1, some 25], [], [some 3, some 35, some 48, some 61, some 27, some 28, some 29, some 30, some 31, none, none], [], [], [], [], [], [some 34, none, none, none], [], [], [some 36, some 37, some 38, some 39, some 40, some 41, some 42, some 43, some 44, some 45, some 46, none, none, none, none, none], [], [], [], [], [], [], [], [], [], [], [], [], [some 49, some 50, some 51, some 52, some 53, some 54, some 55, some 56, some 57, some 58, some 59, none, none, none, none, none], [], [], [], [], [], [], [], [], [], [], [], [], [some 62, some 63, some 64, some 65, some 66, some 67, some 68, some 69, some 70, some 71, some 72, none, none, none, none, none], [], [], [], [], [], [], [], [], [], [], [], [], [some 76, none, none, none], [], [], [some 78, some 79, some 80, some 81, some 82, some 83, some 84, some 85, some 86, some 87, some 88, some 89, some 90, some 91, some 92, some 93, some 94, none, none, none, none, none, none, none, none, none, some 95, none, none, none, some 96, some 97, some 98, some 99, some 100, some 101, some 102, some 103, some 104, some 105, some 106, some 107, some 108, some 109, some 110, some 111, some 112, some 113, some 114, some 115, none, none, none, none, some 116, some 117, some 118, some 119, some 120, some 121, none, none, none], [], [], [], [], [], [], [], [], [], [], [], [], [], [], [], [], [], [], [], [], [], [], [], [], [], [], [], [], [], [], [], [], [], [], [], [], [], [], [], [], [], [], [], []]
def c_G (o f : Nat) : Option Nat := if Nat.blt o 122 && Nat.blt f 63 then (c_Gt.getD o []).getD f none else none
theorem nbeq {a b : Nat} (h : a ≠ b) : Nat.beq a b = false := by
  cases e : Nat.beq a b
  · rfl
  · exact absurd (Nat.eq_of_beq_eq_true e) h
theorem nble {a b : Nat} (h : b < a) : Nat.ble a b = false := by
  cases e : Nat.ble a b
  · rfl
  · exact absurd (Nat.le_of_ble_eq_true e) (by omega)
def LY (h : av_H) : Prop := (∀ a, Nat.blt a 122 = true → hK h a = c_K a) ∧ (∀ o f q, c_G o f = some q → hG h o f = some q) ∧ (∀ i, i < 8 → hR h 5 i = some (6 + i)) ∧ (∀ i, i < 6 → hR h 14 i = some (15 + i))
theorem ly_k {h : av_H} (L : LY h) (a : Nat) (ha : Nat.blt a 122 = true) : hK h a = c_K a := L.1 a ha
theorem ly_g {h : av_H} (L : LY h) (o f q : Nat) (e : c_G o f = some q) : hG h o f = some q := L.2.1 o f q e
/-- the three benches -/
def bn (b : Nat) : Prop := b = 35 ∨ b = 48 ∨ b = 61
theorem bn_cK48 : ∀ j, j < 13 → c_K (48 + j) = c_K (35 + j) := by decide
theorem bn_cK61 : ∀ j, j < 13 → c_K (61 + j) = c_K (35 + j) := by decide
theorem bn_cG35 : ∀ f, f < 11 → c_G 35 f = some (35 + 1 + f) := by decide
theorem bn_cG48 : ∀ f, f < 11 → c_G 48 f = some (48 + 1 + f) := by decide
theorem bn_cG61 : ∀ f, f < 11 → c_G 61 f = some (61 + 1 + f) := by decide
theorem bn_k0 {h : av_H} {b : Nat} (L : LY h) (hb : bn b) : hK h b = (0, 0) := by
  rcases hb with e | e | e <;> subst e
  · exact L.1 35 rfl
  · exact L.1 48 rfl
  · exact L.1 61 rfl
theorem bn_k {h : av_H} {b : Nat} (L : LY h) (hb : bn b) (j : Nat) (hj : Nat.blt j 12 = true) : hK h (b + 1 + j) = c_K (36 + j) := by
  have hj' : j < 12 := Nat.le_of_ble_eq_true hj
  rcases hb with e | e | e <;> subst e
  · have := L.1 (35 + 1 + j) (Nat.ble_eq_true_of_le (by omega))
    rw [this]
  · have := L.1 (48 + 1 + j) (Nat.ble_eq_true_of_le (by omega))
    rw [this, show 48 + 1 + j = 48 + (1 + j) by omega, bn_cK48 _ (by omega), show 35 + (1 + j) = 36 + j by omega]
  · have := L.1 (61 + 1 + j) (Nat.ble_eq_true_of_le (by omega))
    rw [this, show 61 + 1 + j = 61 + (1 + j) by omega, bn_cK61 _ (by omega), show 35 + (1 + j) = 36 + j by omega]
theorem bn_g {h : av_H} {b : Nat} (L : LY h) (hb : bn b) (f : Nat) (hf : Nat.blt f 11 = true) : hG h b f = some (b + 1 + f) := by
  have hf' : f < 11 := Nat.le_of_ble_eq_true hf
  rcases hb with e | e | e <;> subst e
  · exact L.2.1 35 f _ (bn_cG35 f hf')
  · exact L.2.1 48 f _ (bn_cG48 f hf')
  · exact L.2.1 61 f _ (bn_cG61 f hf')
/-- a case: its object t, its cells c, its size s, its combos cb -/
def CO (h : av_H) (t c s : Nat) (cb : Int) : Prop := hK h t = (1, 0) ∧ hF h t 1 = (s : Int) ∧ s ≤ 12 ∧ hF h t 3 = cb ∧ (-1 ≤ cb ∧ cb ≤ 1024) ∧ hG h t 0 = some c ∧ hK h c = (20, 21 * s) ∧ (c = 34 ∨ c = 76 ∨ 122 ≤ c) ∧ (∀ j, -1 ≤ hA h c j ∧ hA h c j ≤ 100000) ∧ ∀ k j, j < 4 → hA h c (21 * k + 15 + j) ≤ 16
section
variable {h : av_H} {t c s : Nat} {cb : Int}
theorem co_kt (o : CO h t c s cb) : hK h t = (1, 0) := o.1
theorem co_s (o : CO h t c s cb) : hF h t 1 = (s : Int) := o.2.1
theorem co_s12 (o : CO h t c s cb) : s ≤ 12 := o.2.2.1
theorem co_cb (o : CO h t c s cb) : hF h t 3 = cb := o.2.2.2.1
theorem co_cbr (o : CO h t c s cb) : -1 ≤ cb ∧ cb ≤ 1024 := o.2.2.2.2.1
theorem co_c (o : CO h t c s cb) : hG h t 0 = some c := o.2.2.2.2.2.1
theorem co_kc (o : CO h t c s cb) : hK h c = (20, 21 * s) := o.2.2.2.2.2.2.1
theorem co_v (o : CO h t c s cb) (j : Nat) : -1 ≤ hA h c j ∧ hA h c j ≤ 100000 := o.2.2.2.2.2.2.2.2.1 j
end
/-- the rows of rules -/
def rwc (a : Nat) : Bool := (Nat.ble 6 a && Nat.ble a 13) || (Nat.ble 15 a && Nat.ble a 20) || Nat.beq a 25 || Nat.beq a 30 || Nat.beq a 47 || Nat.beq a 60 || Nat.beq a 73
def RW (h : av_H) : Prop := ∀ a, rwc a = true → ∀ j, -2 ≤ hA h a j ∧ hA h a j ≤ 999
/-- what a look may change: arrays, number fields, reference fields -/
def sA (a : Nat) : Bool := (Nat.ble 27 a && Nat.ble a 31) || (Nat.ble 36 a && Nat.ble a 46) || (Nat.ble 49 a && Nat.ble a 59) || (Nat.ble 62 a && Nat.ble a 72)
def sB (o : Nat) : Bool := Nat.beq o 35 || Nat.beq o 48 || Nat.beq o 61
def sF (o f : Nat) : Bool := (Nat.beq o 26 && (Nat.beq f 9 || Nat.beq f 10)) || (sB o && (Nat.beq f 13 || Nat.beq f 14 || Nat.beq f 15))
def sG (o f : Nat) : Bool := sB o && (Nat.beq f 11 || Nat.beq f 12)
def Fr (g h : av_H) : Prop := h.1 = g.1 ∧ h.2.1 = g.2.1 ∧ hK h = hK g ∧ hR h = hR g ∧ (∀ o f, sG o f = false → hG h o f = hG g o f) ∧ (∀ o f, sF o f = false → hF h o f = hF g o f) ∧ (∀ a, sA a = false → hA h a = hA g a)
theorem Fr_rf (h : av_H) : Fr h h := ⟨rfl, rfl, rfl, rfl, fun _ _ _ => rfl, fun _ _ _ => rfl, fun _ _ => rfl⟩
theorem Fr_tr {g h k : av_H} (a : Fr g h) (b : Fr h k) : Fr g k := ⟨b.1.trans a.1, b.2.1.trans a.2.1, b.2.2.1.trans a.2.2.1, b.2.2.2.1.trans a.2.2.2.1, fun o f e => (b.2.2.2.2.1 o f e).trans (a.2.2.2.2.1 o f e), fun o f e => (b.2.2.2.2.2.1 o f e).trans (a.2.2.2.2.2.1 o f e), fun o e => (b.2.2.2.2.2.2 o e).trans (a.2.2.2.2.2.2 o e)⟩
theorem Fr_wA {g h : av_H} {a j : Nat} {v : Int} (F : Fr g h) (e : sA a = true) : Fr g (hwA h a j v) := ⟨F.1, F.2.1, F.2.2.1, F.2.2.2.1, F.2.2.2.2.1, F.2.2.2.2.2.1, fun k hk => by
  have hne : k ≠ a := fun z => by rw [z, e] at hk; cases hk
  show av_u2 h.2.2.2.1 a j v k = _
  rw [av_u2_ne hne]
  exact F.2.2.2.2.2.2 k hk⟩
theorem Fr_wF {g h : av_H} {o f : Nat} {v : Int} (F : Fr g h) (e : sF o f = true) : Fr g (hwF h o f v) := ⟨F.1, F.2.1, F.2.2.1, F.2.2.2.1, F.2.2.2.2.1, fun k q hk => by
  show av_u2 h.2.2.2.2.1 o f v k q = _
  have hne : ¬ (k = o ∧ q = f) := fun z => by rw [z.1, z.2, e] at hk; cases hk
  rw [av_u2, if_neg hne]
  exact F.2.2.2.2.2.1 k q hk, F.2.2.2.2.2.2⟩
theorem Fr_wG {g h : av_H} {o f : Nat} {v : Option Nat} (F : Fr g h) (e : sG o f = true) : Fr g (hwG h o f v) := ⟨F.1, F.2.1, F.2.2.1, F.2.2.2.1, fun k q hk => by
  show av_u2 h.2.2.2.2.2.1 o f v k q = _
  have hne : ¬ (k = o ∧ q = f) := fun z => by rw [z.1, z.2, e] at hk; cases hk
  rw [av_u2, if_neg hne]
  exact F.2.2.2.2.1 k q hk, F.2.2.2.2.2.1, F.2.2.2.2.2.2⟩
theorem sB_bn {b : Nat} (hb : bn b) : sB b = true := by rcases hb with e | e | e <;> subst e <;> rfl
theorem sA_bn {b : Nat} (hb : bn b) (j : Nat) (hj : Nat.blt j 11 = true) : sA (b + 1 + j) = true := by
  have hj' : j < 11 := Nat.le_of_ble_eq_true hj
  have h1 : ∀ j, j < 11 → sA (35 + 1 + j) = true := by decide
  have h2 : ∀ j, j < 11 → sA (48 + 1 + j) = true := by decide
  have h3 : ∀ j, j < 11 → sA (61 + 1 + j) = true := by decide
  rcases hb with e | e | e <;> subst e
  · exact h1 j hj'
  · exact h2 j hj'
  · exact h3 j hj'
theorem cG_sG : ∀ o, o < 122 → ∀ f, f < 63 → (c_G o f).isSome = true → sG o f = false := by decide +kernel
theorem cG_big {o f q : Nat} (e : c_G o f = some q) : o < 122 ∧ f < 63 := by
  unfold c_G at e
  by_cases hc : (Nat.blt o 122 && Nat.blt f 63) = true
  · rw [Bool.and_eq_true] at hc
    exact ⟨Nat.le_of_ble_eq_true hc.1, Nat.le_of_ble_eq_true hc.2⟩
  · rw [if_neg hc] at e
    cases e
theorem LY_fr {g h : av_H} (L : LY g) (F : Fr g h) : LY h := ⟨fun a ha => by rw [F.2.2.1]; exact L.1 a ha, fun o f q e => by
  rw [F.2.2.2.2.1 o f (cG_sG o (cG_big e).1 f (cG_big e).2 (by rw [e]; rfl))]
  exact L.2.1 o f q e, fun i hi => by rw [F.2.2.2.1]; exact L.2.2.1 i hi, fun i hi => by rw [F.2.2.2.1]; exact L.2.2.2 i hi⟩
theorem sF_case {h : av_H} {t c s : Nat} {cb : Int} (L : LY h) (o : CO h t c s cb) (f : Nat) : sF t f = false := by
  have e1 : t ≠ 26 := fun z => by have a := co_kt o; rw [z, L.1 26 rfl] at a; cases a
  have e2 : t ≠ 35 := fun z => by have a := co_kt o; rw [z, L.1 35 rfl] at a; cases a
  have e3 : t ≠ 48 := fun z => by have a := co_kt o; rw [z, L.1 48 rfl] at a; cases a
  have e4 : t ≠ 61 := fun z => by have a := co_kt o; rw [z, L.1 61 rfl] at a; cases a
  simp only [sF, sB, nbeq e1, nbeq e2, nbeq e3, nbeq e4, Bool.false_and, Bool.or_false, Bool.false_or]
theorem sG_case {h : av_H} {t c s : Nat} {cb : Int} (L : LY h) (o : CO h t c s cb) (f : Nat) : sG t f = false := by
  have e2 : t ≠ 35 := fun z => by have a := co_kt o; rw [z, L.1 35 rfl] at a; cases a
  have e3 : t ≠ 48 := fun z => by have a := co_kt o; rw [z, L.1 48 rfl] at a; cases a
  have e4 : t ≠ 61 := fun z => by have a := co_kt o; rw [z, L.1 61 rfl] at a; cases a
  simp only [sG, sB, nbeq e2, nbeq e3, nbeq e4, Bool.false_and, Bool.or_false]
theorem sA_cells {c : Nat} (e : c = 34 ∨ c = 76 ∨ 122 ≤ c) : sA c = false := by
  rcases e with e | e | e
  · rw [e]; rfl
  · rw [e]; rfl
  · simp only [sA, Bool.or_eq_false_iff, Bool.and_eq_false_iff]
    refine ⟨⟨⟨Or.inr ?_, Or.inr ?_⟩, Or.inr ?_⟩, Or.inr ?_⟩ <;> exact nble (by omega)
theorem CO_fr {g h : av_H} {t c s : Nat} {cb : Int} (L : LY g) (o : CO g t c s cb) (F : Fr g h) : CO h t c s cb := by
  obtain ⟨o1, o2, o3, o4, o5, o6, o7, o8, o9⟩ := o
  have oo : CO g t c s cb := ⟨o1, o2, o3, o4, o5, o6, o7, o8, o9⟩
  refine ⟨by rw [F.2.2.1]; exact o1, by rw [F.2.2.2.2.2.1 t 1 (sF_case L oo 1)]; exact o2, o3, by rw [F.2.2.2.2.2.1 t 3 (sF_case L oo 3)]; exact o4, o5, by rw [F.2.2.2.2.1 t 0 (sG_case L oo 0)]; exact o6, by rw [F.2.2.1]; exact o7, o8, ?_⟩
  rw [F.2.2.2.2.2.2 c (sA_cells o8)]
  exact o9
/-- the class as the looks need it -/
def SH (h : av_H) : Prop := ∀ i, i < 16 → hR h 4 i = none ∨ ∃ t c s cb, hR h 4 i = some t ∧ CO h t c s cb
def CN (h : av_H) : Prop := (0 ≤ hF h 3 3 ∧ hF h 3 3 ≤ 16) ∧ (0 ≤ hF h 3 4 ∧ hF h 3 4 ≤ 8) ∧ (0 ≤ hF h 3 5 ∧ hF h 3 5 ≤ 6)
def HD (h : av_H) : Prop := (0 ≤ hF h 26 9 ∧ hF h 26 9 ≤ 7) ∧ (0 ≤ hF h 26 10 ∧ hF h 26 10 ≤ 1023)
def BB (h : av_H) : Prop := ∀ b, bn b → (-1 ≤ hF h b 13 ∧ hF h b 13 ≤ 11) ∧ (-1 ≤ hF h b 14 ∧ hF h b 14 ≤ 11) ∧ ∃ t c s cb r, hG h b 12 = some t ∧ CO h t c s cb ∧ hG h b 11 = some r ∧ hK h r = (20, 14) ∧ rwc r = true
def IC (h : av_H) : Prop := LY h ∧ RW h ∧ SH h ∧ CN h ∧ HD h ∧ BB h
/-- what a look keeps of the class, when benches' cases and rules stay, or those of p and of the third bench alone change -/
def Fr1 (g h : av_H) : Prop := Fr g h ∧ hG h = hG g
def FX (p : Nat) (g h : av_H) : Prop := Fr g h ∧ ∀ o f, o ≠ p → o ≠ 61 → hG h o f = hG g o f
theorem Fr1_rf (h : av_H) : Fr1 h h := ⟨Fr_rf h, rfl⟩
theorem FX_rf (p : Nat) (h : av_H) : FX p h h := ⟨Fr_rf h, fun _ _ _ _ => rfl⟩
theorem FX_1 {p : Nat} {g h k : av_H} (a : FX p g h) (b : Fr1 h k) : FX p g k := ⟨Fr_tr a.1 b.1, fun o f e1 e2 => by rw [b.2]; exact a.2 o f e1 e2⟩
theorem FX_tr {p : Nat} {g h k : av_H} (a : FX p g h) (b : FX p h k) : FX p g k := ⟨Fr_tr a.1 b.1, fun o f e1 e2 => (b.2 o f e1 e2).trans (a.2 o f e1 e2)⟩
theorem SH_fr {g h : av_H} (L : LY g) (x : SH g) (F : Fr g h) : SH h := by
  intro i hi
  rw [F.2.2.2.1]
  rcases x i hi with e | ⟨t, c, s, cb, e, o⟩
  · exact Or.inl e
  · exact Or.inr ⟨t, c, s, cb, e, CO_fr L o F⟩
theorem bn_ne26 {b : Nat} (hb : bn b) : b ≠ 26 ∧ b ≠ 3 := by rcases hb with e | e | e <;> subst e <;> decide
theorem BB_fr {g h : av_H} (L : LY g) (x : BB g) (F : Fr g h) (e : hG h = hG g) (e2 : ∀ b, bn b → hF h b 13 = hF g b 13 ∧ hF h b 14 = hF g b 14) : BB h := by
  intro b hb
  obtain ⟨x1, x2, t, c, s, cb, r, y1, y2, y3, y4, y5⟩ := x b hb
  rw [(e2 b hb).1, (e2 b hb).2, e]
  exact ⟨x1, x2, t, c, s, cb, r, y1, CO_fr L y2 F, y3, by rw [F.2.2.1]; exact y4, y5⟩
theorem IC_wA {h : av_H} {a x : Nat} {v : Int} (I : IC h) (e : sA a = true) (hv : rwc a = true → -2 ≤ v ∧ v ≤ 999) : IC (hwA h a x v) := by
  have F : Fr h (hwA h a x v) := Fr_wA (Fr_rf h) e
  refine ⟨LY_fr I.1 F, ?_, SH_fr I.1 I.2.2.1 F, I.2.2.2.1, I.2.2.2.2.1, BB_fr I.1 I.2.2.2.2.2 F rfl (fun _ _ => ⟨rfl, rfl⟩)⟩
  intro q hq k
  show -2 ≤ av_u2 h.2.2.2.1 a x v q k ∧ av_u2 h.2.2.2.1 a x v q k ≤ 999
  by_cases e1 : q = a
  · subst e1
    by_cases e2 : k = x
    · subst e2; rw [av_u2_self]; exact hv hq
    · rw [av_u2_oth e2]; exact I.2.1 q hq k
  · rw [av_u2_ne e1]; exact I.2.1 q hq k
theorem IC_wF {h : av_H} {b f : Nat} {v : Int} (I : IC h) (hb : bn b) (hf : f = 13 ∨ f = 14 ∨ f = 15) (hv : f = 15 ∨ (-1 ≤ v ∧ v ≤ 11)) : IC (hwF h b f v) := by
  have F : Fr h (hwF h b f v) := Fr_wF (Fr_rf h) (by
    have := sB_bn hb
    rcases hf with e | e | e <;> subst e <;> simp [sF, this])
  refine ⟨LY_fr I.1 F, I.2.1, SH_fr I.1 I.2.2.1 F, ?_, ?_, ?_⟩
  · have := I.2.2.2.1
    unfold CN at this ⊢
    rw [show hF (hwF h b f v) 3 = hF h 3 from av_u2_ne (bn_ne26 hb).2.symm]
    exact this
  · have := I.2.2.2.2.1
    unfold HD at this ⊢
    rw [show hF (hwF h b f v) 26 = hF h 26 from av_u2_ne (bn_ne26 hb).1.symm]
    exact this
  · intro q hq
    obtain ⟨x1, x2, t, c, s, cb, r, y1, y2, y3, y4, y5⟩ := I.2.2.2.2.2 q hq
    refine ⟨?_, ?_, t, c, s, cb, r, y1, CO_fr I.1 y2 F, y3, y4, y5⟩
    · show -1 ≤ av_u2 h.2.2.2.2.1 b f v q 13 ∧ av_u2 h.2.2.2.2.1 b f v q 13 ≤ 11
      by_cases e1 : q = b
      · subst e1
        by_cases e : (13 : Nat) = f
        · subst e; rw [av_u2_self]; omega
        · rw [av_u2_oth e]; exact x1
      · rw [av_u2_ne e1]; exact x1
    · show -1 ≤ av_u2 h.2.2.2.2.1 b f v q 14 ∧ av_u2 h.2.2.2.2.1 b f v q 14 ≤ 11
      by_cases e1 : q = b
      · subst e1
        by_cases e : (14 : Nat) = f
        · subst e; rw [av_u2_self]; omega
        · rw [av_u2_oth e]; exact x2
      · rw [av_u2_ne e1]; exact x2
theorem IC_wH {h : av_H} {f : Nat} {v : Int} (I : IC h) (hf : (f = 9 ∧ 0 ≤ v ∧ v ≤ 7) ∨ (f = 10 ∧ 0 ≤ v ∧ v ≤ 1023)) : IC (hwF h 26 f v) := by
  have F : Fr h (hwF h 26 f v) := Fr_wF (Fr_rf h) (by
    rcases hf with e | e <;> rw [e.1] <;> rfl)
  refine ⟨LY_fr I.1 F, I.2.1, SH_fr I.1 I.2.2.1 F, I.2.2.2.1, ?_, ?_⟩
  · have := I.2.2.2.2.1
    unfold HD at this ⊢
    constructor
    · show 0 ≤ av_u2 h.2.2.2.2.1 26 f v 26 9 ∧ av_u2 h.2.2.2.2.1 26 f v 26 9 ≤ 7
      by_cases e : (9 : Nat) = f
      · subst e; rw [av_u2_self]; omega
      · rw [av_u2_oth e]; exact this.1
    · show 0 ≤ av_u2 h.2.2.2.2.1 26 f v 26 10 ∧ av_u2 h.2.2.2.2.1 26 f v 26 10 ≤ 1023
      by_cases e : (10 : Nat) = f
      · subst e; rw [av_u2_self]; omega
      · rw [av_u2_oth e]; exact this.2
  · refine BB_fr I.1 I.2.2.2.2.2 F rfl (fun b hb => ?_)
    have : hF (hwF h 26 f v) b = hF h b := av_u2_ne (bn_ne26 hb).1
    rw [this]
    exact ⟨rfl, rfl⟩
theorem IC_wT {h : av_H} {b t c s : Nat} {cb : Int} (I : IC h) (hb : bn b) (o : CO h t c s cb) : IC (hwG h b 12 (some t)) := by
  have F : Fr h (hwG h b 12 (some t)) := Fr_wG (Fr_rf h) (by simp [sG, sB_bn hb])
  refine ⟨LY_fr I.1 F, I.2.1, SH_fr I.1 I.2.2.1 F, I.2.2.2.1, I.2.2.2.2.1, ?_⟩
  intro q hq
  obtain ⟨x1, x2, t', c', s', cb', r, y1, y2, y3, y4, y5⟩ := I.2.2.2.2.2 q hq
  by_cases e1 : q = b
  · subst e1
    exact ⟨x1, x2, t, c, s, cb, r, av_u2_self, CO_fr I.1 o F, (av_u2_oth (by decide)).trans y3, y4, y5⟩
  · refine ⟨x1, x2, t', c', s', cb', r, ?_, CO_fr I.1 y2 F, ?_, y4, y5⟩
    · show av_u2 h.2.2.2.2.2.1 b 12 (some t) q 12 = _
      rw [av_u2_ne e1]; exact y1
    · show av_u2 h.2.2.2.2.2.1 b 12 (some t) q 11 = _
      rw [av_u2_ne e1]; exact y3
theorem IC_wU {h : av_H} {b r : Nat} (I : IC h) (hb : bn b) (k : hK h r = (20, 14)) (k2 : rwc r = true) : IC (hwG h b 11 (some r)) := by
  have F : Fr h (hwG h b 11 (some r)) := Fr_wG (Fr_rf h) (by simp [sG, sB_bn hb])
  refine ⟨LY_fr I.1 F, I.2.1, SH_fr I.1 I.2.2.1 F, I.2.2.2.1, I.2.2.2.2.1, ?_⟩
  intro q hq
  obtain ⟨x1, x2, t', c', s', cb', r', y1, y2, y3, y4, y5⟩ := I.2.2.2.2.2 q hq
  by_cases e1 : q = b
  · subst e1
    exact ⟨x1, x2, t', c', s', cb', r, (av_u2_oth (by decide)).trans y1, CO_fr I.1 y2 F, av_u2_self, k, k2⟩
  · refine ⟨x1, x2, t', c', s', cb', r', ?_, CO_fr I.1 y2 F, ?_, y4, y5⟩
    · show av_u2 h.2.2.2.2.2.1 b 11 (some r) q 12 = _
      rw [av_u2_ne e1]; exact y1
    · show av_u2 h.2.2.2.2.2.1 b 11 (some r) q 11 = _
      rw [av_u2_ne e1]; exact y3
/-- a bench with a case t and rules r -/
def IB (b t c s r : Nat) (cb : Int) (h : av_H) : Prop := IC h ∧ bn b ∧ CO h t c s cb ∧ hG h b 12 = some t ∧ hG h b 11 = some r ∧ hK h r = (20, 14) ∧ rwc r = true
section
variable {h : av_H} {b t c s r : Nat} {cb : Int}
theorem ib_ic (i : IB b t c s r cb h) : IC h := i.1
theorem ib_bn (i : IB b t c s r cb h) : bn b := i.2.1
theorem ib_co (i : IB b t c s r cb h) : CO h t c s cb := i.2.2.1
theorem ib_t (i : IB b t c s r cb h) : hG h b 12 = some t := i.2.2.2.1
theorem ib_r (i : IB b t c s r cb h) : hG h b 11 = some r := i.2.2.2.2.1
theorem ib_kr (i : IB b t c s r cb h) : hK h r = (20, 14) := i.2.2.2.2.2.1
theorem ib_rv (i : IB b t c s r cb h) (j : Nat) : -2 ≤ hA h r j ∧ hA h r j ≤ 999 := i.1.2.1 r i.2.2.2.2.2.2 j
theorem ib_mb (i : IB b t c s r cb h) : -1 ≤ hF h b 13 ∧ hF h b 13 ≤ 11 := (i.1.2.2.2.2.2 b i.2.1).1
theorem ib_mo (i : IB b t c s r cb h) : -1 ≤ hF h b 14 ∧ hF h b 14 ≤ 11 := (i.1.2.2.2.2.2 b i.2.1).2.1
theorem ib_k0 (i : IB b t c s r cb h) : hK h b = (0, 0) := bn_k0 i.1.1 i.2.1
theorem ib_k (i : IB b t c s r cb h) (j : Nat) (hj : Nat.blt j 12 = true) : hK h (b + 1 + j) = c_K (36 + j) := bn_k i.1.1 i.2.1 j hj
theorem ib_g (i : IB b t c s r cb h) (j : Nat) (hj : Nat.blt j 11 = true) : hG h b j = some (b + 1 + j) := bn_g i.1.1 i.2.1 j hj
theorem ib_fr {k : av_H} (i : IB b t c s r cb h) (I : IC k) (F : Fr h k) (e1 : hG k b 12 = hG h b 12) (e2 : hG k b 11 = hG h b 11) : IB b t c s r cb k := ⟨I, i.2.1, CO_fr i.1.1 i.2.2.1 F, by rw [e1]; exact i.2.2.2.1, by rw [e2]; exact i.2.2.2.2.1, by rw [F.2.2.1]; exact i.2.2.2.2.2.1, i.2.2.2.2.2.2⟩
theorem ib_f1 {k : av_H} (i : IB b t c s r cb h) (I : IC k) (F : Fr1 h k) : IB b t c s r cb k := ib_fr i I F.1 (by rw [F.2]) (by rw [F.2])
theorem ib_fx {k : av_H} {p : Nat} (i : IB b t c s r cb h) (I : IC k) (F : FX p h k) (e1 : b ≠ p) (e2 : b ≠ 61) : IB b t c s r cb k := ib_fr i I F.1 (F.2 b 12 e1 e2) (F.2 b 11 e1 e2)
theorem rwc_bn {b : Nat} (hb : bn b) (j : Nat) (hj : Nat.blt j 11 = true) : rwc (b + 1 + j) = false := by
  have hj' : j < 11 := Nat.le_of_ble_eq_true hj
  have h1 : ∀ j, j < 11 → rwc (35 + 1 + j) = false := by decide
  have h2 : ∀ j, j < 11 → rwc (48 + 1 + j) = false := by decide
  have h3 : ∀ j, j < 11 → rwc (61 + 1 + j) = false := by decide
  rcases hb with e | e | e <;> subst e
  · exact h1 j hj'
  · exact h2 j hj'
  · exact h3 j hj'
theorem IB_wA (i : IB b t c s r cb h) (a : Nat) (ha : sA a = true) (ha2 : rwc a = false) (x : Nat) (v : Int) : IB b t c s r cb (hwA h a x v) :=
  ib_fr i (IC_wA i.1 ha (fun z => by rw [ha2] at z; cases z)) (Fr_wA (Fr_rf h) ha) rfl rfl
theorem Fr1_wA {g : av_H} {a x : Nat} {v : Int} (F : Fr1 g h) (ha : sA a = true) : Fr1 g (hwA h a x v) := ⟨Fr_wA F.1 ha, F.2⟩
theorem Fr1_wF {g : av_H} {o f : Nat} {v : Int} (F : Fr1 g h) (ha : sF o f = true) : Fr1 g (hwF h o f v) := ⟨Fr_wF F.1 ha, F.2⟩
theorem IB_wF (i : IB b t c s r cb h) (f : Nat) (hf : f = 13 ∨ f = 14 ∨ f = 15) (v : Int) (hv : f = 15 ∨ (-1 ≤ v ∧ v ≤ 11)) : IB b t c s r cb (hwF h b f v) :=
  ib_fr i (IC_wF i.1 i.2.1 hf hv) (Fr_wF (Fr_rf h) (by
    have := sB_bn i.2.1
    rcases hf with e | e | e <;> subst e <;> simp [sF, this])) rfl rfl
end
section
variable {sc : av_Sr} {cd : List (Nat × av_E)} {Q : Option av_V → av_H → Prop} {pc p' : Nat} {lv : av_L} {r' : List av_V} {g h : av_H} {b t c s r : Nat} {cb : Int}
theorem ib_as {n : Nat} {x v : Int} (hx : cd.lookup pc = some (av_q (.iastore))) (hp : pc + 1 = p') (i : IB b t c s r cb h) (F : Fr1 g h) (j : Nat) (hj : Nat.blt j 11 = true) (hn : c_K (36 + j) = (20, n)) (hi : 0 ≤ x ∧ x < n ∧ (n : Int) < 2147483648) (hw : ∀ h', IB b t c s r cb h' → Fr1 g h' → av_wp sc cd p' lv r' h' Q) : av_wp sc cd pc lv (.inl v :: .inl x :: .inr (.inr (.inl (some (b + 1 + j)))) :: r') h Q :=
  wq_as hx hp ((ib_k i j (Nat.ble_eq_true_of_le (Nat.le_succ_of_le (Nat.le_of_ble_eq_true hj)))).trans hn) hi (hw _ (IB_wA i _ (sA_bn i.2.1 j hj) (rwc_bn i.2.1 j hj) _ _) (Fr1_wA F (sA_bn i.2.1 j hj)))
theorem ib_zs {n : Nat} {x v : Int} (hx : cd.lookup pc = some (av_q (.bastore))) (hp : pc + 1 = p') (i : IB b t c s r cb h) (F : Fr1 g h) (j : Nat) (hj : Nat.blt j 11 = true) (hn : c_K (36 + j) = (22, n)) (hi : 0 ≤ x ∧ x < n ∧ (n : Int) < 2147483648) (hv : v = 0 ∨ v = 1) (hw : ∀ h', IB b t c s r cb h' → Fr1 g h' → av_wp sc cd p' lv r' h' Q) : av_wp sc cd pc lv (.inl v :: .inl x :: .inr (.inr (.inl (some (b + 1 + j)))) :: r') h Q :=
  wq_zs hx hp ((ib_k i j (Nat.ble_eq_true_of_le (Nat.le_succ_of_le (Nat.le_of_ble_eq_true hj)))).trans hn) hi hv (hw _ (IB_wA i _ (sA_bn i.2.1 j hj) (rwc_bn i.2.1 j hj) _ _) (Fr1_wA F (sA_bn i.2.1 j hj)))
theorem ib_pi {idx f : Nat} {v : Int} (hx : cd.lookup pc = some (av_qf (.putfield idx) 0 f 0)) (hp : pc + 3 = p') (i : IB b t c s r cb h) (F : Fr1 g h) (hf : f = 13 ∨ f = 14 ∨ f = 15) (hv : f = 15 ∨ (-1 ≤ v ∧ v ≤ 11)) (hw : ∀ h', IB b t c s r cb h' → Fr1 g h' → av_wp sc cd p' lv r' h' Q) : av_wp sc cd pc lv (.inl v :: .inr (.inr (.inl (some b))) :: r') h Q :=
  wq_pi hx hp (congrArg Prod.fst (ib_k0 i)) rfl (hw _ (IB_wF i f hf v hv) (Fr1_wF F (by
    have := sB_bn i.2.1
    rcases hf with e | e | e <;> subst e <;> simp [sF, this])))
end
end
