section
/-! STEPS OVER ANY HEAP: a row a kind of instruction that looks at the heap or at unknown numbers -/
abbrev hK (h : av_H) : Nat → Nat × Nat := h.2.2.1
abbrev hA (h : av_H) : Nat → Nat → Int := h.2.2.2.1
abbrev hF (h : av_H) : Nat → Nat → Int := h.2.2.2.2.1
abbrev hG (h : av_H) : Nat → Nat → Option Nat := h.2.2.2.2.2.1
abbrev hR (h : av_H) : Nat → Nat → Option Nat := h.2.2.2.2.2.2.1
def hwA (h : av_H) (o j : Nat) (x : Int) : av_H := (h.1, h.2.1, h.2.2.1, av_u2 h.2.2.2.1 o j x, h.2.2.2.2)
def hwF (h : av_H) (o f : Nat) (x : Int) : av_H := (h.1, h.2.1, h.2.2.1, h.2.2.2.1, av_u2 h.2.2.2.2.1 o f x, h.2.2.2.2.2)
def hwG (h : av_H) (o f : Nat) (x : Option Nat) : av_H := (h.1, h.2.1, h.2.2.1, h.2.2.2.1, h.2.2.2.2.1, av_u2 h.2.2.2.2.2.1 o f x, h.2.2.2.2.2.2)
def hwR (h : av_H) (o j : Nat) (x : Option Nat) : av_H := (h.1, h.2.1, h.2.2.1, h.2.2.2.1, h.2.2.2.2.1, h.2.2.2.2.2.1, av_u2 h.2.2.2.2.2.2.1 o j x, h.2.2.2.2.2.2.2)
/-- a number of 32 bits -/
abbrev av_rg (x : Int) : Prop := -2147483648 ≤ x ∧ x < 2147483648
theorem av_rgw {x : Int} (h : av_rg x) : av_w x = x := Int.bmod_eq_of_le (by have := h.1; omega) (by have := h.2; omega)
theorem av_inO {x : Int} {n : Nat} (h : 0 ≤ x ∧ x < n ∧ (n : Int) < 2147483648) : av_inB x n = true := by
  unfold av_inB
  rw [av_rgw ⟨by omega, by omega⟩, Bool.and_eq_true]
  exact ⟨decide_eq_true h.1, decide_eq_true h.2.1⟩
theorem av_wp_st1 {sc : av_Sr} {cd : List (Nat × av_E)} {Q : Option av_V → av_H → Prop} {pc : Nat} {lv : av_L} {st : List av_V} {h : av_H} {x : av_E} (hx : cd.lookup pc = some x) {pc' : Nat} {lv' : av_L} {st' : List av_V} {h' : av_H} (hk : av_kd x = 0) (hs : av_stp sc x pc lv st h = some (pc', lv', st', h')) (hw : av_wp sc cd pc' lv' st' h' Q) : av_wp sc cd pc lv st h Q := by
  refine av_wp_seq 1 (pc' := pc') (lv' := lv') (st' := st') (h' := h') ?_ hw
  simp only [av_seq, hx, hk, if_true, hs]
theorem av_w_add {x i : Int} (h1 : -2147483648 ≤ av_w x + i) (h2 : av_w x + i < 2147483648) : av_w (x + i) = av_w x + i := by
  have e : av_w (x + i) = av_w (av_w x + i) := by
    unfold av_w
    simp
  rw [e, av_rgw ⟨h1, h2⟩]
section
variable {sc : av_Sr} {cd : List (Nat × av_E)} {Q : Option av_V → av_H → Prop} {pc p' : Nat} {lv : av_L} {r : List av_V} {h : av_H}
theorem av_ltN {o ci : Nat} (hg : av_Gd h) (hk : (hK h o).1 = ci) (hc : Nat.ble ci 98 = true) : o < h.1 := hg o (by
  have h1 := Nat.le_of_ble_eq_true hc
  have h2 : (h.2.2.1 o).1 = ci := hk
  omega)
/-- fields -/
theorem wq_gi {idx o ci f : Nat} {v : Int} (hx : cd.lookup pc = some (av_qf (.getfield idx) ci f 0)) (hp : pc + 3 = p') (hk : (hK h o).1 = ci) (hc : Nat.ble ci 98 = true) (hv : hF h o f = v) (hw : av_wp sc cd p' lv (.inl v :: r) h Q) : av_wp sc cd pc lv (.inr (.inr (.inl (some o))) :: r) h Q := by
  intro hg
  subst hp
  refine av_wp_st1 hx (pc' := pc + 3) (lv' := lv) (st' := .inl v :: r) (h' := h) rfl ?_ hw hg
  show av_getf (av_qf (.getfield idx) ci f 0) pc lv (.inr (.inr (.inl (some o))) :: r) h = _
  simp only [av_getf, av_qf]
  rw [if_pos ⟨av_ltN hg hk hc, hk⟩, ← hv]
theorem wq_gb {idx o ci f : Nat} {v : Int} (hx : cd.lookup pc = some (av_qf (.getfield idx) ci f 3)) (hp : pc + 3 = p') (hk : (hK h o).1 = ci) (hc : Nat.ble ci 98 = true) (hv : hF h o f = v) (hw : av_wp sc cd p' lv (.inl v :: r) h Q) : av_wp sc cd pc lv (.inr (.inr (.inl (some o))) :: r) h Q := by
  intro hg
  subst hp
  refine av_wp_st1 hx (pc' := pc + 3) (lv' := lv) (st' := .inl v :: r) (h' := h) rfl ?_ hw hg
  show av_getf (av_qf (.getfield idx) ci f 3) pc lv (.inr (.inr (.inl (some o))) :: r) h = _
  simp only [av_getf, av_qf]
  rw [if_pos ⟨av_ltN hg hk hc, hk⟩, ← hv]
theorem wq_gl {idx o ci f : Nat} {v : Int} (hx : cd.lookup pc = some (av_qf (.getfield idx) ci f 1)) (hp : pc + 3 = p') (hk : (hK h o).1 = ci) (hc : Nat.ble ci 98 = true) (hv : hF h o f = v) (hw : av_wp sc cd p' lv (.inr (.inl v) :: r) h Q) : av_wp sc cd pc lv (.inr (.inr (.inl (some o))) :: r) h Q := by
  intro hg
  subst hp
  refine av_wp_st1 hx (pc' := pc + 3) (lv' := lv) (st' := .inr (.inl v) :: r) (h' := h) rfl ?_ hw hg
  show av_getf (av_qf (.getfield idx) ci f 1) pc lv (.inr (.inr (.inl (some o))) :: r) h = _
  simp only [av_getf, av_qf]
  rw [if_pos ⟨av_ltN hg hk hc, hk⟩, ← hv]
theorem wq_gr {idx o ci f : Nat} {v : Option Nat} (hx : cd.lookup pc = some (av_qf (.getfield idx) ci f 2)) (hp : pc + 3 = p') (hk : (hK h o).1 = ci) (hc : Nat.ble ci 98 = true) (hv : hG h o f = v) (hw : av_wp sc cd p' lv (.inr (.inr (.inl v)) :: r) h Q) : av_wp sc cd pc lv (.inr (.inr (.inl (some o))) :: r) h Q := by
  intro hg
  subst hp
  refine av_wp_st1 hx (pc' := pc + 3) (lv' := lv) (st' := .inr (.inr (.inl v)) :: r) (h' := h) rfl ?_ hw hg
  show av_getf (av_qf (.getfield idx) ci f 2) pc lv (.inr (.inr (.inl (some o))) :: r) h = _
  simp only [av_getf, av_qf]
  rw [if_pos ⟨av_ltN hg hk hc, hk⟩, ← hv]
theorem wq_pi {idx o ci f : Nat} {v : Int} (hx : cd.lookup pc = some (av_qf (.putfield idx) ci f 0)) (hp : pc + 3 = p') (hk : (hK h o).1 = ci) (hc : Nat.ble ci 98 = true) (hw : av_wp sc cd p' lv r (hwF h o f v) Q) : av_wp sc cd pc lv (.inl v :: .inr (.inr (.inl (some o))) :: r) h Q := by
  intro hg
  subst hp
  refine av_wp_st1 hx (pc' := pc + 3) (lv' := lv) (st' := r) (h' := hwF h o f v) rfl ?_ hw hg
  show av_putf (av_qf (.putfield idx) ci f 0) pc lv (.inl v :: .inr (.inr (.inl (some o))) :: r) h = _
  exact if_pos (c := o < h.1 ∧ (h.2.2.1 o).1 = ci) ⟨av_ltN hg hk hc, hk⟩
theorem wq_pl {idx o ci f : Nat} {v : Int} (hx : cd.lookup pc = some (av_qf (.putfield idx) ci f 1)) (hp : pc + 3 = p') (hk : (hK h o).1 = ci) (hc : Nat.ble ci 98 = true) (hw : av_wp sc cd p' lv r (hwF h o f v) Q) : av_wp sc cd pc lv (.inr (.inl v) :: .inr (.inr (.inl (some o))) :: r) h Q := by
  intro hg
  subst hp
  refine av_wp_st1 hx (pc' := pc + 3) (lv' := lv) (st' := r) (h' := hwF h o f v) rfl ?_ hw hg
  show av_putf (av_qf (.putfield idx) ci f 1) pc lv (.inr (.inl v) :: .inr (.inr (.inl (some o))) :: r) h = _
  exact if_pos (c := o < h.1 ∧ (h.2.2.1 o).1 = ci) ⟨av_ltN hg hk hc, hk⟩
theorem wq_pb {idx o ci f : Nat} {v : Int} (hx : cd.lookup pc = some (av_qf (.putfield idx) ci f 3)) (hp : pc + 3 = p') (hk : (hK h o).1 = ci) (hc : Nat.ble ci 98 = true) (hv : v = 0 ∨ v = 1) (hw : av_wp sc cd p' lv r (hwF h o f v) Q) : av_wp sc cd pc lv (.inl v :: .inr (.inr (.inl (some o))) :: r) h Q := by
  intro hg
  subst hp
  refine av_wp_st1 hx (pc' := pc + 3) (lv' := lv) (st' := r) (h' := hwF h o f v) rfl ?_ hw hg
  show av_putf (av_qf (.putfield idx) ci f 3) pc lv (.inl v :: .inr (.inr (.inl (some o))) :: r) h = _
  exact if_pos (c := (o < h.1 ∧ (h.2.2.1 o).1 = ci) ∧ (v = 0 ∨ v = 1)) ⟨⟨av_ltN hg hk hc, hk⟩, hv⟩
theorem wq_pr {idx o ci f : Nat} {v : Option Nat} (hx : cd.lookup pc = some (av_qf (.putfield idx) ci f 2)) (hp : pc + 3 = p') (hk : (hK h o).1 = ci) (hc : Nat.ble ci 98 = true) (hw : av_wp sc cd p' lv r (hwG h o f v) Q) : av_wp sc cd pc lv (.inr (.inr (.inl v)) :: .inr (.inr (.inl (some o))) :: r) h Q := by
  intro hg
  subst hp
  refine av_wp_st1 hx (pc' := pc + 3) (lv' := lv) (st' := r) (h' := hwG h o f v) rfl ?_ hw hg
  show av_putf (av_qf (.putfield idx) ci f 2) pc lv (.inr (.inr (.inl v)) :: .inr (.inr (.inl (some o))) :: r) h = _
  exact if_pos (c := o < h.1 ∧ (h.2.2.1 o).1 = ci) ⟨av_ltN hg hk hc, hk⟩
/-- arrays -/
theorem wq_al {o n : Nat} {i v : Int} (hx : cd.lookup pc = some (av_q (.iaload))) (hp : pc + 1 = p') (hk : hK h o = (20, n)) (hi : 0 ≤ i ∧ i < n ∧ (n : Int) < 2147483648) (hv : hA h o i.toNat = v) (hw : av_wp sc cd p' lv (.inl v :: r) h Q) : av_wp sc cd pc lv (.inl i :: .inr (.inr (.inl (some o))) :: r) h Q := by
  intro hg
  subst hp
  refine av_wp_st1 hx (pc' := pc + 1) (lv' := lv) (st' := .inl v :: r) (h' := h) rfl ?_ hw hg
  show av_ald sc [20] pc lv (.inl i :: .inr (.inr (.inl (some o))) :: r) h = _
  have hk1 : (h.2.2.1 o).1 = 20 := by rw [show h.2.2.1 o = (20, n) from hk]
  have hk2 : (h.2.2.1 o).2 = n := by rw [show h.2.2.1 o = (20, n) from hk]
  simp only [av_ald]
  rw [hk2, if_pos ⟨⟨av_ltN hg hk1 rfl, by rw [hk1]; simp⟩, av_inO hi⟩, av_rgw ⟨by omega, by omega⟩, ← hv]
theorem wq_bl {o n : Nat} {i v : Int} (hx : cd.lookup pc = some (av_q (.baload))) (hp : pc + 1 = p') (hk : hK h o = (21, n) ∨ hK h o = (22, n)) (hi : 0 ≤ i ∧ i < n ∧ (n : Int) < 2147483648) (hv : hA h o i.toNat = v) (hw : av_wp sc cd p' lv (.inl v :: r) h Q) : av_wp sc cd pc lv (.inl i :: .inr (.inr (.inl (some o))) :: r) h Q := by
  intro hg
  subst hp
  refine av_wp_st1 hx (pc' := pc + 1) (lv' := lv) (st' := .inl v :: r) (h' := h) rfl ?_ hw hg
  show av_ald sc [21, 22] pc lv (.inl i :: .inr (.inr (.inl (some o))) :: r) h = _
  have hk2 : (h.2.2.1 o).2 = n := by rcases hk with hk | hk <;> rw [show h.2.2.1 o = (_, n) from hk]
  have hk1 : (h.2.2.1 o).1 = 21 ∨ (h.2.2.1 o).1 = 22 := by rcases hk with hk | hk <;> rw [show h.2.2.1 o = (_, n) from hk] <;> simp
  have ho : o < h.1 := by rcases hk1 with hk1 | hk1 <;> exact av_ltN hg hk1 rfl
  simp only [av_ald]
  rw [hk2, if_pos ⟨⟨ho, by rcases hk1 with hk1 | hk1 <;> rw [hk1] <;> simp⟩, av_inO hi⟩, av_rgw ⟨by omega, by omega⟩, ← hv]
theorem wq_as {o n : Nat} {i v : Int} (hx : cd.lookup pc = some (av_q (.iastore))) (hp : pc + 1 = p') (hk : hK h o = (20, n)) (hi : 0 ≤ i ∧ i < n ∧ (n : Int) < 2147483648) (hw : av_wp sc cd p' lv r (hwA h o i.toNat v) Q) : av_wp sc cd pc lv (.inl v :: .inl i :: .inr (.inr (.inl (some o))) :: r) h Q := by
  intro hg
  subst hp
  refine av_wp_st1 hx (pc' := pc + 1) (lv' := lv) (st' := r) (h' := hwA h o i.toNat v) rfl ?_ hw hg
  show av_iast pc lv (.inl v :: .inl i :: .inr (.inr (.inl (some o))) :: r) h = _
  have hk1 : (h.2.2.1 o).1 = 20 := by rw [show h.2.2.1 o = (20, n) from hk]
  have hk2 : (h.2.2.1 o).2 = n := by rw [show h.2.2.1 o = (20, n) from hk]
  simp only [av_iast]
  rw [hk2, if_pos ⟨⟨av_ltN hg hk1 rfl, hk1⟩, av_inO hi⟩, av_rgw ⟨by omega, by omega⟩]
  rfl
theorem wq_zs {o n : Nat} {i v : Int} (hx : cd.lookup pc = some (av_q (.bastore))) (hp : pc + 1 = p') (hk : hK h o = (22, n)) (hi : 0 ≤ i ∧ i < n ∧ (n : Int) < 2147483648) (hv : v = 0 ∨ v = 1) (hw : av_wp sc cd p' lv r (hwA h o i.toNat v) Q) : av_wp sc cd pc lv (.inl v :: .inl i :: .inr (.inr (.inl (some o))) :: r) h Q := by
  intro hg
  subst hp
  refine av_wp_st1 hx (pc' := pc + 1) (lv' := lv) (st' := r) (h' := hwA h o i.toNat v) rfl ?_ hw hg
  show av_bast pc lv (.inl v :: .inl i :: .inr (.inr (.inl (some o))) :: r) h = _
  have hk1 : (h.2.2.1 o).1 = 22 := by rw [show h.2.2.1 o = (22, n) from hk]
  have hk2 : (h.2.2.1 o).2 = n := by rw [show h.2.2.1 o = (22, n) from hk]
  simp only [av_bast]
  rw [hk2, if_neg (fun z => by have := z.1.2; omega), if_pos ⟨⟨av_ltN hg hk1 rfl, hk1⟩, av_inO hi, hv⟩, av_rgw ⟨by omega, by omega⟩]
  rfl
theorem wq_bs {o n : Nat} {i v : Int} (hx : cd.lookup pc = some (av_q (.bastore))) (hp : pc + 1 = p') (hk : hK h o = (21, n)) (hi : 0 ≤ i ∧ i < n ∧ (n : Int) < 2147483648) (hw : av_wp sc cd p' lv r (hwA h o i.toNat (av_b v)) Q) : av_wp sc cd pc lv (.inl v :: .inl i :: .inr (.inr (.inl (some o))) :: r) h Q := by
  intro hg
  subst hp
  refine av_wp_st1 hx (pc' := pc + 1) (lv' := lv) (st' := r) (h' := hwA h o i.toNat (av_b v)) rfl ?_ hw hg
  show av_bast pc lv (.inl v :: .inl i :: .inr (.inr (.inl (some o))) :: r) h = _
  have hk1 : (h.2.2.1 o).1 = 21 := by rw [show h.2.2.1 o = (21, n) from hk]
  have hk2 : (h.2.2.1 o).2 = n := by rw [show h.2.2.1 o = (21, n) from hk]
  simp only [av_bast]
  rw [hk2, if_pos ⟨⟨av_ltN hg hk1 rfl, hk1⟩, av_inO hi⟩, av_rgw ⟨by omega, by omega⟩]
  rfl
theorem wq_ar {o n k : Nat} {i : Int} {v : Option Nat} (hx : cd.lookup pc = some (av_q (.aaload))) (hp : pc + 1 = p') (hk : hK h o = (k, n)) (hkk : k = 30 ∨ k = 31 ∨ k = 32) (hi : 0 ≤ i ∧ i < n ∧ (n : Int) < 2147483648) (hv : hR h o i.toNat = v) (hw : av_wp sc cd p' lv (.inr (.inr (.inl v)) :: r) h Q) : av_wp sc cd pc lv (.inl i :: .inr (.inr (.inl (some o))) :: r) h Q := by
  intro hg
  subst hp
  refine av_wp_st1 hx (pc' := pc + 1) (lv' := lv) (st' := .inr (.inr (.inl v)) :: r) (h' := h) rfl ?_ hw hg
  show av_aald pc lv (.inl i :: .inr (.inr (.inl (some o))) :: r) h = _
  have hk1 : (h.2.2.1 o).1 = k := by rw [show h.2.2.1 o = (k, n) from hk]
  have hk2 : (h.2.2.1 o).2 = n := by rw [show h.2.2.1 o = (k, n) from hk]
  have ho : o < h.1 := hg o (by rw [hk1]; omega)
  simp only [av_aald]
  rw [hk2, if_pos ⟨⟨ho, by rw [hk1]; rcases hkk with e | e | e <;> rw [e] <;> simp⟩, av_inO hi⟩, av_rgw ⟨by omega, by omega⟩, ← hv]
theorem wq_ln {o n k : Nat} (hx : cd.lookup pc = some (av_q (.arraylength))) (hp : pc + 1 = p') (hk : hK h o = (k, n)) (hkk : k ∈ [20, 21, 22, 30, 31, 32]) (hw : av_wp sc cd p' lv (.inl (n : Int) :: r) h Q) : av_wp sc cd pc lv (.inr (.inr (.inl (some o))) :: r) h Q := by
  intro hg
  subst hp
  refine av_wp_st1 hx (pc' := pc + 1) (lv' := lv) (st' := .inl (n : Int) :: r) (h' := h) rfl ?_ hw hg
  show av_alen sc pc lv (.inr (.inr (.inl (some o))) :: r) h = _
  have hk1 : (h.2.2.1 o).1 = k := by rw [show h.2.2.1 o = (k, n) from hk]
  have hk2 : (h.2.2.1 o).2 = n := by rw [show h.2.2.1 o = (k, n) from hk]
  have ho : o < h.1 := hg o (by rw [hk1]; intro z; rw [z] at hkk; simp at hkk)
  simp only [av_alen]
  rw [hk2, if_pos ⟨ho, by rw [hk1]; exact hkk⟩]
/-- ways that part: nothing is kept of what was asked -/
theorem wq_c2 {c : Jvm.ClassFile.Cond} {off : Int} {t : Nat} {x y : Int} (hx : cd.lookup pc = some (av_qa (.if_icmp c off) t)) (hp : pc + 3 = p') (h1 : av_wp sc cd t lv r h Q) (h2 : av_wp sc cd p' lv r h Q) : av_wp sc cd pc lv (.inl y :: .inl x :: r) h Q := by
  subst hp
  refine av_wp_st1 hx (pc' := if av_cmp c (av_w x) (av_w y) = true then t else pc + 3) (lv' := lv) (st' := r) (h' := h) rfl rfl ?_
  split
  · exact h1
  · exact h2
theorem wq_c1 {c : Jvm.ClassFile.Cond} {off : Int} {t : Nat} {x : Int} (hx : cd.lookup pc = some (av_qa (.ifCond c off) t)) (hp : pc + 3 = p') (h1 : av_wp sc cd t lv r h Q) (h2 : av_wp sc cd p' lv r h Q) : av_wp sc cd pc lv (.inl x :: r) h Q := by
  subst hp
  refine av_wp_st1 hx (pc' := if av_cmp c (av_w x) 0 = true then t else pc + 3) (lv' := lv) (st' := r) (h' := h) rfl rfl ?_
  split
  · exact h1
  · exact h2
/-- what is asked of numbers of 32 bits -/
def av_cP : Jvm.ClassFile.Cond → Int → Int → Prop
  | .eq, x, y => x = y
  | .ne, x, y => x ≠ y
  | .lt, x, y => x < y
  | .ge, x, y => y ≤ x
  | .gt, x, y => y < x
  | .le, x, y => x ≤ y
def av_cN : Jvm.ClassFile.Cond → Int → Int → Prop
  | .eq, x, y => x ≠ y
  | .ne, x, y => x = y
  | .lt, x, y => y ≤ x
  | .ge, x, y => x < y
  | .gt, x, y => x ≤ y
  | .le, x, y => y < x
theorem av_cP_of {c : Jvm.ClassFile.Cond} {x y : Int} (h : av_cmp c x y = true) : av_cP c x y := by
  cases c <;> (simp only [av_cmp, decide_eq_true_eq] at h; exact h)
theorem av_cN_of {c : Jvm.ClassFile.Cond} {x y : Int} (h : ¬ av_cmp c x y = true) : av_cN c x y := by
  cases c <;> simp only [av_cmp, decide_eq_true_eq] at h <;> simp only [av_cN] <;> omega
theorem wq_k2 {c : Jvm.ClassFile.Cond} {off : Int} {t : Nat} {x y : Int} (hx : cd.lookup pc = some (av_qa (.if_icmp c off) t)) (hp : pc + 3 = p') (rx : av_rg x) (ry : av_rg y) (h1 : av_cP c x y → av_wp sc cd t lv r h Q) (h2 : av_cN c x y → av_wp sc cd p' lv r h Q) : av_wp sc cd pc lv (.inl y :: .inl x :: r) h Q := by
  subst hp
  refine av_wp_st1 hx (pc' := if av_cmp c (av_w x) (av_w y) = true then t else pc + 3) (lv' := lv) (st' := r) (h' := h) rfl rfl ?_
  rw [av_rgw rx, av_rgw ry]
  split
  · next z => exact h1 (av_cP_of z)
  · next z => exact h2 (av_cN_of z)
theorem wq_k1 {c : Jvm.ClassFile.Cond} {off : Int} {t : Nat} {x : Int} (hx : cd.lookup pc = some (av_qa (.ifCond c off) t)) (hp : pc + 3 = p') (rx : av_rg x) (h1 : av_cP c x 0 → av_wp sc cd t lv r h Q) (h2 : av_cN c x 0 → av_wp sc cd p' lv r h Q) : av_wp sc cd pc lv (.inl x :: r) h Q := by
  subst hp
  refine av_wp_st1 hx (pc' := if av_cmp c (av_w x) 0 = true then t else pc + 3) (lv' := lv) (st' := r) (h' := h) rfl rfl ?_
  rw [av_rgw rx]
  split
  · next z => exact h1 (av_cP_of z)
  · next z => exact h2 (av_cN_of z)
/-- what is asked of numbers that may be any -/
theorem wq_w2 {c : Jvm.ClassFile.Cond} {off : Int} {t : Nat} {x y : Int} (hx : cd.lookup pc = some (av_qa (.if_icmp c off) t)) (hp : pc + 3 = p') (h1 : av_cP c (av_w x) (av_w y) → av_wp sc cd t lv r h Q) (h2 : av_cN c (av_w x) (av_w y) → av_wp sc cd p' lv r h Q) : av_wp sc cd pc lv (.inl y :: .inl x :: r) h Q := by
  subst hp
  refine av_wp_st1 hx (pc' := if av_cmp c (av_w x) (av_w y) = true then t else pc + 3) (lv' := lv) (st' := r) (h' := h) rfl rfl ?_
  split
  · next z => exact h1 (av_cP_of z)
  · next z => exact h2 (av_cN_of z)
theorem wq_dw {x y : Int} (hx : cd.lookup pc = some (av_q (.idiv))) (hp : pc + 1 = p') (hy : av_w y ≠ 0) (hw : ∀ v : Int, av_wp sc cd p' lv (.inl v :: r) h Q) : av_wp sc cd pc lv (.inl y :: .inl x :: r) h Q := by
  subst hp
  refine av_wp_st1 hx (pc' := pc + 1) (lv' := lv) (st' := .inl ((av_w x).tdiv (av_w y)) :: r) (h' := h) rfl ?_ (hw _)
  show (if av_w y = 0 then none else some (pc + 1, lv, .inl ((av_w x).tdiv (av_w y)) :: r, h)) = _
  rw [if_neg hy]
theorem wq_bw {o n : Nat} {i : Int} (hx : cd.lookup pc = some (av_q (.baload))) (hp : pc + 1 = p') (hk : hK h o = (21, n) ∨ hK h o = (22, n)) (hi : 0 ≤ av_w i ∧ av_w i < n) (hw : ∀ v : Int, av_wp sc cd p' lv (.inl v :: r) h Q) : av_wp sc cd pc lv (.inl i :: .inr (.inr (.inl (some o))) :: r) h Q := by
  intro hg
  subst hp
  refine av_wp_st1 hx (pc' := pc + 1) (lv' := lv) (st' := .inl (hA h o (av_w i).toNat) :: r) (h' := h) rfl ?_ (hw _) hg
  show av_ald sc [21, 22] pc lv (.inl i :: .inr (.inr (.inl (some o))) :: r) h = _
  have hk2 : (h.2.2.1 o).2 = n := by rcases hk with hk | hk <;> rw [show h.2.2.1 o = (_, n) from hk]
  have hk1 : (h.2.2.1 o).1 = 21 ∨ (h.2.2.1 o).1 = 22 := by rcases hk with hk | hk <;> rw [show h.2.2.1 o = (_, n) from hk] <;> simp
  have ho : o < h.1 := by rcases hk1 with hk1 | hk1 <;> exact av_ltN hg hk1 rfl
  have hb : av_inB i n = true := by
    unfold av_inB
    rw [Bool.and_eq_true]
    exact ⟨decide_eq_true hi.1, decide_eq_true hi.2⟩
  simp only [av_ald]
  rw [hk2, if_pos ⟨⟨ho, by rcases hk1 with hk1 | hk1 <;> rw [hk1] <;> simp⟩, hb⟩]
/-- the library's max, min -/
theorem wq_mx {ins : Instr} {x y : Int} (hx : cd.lookup pc = some (av_qa ins 1001)) (hp : pc + 3 = p') (hk : av_kd (av_qa ins 1001) = 0) (hs : ∀ lv st, av_stp sc (av_qa ins 1001) pc lv st h = av_lib 1001 pc lv st h) (hr : Nat.ble (r.map av_cat).sum 8 = true) (hw : ∀ v : Int, (v = x ∨ v = y) → (av_rg x → av_rg y → x ≤ v ∧ y ≤ v) → av_wp sc cd p' lv (.inl v :: r) h Q) : av_wp sc cd pc lv (.inl y :: .inl x :: r) h Q := by
  subst hp
  refine av_wp_st1 hx (pc' := pc + 3) (lv' := lv) (st' := .inl (if av_w x < av_w y then y else x) :: r) (h' := h) hk ?_ (hw _ ?_ ?_)
  · rw [hs]
    simp only [av_lib]
    rw [if_pos (Nat.le_of_ble_eq_true hr)]
  · split <;> simp
  · intro rx ry
    rw [av_rgw rx, av_rgw ry]
    split <;> omega
theorem wq_mn {ins : Instr} {x y : Int} (hx : cd.lookup pc = some (av_qa ins 1002)) (hp : pc + 3 = p') (hk : av_kd (av_qa ins 1002) = 0) (hs : ∀ lv st, av_stp sc (av_qa ins 1002) pc lv st h = av_lib 1002 pc lv st h) (hr : Nat.ble (r.map av_cat).sum 8 = true) (hw : ∀ v : Int, (v = x ∨ v = y) → (av_rg x → av_rg y → v ≤ x ∧ v ≤ y) → av_wp sc cd p' lv (.inl v :: r) h Q) : av_wp sc cd pc lv (.inl y :: .inl x :: r) h Q := by
  subst hp
  refine av_wp_st1 hx (pc' := pc + 3) (lv' := lv) (st' := .inl (if av_w y < av_w x then y else x) :: r) (h' := h) hk ?_ (hw _ ?_ ?_)
  · rw [hs]
    simp only [av_lib]
    rw [if_pos (Nat.le_of_ble_eq_true hr)]
  · split <;> simp
  · intro rx ry
    rw [av_rgw rx, av_rgw ry]
    split <;> omega
/-- division -/
theorem wq_dv {x y : Int} (hx : cd.lookup pc = some (av_q (.idiv))) (hp : pc + 1 = p') (ry : av_rg y) (hy : y ≠ 0) (hw : ∀ v : Int, (av_rg x → v = x.tdiv y) → av_wp sc cd p' lv (.inl v :: r) h Q) : av_wp sc cd pc lv (.inl y :: .inl x :: r) h Q := by
  subst hp
  refine av_wp_st1 hx (pc' := pc + 1) (lv' := lv) (st' := .inl ((av_w x).tdiv (av_w y)) :: r) (h' := h) rfl ?_ (hw _ ?_)
  · show (if av_w y = 0 then none else some (pc + 1, lv, .inl ((av_w x).tdiv (av_w y)) :: r, h)) = _
    rw [if_neg (by rw [av_rgw ry]; exact hy)]
  · intro rx
    rw [av_rgw rx, av_rgw ry]
theorem wq_rm {x y : Int} (hx : cd.lookup pc = some (av_q (.irem))) (hp : pc + 1 = p') (ry : av_rg y) (hy : y ≠ 0) (hw : ∀ v : Int, (av_rg x → v = x.tmod y) → av_wp sc cd p' lv (.inl v :: r) h Q) : av_wp sc cd pc lv (.inl y :: .inl x :: r) h Q := by
  subst hp
  refine av_wp_st1 hx (pc' := pc + 1) (lv' := lv) (st' := .inl ((av_w x).tmod (av_w y)) :: r) (h' := h) rfl ?_ (hw _ ?_)
  · show (if av_w y = 0 then none else some (pc + 1, lv, .inl ((av_w x).tmod (av_w y)) :: r, h)) = _
    rw [if_neg (by rw [av_rgw ry]; exact hy)]
  · intro rx
    rw [av_rgw rx, av_rgw ry]
/-- a call of an object's method, of a constructor -/
theorem wq_cv (x : av_E) (mL : Nat) (cdj : List (Nat × av_E)) (as : List av_V) (o ci : Nat) (lv' : av_L) (hx : cd.lookup pc = some x) (hp : pc + 3 = p') (hkd : av_kd x = 2) (hM : av_PP x.2.2.1 = some (mL, cdj)) (hn : Nat.beq x.2.2.2.1 as.length = true) (hk2 : Nat.ble x.2.2.2.2.1 1 = true) (hci : x.2.2.2.2.2 = (ci : Int)) (hk : (hK h o).1 = ci) (hc : Nat.ble ci 98 = true) (hr : Nat.ble (r.map av_cat).sum 8 = true) (hl : Nat.ble (av_args (.inr (.inr (.inl (some o))) :: as.reverse)).length mL = true) (he : av_ent mL (.inr (.inr (.inl (some o))) :: as.reverse) = lv')
    (hcall : av_wp none cdj 0 lv' [] h (fun v h' => av_wp sc cd p' lv (v.toList ++ r) h' Q)) : av_wp sc cd pc lv (as ++ .inr (.inr (.inl (some o))) :: r) h Q := by
  subst hp
  subst he
  refine av_wp_call hx hkd hM (vs := .inr (.inr (.inl (some o))) :: as.reverse) (r := r) ?_ (Nat.le_of_ble_eq_true hl) hcall (fun v h' hq => hq)
  intro hg
  have hn' : x.2.2.2.1 = as.length := Nat.eq_of_beq_eq_true hn
  unfold av_pop
  rw [hn', if_pos (by simp), List.drop_left, List.take_left]
  have h2 := Nat.le_of_ble_eq_true hk2
  have hcond : (r.map av_cat).sum ≤ 8 ∧ o < h.1 ∧ ((h.2.2.1 o).1 : Int) = x.2.2.2.2.2 := ⟨Nat.le_of_ble_eq_true hr, av_ltN hg hk hc, by rw [hci]; exact congrArg Int.ofNat hk⟩
  rcases hx2 : x.2.2.2.2.1 with _ | _ | n
  · exact if_pos hcond
  · exact if_pos hcond
  · omega
/-- a call of a static method -/
theorem wq_cs (x : av_E) (mL : Nat) (cdj : List (Nat × av_E)) (vs : List av_V) (st : List av_V) (lv' : av_L) (hx : cd.lookup pc = some x) (hp : pc + 3 = p') (hkd : av_kd x = 2) (hM : av_PP x.2.2.1 = some (mL, cdj)) (hpop : ∀ h', av_pop x st h' = some (vs, r)) (hl : Nat.ble (av_args vs).length mL = true) (he : av_ent mL vs = lv')
    (hcall : av_wp none cdj 0 lv' [] h (fun v h' => av_wp sc cd p' lv (v.toList ++ r) h' Q)) : av_wp sc cd pc lv st h Q := by
  subst hp
  subst he
  exact av_wp_call hx hkd hM (fun _ => hpop h) (Nat.le_of_ble_eq_true hl) hcall (fun v h' hq => hq)
/-- a truth value goes back -/
theorem wq_rb {v : Int} (hx : cd.lookup pc = some (av_qa (.ireturn) 1)) (hv : v = 0 ∨ v = 1) (hq : Q (some (.inl v)) h) : av_wp sc cd pc lv [.inl v] h Q := by
  refine av_wp_ret (v := some (.inl v)) hx rfl ?_ hq
  exact if_pos (c := (1 : Nat) = 0 ∨ v = 0 ∨ v = 1) (Or.inr hv)
/-- a switch -/
theorem wq_tc {x c d lo hi : Int} {offs : Array Int} {ln t : Nat} (hx : cd.lookup pc = some (av_qw (.tableswitch d lo hi offs) ln)) (he : x = c) (ht : ((pc : Int) + (if av_w c < lo ∨ hi < av_w c then d else offs.toList.getD (av_w c - lo).toNat 0)).toNat = t) (hw : av_wp sc cd t lv r h Q) : av_wp sc cd pc lv (.inl x :: r) h Q := by
  subst he
  subst ht
  exact av_wp_st1 hx (pc' := ((pc : Int) + (if av_w x < lo ∨ hi < av_w x then d else offs.toList.getD (av_w x - lo).toNat 0)).toNat) (lv' := lv) (st' := r) (h' := h) rfl rfl hw
theorem wq_td {x d lo hi : Int} {offs : Array Int} {ln t : Nat} (hx : cd.lookup pc = some (av_qw (.tableswitch d lo hi offs) ln)) (rx : av_rg x) (he : x < lo ∨ hi < x) (ht : ((pc : Int) + d).toNat = t) (hw : av_wp sc cd t lv r h Q) : av_wp sc cd pc lv (.inl x :: r) h Q := by
  subst ht
  refine av_wp_st1 hx (pc' := ((pc : Int) + d).toNat) (lv' := lv) (st' := r) (h' := h) rfl ?_ hw
  show some (((pc : Int) + (if av_w x < lo ∨ hi < av_w x then d else offs.toList.getD (av_w x - lo).toNat 0)).toNat, lv, r, h) = _
  rw [av_rgw rx, if_pos he]
theorem wq_lc {x c d : Int} {ps : Array (Int × Int)} {ln t : Nat} (hx : cd.lookup pc = some (av_qw (.lookupswitch d ps) ln)) (he : x = c) (ht : ((pc : Int) + Op.lookupswitch.offset ps.toList d (av_w c)).toNat = t) (hw : av_wp sc cd t lv r h Q) : av_wp sc cd pc lv (.inl x :: r) h Q := by
  subst he
  subst ht
  exact av_wp_st1 hx (pc' := ((pc : Int) + Op.lookupswitch.offset ps.toList d (av_w x)).toNat) (lv' := lv) (st' := r) (h' := h) rfl rfl hw
theorem wq_ld {x d : Int} {ps : Array (Int × Int)} {ln t : Nat} (hx : cd.lookup pc = some (av_qw (.lookupswitch d ps) ln)) (rx : av_rg x) (he : Op.lookupswitch.offset ps.toList d x = d) (ht : ((pc : Int) + d).toNat = t) (hw : av_wp sc cd t lv r h Q) : av_wp sc cd pc lv (.inl x :: r) h Q := by
  subst ht
  refine av_wp_st1 hx (pc' := ((pc : Int) + d).toNat) (lv' := lv) (st' := r) (h' := h) rfl ?_ hw
  show some (((pc : Int) + Op.lookupswitch.offset ps.toList d (av_w x)).toNat, lv, r, h) = _
  rw [av_rgw rx, he]
end
theorem shl_le {n : Int} (e : 0 ≤ n ∧ n ≤ 12) : 1 ≤ av_shl (1) n ∧ (n ≤ 6 → av_shl (1) n ≤ 64) ∧ av_shl (1) n ≤ 4096 := by
  rcases (show n = 0 ∨ n = 1 ∨ n = 2 ∨ n = 3 ∨ n = 4 ∨ n = 5 ∨ n = 6 ∨ n = 7 ∨ n = 8 ∨ n = 9 ∨ n = 10 ∨ n = 11 ∨ n = 12 by omega) with e | e | e | e | e | e | e | e | e | e | e | e | e <;> subst e <;> decide
end
section
/-! WHERE ALL LIES: the cells 0 to 121 of class and reference, the same in every run; cases; benches; what a look may change -/
def c_Kt : List (Nat × Nat) := [(7, 0), (6, 0), (21, 900), (5, 0), (30, 16), (32, 8), (20, 14), (20, 14), (20, 14), (20, 14), (20, 14), (20, 14), (20, 14), (20, 14), (32, 6), (20, 14), (20, 14), (20, 14), (20, 14), (20, 14), (20, 14), (31, 4), (2, 0), (20, 252), (4, 0), (20, 14), (3, 0), (20, 144), (22, 16), (22, 1024), (20, 14), (20, 5), (1, 0), (20, 0), (20, 0), (0, 0), (20, 36), (20, 12), (22, 12), (22, 12), (22, 12), (20, 12), (20, 12), (20, 12), (20, 12), (20, 12), (20, 12), (20, 14), (0, 0), (20, 36), (20, 12), (22, 12), (22, 12), (22, 12), (20, 12), (20, 12), (20, 12), (20, 12), (20, 12), (20, 12), (20, 14), (0, 0), (20, 36), (20, 12), (22, 12), (22, 12), (22, 12), (20, 12), (20, 12), (20, 12), (20, 12), (20, 12), (20, 12), (20, 14), (1, 0), (20, 0), (20, 0), (8, 0), (20, 5), (20, 5), (20, 5), (20, 80), (20, 960), (20, 960), (20, 960), (20, 960), (20, 960), (20, 960), (20, 960), (20, 960), (20, 4800), (20, 2880), (20, 2880), (20, 980), (21, 900), (20, 13), (20, 12), (20, 12), (20, 12), (20, 12), (20, 12), (20, 12), (20, 12), (22, 12), (20, 60), (20, 36), (20, 36), (20, 48), (20, 48), (20, 12), (20, 12), (20, 12), (20, 48), (20, 12), (20, 12), (20, 12), (22, 16), (22, 16), (22, 1024), (20, 1024), (20, 1024), (20, 5120)]
def c_K (a : Nat) : Nat × Nat := c_Kt.getD a (99, 0)
def c_Gt : List (List (Option Nat)) := [[some 1, some 3, some 21, some 22, some 24, some 26, some 74, none, none], [some 2, none, none, none, none, none, none], [], [some 4, some 5, some 14, none, none, none], [], [], [], [], [], [], [], [], [], [], [], [], [], [], [], [], [], [], [some 1, some 23, none], [], [some 1, some 25], [], [some 3, some 35, some 48, some 61, some 27, some 28, some 29, some 30, some 31, none, none], [], [], [], [], [], [some 34, none, none, none], [], [], [some 36, some 37, some 38, some 39, some 40, some 41, some 42, some 43, some 44, some 45, some 46, none, none, none, none, none], [], [], [], [], [], [], [], [], [], [], [], [], [some 49, some 50, some 51, some 52, some 53, some 54, some 55, some 56, some 57, some 58, some 59, none, none, none, none, none], [], [], [], [], [], [], [], [], [], [], [], [], [some 62, some 63, some 64, some 65, some 66, some 67, some 68, some 69, some 70, some 71, some 72, none, none, none, none, none], [], [], [], [], [], [], [], [], [], [], [], [], [some 76, none, none, none], [], [], [some 78, some 79, some 80, some 81, some 82, some 83, some 84, some 85, some 86, some 87, some 88, some 89, some 90, some 91, some 92, some 93, some 94, none, none, none, none, none, none, none, none, none, some 95, none, none, none, some 96, some 97, some 98, some 99, some 100, some 101, some 102, some 103, some 104, some 105, some 106, some 107, some 108, some 109, some 110, some 111, some 112, some 113, some 114, some 115, none, none, none, none, some 116, some 117, some 118, some 119, some 120, some 121, none, none, none], [], [], [], [], [], [], [], [], [], [], [], [], [], [], [], [], [], [], [], [], [], [], [], [], [], [], [], [], [], [], [], [], [], [], [], [], [], [], [], [], [], [], [], []]
def c_G (o f : Nat) : Option Nat := if Nat.blt o 122 && Nat.blt f 63 then (c_Gt.getD o []).getD f none else none
theorem nbeq {a b : Nat} (h : a ≠ b) : Nat.beq a b = false := by
  cases e : Nat.beq a b
  · rfl
  · exact absurd (Nat.eq_of_beq_eq_true e) h
theorem nble {a b : Nat} (h : b < a) : Nat.ble a b = false := by
  cases e : Nat.ble a b
  · rfl
  · exact absurd (Nat.le_of_ble_eq_true e) (by omega)
def LY (h : av_H) : Prop := (∀ a, Nat.blt a 122 = true → hK h a = c_K a) ∧ (∀ o f q, c_G o f = some q → hG h o f = some q) ∧ (∀ i, i < 8 → hR h 5 i = some (6 + i)) ∧ (∀ i, i < 6 → hR h 14 i = some (15 + i))
theorem ly_k {h : av_H} (L : LY h) (a : Nat) (ha : Nat.blt a 122 = true) : hK h a = c_K a := L.1 a ha
theorem ly_g {h : av_H} (L : LY h) (o f q : Nat) (e : c_G o f = some q) : hG h o f = some q := L.2.1 o f q e
/-- the three benches -/
def bn (b : Nat) : Prop := b = 35 ∨ b = 48 ∨ b = 61
theorem bn_cK48 : ∀ j, j < 13 → c_K (48 + j) = c_K (35 + j) := by decide
theorem bn_cK61 : ∀ j, j < 13 → c_K (61 + j) = c_K (35 + j) := by decide
theorem bn_cG35 : ∀ f, f < 11 → c_G 35 f = some (35 + 1 + f) := by decide
theorem bn_cG48 : ∀ f, f < 11 → c_G 48 f = some (48 + 1 + f) := by decide
theorem bn_cG61 : ∀ f, f < 11 → c_G 61 f = some (61 + 1 + f) := by decide
theorem bn_k0 {h : av_H} {b : Nat} (L : LY h) (hb : bn b) : hK h b = (0, 0) := by
  rcases hb with e | e | e <;> subst e
  · exact L.1 35 rfl
  · exact L.1 48 rfl
  · exact L.1 61 rfl
theorem bn_k {h : av_H} {b : Nat} (L : LY h) (hb : bn b) (j : Nat) (hj : Nat.blt j 12 = true) : hK h (b + 1 + j) = c_K (36 + j) := by
  have hj' : j < 12 := Nat.le_of_ble_eq_true hj
  rcases hb with e | e | e <;> subst e
  · have := L.1 (35 + 1 + j) (Nat.ble_eq_true_of_le (by omega))
    rw [this]
  · have := L.1 (48 + 1 + j) (Nat.ble_eq_true_of_le (by omega))
    rw [this, show 48 + 1 + j = 48 + (1 + j) by omega, bn_cK48 _ (by omega), show 35 + (1 + j) = 36 + j by omega]
  · have := L.1 (61 + 1 + j) (Nat.ble_eq_true_of_le (by omega))
    rw [this, show 61 + 1 + j = 61 + (1 + j) by omega, bn_cK61 _ (by omega), show 35 + (1 + j) = 36 + j by omega]
theorem bn_g {h : av_H} {b : Nat} (L : LY h) (hb : bn b) (f : Nat) (hf : Nat.blt f 11 = true) : hG h b f = some (b + 1 + f) := by
  have hf' : f < 11 := Nat.le_of_ble_eq_true hf
  rcases hb with e | e | e <;> subst e
  · exact L.2.1 35 f _ (bn_cG35 f hf')
  · exact L.2.1 48 f _ (bn_cG48 f hf')
  · exact L.2.1 61 f _ (bn_cG61 f hf')
/-- a case: its object t, its cells c, its size s, its combos cb -/
def CO (h : av_H) (t c s : Nat) (cb : Int) : Prop := hK h t = (1, 0) ∧ hF h t 1 = (s : Int) ∧ s ≤ 12 ∧ hF h t 3 = cb ∧ (-1 ≤ cb ∧ cb ≤ 1024) ∧ hG h t 0 = some c ∧ hK h c = (20, 21 * s) ∧ (c = 34 ∨ c = 76 ∨ 122 ≤ c) ∧ (∀ j, -1 ≤ hA h c j ∧ hA h c j ≤ 100000) ∧ ∀ k j, j < 4 → hA h c (21 * k + 15 + j) ≤ 16
section
variable {h : av_H} {t c s : Nat} {cb : Int}
theorem co_kt (o : CO h t c s cb) : hK h t = (1, 0) := o.1
theorem co_s (o : CO h t c s cb) : hF h t 1 = (s : Int) := o.2.1
theorem co_s12 (o : CO h t c s cb) : s ≤ 12 := o.2.2.1
theorem co_cb (o : CO h t c s cb) : hF h t 3 = cb := o.2.2.2.1
theorem co_cbr (o : CO h t c s cb) : -1 ≤ cb ∧ cb ≤ 1024 := o.2.2.2.2.1
theorem co_c (o : CO h t c s cb) : hG h t 0 = some c := o.2.2.2.2.2.1
theorem co_kc (o : CO h t c s cb) : hK h c = (20, 21 * s) := o.2.2.2.2.2.2.1
theorem co_v (o : CO h t c s cb) (j : Nat) : -1 ≤ hA h c j ∧ hA h c j ≤ 100000 := o.2.2.2.2.2.2.2.2.1 j
end
/-- the rows of rules -/
def rwc (a : Nat) : Bool := (Nat.ble 6 a && Nat.ble a 13) || (Nat.ble 15 a && Nat.ble a 20) || Nat.beq a 25 || Nat.beq a 30 || Nat.beq a 47 || Nat.beq a 60 || Nat.beq a 73
def RW (h : av_H) : Prop := ∀ a, rwc a = true → ∀ j, -2 ≤ hA h a j ∧ hA h a j ≤ 999
/-- what a look may change: arrays, number fields, reference fields -/
def sA (a : Nat) : Bool := (Nat.ble 27 a && Nat.ble a 31) || (Nat.ble 36 a && Nat.ble a 46) || (Nat.ble 49 a && Nat.ble a 59) || (Nat.ble 62 a && Nat.ble a 72)
def sB (o : Nat) : Bool := Nat.beq o 35 || Nat.beq o 48 || Nat.beq o 61
def sF (o f : Nat) : Bool := (Nat.beq o 26 && (Nat.beq f 9 || Nat.beq f 10)) || (sB o && (Nat.beq f 13 || Nat.beq f 14 || Nat.beq f 15))
def sG (o f : Nat) : Bool := sB o && (Nat.beq f 11 || Nat.beq f 12)
def Fr (g h : av_H) : Prop := h.1 = g.1 ∧ h.2.1 = g.2.1 ∧ hK h = hK g ∧ hR h = hR g ∧ (∀ o f, sG o f = false → hG h o f = hG g o f) ∧ (∀ o f, sF o f = false → hF h o f = hF g o f) ∧ (∀ a, sA a = false → hA h a = hA g a)
theorem Fr_rf (h : av_H) : Fr h h := ⟨rfl, rfl, rfl, rfl, fun _ _ _ => rfl, fun _ _ _ => rfl, fun _ _ => rfl⟩
theorem Fr_tr {g h k : av_H} (a : Fr g h) (b : Fr h k) : Fr g k := ⟨b.1.trans a.1, b.2.1.trans a.2.1, b.2.2.1.trans a.2.2.1, b.2.2.2.1.trans a.2.2.2.1, fun o f e => (b.2.2.2.2.1 o f e).trans (a.2.2.2.2.1 o f e), fun o f e => (b.2.2.2.2.2.1 o f e).trans (a.2.2.2.2.2.1 o f e), fun o e => (b.2.2.2.2.2.2 o e).trans (a.2.2.2.2.2.2 o e)⟩
theorem Fr_wA {g h : av_H} {a j : Nat} {v : Int} (F : Fr g h) (e : sA a = true) : Fr g (hwA h a j v) := ⟨F.1, F.2.1, F.2.2.1, F.2.2.2.1, F.2.2.2.2.1, F.2.2.2.2.2.1, fun k hk => by
  have hne : k ≠ a := fun z => by rw [z, e] at hk; cases hk
  show av_u2 h.2.2.2.1 a j v k = _
  rw [av_u2_ne hne]
  exact F.2.2.2.2.2.2 k hk⟩
theorem Fr_wF {g h : av_H} {o f : Nat} {v : Int} (F : Fr g h) (e : sF o f = true) : Fr g (hwF h o f v) := ⟨F.1, F.2.1, F.2.2.1, F.2.2.2.1, F.2.2.2.2.1, fun k q hk => by
  show av_u2 h.2.2.2.2.1 o f v k q = _
  have hne : ¬ (k = o ∧ q = f) := fun z => by rw [z.1, z.2, e] at hk; cases hk
  rw [av_u2, if_neg hne]
  exact F.2.2.2.2.2.1 k q hk, F.2.2.2.2.2.2⟩
theorem Fr_wG {g h : av_H} {o f : Nat} {v : Option Nat} (F : Fr g h) (e : sG o f = true) : Fr g (hwG h o f v) := ⟨F.1, F.2.1, F.2.2.1, F.2.2.2.1, fun k q hk => by
  show av_u2 h.2.2.2.2.2.1 o f v k q = _
  have hne : ¬ (k = o ∧ q = f) := fun z => by rw [z.1, z.2, e] at hk; cases hk
  rw [av_u2, if_neg hne]
  exact F.2.2.2.2.1 k q hk, F.2.2.2.2.2.1, F.2.2.2.2.2.2⟩
theorem sB_bn {b : Nat} (hb : bn b) : sB b = true := by rcases hb with e | e | e <;> subst e <;> rfl
theorem sA_bn {b : Nat} (hb : bn b) (j : Nat) (hj : Nat.blt j 11 = true) : sA (b + 1 + j) = true := by
  have hj' : j < 11 := Nat.le_of_ble_eq_true hj
  have h1 : ∀ j, j < 11 → sA (35 + 1 + j) = true := by decide
  have h2 : ∀ j, j < 11 → sA (48 + 1 + j) = true := by decide
  have h3 : ∀ j, j < 11 → sA (61 + 1 + j) = true := by decide
  rcases hb with e | e | e <;> subst e
  · exact h1 j hj'
  · exact h2 j hj'
  · exact h3 j hj'
theorem cG_sG : ∀ o, o < 122 → ∀ f, f < 63 → (c_G o f).isSome = true → sG o f = false := by decide +kernel
theorem cG_big {o f q : Nat} (e : c_G o f = some q) : o < 122 ∧ f < 63 := by
  unfold c_G at e
  by_cases hc : (Nat.blt o 122 && Nat.blt f 63) = true
  · rw [Bool.and_eq_true] at hc
    exact ⟨Nat.le_of_ble_eq_true hc.1, Nat.le_of_ble_eq_true hc.2⟩
  · rw [if_neg hc] at e
    cases e
theorem LY_fr {g h : av_H} (L : LY g) (F : Fr g h) : LY h := ⟨fun a ha => by rw [F.2.2.1]; exact L.1 a ha, fun o f q e => by
  rw [F.2.2.2.2.1 o f (cG_sG o (cG_big e).1 f (cG_big e).2 (by rw [e]; rfl))]
  exact L.2.1 o f q e, fun i hi => by rw [F.2.2.2.1]; exact L.2.2.1 i hi, fun i hi => by rw [F.2.2.2.1]; exact L.2.2.2 i hi⟩
theorem sF_case {h : av_H} {t c s : Nat} {cb : Int} (L : LY h) (o : CO h t c s cb) (f : Nat) : sF t f = false := by
  have e1 : t ≠ 26 := fun z => by have a := co_kt o; rw [z, L.1 26 rfl] at a; cases a
  have e2 : t ≠ 35 := fun z => by have a := co_kt o; rw [z, L.1 35 rfl] at a; cases a
  have e3 : t ≠ 48 := fun z => by have a := co_kt o; rw [z, L.1 48 rfl] at a; cases a
  have e4 : t ≠ 61 := fun z => by have a := co_kt o; rw [z, L.1 61 rfl] at a; cases a
  simp only [sF, sB, nbeq e1, nbeq e2, nbeq e3, nbeq e4, Bool.false_and, Bool.or_false, Bool.false_or]
theorem sG_case {h : av_H} {t c s : Nat} {cb : Int} (L : LY h) (o : CO h t c s cb) (f : Nat) : sG t f = false := by
  have e2 : t ≠ 35 := fun z => by have a := co_kt o; rw [z, L.1 35 rfl] at a; cases a
  have e3 : t ≠ 48 := fun z => by have a := co_kt o; rw [z, L.1 48 rfl] at a; cases a
  have e4 : t ≠ 61 := fun z => by have a := co_kt o; rw [z, L.1 61 rfl] at a; cases a
  simp only [sG, sB, nbeq e2, nbeq e3, nbeq e4, Bool.false_and, Bool.or_false]
theorem sA_cells {c : Nat} (e : c = 34 ∨ c = 76 ∨ 122 ≤ c) : sA c = false := by
  rcases e with e | e | e
  · rw [e]; rfl
  · rw [e]; rfl
  · simp only [sA, Bool.or_eq_false_iff, Bool.and_eq_false_iff]
    refine ⟨⟨⟨Or.inr ?_, Or.inr ?_⟩, Or.inr ?_⟩, Or.inr ?_⟩ <;> exact nble (by omega)
theorem CO_fr {g h : av_H} {t c s : Nat} {cb : Int} (L : LY g) (o : CO g t c s cb) (F : Fr g h) : CO h t c s cb := by
  obtain ⟨o1, o2, o3, o4, o5, o6, o7, o8, o9⟩ := o
  have oo : CO g t c s cb := ⟨o1, o2, o3, o4, o5, o6, o7, o8, o9⟩
  refine ⟨by rw [F.2.2.1]; exact o1, by rw [F.2.2.2.2.2.1 t 1 (sF_case L oo 1)]; exact o2, o3, by rw [F.2.2.2.2.2.1 t 3 (sF_case L oo 3)]; exact o4, o5, by rw [F.2.2.2.2.1 t 0 (sG_case L oo 0)]; exact o6, by rw [F.2.2.1]; exact o7, o8, ?_⟩
  rw [F.2.2.2.2.2.2 c (sA_cells o8)]
  exact o9
/-- the class as the looks need it -/
def SH (h : av_H) : Prop := ∀ i, i < 16 → hR h 4 i = none ∨ ∃ t c s cb, hR h 4 i = some t ∧ CO h t c s cb
def CN (h : av_H) : Prop := (0 ≤ hF h 3 3 ∧ hF h 3 3 ≤ 16) ∧ (0 ≤ hF h 3 4 ∧ hF h 3 4 ≤ 8) ∧ (0 ≤ hF h 3 5 ∧ hF h 3 5 ≤ 6)
def HD (h : av_H) : Prop := (0 ≤ hF h 26 9 ∧ hF h 26 9 ≤ 7) ∧ (0 ≤ hF h 26 10 ∧ hF h 26 10 ≤ 1023)
def BB (h : av_H) : Prop := ∀ b, bn b → (-1 ≤ hF h b 13 ∧ hF h b 13 ≤ 11) ∧ (-1 ≤ hF h b 14 ∧ hF h b 14 ≤ 11) ∧ ∃ t c s cb r, hG h b 12 = some t ∧ CO h t c s cb ∧ hG h b 11 = some r ∧ hK h r = (20, 14) ∧ rwc r = true
def IC (h : av_H) : Prop := LY h ∧ RW h ∧ SH h ∧ CN h ∧ HD h ∧ BB h
/-- what a look keeps of the class, when benches' cases and rules stay, or those of p and of the third bench alone change -/
def Fr1 (g h : av_H) : Prop := Fr g h ∧ hG h = hG g
def FX (p : Nat) (g h : av_H) : Prop := Fr g h ∧ ∀ o f, o ≠ p → o ≠ 61 → hG h o f = hG g o f
theorem Fr1_rf (h : av_H) : Fr1 h h := ⟨Fr_rf h, rfl⟩
theorem FX_rf (p : Nat) (h : av_H) : FX p h h := ⟨Fr_rf h, fun _ _ _ _ => rfl⟩
theorem FX_1 {p : Nat} {g h k : av_H} (a : FX p g h) (b : Fr1 h k) : FX p g k := ⟨Fr_tr a.1 b.1, fun o f e1 e2 => by rw [b.2]; exact a.2 o f e1 e2⟩
theorem SH_fr {g h : av_H} (L : LY g) (x : SH g) (F : Fr g h) : SH h := by
  intro i hi
  rw [F.2.2.2.1]
  rcases x i hi with e | ⟨t, c, s, cb, e, o⟩
  · exact Or.inl e
  · exact Or.inr ⟨t, c, s, cb, e, CO_fr L o F⟩
theorem bn_ne26 {b : Nat} (hb : bn b) : b ≠ 26 ∧ b ≠ 3 := by rcases hb with e | e | e <;> subst e <;> decide
theorem BB_fr {g h : av_H} (L : LY g) (x : BB g) (F : Fr g h) (e : hG h = hG g) (e2 : ∀ b, bn b → hF h b 13 = hF g b 13 ∧ hF h b 14 = hF g b 14) : BB h := by
  intro b hb
  obtain ⟨x1, x2, t, c, s, cb, r, y1, y2, y3, y4, y5⟩ := x b hb
  rw [(e2 b hb).1, (e2 b hb).2, e]
  exact ⟨x1, x2, t, c, s, cb, r, y1, CO_fr L y2 F, y3, by rw [F.2.2.1]; exact y4, y5⟩
theorem IC_wA {h : av_H} {a x : Nat} {v : Int} (I : IC h) (e : sA a = true) (hv : rwc a = true → -2 ≤ v ∧ v ≤ 999) : IC (hwA h a x v) := by
  have F : Fr h (hwA h a x v) := Fr_wA (Fr_rf h) e
  refine ⟨LY_fr I.1 F, ?_, SH_fr I.1 I.2.2.1 F, I.2.2.2.1, I.2.2.2.2.1, BB_fr I.1 I.2.2.2.2.2 F rfl (fun _ _ => ⟨rfl, rfl⟩)⟩
  intro q hq k
  show -2 ≤ av_u2 h.2.2.2.1 a x v q k ∧ av_u2 h.2.2.2.1 a x v q k ≤ 999
  by_cases e1 : q = a
  · subst e1
    by_cases e2 : k = x
    · subst e2; rw [av_u2_self]; exact hv hq
    · rw [av_u2_oth e2]; exact I.2.1 q hq k
  · rw [av_u2_ne e1]; exact I.2.1 q hq k
theorem IC_wF {h : av_H} {b f : Nat} {v : Int} (I : IC h) (hb : bn b) (hf : f = 13 ∨ f = 14 ∨ f = 15) (hv : f = 15 ∨ (-1 ≤ v ∧ v ≤ 11)) : IC (hwF h b f v) := by
  have F : Fr h (hwF h b f v) := Fr_wF (Fr_rf h) (by
    have := sB_bn hb
    rcases hf with e | e | e <;> subst e <;> simp [sF, this])
  refine ⟨LY_fr I.1 F, I.2.1, SH_fr I.1 I.2.2.1 F, ?_, ?_, ?_⟩
  · have := I.2.2.2.1
    unfold CN at this ⊢
    rw [show hF (hwF h b f v) 3 = hF h 3 from av_u2_ne (bn_ne26 hb).2.symm]
    exact this
  · have := I.2.2.2.2.1
    unfold HD at this ⊢
    rw [show hF (hwF h b f v) 26 = hF h 26 from av_u2_ne (bn_ne26 hb).1.symm]
    exact this
  · intro q hq
    obtain ⟨x1, x2, t, c, s, cb, r, y1, y2, y3, y4, y5⟩ := I.2.2.2.2.2 q hq
    refine ⟨?_, ?_, t, c, s, cb, r, y1, CO_fr I.1 y2 F, y3, y4, y5⟩
    · show -1 ≤ av_u2 h.2.2.2.2.1 b f v q 13 ∧ av_u2 h.2.2.2.2.1 b f v q 13 ≤ 11
      by_cases e1 : q = b
      · subst e1
        by_cases e : (13 : Nat) = f
        · subst e; rw [av_u2_self]; omega
        · rw [av_u2_oth e]; exact x1
      · rw [av_u2_ne e1]; exact x1
    · show -1 ≤ av_u2 h.2.2.2.2.1 b f v q 14 ∧ av_u2 h.2.2.2.2.1 b f v q 14 ≤ 11
      by_cases e1 : q = b
      · subst e1
        by_cases e : (14 : Nat) = f
        · subst e; rw [av_u2_self]; omega
        · rw [av_u2_oth e]; exact x2
      · rw [av_u2_ne e1]; exact x2
theorem IC_wH {h : av_H} {f : Nat} {v : Int} (I : IC h) (hf : (f = 9 ∧ 0 ≤ v ∧ v ≤ 7) ∨ (f = 10 ∧ 0 ≤ v ∧ v ≤ 1023)) : IC (hwF h 26 f v) := by
  have F : Fr h (hwF h 26 f v) := Fr_wF (Fr_rf h) (by
    rcases hf with e | e <;> rw [e.1] <;> rfl)
  refine ⟨LY_fr I.1 F, I.2.1, SH_fr I.1 I.2.2.1 F, I.2.2.2.1, ?_, ?_⟩
  · have := I.2.2.2.2.1
    unfold HD at this ⊢
    constructor
    · show 0 ≤ av_u2 h.2.2.2.2.1 26 f v 26 9 ∧ av_u2 h.2.2.2.2.1 26 f v 26 9 ≤ 7
      by_cases e : (9 : Nat) = f
      · subst e; rw [av_u2_self]; omega
      · rw [av_u2_oth e]; exact this.1
    · show 0 ≤ av_u2 h.2.2.2.2.1 26 f v 26 10 ∧ av_u2 h.2.2.2.2.1 26 f v 26 10 ≤ 1023
      by_cases e : (10 : Nat) = f
      · subst e; rw [av_u2_self]; omega
      · rw [av_u2_oth e]; exact this.2
  · refine BB_fr I.1 I.2.2.2.2.2 F rfl (fun b hb => ?_)
    have : hF (hwF h 26 f v) b = hF h b := av_u2_ne (bn_ne26 hb).1
    rw [this]
    exact ⟨rfl, rfl⟩
theorem IC_wT {h : av_H} {b t c s : Nat} {cb : Int} (I : IC h) (hb : bn b) (o : CO h t c s cb) : IC (hwG h b 12 (some t)) := by
  have F : Fr h (hwG h b 12 (some t)) := Fr_wG (Fr_rf h) (by simp [sG, sB_bn hb])
  refine ⟨LY_fr I.1 F, I.2.1, SH_fr I.1 I.2.2.1 F, I.2.2.2.1, I.2.2.2.2.1, ?_⟩
  intro q hq
  obtain ⟨x1, x2, t', c', s', cb', r, y1, y2, y3, y4, y5⟩ := I.2.2.2.2.2 q hq
  by_cases e1 : q = b
  · subst e1
    exact ⟨x1, x2, t, c, s, cb, r, av_u2_self, CO_fr I.1 o F, (av_u2_oth (by decide)).trans y3, y4, y5⟩
  · refine ⟨x1, x2, t', c', s', cb', r, ?_, CO_fr I.1 y2 F, ?_, y4, y5⟩
    · show av_u2 h.2.2.2.2.2.1 b 12 (some t) q 12 = _
      rw [av_u2_ne e1]; exact y1
    · show av_u2 h.2.2.2.2.2.1 b 12 (some t) q 11 = _
      rw [av_u2_ne e1]; exact y3
theorem IC_wU {h : av_H} {b r : Nat} (I : IC h) (hb : bn b) (k : hK h r = (20, 14)) (k2 : rwc r = true) : IC (hwG h b 11 (some r)) := by
  have F : Fr h (hwG h b 11 (some r)) := Fr_wG (Fr_rf h) (by simp [sG, sB_bn hb])
  refine ⟨LY_fr I.1 F, I.2.1, SH_fr I.1 I.2.2.1 F, I.2.2.2.1, I.2.2.2.2.1, ?_⟩
  intro q hq
  obtain ⟨x1, x2, t', c', s', cb', r', y1, y2, y3, y4, y5⟩ := I.2.2.2.2.2 q hq
  by_cases e1 : q = b
  · subst e1
    exact ⟨x1, x2, t', c', s', cb', r, (av_u2_oth (by decide)).trans y1, CO_fr I.1 y2 F, av_u2_self, k, k2⟩
  · refine ⟨x1, x2, t', c', s', cb', r', ?_, CO_fr I.1 y2 F, ?_, y4, y5⟩
    · show av_u2 h.2.2.2.2.2.1 b 11 (some r) q 12 = _
      rw [av_u2_ne e1]; exact y1
    · show av_u2 h.2.2.2.2.2.1 b 11 (some r) q 11 = _
      rw [av_u2_ne e1]; exact y3
/-- a bench with a case t and rules r -/
def IB (b t c s r : Nat) (cb : Int) (h : av_H) : Prop := IC h ∧ bn b ∧ CO h t c s cb ∧ hG h b 12 = some t ∧ hG h b 11 = some r ∧ hK h r = (20, 14) ∧ rwc r = true
section
variable {h : av_H} {b t c s r : Nat} {cb : Int}
theorem ib_ic (i : IB b t c s r cb h) : IC h := i.1
theorem ib_co (i : IB b t c s r cb h) : CO h t c s cb := i.2.2.1
theorem ib_t (i : IB b t c s r cb h) : hG h b 12 = some t := i.2.2.2.1
theorem ib_r (i : IB b t c s r cb h) : hG h b 11 = some r := i.2.2.2.2.1
theorem ib_kr (i : IB b t c s r cb h) : hK h r = (20, 14) := i.2.2.2.2.2.1
theorem ib_rv (i : IB b t c s r cb h) (j : Nat) : -2 ≤ hA h r j ∧ hA h r j ≤ 999 := i.1.2.1 r i.2.2.2.2.2.2 j
theorem ib_mb (i : IB b t c s r cb h) : -1 ≤ hF h b 13 ∧ hF h b 13 ≤ 11 := (i.1.2.2.2.2.2 b i.2.1).1
theorem ib_mo (i : IB b t c s r cb h) : -1 ≤ hF h b 14 ∧ hF h b 14 ≤ 11 := (i.1.2.2.2.2.2 b i.2.1).2.1
theorem ib_k0 (i : IB b t c s r cb h) : hK h b = (0, 0) := bn_k0 i.1.1 i.2.1
theorem ib_k (i : IB b t c s r cb h) (j : Nat) (hj : Nat.blt j 12 = true) : hK h (b + 1 + j) = c_K (36 + j) := bn_k i.1.1 i.2.1 j hj
theorem ib_g (i : IB b t c s r cb h) (j : Nat) (hj : Nat.blt j 11 = true) : hG h b j = some (b + 1 + j) := bn_g i.1.1 i.2.1 j hj
theorem ib_fr {k : av_H} (i : IB b t c s r cb h) (I : IC k) (F : Fr h k) (e1 : hG k b 12 = hG h b 12) (e2 : hG k b 11 = hG h b 11) : IB b t c s r cb k := ⟨I, i.2.1, CO_fr i.1.1 i.2.2.1 F, by rw [e1]; exact i.2.2.2.1, by rw [e2]; exact i.2.2.2.2.1, by rw [F.2.2.1]; exact i.2.2.2.2.2.1, i.2.2.2.2.2.2⟩
theorem ib_f1 {k : av_H} (i : IB b t c s r cb h) (I : IC k) (F : Fr1 h k) : IB b t c s r cb k := ib_fr i I F.1 (by rw [F.2]) (by rw [F.2])
theorem rwc_bn {b : Nat} (hb : bn b) (j : Nat) (hj : Nat.blt j 11 = true) : rwc (b + 1 + j) = false := by
  have hj' : j < 11 := Nat.le_of_ble_eq_true hj
  have h1 : ∀ j, j < 11 → rwc (35 + 1 + j) = false := by decide
  have h2 : ∀ j, j < 11 → rwc (48 + 1 + j) = false := by decide
  have h3 : ∀ j, j < 11 → rwc (61 + 1 + j) = false := by decide
  rcases hb with e | e | e <;> subst e
  · exact h1 j hj'
  · exact h2 j hj'
  · exact h3 j hj'
theorem IB_wA (i : IB b t c s r cb h) (a : Nat) (ha : sA a = true) (ha2 : rwc a = false) (x : Nat) (v : Int) : IB b t c s r cb (hwA h a x v) :=
  ib_fr i (IC_wA i.1 ha (fun z => by rw [ha2] at z; cases z)) (Fr_wA (Fr_rf h) ha) rfl rfl
theorem Fr1_wA {g : av_H} {a x : Nat} {v : Int} (F : Fr1 g h) (ha : sA a = true) : Fr1 g (hwA h a x v) := ⟨Fr_wA F.1 ha, F.2⟩
theorem Fr1_wF {g : av_H} {o f : Nat} {v : Int} (F : Fr1 g h) (ha : sF o f = true) : Fr1 g (hwF h o f v) := ⟨Fr_wF F.1 ha, F.2⟩
theorem IB_wF (i : IB b t c s r cb h) (f : Nat) (hf : f = 13 ∨ f = 14 ∨ f = 15) (v : Int) (hv : f = 15 ∨ (-1 ≤ v ∧ v ≤ 11)) : IB b t c s r cb (hwF h b f v) :=
  ib_fr i (IC_wF i.1 i.2.1 hf hv) (Fr_wF (Fr_rf h) (by
    have := sB_bn i.2.1
    rcases hf with e | e | e <;> subst e <;> simp [sF, this])) rfl rfl
end
section
variable {sc : av_Sr} {cd : List (Nat × av_E)} {Q : Option av_V → av_H → Prop} {pc p' : Nat} {lv : av_L} {r' : List av_V} {g h : av_H} {b t c s r : Nat} {cb : Int}
end
end
section
/-! CASE AND BENCH: each call comes back, and changes only what a look may change -/
set_option maxRecDepth 100000 in
set_option maxHeartbeats 4000000 in
theorem ct_28 {h : av_H} {t c s : Nat} {cb : Int} (o : CO h t c s cb) (k : Int) (q0 : (-2147483648 ≤ k ∧ k ≤ 2147483647)) {Q : Option av_V → av_H → Prop} (hq : ∀ v : Int, ((v = 1 ∧ 0 ≤ k ∧ k < (s : Int)) ∨ (v = 0 ∧ (k < 0 ∨ (s : Int) ≤ k))) → Q (some (.inl v)) h) : av_wp none cd_28 0 [some (.inr (.inr (.inl (some (t))))), some (.inl k)] [] h Q := by
  have s12 := co_s12 o
  have cbr := co_cbr o
  refine av_wp_sqF ck_28 1 (pc' := 1) (lv' := [some (.inr (.inr (.inl (some (t))))), some (.inl k)]) (st' := [.inl k]) (h' := h) rfl ?_
  refine wq_k1 (p' := 4) (ck_28 _ _ rfl) rfl ⟨by omega, by omega⟩ (fun c1 => ?_) (fun c2 => ?_)
  · have c1 : k < (0) := c1
    refine av_wp_sqF ck_28 1 (pc' := 17) (lv' := [some (.inr (.inr (.inl (some (t))))), some (.inl k)]) (st' := [.inl (0)]) (h' := h) rfl ?_
    refine av_wp_ret (v := some (.inl (0))) (ck_28 _ _ rfl) rfl rfl ?_
    exact hq _ (by omega)
  · have c2 : (0) ≤ k := c2
    refine av_wp_sqF ck_28 2 (pc' := 6) (lv' := [some (.inr (.inr (.inl (some (t))))), some (.inl k)]) (st' := [.inr (.inr (.inl (some (t)))), .inl k]) (h' := h) rfl ?_
    refine wq_gi (p' := 9) (ck_28 _ _ rfl) rfl (congrArg Prod.fst (co_kt o)) rfl (co_s o) ?_
    refine wq_k2 (p' := 12) (ck_28 _ _ rfl) rfl ⟨by omega, by omega⟩ ⟨by omega, by omega⟩ (fun c3 => ?_) (fun c4 => ?_)
    · have c3 : (s : Int) ≤ k := c3
      refine av_wp_sqF ck_28 1 (pc' := 17) (lv' := [some (.inr (.inr (.inl (some (t))))), some (.inl k)]) (st' := [.inl (0)]) (h' := h) rfl ?_
      refine av_wp_ret (v := some (.inl (0))) (ck_28 _ _ rfl) rfl rfl ?_
      exact hq _ (by omega)
    · have c4 : k < (s : Int) := c4
      refine av_wp_sqF ck_28 2 (pc' := 17) (lv' := [some (.inr (.inr (.inl (some (t))))), some (.inl k)]) (st' := [.inl (1)]) (h' := h) rfl ?_
      refine av_wp_ret (v := some (.inl (1))) (ck_28 _ _ rfl) rfl rfl ?_
      exact hq _ (by omega)

set_option maxRecDepth 100000 in
set_option maxHeartbeats 4000000 in
theorem ct_29 {h : av_H} {t c s : Nat} {cb : Int} (o : CO h t c s cb) (k : Int) (w : Int) (q0 : (-2147483648 ≤ k ∧ k ≤ 2147483647)) (q1 : (-2147483648 ≤ w ∧ w ≤ 2147483647)) {Q : Option av_V → av_H → Prop} (hq : ∀ v : Int, (-1 ≤ v ∧ v ≤ 100000) → Q (some (.inl v)) h) : av_wp none cd_29 0 [some (.inr (.inr (.inl (some (t))))), some (.inl k), some (.inl w)] [] h Q := by
  have s12 := co_s12 o
  have cbr := co_cbr o
  refine av_wp_sqF ck_29 2 (pc' := 2) (lv' := [some (.inr (.inr (.inl (some (t))))), some (.inl k), some (.inl w)]) (st' := [.inl k, .inr (.inr (.inl (some (t))))]) (h' := h) rfl ?_
  refine wq_cv (p' := 5) (av_qc (.invokevirtual 40) 28 1 0 1) 2 cd_28 [.inl k] (t) 1 [some (.inr (.inr (.inl (some (t))))), some (.inl k)] (ck_29 _ _ rfl) rfl rfl pp_28 rfl rfl rfl (congrArg Prod.fst (co_kt o)) rfl rfl rfl rfl ?_
  refine ct_28 o (k) (by omega) (fun v1 p2 => ?_)
  show av_wp _ cd_29 5 [some (.inr (.inr (.inl (some (t))))), some (.inl k), some (.inl w)] [.inl v1] h _
  refine wq_k1 (p' := 8) (ck_29 _ _ rfl) rfl ⟨by omega, by omega⟩ (fun c3 => ?_) (fun c4 => ?_)
  · have c3 : v1 = (0) := c3
    refine av_wp_sqF ck_29 1 (pc' := 19) (lv' := [some (.inr (.inr (.inl (some (t))))), some (.inl k), some (.inl w)]) (st' := [.inl (-1)]) (h' := h) rfl ?_
    refine av_wp_ret (v := some (.inl (-1))) (ck_29 _ _ rfl) rfl rfl ?_
    exact hq _ (by omega)
  · have c4 : v1 ≠ (0) := c4
    refine av_wp_sqF ck_29 1 (pc' := 9) (lv' := [some (.inr (.inr (.inl (some (t))))), some (.inl k), some (.inl w)]) (st' := [.inl w]) (h' := h) rfl ?_
    refine wq_k1 (p' := 12) (ck_29 _ _ rfl) rfl ⟨by omega, by omega⟩ (fun c5 => ?_) (fun c6 => ?_)
    · have c5 : w < (0) := c5
      refine av_wp_sqF ck_29 1 (pc' := 19) (lv' := [some (.inr (.inr (.inl (some (t))))), some (.inl k), some (.inl w)]) (st' := [.inl (-1)]) (h' := h) rfl ?_
      refine av_wp_ret (v := some (.inl (-1))) (ck_29 _ _ rfl) rfl rfl ?_
      exact hq _ (by omega)
    · have c6 : (0) ≤ w := c6
      refine av_wp_sqF ck_29 2 (pc' := 15) (lv' := [some (.inr (.inr (.inl (some (t))))), some (.inl k), some (.inl w)]) (st' := [.inl (21), .inl w]) (h' := h) rfl ?_
      refine wq_k2 (p' := 18) (ck_29 _ _ rfl) rfl ⟨by omega, by omega⟩ ⟨by omega, by omega⟩ (fun c7 => ?_) (fun c8 => ?_)
      · have c7 : w < (21) := c7
        refine av_wp_sqF ck_29 1 (pc' := 21) (lv' := [some (.inr (.inr (.inl (some (t))))), some (.inl k), some (.inl w)]) (st' := [.inr (.inr (.inl (some (t))))]) (h' := h) rfl ?_
        refine wq_gr (p' := 24) (ck_29 _ _ rfl) rfl (congrArg Prod.fst (co_kt o)) rfl (co_c o) ?_
        refine av_wp_sqF ck_29 5 (pc' := 30) (lv' := [some (.inr (.inr (.inl (some (t))))), some (.inl k), some (.inl w)]) (st' := [.inl ((k * (21)) + w), .inr (.inr (.inl (some (c))))]) (h' := h) rfl ?_
        obtain ⟨v9, e10⟩ : ∃ v, hA h (c) (Int.toNat (((k * (21)) + w))) = v := ⟨_, rfl⟩
        have g11 := co_v o (Int.toNat (((k * (21)) + w)))
        rw [e10] at g11
        refine wq_al (p' := 31) (n := 21 * s) (ck_29 _ _ rfl) rfl (co_kc o) (by omega) (e10) ?_
        refine av_wp_ret (v := some (.inl v9)) (ck_29 _ _ rfl) rfl rfl ?_
        exact hq _ (by omega)
      · have c8 : (21) ≤ w := c8
        refine av_wp_sqF ck_29 1 (pc' := 19) (lv' := [some (.inr (.inr (.inl (some (t))))), some (.inl k), some (.inl w)]) (st' := [.inl (-1)]) (h' := h) rfl ?_
        refine av_wp_ret (v := some (.inl (-1))) (ck_29 _ _ rfl) rfl rfl ?_
        exact hq _ (by omega)
end
section
/-! THE CLASS'S LOOKS: steps that keep IC -/
section
variable {h : av_H}
theorem ic_cc (I : IC h) : 0 ≤ hF h 3 3 ∧ hF h 3 3 ≤ 16 := I.2.2.2.1.1
theorem ic_lc (I : IC h) : 0 ≤ hF h 3 4 ∧ hF h 3 4 ≤ 8 := I.2.2.2.1.2.1
theorem ic_kc (I : IC h) : 0 ≤ hF h 3 5 ∧ hF h 3 5 ≤ 6 := I.2.2.2.1.2.2
theorem ic_hl (I : IC h) : 0 ≤ hF h 26 9 ∧ hF h 26 9 ≤ 7 := I.2.2.2.2.1.1
theorem ic_hc (I : IC h) : 0 ≤ hF h 26 10 ∧ hF h 26 10 ≤ 1023 := I.2.2.2.2.1.2
theorem ly_l (L : LY h) {i : Nat} (hi : i < 8) : hK h (6 + i) = (20, 14) := by
  have h1 : ∀ i, i < 8 → c_K (6 + i) = (20, 14) := by decide
  rw [← h1 i hi]
  exact L.1 (6 + i) (Nat.ble_eq_true_of_le (by omega))
theorem ly_q (L : LY h) {i : Nat} (hi : i < 6) : hK h (15 + i) = (20, 14) := by
  have h1 : ∀ i, i < 6 → c_K (15 + i) = (20, 14) := by decide
  rw [← h1 i hi]
  exact L.1 (15 + i) (Nat.ble_eq_true_of_le (by omega))
end
theorem rwc_l {i : Nat} (hi : i < 8) : rwc (6 + i) = true := by
  have h1 : ∀ i, i < 8 → rwc (6 + i) = true := by decide
  exact h1 i hi
theorem rwc_q {i : Nat} (hi : i < 6) : rwc (15 + i) = true := by
  have h1 : ∀ i, i < 6 → rwc (15 + i) = true := by decide
  exact h1 i hi
section
variable {sc : av_Sr} {cd : List (Nat × av_E)} {Q : Option av_V → av_H → Prop} {pc p' : Nat} {lv : av_L} {r' : List av_V} {h : av_H}
end
/-- a row copied -/
def hcp (h : av_H) (d sp dp n : Nat) (f : Nat → Int) : av_H := (h.1, h.2.1, h.2.2.1, av_cpy h.2.2.2.1 d sp dp n f, h.2.2.2.2)
theorem IC_A {h : av_H} {A : Nat → Nat → Int} (I : IC h) (e1 : ∀ a, sA a = false → A a = hA h a) (e2 : ∀ a, rwc a = true → ∀ j, -2 ≤ A a j ∧ A a j ≤ 999) : IC (h.1, h.2.1, h.2.2.1, A, h.2.2.2.2) ∧ Fr1 h (h.1, h.2.1, h.2.2.1, A, h.2.2.2.2) := by
  have F : Fr h (h.1, h.2.1, h.2.2.1, A, h.2.2.2.2) := ⟨rfl, rfl, rfl, rfl, fun _ _ _ => rfl, fun _ _ _ => rfl, e1⟩
  exact ⟨⟨LY_fr I.1 F, e2, SH_fr I.1 I.2.2.1 F, I.2.2.2.1, I.2.2.2.2.1, BB_fr I.1 I.2.2.2.2.2 F rfl (fun _ _ => ⟨rfl, rfl⟩)⟩, F, rfl⟩
theorem wq_ac {sc : av_Sr} {cd : List (Nat × av_E)} {Q : Option av_V → av_H → Prop} {pc p' : Nat} {lv : av_L} {r : List av_V} {h : av_H} {ins : Instr} {d q nd nq : Nat} {n dp sp : Int} (hx : cd.lookup pc = some (av_qa ins 1003)) (hp : pc + 3 = p') (hk : av_kd (av_qa ins 1003) = 0) (hs : ∀ lv st, av_stp sc (av_qa ins 1003) pc lv st h = av_lib 1003 pc lv st h) (hr : Nat.ble (r.map av_cat).sum 8 = true) (kd : hK h d = (20, nd)) (kq : hK h q = (20, nq)) (e0 : 0 ≤ n ∧ 0 ≤ dp ∧ 0 ≤ sp) (e1 : sp + n ≤ nq) (e2 : dp + n ≤ nd) (e3 : (nd : Int) < 2147483648 ∧ (nq : Int) < 2147483648) (hw : av_wp sc cd p' lv r (hcp h d sp.toNat dp.toNat n.toNat (hA h q)) Q) : av_wp sc cd pc lv (.inl n :: .inl dp :: .inr (.inr (.inl (some d))) :: .inl sp :: .inr (.inr (.inl (some q))) :: r) h Q := by
  intro hg
  subst hp
  refine av_wp_st1 hx (pc' := pc + 3) (lv' := lv) (st' := r) (h' := hcp h d sp.toNat dp.toNat n.toNat (hA h q)) hk ?_ hw hg
  rw [hs]
  have kd1 : (h.2.2.1 d).1 = 20 := by rw [show h.2.2.1 d = (20, nd) from kd]
  have kd2 : (h.2.2.1 d).2 = nd := by rw [show h.2.2.1 d = (20, nd) from kd]
  have kq1 : (h.2.2.1 q).1 = 20 := by rw [show h.2.2.1 q = (20, nq) from kq]
  have kq2 : (h.2.2.1 q).2 = nq := by rw [show h.2.2.1 q = (20, nq) from kq]
  simp only [av_lib]
  rw [kd2, kq2, av_rgw (x := n) ⟨by omega, by omega⟩, av_rgw (x := dp) ⟨by omega, by omega⟩, av_rgw (x := sp) ⟨by omega, by omega⟩, if_pos ⟨Nat.le_of_ble_eq_true hr, ⟨av_ltN hg kd1 rfl, kd1⟩, ⟨av_ltN hg kq1 rfl, kq1⟩, e0, e1, e2⟩]
  rfl
/-- a row filled from lo up to hi -/
def hfil (h : av_H) (a lo hi : Nat) (v : Int) : av_H := (h.1, h.2.1, h.2.2.1, (fun q j => if q = a ∧ lo ≤ j ∧ j < hi then v else h.2.2.2.1 q j), h.2.2.2.2)
theorem hfil_0 (h : av_H) (a lo : Nat) (v : Int) : hfil h a lo lo v = h := by
  unfold hfil
  have : (fun q j => if q = a ∧ lo ≤ j ∧ j < lo then v else h.2.2.2.1 q j) = h.2.2.2.1 := by
    funext q j
    rw [if_neg (by omega)]
  rw [this]
theorem hfil_s (h : av_H) (a lo hi : Nat) (v : Int) (e : lo ≤ hi) : hwA (hfil h a lo hi v) a hi v = hfil h a lo (hi + 1) v := by
  unfold hfil hwA
  have : av_u2 (fun q j => if q = a ∧ lo ≤ j ∧ j < hi then v else h.2.2.2.1 q j) a hi v = (fun q j => if q = a ∧ lo ≤ j ∧ j < hi + 1 then v else h.2.2.2.1 q j) := by
    funext q j
    unfold av_u2
    by_cases e1 : q = a ∧ j = hi
    · rw [if_pos e1, if_pos (by omega)]
    · rw [if_neg e1]
      show (if q = a ∧ lo ≤ j ∧ j < hi then v else h.2.2.2.1 q j) = (if q = a ∧ lo ≤ j ∧ j < hi + 1 then v else h.2.2.2.1 q j)
      by_cases e2 : q = a ∧ lo ≤ j ∧ j < hi
      · rw [if_pos e2, if_pos (by omega)]
      · rw [if_neg e2, if_neg (by omega)]
  exact congrArg (fun A => ((h.1, h.2.1, h.2.2.1, A, h.2.2.2.2) : av_H)) this
theorem IC_fil {h : av_H} {a lo hi : Nat} {v : Int} (I : IC h) (ha : sA a = true) (hr : rwc a = true → -2 ≤ v ∧ v ≤ 999) (e : lo ≤ hi) : IC (hfil h a lo hi v) ∧ Fr1 h (hfil h a lo hi v) := by
  induction hi with
  | zero =>
    have : lo = 0 := by omega
    subst this
    rw [hfil_0]
    exact ⟨I, Fr1_rf h⟩
  | succ n ih =>
    by_cases e1 : lo = n + 1
    · rw [e1, hfil_0]
      exact ⟨I, Fr1_rf h⟩
    · obtain ⟨i1, i2⟩ := ih (by omega)
      rw [← hfil_s h a lo n v (by omega)]
      exact ⟨IC_wA i1 ha hr, Fr1_wA i2 ha⟩
set_option maxRecDepth 100000 in
set_option maxHeartbeats 4000000 in
theorem ct_220 {h : av_H} {a n : Nat} {v : Int} (hk : hK h a = (20, n)) (hn : (n : Int) < 2147483648) {Q : Option av_V → av_H → Prop} (hq : Q none (hfil h a 0 n v)) : av_wp none cd_220 0 [some (.inr (.inr (.inl (some a)))), some (.inl v), none, none] [] h Q := by
  refine av_wp_sqF ck_220 3 (pc' := 3) (lv' := [some (.inr (.inr (.inl (some a)))), some (.inl v), some (.inl (0)), none]) (st' := [.inr (.inr (.inl (some a)))]) (h' := h) rfl ?_
  refine wq_ln (p' := 4) (ck_220 _ _ rfl) rfl hk (by simp) ?_
  refine av_wp_sqF ck_220 1 (pc' := 5) (lv' := [some (.inr (.inr (.inl (some a)))), some (.inl v), some (.inl (0)), some (.inl (n : Int))]) (st' := []) (h' := h) rfl ?_
  have lp : ∀ (m k : Nat), k + m = n → av_wp none cd_220 5 [some (.inr (.inr (.inl (some a)))), some (.inl v), some (.inl (k : Int)), some (.inl (n : Int))] [] (hfil h a 0 k v) Q := by
    intro m
    induction m with
    | zero =>
      intro k e
      have e : k = n := by omega
      subst e
      refine av_wp_sqF ck_220 2 (pc' := 7) (lv' := [some (.inr (.inr (.inl (some a)))), some (.inl v), some (.inl (k : Int)), some (.inl (k : Int))]) (st' := [.inl (k : Int), .inl (k : Int)]) (h' := hfil h a 0 k v) rfl ?_
      refine wq_k2 (p' := 10) (ck_220 _ _ rfl) rfl ⟨by omega, by omega⟩ ⟨by omega, by omega⟩ (fun _ => ?_) (fun c => ?_)
      · exact av_wp_ret (v := none) rfl rfl rfl hq
      · have c : (k : Int) < (k : Int) := c
        omega
    | succ m ih =>
      intro k e
      refine av_wp_sqF ck_220 2 (pc' := 7) (lv' := [some (.inr (.inr (.inl (some a)))), some (.inl v), some (.inl (k : Int)), some (.inl (n : Int))]) (st' := [.inl (n : Int), .inl (k : Int)]) (h' := hfil h a 0 k v) rfl ?_
      refine wq_k2 (p' := 10) (ck_220 _ _ rfl) rfl ⟨by omega, by omega⟩ ⟨by omega, by omega⟩ (fun c => ?_) (fun _ => ?_)
      · have c : (n : Int) ≤ (k : Int) := c
        omega
      · refine av_wp_sqF ck_220 3 (pc' := 13) (lv' := [some (.inr (.inr (.inl (some a)))), some (.inl v), some (.inl (k : Int)), some (.inl (n : Int))]) (st' := [.inl v, .inl (k : Int), .inr (.inr (.inl (some a)))]) (h' := hfil h a 0 k v) rfl ?_
        refine wq_as (p' := 14) (n := n) (ck_220 _ _ rfl) rfl hk (by omega) ?_
        rw [show ((k : Nat) : Int).toNat = k from rfl, hfil_s h a 0 k v (by omega)]
        refine av_wp_sqF ck_220 2 (pc' := 5) (lv' := [some (.inr (.inr (.inl (some a)))), some (.inl v), some (.inl ((k : Int) + 1)), some (.inl (n : Int))]) (st' := []) (h' := hfil h a 0 (k + 1) v) rfl ?_
        exact ih (k + 1) (by omega)
  have := lp n 0 (by omega)
  rw [hfil_0] at this
  exact this
set_option maxRecDepth 100000 in
set_option maxHeartbeats 4000000 in
theorem ct_219 {h : av_H} (a b c : Int) (e : 0 ≤ b ∧ b ≤ c ∧ c ≤ a ∧ a ≤ 2147483647) {Q : Option av_V → av_H → Prop} (hq : Q none h) : av_wp none cd_219 0 [some (.inl a), some (.inl b), some (.inl c)] [] h Q := by
  refine av_wp_sqF ck_219 2 (pc' := 2) (lv' := [some (.inl a), some (.inl b), some (.inl c)]) (st' := [.inl c, .inl b]) (h' := h) rfl ?_
  refine wq_k2 (p' := 5) (ck_219 _ _ rfl) rfl ⟨by omega, by omega⟩ ⟨by omega, by omega⟩ (fun _ => ?_) (fun z => ?_)
  · refine av_wp_sqF ck_219 1 (pc' := 47) (lv' := [some (.inl a), some (.inl b), some (.inl c)]) (st' := [.inl b]) (h' := h) rfl ?_
    refine wq_k1 (p' := 50) (ck_219 _ _ rfl) rfl ⟨by omega, by omega⟩ (fun _ => ?_) (fun z => ?_)
    · refine av_wp_sqF ck_219 2 (pc' := 61) (lv' := [some (.inl a), some (.inl b), some (.inl c)]) (st' := [.inl a, .inl c]) (h' := h) rfl ?_
      refine wq_k2 (p' := 64) (ck_219 _ _ rfl) rfl ⟨by omega, by omega⟩ ⟨by omega, by omega⟩ (fun _ => ?_) (fun z => ?_)
      · exact av_wp_ret (v := none) rfl rfl rfl hq
      · have z : a < c := z
        omega
    · have z : b < 0 := z
      omega
  · have z : c < b := z
    omega
set_option maxRecDepth 100000 in
set_option maxHeartbeats 4000000 in
theorem ct_221 {h : av_H} {a n : Nat} {v : Int} (lo hi : Nat) {x y : Int} (hx : x = (lo : Int)) (hy : y = (hi : Int)) (hk : hK h a = (20, n)) (hn : (n : Int) < 2147483648) (e1 : lo ≤ hi) (e2 : hi ≤ n) {Q : Option av_V → av_H → Prop} (hq : Q none (hfil h a lo hi v)) : av_wp none cd_221 0 [some (.inr (.inr (.inl (some a)))), some (.inl x), some (.inl y), some (.inl v), none] [] h Q := by
  subst hx
  subst hy
  refine av_wp_sqF ck_221 1 (pc' := 1) (lv' := [some (.inr (.inr (.inl (some a)))), some (.inl (lo : Int)), some (.inl (hi : Int)), some (.inl v), none]) (st' := [.inr (.inr (.inl (some a)))]) (h' := h) rfl ?_
  refine wq_ln (p' := 2) (ck_221 _ _ rfl) rfl hk (by simp) ?_
  refine av_wp_sqF ck_221 2 (pc' := 4) (lv' := [some (.inr (.inr (.inl (some a)))), some (.inl (lo : Int)), some (.inl (hi : Int)), some (.inl v), none]) (st' := [.inl (hi : Int), .inl (lo : Int), .inl (n : Int)]) (h' := h) rfl ?_
  refine wq_cs (p' := 7) (av_qc (.invokestatic 13) 219 3 2 10) 3 cd_219 [.inl (n : Int), .inl (lo : Int), .inl (hi : Int)] [.inl (hi : Int), .inl (lo : Int), .inl (n : Int)] [some (.inl (n : Int)), some (.inl (lo : Int)), some (.inl (hi : Int))] (ck_221 _ _ rfl) rfl rfl pp_219 (fun _ => rfl) rfl rfl ?_
  refine ct_219 _ _ _ (by omega) ?_
  show av_wp _ cd_221 7 [some (.inr (.inr (.inl (some a)))), some (.inl (lo : Int)), some (.inl (hi : Int)), some (.inl v), none] [] h _
  refine av_wp_sqF ck_221 2 (pc' := 10) (lv' := [some (.inr (.inr (.inl (some a)))), some (.inl (lo : Int)), some (.inl (hi : Int)), some (.inl v), some (.inl (lo : Int))]) (st' := []) (h' := h) rfl ?_
  have lp : ∀ (m k : Nat), lo ≤ k → k + m = hi → av_wp none cd_221 10 [some (.inr (.inr (.inl (some a)))), some (.inl (lo : Int)), some (.inl (hi : Int)), some (.inl v), some (.inl (k : Int))] [] (hfil h a lo k v) Q := by
    intro m
    induction m with
    | zero =>
      intro k _ e
      have e : k = hi := by omega
      subst e
      refine av_wp_sqF ck_221 2 (pc' := 13) (lv' := [some (.inr (.inr (.inl (some a)))), some (.inl (lo : Int)), some (.inl (k : Int)), some (.inl v), some (.inl (k : Int))]) (st' := [.inl (k : Int), .inl (k : Int)]) (h' := hfil h a lo k v) rfl ?_
      refine wq_k2 (p' := 16) (ck_221 _ _ rfl) rfl ⟨by omega, by omega⟩ ⟨by omega, by omega⟩ (fun _ => ?_) (fun c => ?_)
      · exact av_wp_ret (v := none) rfl rfl rfl hq
      · have c : (k : Int) < (k : Int) := c
        omega
    | succ m ih =>
      intro k e0 e
      refine av_wp_sqF ck_221 2 (pc' := 13) (lv' := [some (.inr (.inr (.inl (some a)))), some (.inl (lo : Int)), some (.inl (hi : Int)), some (.inl v), some (.inl (k : Int))]) (st' := [.inl (hi : Int), .inl (k : Int)]) (h' := hfil h a lo k v) rfl ?_
      refine wq_k2 (p' := 16) (ck_221 _ _ rfl) rfl ⟨by omega, by omega⟩ ⟨by omega, by omega⟩ (fun c => ?_) (fun _ => ?_)
      · have c : (hi : Int) ≤ (k : Int) := c
        omega
      · refine av_wp_sqF ck_221 3 (pc' := 20) (lv' := [some (.inr (.inr (.inl (some a)))), some (.inl (lo : Int)), some (.inl (hi : Int)), some (.inl v), some (.inl (k : Int))]) (st' := [.inl v, .inl (k : Int), .inr (.inr (.inl (some a)))]) (h' := hfil h a lo k v) rfl ?_
        refine wq_as (p' := 21) (n := n) (ck_221 _ _ rfl) rfl hk (by omega) ?_
        rw [show ((k : Nat) : Int).toNat = k from rfl, hfil_s h a lo k v e0]
        refine av_wp_sqF ck_221 2 (pc' := 10) (lv' := [some (.inr (.inr (.inl (some a)))), some (.inl (lo : Int)), some (.inl (hi : Int)), some (.inl v), some (.inl ((k : Int) + 1))]) (st' := []) (h' := hfil h a lo (k + 1) v) rfl ?_
        exact ih (k + 1) (by omega) (by omega)
  have := lp (hi - lo) lo (by omega) (by omega)
  rw [hfil_0] at this
  exact this
end
section
/-! COURT, SHELF AND THE CLASS ITSELF: looks come back -/
set_option maxRecDepth 100000 in
set_option maxHeartbeats 4000000 in
theorem ct_102 {h : av_H} (x : Int) (qx : -2147483648 ≤ x ∧ x ≤ 2147483647) {Q : Option av_V → av_H → Prop} (hq : ∀ v : Int, ((v = 1 ∧ 10 ≤ x ∧ x ≤ 14) ∨ (v = 0 ∧ (x < 10 ∨ 14 < x))) → Q (some (.inl v)) h) : av_wp none cd_102 0 [some (.inl x)] [] h Q := by
  have F := Fr1_rf h
  refine av_wp_sqF ck_102 2 (pc' := 3) (lv' := [some (.inl x)]) (st' := [.inl (10), .inl x]) (h' := h) rfl ?_
  refine wq_k2 (p' := 6) (ck_102 _ _ rfl) rfl ⟨by omega, by omega⟩ ⟨by omega, by omega⟩ (fun c1 => ?_) (fun c2 => ?_)
  · have c1 : x < (10) := c1
    refine av_wp_sqF ck_102 1 (pc' := 17) (lv' := [some (.inl x)]) (st' := [.inl (0)]) (h' := h) rfl ?_
    refine av_wp_ret (v := some (.inl (0))) (ck_102 _ _ rfl) rfl rfl ?_
    exact hq _ (by omega)
  · have c2 : (10) ≤ x := c2
    refine av_wp_sqF ck_102 2 (pc' := 9) (lv' := [some (.inl x)]) (st' := [.inl (15), .inl x]) (h' := h) rfl ?_
    refine wq_k2 (p' := 12) (ck_102 _ _ rfl) rfl ⟨by omega, by omega⟩ ⟨by omega, by omega⟩ (fun c3 => ?_) (fun c4 => ?_)
    · have c3 : (15) ≤ x := c3
      refine av_wp_sqF ck_102 1 (pc' := 17) (lv' := [some (.inl x)]) (st' := [.inl (0)]) (h' := h) rfl ?_
      refine av_wp_ret (v := some (.inl (0))) (ck_102 _ _ rfl) rfl rfl ?_
      exact hq _ (by omega)
    · have c4 : x < (15) := c4
      refine av_wp_sqF ck_102 2 (pc' := 17) (lv' := [some (.inl x)]) (st' := [.inl (1)]) (h' := h) rfl ?_
      refine av_wp_ret (v := some (.inl (1))) (ck_102 _ _ rfl) rfl rfl ?_
      exact hq _ (by omega)

set_option maxRecDepth 100000 in
set_option maxHeartbeats 4000000 in
theorem ct_119 {h : av_H} (x : Int) (qx : -2147483648 ≤ x ∧ x ≤ 2147483647) {Q : Option av_V → av_H → Prop} (hq : ∀ v : Int, ((v = 1 ∧ 0 ≤ x ∧ x ≤ 2) ∨ (v = 0 ∧ (x < 0 ∨ 2 < x))) → Q (some (.inl v)) h) : av_wp none cd_119 0 [some (.inl x)] [] h Q := by
  have F := Fr1_rf h
  refine av_wp_sqF ck_119 1 (pc' := 1) (lv' := [some (.inl x)]) (st' := [.inl x]) (h' := h) rfl ?_
  refine wq_k1 (p' := 4) (ck_119 _ _ rfl) rfl ⟨by omega, by omega⟩ (fun c1 => ?_) (fun c2 => ?_)
  · have c1 : x < (0) := c1
    refine av_wp_sqF ck_119 1 (pc' := 14) (lv' := [some (.inl x)]) (st' := [.inl (0)]) (h' := h) rfl ?_
    refine av_wp_ret (v := some (.inl (0))) (ck_119 _ _ rfl) rfl rfl ?_
    exact hq _ (by omega)
  · have c2 : (0) ≤ x := c2
    refine av_wp_sqF ck_119 2 (pc' := 6) (lv' := [some (.inl x)]) (st' := [.inl (3), .inl x]) (h' := h) rfl ?_
    refine wq_k2 (p' := 9) (ck_119 _ _ rfl) rfl ⟨by omega, by omega⟩ ⟨by omega, by omega⟩ (fun c3 => ?_) (fun c4 => ?_)
    · have c3 : (3) ≤ x := c3
      refine av_wp_sqF ck_119 1 (pc' := 14) (lv' := [some (.inl x)]) (st' := [.inl (0)]) (h' := h) rfl ?_
      refine av_wp_ret (v := some (.inl (0))) (ck_119 _ _ rfl) rfl rfl ?_
      exact hq _ (by omega)
    · have c4 : x < (3) := c4
      refine av_wp_sqF ck_119 2 (pc' := 14) (lv' := [some (.inl x)]) (st' := [.inl (1)]) (h' := h) rfl ?_
      refine av_wp_ret (v := some (.inl (1))) (ck_119 _ _ rfl) rfl rfl ?_
      exact hq _ (by omega)

set_option maxRecDepth 100000 in
set_option maxHeartbeats 4000000 in
theorem ct_69 {h : av_H} (I : IC h) (k : Int) (qk : -2147483648 ≤ k ∧ k ≤ 2147483647) {Q : Option av_V → av_H → Prop} (hq0 : Q (some (.inr (.inr (.inl none)))) h) (hq1 : ∀ t c s cb, CO h t c s cb → 0 ≤ k → k ≤ 15 → Q (some (.inr (.inr (.inl (some t))))) h) : av_wp none cd_69 0 [some (.inr (.inr (.inl (some (3))))), some (.inl k)] [] h Q := by
  have F := Fr1_rf h
  refine av_wp_sqF ck_69 1 (pc' := 1) (lv' := [some (.inr (.inr (.inl (some (3))))), some (.inl k)]) (st' := [.inl k]) (h' := h) rfl ?_
  refine wq_k1 (p' := 4) (ck_69 _ _ rfl) rfl ⟨by omega, by omega⟩ (fun c1 => ?_) (fun c2 => ?_)
  · have c1 : k < (0) := c1
    refine av_wp_sqF ck_69 1 (pc' := 22) (lv' := [some (.inr (.inr (.inl (some (3))))), some (.inl k)]) (st' := [.inr (.inr (.inl none))]) (h' := h) rfl ?_
    refine av_wp_ret (v := some (.inr (.inr (.inl none)))) rfl rfl rfl ?_
    exact hq0
  · have c2 : (0) ≤ k := c2
    refine av_wp_sqF ck_69 2 (pc' := 6) (lv' := [some (.inr (.inr (.inl (some (3))))), some (.inl k)]) (st' := [.inr (.inr (.inl (some (3)))), .inl k]) (h' := h) rfl ?_
    obtain ⟨v3, e4⟩ : ∃ v, hF h 3 3 = v := ⟨_, rfl⟩
    have g5 := ic_cc I
    rw [e4] at g5
    refine wq_gi (p' := 9) (ck_69 _ _ rfl) rfl (congrArg Prod.fst (ly_k I.1 3 rfl)) rfl (e4) ?_
    refine wq_k2 (p' := 12) (ck_69 _ _ rfl) rfl ⟨by omega, by omega⟩ ⟨by omega, by omega⟩ (fun c6 => ?_) (fun c7 => ?_)
    · have c6 : v3 ≤ k := c6
      refine av_wp_sqF ck_69 1 (pc' := 22) (lv' := [some (.inr (.inr (.inl (some (3))))), some (.inl k)]) (st' := [.inr (.inr (.inl none))]) (h' := h) rfl ?_
      refine av_wp_ret (v := some (.inr (.inr (.inl none)))) rfl rfl rfl ?_
      exact hq0
    · have c7 : k < v3 := c7
      refine av_wp_sqF ck_69 1 (pc' := 13) (lv' := [some (.inr (.inr (.inl (some (3))))), some (.inl k)]) (st' := [.inr (.inr (.inl (some (3))))]) (h' := h) rfl ?_
      refine wq_gr (p' := 16) (ck_69 _ _ rfl) rfl (congrArg Prod.fst (ly_k I.1 3 rfl)) rfl (ly_g I.1 3 0 4 rfl) ?_
      refine av_wp_sqF ck_69 1 (pc' := 17) (lv' := [some (.inr (.inr (.inl (some (3))))), some (.inl k)]) (st' := [.inl k, .inr (.inr (.inl (some (4))))]) (h' := h) rfl ?_
      rcases I.2.2.1 (Int.toNat (k)) (by omega) with e8 | ⟨t9, c10, s11, d12, e8, o13⟩
      · refine wq_ar (p' := 18) (n := 16) (k := 30) (ck_69 _ _ rfl) rfl (ly_k I.1 4 rfl) (by omega) (by omega) e8 ?_
        refine av_wp_sqF ck_69 1 (pc' := 22) (lv' := [some (.inr (.inr (.inl (some (3))))), some (.inl k)]) (st' := [.inr (.inr (.inl none))]) (h' := h) rfl ?_
        refine av_wp_ret (v := some (.inr (.inr (.inl none)))) rfl rfl rfl ?_
        exact hq0
      · refine wq_ar (p' := 18) (n := 16) (k := 30) (ck_69 _ _ rfl) rfl (ly_k I.1 4 rfl) (by omega) (by omega) e8 ?_
        have g14 := co_s12 o13
        have g15 := co_cbr o13
        refine av_wp_sqF ck_69 1 (pc' := 22) (lv' := [some (.inr (.inr (.inl (some (3))))), some (.inl k)]) (st' := [.inr (.inr (.inl (some (t9))))]) (h' := h) rfl ?_
        refine av_wp_ret (v := some (.inr (.inr (.inl (some (t9)))))) rfl rfl rfl ?_
        exact hq1 _ _ _ _ o13 (by omega) (by omega)
end
section
set_option maxRecDepth 100000 in
set_option maxHeartbeats 4000000 in
theorem ct_59 {h : av_H} {t c s r : Nat} {cb : Int} (i : IB 35 t c s r cb h) (x y : Int) (qy : -2147483648 ≤ y ∧ y ≤ 2147483647) {Q : Option av_V → av_H → Prop} (hq : ∀ v : Int, (v = 0 ∨ v = 1) → Q (some (.inl v)) h) : av_wp none cd_59 0 [some (.inr (.inr (.inl (some (26))))), some (.inl x), some (.inl y), none] [] h Q := by
  have s12 := co_s12 (ib_co i)
  have cbr := co_cbr (ib_co i)
  refine av_wp_sqF ck_59 2 (pc' := 2) (lv' := [some (.inr (.inr (.inl (some (26))))), some (.inl x), some (.inl y), none]) (st' := [.inl (1), .inl x]) (h' := h) rfl ?_
  have fin : ∀ lv, av_wp none cd_59 10 lv [] h Q := fun lv => by
    refine av_wp_sqF ck_59 1 (pc' := 11) (lv' := lv) (st' := [.inl (0)]) (h' := h) rfl ?_
    exact av_wp_ret (v := some (.inl (0))) rfl rfl rfl (hq _ (by omega))
  have fin2 : ∀ lv, av_wp none cd_59 68 lv [] h Q := fun lv => by
    refine av_wp_sqF ck_59 1 (pc' := 69) (lv' := lv) (st' := [.inl (0)]) (h' := h) rfl ?_
    exact av_wp_ret (v := some (.inl (0))) rfl rfl rfl (hq _ (by omega))
  refine wq_w2 (p' := 5) (ck_59 _ _ rfl) rfl (fun _ => fin _) (fun c1 => ?_)
  have c1 : av_w 1 ≤ av_w x := c1
  rw [show av_w 1 = 1 from rfl] at c1
  refine av_wp_sqF ck_59 2 (pc' := 7) (lv' := [some (.inr (.inr (.inl (some (26))))), some (.inl x), some (.inl y), none]) (st' := [.inl (1), .inl y]) (h' := h) rfl ?_
  refine wq_k2 (p' := 10) (ck_59 _ _ rfl) rfl ⟨by omega, by omega⟩ ⟨by omega, by omega⟩ (fun c2 => ?_) (fun _ => fin _)
  have c2 : (1 : Int) ≤ y := c2
  refine av_wp_sqF ck_59 2 (pc' := 14) (lv' := [some (.inr (.inr (.inl (some (26))))), some (.inl x), some (.inl y), some (.inl x)]) (st' := []) (h' := h) rfl ?_
  have lp : ∀ (m : Nat) (k : Int), 0 ≤ k - x → (k = x ∨ av_w x + (k - x) ≤ 1024) → (1025 - (k - x)).toNat = m → av_wp none cd_59 14 [some (.inr (.inr (.inl (some (26))))), some (.inl x), some (.inl y), some (.inl k)] [] h Q := by
    intro m
    induction m using Nat.strongRecOn with
    | _ m ih =>
      intro k g1 g2 em
      have kw : av_w k = av_w x + (k - x) := by
        rcases g2 with g2 | g2
        · rw [g2]; omega
        · have := av_w_add (x := x) (i := k - x) (by omega) (by omega)
          rw [← this]
          congr 1
          omega
      refine av_wp_sqF ck_59 2 (pc' := 16) (lv' := [some (.inr (.inr (.inl (some (26))))), some (.inl x), some (.inl y), some (.inl k)]) (st' := [.inr (.inr (.inl (some (26)))), .inl k]) (h' := h) rfl ?_
      refine wq_gr (p' := 19) (ck_59 _ _ rfl) rfl (congrArg Prod.fst (ly_k (ib_ic i).1 26 rfl)) rfl (ly_g (ib_ic i).1 26 1 35 rfl) ?_
      refine wq_gr (p' := 22) (ck_59 _ _ rfl) rfl (congrArg Prod.fst (ib_k0 i)) rfl (ib_t i) ?_
      refine wq_gi (p' := 25) (ck_59 _ _ rfl) rfl (congrArg Prod.fst (co_kt (ib_co i))) rfl (co_cb (ib_co i)) ?_
      refine wq_w2 (p' := 28) (ck_59 _ _ rfl) rfl (fun _ => fin2 _) (fun c3 => ?_)
      have c3 : av_w k < av_w cb := c3
      rw [av_rgw (x := cb) ⟨by omega, by omega⟩] at c3
      refine av_wp_sqF ck_59 2 (pc' := 32) (lv' := [some (.inr (.inr (.inl (some (26))))), some (.inl x), some (.inl y), some (.inl k)]) (st' := [.inl (1024), .inl k]) (h' := h) rfl ?_
      refine wq_w2 (p' := 35) (ck_59 _ _ rfl) rfl (fun _ => fin2 _) (fun c4 => ?_)
      have c4 : av_w k < av_w 1024 := c4
      rw [show av_w 1024 = 1024 from rfl] at c4
      refine av_wp_sqF ck_59 2 (pc' := 37) (lv' := [some (.inr (.inr (.inl (some (26))))), some (.inl x), some (.inl y), some (.inl k)]) (st' := [.inl x, .inl k]) (h' := h) rfl ?_
      refine wq_dw (p' := 38) (ck_59 _ _ rfl) rfl (by omega) (fun v1 => ?_)
      refine av_wp_sqF ck_59 1 (pc' := 39) (lv' := [some (.inr (.inr (.inl (some (26))))), some (.inl x), some (.inl y), some (.inl k)]) (st' := [.inl y, .inl v1]) (h' := h) rfl ?_
      refine wq_rm (p' := 40) (ck_59 _ _ rfl) rfl ⟨by omega, by omega⟩ (by omega) (fun v2 _ => ?_)
      have nx : av_wp none cd_59 62 [some (.inr (.inr (.inl (some (26))))), some (.inl x), some (.inl y), some (.inl k)] [] h Q := by
        refine av_wp_sqF ck_59 2 (pc' := 14) (lv' := [some (.inr (.inr (.inl (some (26))))), some (.inl x), some (.inl y), some (.inl (k + (1)))]) (st' := []) (h' := h) rfl ?_
        exact ih _ (by omega) (k + (1)) (by omega) (by omega) rfl
      refine wq_c1 (p' := 43) (ck_59 _ _ rfl) rfl nx ?_
      refine av_wp_sqF ck_59 1 (pc' := 44) (lv' := [some (.inr (.inr (.inl (some (26))))), some (.inl x), some (.inl y), some (.inl k)]) (st' := [.inr (.inr (.inl (some (26))))]) (h' := h) rfl ?_
      refine wq_gr (p' := 47) (ck_59 _ _ rfl) rfl (congrArg Prod.fst (ly_k (ib_ic i).1 26 rfl)) rfl (ly_g (ib_ic i).1 26 6 29 rfl) ?_
      refine av_wp_sqF ck_59 1 (pc' := 48) (lv' := [some (.inr (.inr (.inl (some (26))))), some (.inl x), some (.inl y), some (.inl k)]) (st' := [.inl k, .inr (.inr (.inl (some (29))))]) (h' := h) rfl ?_
      refine wq_bw (p' := 49) (n := 1024) (ck_59 _ _ rfl) rfl (Or.inr (ly_k (ib_ic i).1 29 rfl)) (by omega) (fun v3 => ?_)
      refine av_wp_sqF ck_59 1 (pc' := 50) (lv' := [some (.inr (.inr (.inl (some (26))))), some (.inl x), some (.inl y), some (.inl k)]) (st' := [.inr (.inr (.inl (some (26)))), .inl v3]) (h' := h) rfl ?_
      refine wq_gr (p' := 53) (ck_59 _ _ rfl) rfl (congrArg Prod.fst (ly_k (ib_ic i).1 26 rfl)) rfl (ly_g (ib_ic i).1 26 6 29 rfl) ?_
      refine av_wp_sqF ck_59 3 (pc' := 56) (lv' := [some (.inr (.inr (.inl (some (26))))), some (.inl x), some (.inl y), some (.inl k)]) (st' := [.inl (k - x), .inr (.inr (.inl (some (29)))), .inl v3]) (h' := h) rfl ?_
      obtain ⟨v4, e4⟩ : ∃ v, hA h 29 (k - x).toNat = v := ⟨_, rfl⟩
      refine wq_bl (p' := 57) (n := 1024) (ck_59 _ _ rfl) rfl (Or.inr (ly_k (ib_ic i).1 29 rfl)) (by omega) e4 ?_
      refine wq_c2 (p' := 60) (ck_59 _ _ rfl) rfl nx ?_
      refine av_wp_sqF ck_59 1 (pc' := 61) (lv' := [some (.inr (.inr (.inl (some (26))))), some (.inl x), some (.inl y), some (.inl k)]) (st' := [.inl (1)]) (h' := h) rfl ?_
      exact av_wp_ret (v := some (.inl (1))) rfl rfl rfl (hq _ (by omega))
  exact lp _ x (by omega) (by omega) rfl
end
section
/-! THE REFERENCE'S LOOKS: what holds of its rows, what a look may change -/
theorem hF_self {h : av_H} {o f : Nat} {v : Int} : hF (hwF h o f v) o f = v := av_u2_self
theorem hF_oth {h : av_H} {o f q : Nat} {v : Int} (e : q ≠ f) : hF (hwF h o f v) o q = hF h o q := av_u2_oth e
theorem hA_ne {h : av_H} {a j q : Nat} {v : Int} (e : q ≠ a) : hA (hwA h a j v) q = hA h q := av_u2_ne e
def mlo (a : Nat) : Int := [0, 0, -1, -1, 0, -1, -1, 0, -1, 0, 0].getD (a - 82) 0
def mhi (a : Nat) : Int := [7, 2, 2, 11, 3, 1999, 15, 1, 999, 1999, 1999].getD (a - 82) 0
def wlo (a : Nat) : Int := [0, 0, 0, -1, -1, 0, -1, 0, -1, 0, 0, 0].getD (a - 96) 0
def whi (a : Nat) : Int := [7, 3, 2, 1999, 11, 2, 2, 1, 999, 1999, 1999, 47].getD (a - 96) 0
/-- the book's rows -/
def MV (h : av_H) : Prop := (∀ a, 82 ≤ a → a ≤ 92 → ∀ j, mlo a ≤ hA h a j ∧ hA h a j ≤ mhi a) ∧ (0 ≤ hA h 78 0 ∧ hA h 78 0 ≤ 16) ∧ (0 ≤ hA h 79 0 ∧ hA h 79 0 ≤ 8) ∧ (0 ≤ hA h 80 0 ∧ hA h 80 0 ≤ 6) ∧ (∀ j, 0 ≤ hA h 81 j ∧ hA h 81 j ≤ 12) ∧ (∀ c k : Nat, (c : Int) < hA h 78 0 → (k : Int) < hA h 81 c → 2 ≤ hA h 82 (12 * c + k) → 0 ≤ hA h 85 (12 * c + k) ∧ hA h 85 (12 * c + k) < k)
/-- the rows that are looked at -/
def WI (h : av_H) : Prop := ∀ a, 96 ≤ a → a ≤ 107 → ∀ j, wlo a ≤ hA h a j ∧ hA h a j ≤ whi a
def WR (h : av_H) : Prop := ∀ k : Nat, k < 12 → 2 ≤ hA h 96 k → 0 ≤ hA h 100 k ∧ hA h 100 k < k
/-- what is asked, and how many combos that makes -/
def AK (h : av_H) : Prop := (0 ≤ hF h 77 28 ∧ hF h 77 28 ≤ 48) ∧ (0 ≤ hF h 77 29 ∧ hF h 77 29 ≤ 1025) ∧ (∀ j : Nat, (j : Int) < hF h 77 28 → 2 ≤ hA h 108 j ∧ hA h 108 j ≤ 2000) ∧ ∃ p : Nat → Int, p 0 = 1 ∧ (∀ j : Nat, (j : Int) < hF h 77 28 → p (j + 1) = p j * hA h 108 j) ∧ (1 ≤ hF h 77 29 → hF h 77 29 ≤ 1024 → p (hF h 77 28).toNat ≤ hF h 77 29)
def NF (h : av_H) : Prop := (0 ≤ hF h 77 27 ∧ hF h 77 27 ≤ 12) ∧ (hF h 77 50 = 0 ∨ hF h 77 50 = 1) ∧ (-1 ≤ hF h 77 51 ∧ hF h 77 51 ≤ 11) ∧ (0 ≤ hF h 77 52 ∧ hF h 77 52 ≤ 11)
def IL (h : av_H) : Prop := LY h ∧ MV h ∧ WI h ∧ AK h ∧ NF h
def IM (h : av_H) : Prop := IL h ∧ WR h
def mA (a : Nat) : Bool := Nat.ble 95 a && Nat.ble a 121
def mF (o f : Nat) : Bool := Nat.beq o 77 && (Nat.beq f 27 || Nat.beq f 28 || Nat.beq f 29 || Nat.beq f 50 || Nat.beq f 51 || Nat.beq f 52 || Nat.beq f 53 || Nat.beq f 60 || Nat.beq f 61)
def FM (g h : av_H) : Prop := h.1 = g.1 ∧ h.2.1 = g.2.1 ∧ hK h = hK g ∧ hR h = hR g ∧ hG h = hG g ∧ (∀ o f, mF o f = false → hF h o f = hF g o f) ∧ (∀ a, mA a = false → hA h a = hA g a)
theorem FM_rf (h : av_H) : FM h h := ⟨rfl, rfl, rfl, rfl, rfl, fun _ _ _ => rfl, fun _ _ => rfl⟩
theorem FM_tr {g h k : av_H} (a : FM g h) (b : FM h k) : FM g k := ⟨b.1.trans a.1, b.2.1.trans a.2.1, b.2.2.1.trans a.2.2.1, b.2.2.2.1.trans a.2.2.2.1, b.2.2.2.2.1.trans a.2.2.2.2.1, fun o f e => (b.2.2.2.2.2.1 o f e).trans (a.2.2.2.2.2.1 o f e), fun o e => (b.2.2.2.2.2.2 o e).trans (a.2.2.2.2.2.2 o e)⟩
theorem FM_wA {g h : av_H} {a j : Nat} {v : Int} (F : FM g h) (e : mA a = true) : FM g (hwA h a j v) := ⟨F.1, F.2.1, F.2.2.1, F.2.2.2.1, F.2.2.2.2.1, F.2.2.2.2.2.1, fun k hk => by
  have hne : k ≠ a := fun z => by rw [z, e] at hk; cases hk
  show av_u2 h.2.2.2.1 a j v k = _
  rw [av_u2_ne hne]
  exact F.2.2.2.2.2.2 k hk⟩
theorem FM_wF {g h : av_H} {o f : Nat} {v : Int} (F : FM g h) (e : mF o f = true) : FM g (hwF h o f v) := ⟨F.1, F.2.1, F.2.2.1, F.2.2.2.1, F.2.2.2.2.1, fun k q hk => by
  show av_u2 h.2.2.2.2.1 o f v k q = _
  have hne : ¬ (k = o ∧ q = f) := fun z => by rw [z.1, z.2, e] at hk; cases hk
  rw [av_u2, if_neg hne]
  exact F.2.2.2.2.2.1 k q hk, F.2.2.2.2.2.2⟩
theorem LY_fm {g h : av_H} (L : LY g) (F : FM g h) : LY h := ⟨fun a ha => by rw [F.2.2.1]; exact L.1 a ha, fun o f q e => by rw [F.2.2.2.2.1]; exact L.2.1 o f q e, fun i hi => by rw [F.2.2.2.1]; exact L.2.2.1 i hi, fun i hi => by rw [F.2.2.2.1]; exact L.2.2.2 i hi⟩
theorem MV_A {g h : av_H} (x : MV g) (e : ∀ a, 78 ≤ a → a ≤ 92 → hA h a = hA g a) : MV h := by
  unfold MV at x ⊢
  rw [e 78 (by omega) (by omega), e 79 (by omega) (by omega), e 80 (by omega) (by omega), e 81 (by omega) (by omega), e 82 (by omega) (by omega), e 85 (by omega) (by omega)]
  exact ⟨fun a h1 h2 j => by rw [e a (by omega) h2]; exact x.1 a h1 h2 j, x.2⟩
/-- a row that nothing is known of -/
theorem mA_in {q : Nat} (h1 : 95 ≤ q) (h2 : q ≤ 121) : mA q = true := by
  simp only [mA, Bool.and_eq_true]
  exact ⟨Nat.ble_eq_true_of_le h1, Nat.ble_eq_true_of_le h2⟩
theorem IL_wA {h : av_H} {a x : Nat} {v : Int} (I : IL h) (ha : a = 95 ∨ (109 ≤ a ∧ a ≤ 121)) : IL (hwA h a x v) := by
  have F : FM h (hwA h a x v) := FM_wA (FM_rf h) (mA_in (by omega) (by omega))
  have E : ∀ q, q ≠ a → hA (hwA h a x v) q = hA h q := fun q hq => av_u2_ne hq
  refine ⟨LY_fm I.1 F, MV_A I.2.1 (fun q h1 h2 => E q (by omega)), ?_, ?_, I.2.2.2.2⟩
  · intro q h1 h2 j
    rw [E q (by omega)]
    exact I.2.2.1 q h1 h2 j
  · have := I.2.2.2.1
    unfold AK at this ⊢
    rw [E 108 (by omega)]
    exact this
/-- one of the rows that are looked at, kept within its bounds -/
theorem IL_wW {h : av_H} {a x : Nat} {v : Int} (I : IL h) (ha : 96 ≤ a ∧ a ≤ 107) (hv : wlo a ≤ v ∧ v ≤ whi a) : IL (hwA h a x v) := by
  have F : FM h (hwA h a x v) := FM_wA (FM_rf h) (mA_in (by omega) (by omega))
  have E : ∀ q, q ≠ a → hA (hwA h a x v) q = hA h q := fun q hq => av_u2_ne hq
  refine ⟨LY_fm I.1 F, MV_A I.2.1 (fun q h1 h2 => E q (by omega)), ?_, ?_, I.2.2.2.2⟩
  · intro q h1 h2 j
    by_cases e : q = a
    · subst e
      show wlo q ≤ av_u2 h.2.2.2.1 q x v q j ∧ av_u2 h.2.2.2.1 q x v q j ≤ whi q
      by_cases e2 : j = x
      · subst e2; rw [av_u2_self]; exact hv
      · rw [av_u2_oth e2]; exact I.2.2.1 q h1 h2 j
    · rw [E q e]
      exact I.2.2.1 q h1 h2 j
  · have := I.2.2.2.1
    unfold AK at this ⊢
    rw [E 108 (by omega)]
    exact this
theorem WR_A {h k : av_H} (x : WR h) (e1 : hA k 96 = hA h 96) (e2 : hA k 100 = hA h 100) : WR k := by
  unfold WR at x ⊢
  rw [e1, e2]
  exact x
theorem IM_wA {h : av_H} {a x : Nat} {v : Int} (I : IM h) (ha : a = 95 ∨ (109 ≤ a ∧ a ≤ 121)) : IM (hwA h a x v) := ⟨IL_wA I.1 ha, WR_A I.2 (av_u2_ne (by omega)) (av_u2_ne (by omega))⟩
theorem IM_wW {h : av_H} {a x : Nat} {v : Int} (I : IM h) (ha : 97 ≤ a ∧ a ≤ 107 ∧ a ≠ 100) (hv : wlo a ≤ v ∧ v ≤ whi a) : IM (hwA h a x v) := ⟨IL_wW I.1 (by omega) hv, WR_A I.2 (av_u2_ne (by omega)) (av_u2_ne (by omega))⟩
/-- fields -/
theorem IL_wF {h : av_H} {f : Nat} {v : Int} (I : IL h) (hf : (f = 27 ∧ 0 ≤ v ∧ v ≤ 12) ∨ (f = 50 ∧ (v = 0 ∨ v = 1)) ∨ (f = 51 ∧ -1 ≤ v ∧ v ≤ 11) ∨ (f = 52 ∧ 0 ≤ v ∧ v ≤ 11) ∨ f = 53 ∨ f = 60 ∨ f = 61) : IL (hwF h 77 f v) := by
  have hm : mF 77 f = true := by
    rcases hf with e | e | e | e | e | e | e
    · rw [e.1]; rfl
    · rw [e.1]; rfl
    · rw [e.1]; rfl
    · rw [e.1]; rfl
    · rw [e]; rfl
    · rw [e]; rfl
    · rw [e]; rfl
  have F : FM h (hwF h 77 f v) := FM_wF (FM_rf h) hm
  have E : ∀ q, q ≠ f → hF (hwF h 77 f v) 77 q = hF h 77 q := fun q hq => av_u2_oth hq
  have E' : hF (hwF h 77 f v) 77 f = v := hF_self
  refine ⟨LY_fm I.1 F, I.2.1, I.2.2.1, ?_, ?_⟩
  · have := I.2.2.2.1
    unfold AK at this ⊢
    rw [E 28 (by omega), E 29 (by omega)]
    exact this
  · obtain ⟨n1, n2, n3, n4⟩ := I.2.2.2.2
    refine ⟨?_, ?_, ?_, ?_⟩
    · by_cases e : f = 27
      · subst e; rw [E']; omega
      · rw [E 27 (Ne.symm e)]; exact n1
    · by_cases e : f = 50
      · subst e; rw [E']; omega
      · rw [E 50 (Ne.symm e)]; exact n2
    · by_cases e : f = 51
      · subst e; rw [E']; omega
      · rw [E 51 (Ne.symm e)]; exact n3
    · by_cases e : f = 52
      · subst e; rw [E']; omega
      · rw [E 52 (Ne.symm e)]; exact n4
theorem IM_wF {h : av_H} {f : Nat} {v : Int} (I : IM h) (hf : (f = 27 ∧ 0 ≤ v ∧ v ≤ 12) ∨ (f = 50 ∧ (v = 0 ∨ v = 1)) ∨ (f = 51 ∧ -1 ≤ v ∧ v ≤ 11) ∨ (f = 52 ∧ 0 ≤ v ∧ v ≤ 11) ∨ f = 53 ∨ f = 60 ∨ f = 61) : IM (hwF h 77 f v) := ⟨IL_wF I.1 hf, I.2⟩
section
variable {h : av_H}
theorem im_n (I : IL h) : 0 ≤ hF h 77 27 ∧ hF h 77 27 ≤ 12 := I.2.2.2.2.1
theorem im_has (I : IL h) : hF h 77 50 = 0 ∨ hF h 77 50 = 1 := I.2.2.2.2.2.1
theorem im_by (I : IL h) : -1 ≤ hF h 77 51 ∧ hF h 77 51 ≤ 11 := I.2.2.2.2.2.2.1
theorem im_of (I : IL h) : 0 ≤ hF h 77 52 ∧ hF h 77 52 ≤ 11 := I.2.2.2.2.2.2.2
theorem im_a (I : IL h) : 0 ≤ hF h 77 28 ∧ hF h 77 28 ≤ 48 := I.2.2.2.1.1
theorem im_cm (I : IL h) : 0 ≤ hF h 77 29 ∧ hF h 77 29 ≤ 1025 := I.2.2.2.1.2.1
theorem im_rx (I : IL h) (j : Nat) (hj : (j : Int) < hF h 77 28) : 2 ≤ hA h 108 j ∧ hA h 108 j ≤ 2000 := I.2.2.2.1.2.2.1 j hj
theorem im_w (I : IL h) (a : Nat) (h1 : 96 ≤ a) (h2 : a ≤ 107) (j : Nat) : wlo a ≤ hA h a j ∧ hA h a j ≤ whi a := I.2.2.1 a h1 h2 j
theorem im_m (I : IL h) (a : Nat) (h1 : 82 ≤ a) (h2 : a ≤ 92) (j : Nat) : mlo a ≤ hA h a j ∧ hA h a j ≤ mhi a := I.2.1.1 a h1 h2 j
theorem im_many (I : IL h) (j : Nat) : 0 ≤ hA h 81 j ∧ hA h 81 j ≤ 12 := I.2.1.2.2.2.2.1 j
theorem im_wr (I : IM h) (k : Nat) (hk : k < 12) (h2 : 2 ≤ hA h 96 k) : 0 ≤ hA h 100 k ∧ hA h 100 k < k := I.2 k hk h2
end
def IMF (n a m : Int) (h : av_H) : Prop := IM h ∧ hF h 77 27 = n ∧ hF h 77 28 = a ∧ hF h 77 29 = m
section
variable {sc : av_Sr} {cd : List (Nat × av_E)} {Q : Option av_V → av_H → Prop} {pc p' : Nat} {lv : av_L} {r' : List av_V} {g h : av_H} {n a m : Int}
theorem im_as {q l : Nat} {x v : Int} (hx : cd.lookup pc = some (av_q (.iastore))) (hp : pc + 1 = p') (I : IMF n a m h) (F : FM g h) (hk : hK h q = (20, l)) (ha : q = 95 ∨ (109 ≤ q ∧ q ≤ 121)) (hi : 0 ≤ x ∧ x < l ∧ (l : Int) < 2147483648) (hw : ∀ h', IMF n a m h' → FM g h' → av_wp sc cd p' lv r' h' Q) : av_wp sc cd pc lv (.inl v :: .inl x :: .inr (.inr (.inl (some q))) :: r') h Q :=
  wq_as hx hp hk hi (hw _ ⟨IM_wA I.1 ha, I.2⟩ (FM_wA F (mA_in (by omega) (by omega))))
theorem im_zs {q l : Nat} {x v : Int} (hx : cd.lookup pc = some (av_q (.bastore))) (hp : pc + 1 = p') (I : IMF n a m h) (F : FM g h) (hk : hK h q = (22, l)) (ha : q = 95 ∨ (109 ≤ q ∧ q ≤ 121)) (hi : 0 ≤ x ∧ x < l ∧ (l : Int) < 2147483648) (hv : v = 0 ∨ v = 1) (hw : ∀ h', IMF n a m h' → FM g h' → av_wp sc cd p' lv r' h' Q) : av_wp sc cd pc lv (.inl v :: .inl x :: .inr (.inr (.inl (some q))) :: r') h Q :=
  wq_zs hx hp hk hi hv (hw _ ⟨IM_wA I.1 ha, I.2⟩ (FM_wA F (mA_in (by omega) (by omega))))
theorem im_ws {q l : Nat} {x v : Int} (hx : cd.lookup pc = some (av_q (.iastore))) (hp : pc + 1 = p') (I : IMF n a m h) (F : FM g h) (hk : hK h q = (20, l)) (ha : 97 ≤ q ∧ q ≤ 107 ∧ q ≠ 100) (hv : wlo q ≤ v ∧ v ≤ whi q) (hi : 0 ≤ x ∧ x < l ∧ (l : Int) < 2147483648) (hw : ∀ h', IMF n a m h' → FM g h' → av_wp sc cd p' lv r' h' Q) : av_wp sc cd pc lv (.inl v :: .inl x :: .inr (.inr (.inl (some q))) :: r') h Q :=
  wq_as hx hp hk hi (hw _ ⟨IM_wW I.1 ha hv, I.2⟩ (FM_wA F (mA_in (by omega) (by omega))))
theorem im_pf {idx f : Nat} {v : Int} (hx : cd.lookup pc = some (av_qf (.putfield idx) 8 f 0)) (hp : pc + 3 = p') (I : IMF n a m h) (F : FM g h) (hf : (f = 51 ∧ -1 ≤ v ∧ v ≤ 11) ∨ (f = 52 ∧ 0 ≤ v ∧ v ≤ 11) ∨ f = 53 ∨ f = 60 ∨ f = 61) (hm : mF 77 f = true) (hw : ∀ h', IMF n a m h' → FM g h' → av_wp sc cd p' lv r' h' Q) : av_wp sc cd pc lv (.inl v :: .inr (.inr (.inl (some 77))) :: r') h Q :=
  wq_pi hx hp (congrArg Prod.fst (ly_k I.1.1.1 77 rfl)) rfl (hw _ ⟨IM_wF I.1 (by omega), (hF_oth (by omega)).trans I.2.1, (hF_oth (by omega)).trans I.2.2.1, (hF_oth (by omega)).trans I.2.2.2⟩ (FM_wF F hm))
theorem im_pb {idx : Nat} {v : Int} (hx : cd.lookup pc = some (av_qf (.putfield idx) 8 50 3)) (hp : pc + 3 = p') (I : IMF n a m h) (F : FM g h) (hv : v = 0 ∨ v = 1) (hw : ∀ h', IMF n a m h' → FM g h' → av_wp sc cd p' lv r' h' Q) : av_wp sc cd pc lv (.inl v :: .inr (.inr (.inl (some 77))) :: r') h Q :=
  wq_pb hx hp (congrArg Prod.fst (ly_k I.1.1.1 77 rfl)) rfl hv (hw _ ⟨IM_wF I.1 (by omega), (hF_oth (by omega)).trans I.2.1, (hF_oth (by omega)).trans I.2.2.1, (hF_oth (by omega)).trans I.2.2.2⟩ (FM_wF F rfl))
end
/-! WHAT IS ASKED IS FOUND -/
/-- by how many the asked one t may be; how many combos the first t make (1025: too many) -/
def cmv (lo hi ls : Nat → Int) (t : Nat) : Int := if t % 4 < 3 then hi (3 * (t / 4) + t % 4) - lo (3 * (t / 4) + t % 4) + 1 else if ls (t / 4) = 1 then 2 else 1
def cmf (lo hi ls : Nat → Int) : Nat → Int
  | 0 => 1
  | t + 1 => if cmv lo hi ls t < 2 then cmf lo hi ls t else if 1024 < cmf lo hi ls t * cmv lo hi ls t then 1025 else cmf lo hi ls t * cmv lo hi ls t
theorem cmv_a {lo hi ls : Nat → Int} {k j x y : Int} (hk : 0 ≤ k) (hj : 0 ≤ j ∧ j < 3) (e1 : hi (((3) * k) + j).toNat = x) (e2 : lo (((3) * k) + j).toNat = y) : cmv lo hi ls (4 * k + j).toNat = ((x - y) + (1)) := by
  unfold cmv
  have h1 : (4 * k + j).toNat % 4 = j.toNat := by omega
  have h2 : (4 * k + j).toNat / 4 = k.toNat := by omega
  rw [h1, h2, if_pos (by omega), show 3 * k.toNat + j.toNat = (((3) * k) + j).toNat by omega, e1, e2]
theorem cmv_b {lo hi ls : Nat → Int} {k j x : Int} (hk : 0 ≤ k) (hj : j = 3) (e1 : ls k.toNat = x) (hx : x = 1) : cmv lo hi ls (4 * k + j).toNat = (2) := by
  unfold cmv
  have h1 : (4 * k + j).toNat % 4 = 3 := by omega
  have h2 : (4 * k + j).toNat / 4 = k.toNat := by omega
  rw [h1, h2, if_neg (by omega), e1, if_pos hx]
theorem cmv_c {lo hi ls : Nat → Int} {k j x : Int} (hk : 0 ≤ k) (hj : j = 3) (e1 : ls k.toNat = x) (hx : x ≠ 1) : cmv lo hi ls (4 * k + j).toNat = (1) := by
  unfold cmv
  have h1 : (4 * k + j).toNat % 4 = 3 := by omega
  have h2 : (4 * k + j).toNat / 4 = k.toNat := by omega
  rw [h1, h2, if_neg (by omega), e1, if_neg hx]
def AJ (n : Int) (lo hi ls : Nat → Int) (t : Nat) (h : av_H) : Prop := IM h ∧ hF h 77 27 = n ∧ hF h 77 28 ≤ t ∧ 1 ≤ hF h 77 29 ∧ hF h 77 29 = cmf lo hi ls t ∧ hA h 105 = lo ∧ hA h 106 = hi ∧ hA h 98 = ls
theorem AJ_eq {n : Int} {lo hi ls : Nat → Int} {t t' : Nat} {h : av_H} (J : AJ n lo hi ls t h) (e : t = t') : AJ n lo hi ls t' h := e ▸ J
theorem AJ_skip {n : Int} {lo hi ls : Nat → Int} {t : Nat} {v : Int} {h : av_H} (J : AJ n lo hi ls t h) (hv : cmv lo hi ls t = v) (h2 : v < 2) : AJ n lo hi ls (t + 1) h := ⟨J.1, J.2.1, Int.le_trans J.2.2.1 (by omega), J.2.2.2.1, by
  rw [J.2.2.2.2.1]
  show _ = (if cmv lo hi ls t < 2 then cmf lo hi ls t else _)
  rw [if_pos (by rw [hv]; exact h2)], J.2.2.2.2.2⟩
theorem AJ_step {n x v m' : Int} {lo hi ls : Nat → Int} {t : Nat} {h : av_H} (J : AJ n lo hi ls t h) (hcv : cmv lo hi ls t = v) (hb : t ≤ 47) (hv : 2 ≤ v ∧ v ≤ 2000) (hx : 0 ≤ x ∧ x ≤ 47) (hm : (1024 < hF h 77 29 * v ∧ m' = 1025) ∨ (hF h 77 29 * v ≤ 1024 ∧ m' = hF h 77 29 * v)) : AJ n lo hi ls (t + 1) (hwF (hwF (hwA (hwA h 107 (hF h 77 28).toNat x) 108 (hF h 77 28).toNat v) 77 28 (hF h 77 28 + 1)) 77 29 m') ∧ FM h (hwF (hwF (hwA (hwA h 107 (hF h 77 28).toNat x) 108 (hF h 77 28).toNat v) 77 28 (hF h 77 28 + 1)) 77 29 m') := by
  obtain ⟨⟨I, W⟩, j1, j2, j3, j4, j5, j6, j7⟩ := J
  have ga := im_a I
  have gm := im_cm I
  obtain ⟨_, _, k3, p, p0, p1, p2⟩ := I.2.2.2.1
  have mv0 : 0 ≤ hF h 77 29 * v := Int.mul_nonneg (by omega) (by omega)
  have mv1 : hF h 77 29 * 1 ≤ hF h 77 29 * v := Int.mul_le_mul_of_nonneg_left (by omega) (by omega)
  generalize hH : hwF (hwF (hwA (hwA h 107 (hF h 77 28).toNat x) 108 (hF h 77 28).toNat v) 77 28 (hF h 77 28 + 1)) 77 29 m' = H
  have Fm : FM h H := by
    rw [← hH]
    exact FM_wF (FM_wF (FM_wA (FM_wA (FM_rf h) rfl) rfl) rfl) rfl
  have E29 : hF H 77 29 = m' := by rw [← hH]; exact hF_self
  have E28 : hF H 77 28 = hF h 77 28 + 1 := by rw [← hH]; exact (hF_oth (by decide)).trans hF_self
  have EF : ∀ q, q ≠ 28 → q ≠ 29 → hF H 77 q = hF h 77 q := fun q h1 h2 => by rw [← hH]; exact (hF_oth h2).trans (hF_oth h1)
  have EA : ∀ q, q ≠ 107 → q ≠ 108 → hA H q = hA h q := fun q h1 h2 => by rw [← hH]; exact (hA_ne h2).trans (hA_ne h1)
  have E107 : ∀ j, hA H 107 j = if j = (hF h 77 28).toNat then x else hA h 107 j := fun j => by
    rw [← hH]
    show av_u2 (av_u2 h.2.2.2.1 107 (hF h 77 28).toNat x) 108 (hF h 77 28).toNat v 107 j = _
    rw [av_u2_ne (by decide)]
    by_cases e : j = (hF h 77 28).toNat
    · rw [if_pos e, e, av_u2_self]
    · rw [if_neg e, av_u2_oth e]
  have E108 : ∀ j, hA H 108 j = if j = (hF h 77 28).toNat then v else hA h 108 j := fun j => by
    rw [← hH]
    show av_u2 (av_u2 h.2.2.2.1 107 (hF h 77 28).toNat x) 108 (hF h 77 28).toNat v 108 j = _
    by_cases e : j = (hF h 77 28).toNat
    · rw [if_pos e, e, av_u2_self]
    · rw [if_neg e, av_u2_oth e, av_u2_ne (by decide)]
  refine ⟨⟨⟨⟨LY_fm I.1 Fm, MV_A I.2.1 (fun q h1 h2 => EA q (by omega) (by omega)), ?_, ?_, ?_⟩, WR_A W (EA 96 (by decide) (by decide)) (EA 100 (by decide) (by decide))⟩, ?_, ?_, ?_, ?_, (EA 105 (by decide) (by decide)).trans j5, (EA 106 (by decide) (by decide)).trans j6, (EA 98 (by decide) (by decide)).trans j7⟩, Fm⟩
  · intro q h1 h2 j
    by_cases e : q = 107
    · subst e
      rw [E107]
      split
      · exact hx
      · exact I.2.2.1 107 h1 h2 j
    · rw [EA q e (by omega)]
      exact I.2.2.1 q h1 h2 j
  · unfold AK
    rw [E28, E29]
    refine ⟨by omega, by omega, ?_, fun j => if j ≤ (hF h 77 28).toNat then p j else p (hF h 77 28).toNat * v, ?_, ?_, ?_⟩
    · intro j hj
      rw [E108]
      by_cases e : j = (hF h 77 28).toNat
      · rw [if_pos e]; exact hv
      · rw [if_neg e]; exact k3 j (by omega)
    · show (if 0 ≤ (hF h 77 28).toNat then p 0 else _) = 1
      rw [if_pos (Nat.zero_le _)]; exact p0
    · intro j hj
      show (if j + 1 ≤ (hF h 77 28).toNat then p (j + 1) else p (hF h 77 28).toNat * v) = (if j ≤ (hF h 77 28).toNat then p j else p (hF h 77 28).toNat * v) * hA H 108 j
      rw [if_pos (show j ≤ (hF h 77 28).toNat by omega), E108]
      by_cases e : j = (hF h 77 28).toNat
      · rw [if_pos e, if_neg (by omega), e]
      · rw [if_neg e, if_pos (by omega)]; exact p1 j (by omega)
    · intro _ h2
      show (if (hF h 77 28 + 1).toNat ≤ (hF h 77 28).toNat then p (hF h 77 28 + 1).toNat else p (hF h 77 28).toNat * v) ≤ m'
      rw [if_neg (by omega)]
      rcases hm with hm | hm
      · omega
      · rw [hm.2]
        exact Int.mul_le_mul_of_nonneg_right (p2 j3 (by omega)) (by omega)
  · unfold NF
    rw [EF 27 (by decide) (by decide), EF 50 (by decide) (by decide), EF 51 (by decide) (by decide), EF 52 (by decide) (by decide)]
    exact I.2.2.2.2
  · rw [EF 27 (by decide) (by decide)]; exact j1
  · rw [E28]; omega
  · rw [E29]; omega
  · rw [E29]
    show m' = (if cmv lo hi ls t < 2 then cmf lo hi ls t else if 1024 < cmf lo hi ls t * cmv lo hi ls t then 1025 else cmf lo hi ls t * cmv lo hi ls t)
    rw [hcv, ← j4, if_neg (by omega)]
    rcases hm with hm | hm
    · rw [if_pos hm.1]; exact hm.2
    · rw [if_neg (by omega)]; exact hm.2
theorem AJ_0 {n : Int} {h : av_H} (I : IM h) (hn : hF h 77 27 = n) : AJ n (hA h 105) (hA h 106) (hA h 98) 0 (hwF (hwF h 77 28 0) 77 29 1) ∧ FM h (hwF (hwF h 77 28 0) 77 29 1) := by
  generalize hH : hwF (hwF h 77 28 0) 77 29 1 = H
  have Fm : FM h H := by
    rw [← hH]
    exact FM_wF (FM_wF (FM_rf h) rfl) rfl
  have E29 : hF H 77 29 = 1 := by rw [← hH]; exact hF_self
  have E28 : hF H 77 28 = 0 := by rw [← hH]; exact (hF_oth (by decide)).trans hF_self
  have EF : ∀ q, q ≠ 28 → q ≠ 29 → hF H 77 q = hF h 77 q := fun q h1 h2 => by rw [← hH]; exact (hF_oth h2).trans (hF_oth h1)
  have EA : hA H = hA h := by rw [← hH]; rfl
  refine ⟨⟨⟨⟨LY_fm I.1.1 Fm, MV_A I.1.2.1 (fun q _ _ => by rw [EA]), ?_, ?_, ?_⟩, WR_A I.2 (by rw [EA]) (by rw [EA])⟩, ?_, ?_, ?_, ?_, by rw [EA], by rw [EA], by rw [EA]⟩, Fm⟩
  · unfold WI
    rw [EA]
    exact I.1.2.2.1
  · unfold AK
    rw [E28, E29]
    exact ⟨by omega, by omega, fun j hj => by omega, fun _ => 1, rfl, fun j hj => by omega, fun _ _ => Int.le_refl 1⟩
  · unfold NF
    rw [EF 27 (by decide) (by decide), EF 50 (by decide) (by decide), EF 51 (by decide) (by decide), EF 52 (by decide) (by decide)]
    exact I.1.2.2.2.2
  · rw [EF 27 (by decide) (by decide)]; exact hn
  · rw [E28]; exact Int.le_refl 0
  · rw [E29]; omega
  · rw [E29]; rfl
/-! what of a case has been brought: e a of the row a -/
def bsrc (a : Nat) : Nat := [82, 86, 89, 87, 85, 83, 84, 0, 90, 91, 92].getD (a - 96) 0
def bmul (a : Nat) : Nat := [1, 1, 1, 1, 1, 1, 1, 0, 5, 3, 3].getD (a - 96) 0
def BC (c : Nat) (e : Nat → Nat) (A : Nat → Nat → Int) (h : av_H) : Prop := ∀ a, 96 ≤ a → a ≤ 106 → ∀ i, i < e a → hA h a i = A (bsrc a) (bmul a * (12 * c) + i)
theorem BC_le {c : Nat} {e e' : Nat → Nat} {A : Nat → Nat → Int} {h : av_H} (B : BC c e A h) (he : ∀ a, 96 ≤ a → a ≤ 106 → e' a ≤ e a) : BC c e' A h := fun a h1 h2 i hi => B a h1 h2 i (Nat.lt_of_lt_of_le hi (he a h1 h2))
theorem BC_w {c : Nat} {e : Nat → Nat} {A : Nat → Nat → Int} {h : av_H} {a j : Nat} {v : Int} (B : BC c e A h) (hj : j = e a) (hv : A (bsrc a) (bmul a * (12 * c) + e a) = v) : BC c (av_u1 e a (e a + 1)) A (hwA h a j v) := by
  intro q h1 h2 i hi
  show av_u2 h.2.2.2.1 a j v q i = _
  unfold av_u1 at hi
  by_cases e1 : q = a
  · subst e1
    rw [if_pos rfl] at hi
    by_cases e2 : i = j
    · rw [e2, av_u2_self, hj, hv]
    · rw [av_u2_oth e2]
      exact B q h1 h2 i (by omega)
  · rw [if_neg e1] at hi
    rw [av_u2_ne e1]
    exact B q h1 h2 i hi
theorem BC_o {c : Nat} {e : Nat → Nat} {A : Nat → Nat → Int} {h : av_H} {j : Nat} {v : Int} (B : BC c e A h) (h3 : e 103 = 0) : BC c e A (hwA h 103 j v) := by
  intro q h1 h2 i hi
  by_cases e1 : q = 103
  · subst e1; omega
  · show av_u2 h.2.2.2.1 103 j v q i = _
    rw [av_u2_ne e1]
    exact B q h1 h2 i hi
/-! A CASE IS BROUGHT: while its row q is copied -/
def IMY (n : Int) (q : Nat) (x y : Int) (h : av_H) : Prop := IL h ∧ hF h 77 27 = n ∧ (∀ j : Nat, j < 12 → j ≠ q → 2 ≤ hA h 96 j → 0 ≤ hA h 100 j ∧ hA h 100 j < j) ∧ hA h 96 q = x ∧ hA h 100 q = y
theorem IMY_of {n : Int} {h : av_H} (I : IM h) (hn : hF h 77 27 = n) (q : Nat) : IMY n q (hA h 96 q) (hA h 100 q) h := ⟨I.1, hn, fun j hj _ => I.2 j hj, rfl, rfl⟩
theorem IM_of {n : Int} {q : Nat} {x y : Int} {h : av_H} (Y : IMY n q x y h) (hr : 2 ≤ x → 0 ≤ y ∧ y < q) : IM h := ⟨Y.1, fun j hj h2 => by
  by_cases e : j = q
  · subst e
    rw [Y.2.2.2.2]
    rw [Y.2.2.2.1] at h2
    exact hr h2
  · exact Y.2.2.1 j hj e h2⟩
theorem IMY_w {n : Int} {q a j : Nat} {x y v : Int} {h : av_H} (Y : IMY n q x y h) (ha : 96 ≤ a ∧ a ≤ 107) (hv : wlo a ≤ v ∧ v ≤ whi a) (hj : (a = 96 ∨ a = 100) → j = q) : IMY n q (if a = 96 then v else x) (if a = 100 then v else y) (hwA h a j v) := by
  refine ⟨IL_wW Y.1 ha hv, Y.2.1, ?_, ?_, ?_⟩
  · intro i hi hq
    have e1 : hA (hwA h a j v) 96 i = hA h 96 i := by
      show av_u2 h.2.2.2.1 a j v 96 i = _
      unfold av_u2
      rw [if_neg (fun z => hq (by rw [z.2]; exact hj (Or.inl z.1.symm)))]
    have e2 : hA (hwA h a j v) 100 i = hA h 100 i := by
      show av_u2 h.2.2.2.1 a j v 100 i = _
      unfold av_u2
      rw [if_neg (fun z => hq (by rw [z.2]; exact hj (Or.inr z.1.symm)))]
    rw [e1, e2]
    exact Y.2.2.1 i hi hq
  · show av_u2 h.2.2.2.1 a j v 96 q = _
    by_cases e : a = 96
    · rw [if_pos e, e, hj (Or.inl e), av_u2_self]
    · rw [if_neg e, av_u2_ne (Ne.symm e)]; exact Y.2.2.2.1
  · show av_u2 h.2.2.2.1 a j v 100 q = _
    by_cases e : a = 100
    · rw [if_pos e, e, hj (Or.inr e), av_u2_self]
    · rw [if_neg e, av_u2_ne (Ne.symm e)]; exact Y.2.2.2.2
/-! how many combos a case of the book has -/
def cmB (A : Nat → Nat → Int) (c : Nat) : Int := cmf (fun i => A 91 (36 * c + i)) (fun i => A 92 (36 * c + i)) (fun i => A 89 (12 * c + i)) (4 * (A 81 c).toNat)
theorem cmf_congr {lo hi ls lo' hi' ls' : Nat → Int} {n : Nat} (h1 : ∀ i, i < 3 * n → lo i = lo' i) (h2 : ∀ i, i < 3 * n → hi i = hi' i) (h3 : ∀ i, i < n → ls i = ls' i) : ∀ t, t ≤ 4 * n → cmf lo hi ls t = cmf lo' hi' ls' t := by
  intro t
  induction t with
  | zero => intro _; rfl
  | succ t ih =>
    intro ht
    have hv : cmv lo hi ls t = cmv lo' hi' ls' t := by
      unfold cmv
      by_cases e : t % 4 < 3
      · rw [if_pos e, if_pos e, h1 _ (by omega), h2 _ (by omega)]
      · rw [if_neg e, if_neg e, h3 _ (by omega)]
    show (if cmv lo hi ls t < 2 then cmf lo hi ls t else if 1024 < cmf lo hi ls t * cmv lo hi ls t then 1025 else cmf lo hi ls t * cmv lo hi ls t) = (if cmv lo' hi' ls' t < 2 then cmf lo' hi' ls' t else if 1024 < cmf lo' hi' ls' t * cmv lo' hi' ls' t then 1025 else cmf lo' hi' ls' t * cmv lo' hi' ls' t)
    rw [hv, ih (by omega)]
theorem cm_of {g h0 h1 : av_H} {c : Nat} {n m : Int} (F0 : FM g h0) (hn : 0 ≤ n) (b : hA h0 81 c = n ∧ BC c (fun a => bmul a * n.toNat) (hA h0) h1) (hm : m = cmf (hA h1 105) (hA h1 106) (hA h1 98) (4 * n).toNat) : m = cmB (hA g) c := by
  have e81 : hA h0 81 = hA g 81 := F0.2.2.2.2.2.2 81 rfl
  have e91 : hA h0 91 = hA g 91 := F0.2.2.2.2.2.2 91 rfl
  have e92 : hA h0 92 = hA g 92 := F0.2.2.2.2.2.2 92 rfl
  have e89 : hA h0 89 = hA g 89 := F0.2.2.2.2.2.2 89 rfl
  rw [hm]
  unfold cmB
  rw [← e81, ← e91, ← e92, ← e89, b.1, show (4 * n).toNat = 4 * n.toNat by omega]
  refine cmf_congr (n := n.toNat) ?_ ?_ ?_ _ (Nat.le_refl _)
  · intro i hi
    have := b.2 105 (by omega) (by omega) i hi
    rw [this]
    show hA h0 91 (3 * (12 * c) + i) = hA h0 91 (36 * c + i)
    rw [show 3 * (12 * c) + i = 36 * c + i by omega]
  · intro i hi
    have := b.2 106 (by omega) (by omega) i hi
    rw [this]
    show hA h0 92 (3 * (12 * c) + i) = hA h0 92 (36 * c + i)
    rw [show 3 * (12 * c) + i = 36 * c + i by omega]
  · intro i hi
    have := b.2 98 (by omega) (by omega) i (show i < 1 * n.toNat by omega)
    rw [this]
    show hA h0 89 (1 * (12 * c) + i) = hA h0 89 (12 * c + i)
    rw [show 1 * (12 * c) + i = 12 * c + i by omega]
/-- the product of what may be, up to each asked one -/
theorem im_p {n a m : Int} {h : av_H} (I : IMF n a m h) (hm : 1 ≤ m ∧ m ≤ 1024) : ∃ p : Nat → Int, p 0 = 1 ∧ (∀ j : Nat, (j : Int) < a → p (j + 1) = p j * hA h 108 j) ∧ ∀ j : Nat, (j : Int) ≤ a → 1 ≤ p j ∧ p j ≤ m := by
  obtain ⟨k1, k2, k3, p, p0, p1, p2⟩ := I.1.1.2.2.2.1
  rw [I.2.2.1] at k1 k3 p1 p2
  rw [I.2.2.2] at k2 p2
  have q1 : ∀ j : Nat, (j : Int) ≤ a → 1 ≤ p j := by
    intro j
    induction j with
    | zero => intro _; rw [p0]; omega
    | succ j ih =>
      intro hj
      have h1 := ih (by omega)
      have h2 := k3 j (by omega)
      rw [p1 j (by omega)]
      have : p j * 1 ≤ p j * hA h 108 j := Int.mul_le_mul_of_nonneg_left (by omega) (by omega)
      omega
  have q2 : ∀ (d j : Nat), (j : Int) + d = a → p j ≤ p a.toNat := by
    intro d
    induction d with
    | zero => intro j hj; rw [show a.toNat = j by omega]; exact Int.le_refl _
    | succ d ih =>
      intro j hj
      have h1 := ih (j + 1) (by omega)
      have h2 := k3 j (by omega)
      have h3 := q1 j (by omega)
      rw [p1 j (by omega)] at h1
      have : p j * 1 ≤ p j * hA h 108 j := Int.mul_le_mul_of_nonneg_left (by omega) (by omega)
      omega
  refine ⟨p, p0, p1, fun j hj => ⟨q1 j hj, ?_⟩⟩
  have h1 := q2 (a - j).toNat j (by omega)
  have h2 := p2 hm.1 hm.2
  omega
end
