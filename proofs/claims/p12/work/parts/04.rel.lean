/-! HOW THE SMALL MACHINE STANDS TO THE MACHINE -/
def av_ev (z : Nat) (kr : Nat → Nat) : av_V → Value
  | .inl x => .int (Int32.ofInt x)
  | .inr (.inl x) => .long (Int64.ofInt x)
  | .inr (.inr (.inl r)) => va_rf (r.map (fun k => z + k))
  | .inr (.inr (.inr k)) => .ref (kr k)
theorem av_ev_cat (z : Nat) (kr : Nat → Nat) (v : av_V) : (av_ev z kr v).category = av_cat v := by
  rcases v with x | x | (_ | k) | k <;> rfl
def av_tg : FieldType → Nat
  | .long => 1
  | .object _ => 2
  | .array _ => 2
  | .boolean => 3
  | _ => 0
def av_fv (z : Nat) (h : av_H) (ty : FieldType) (o k : Nat) : Value := match av_tg ty with
  | 1 => .long (Int64.ofInt (h.2.2.2.2.1 o k))
  | 2 => va_rf ((h.2.2.2.2.2.1 o k).map (fun k => z + k))
  | _ => .int (Int32.ofInt (h.2.2.2.2.1 o k))
def av_at (z : Nat) (D : va_G) (TY : Nat → ClassId) (h : av_H) (k : Nat) (H : Heap) : Prop :=
  if (h.2.2.1 k).1 < 9 then t_OB (z + k) (D.1 (h.2.2.1 k).1) (av_N (h.2.2.1 k).1) (D.2 (h.2.2.1 k).1) H (fun j => av_fv z h (av_ty (h.2.2.1 k).1 j) k j)
  else if (h.2.2.1 k).1 < 30 then H[z + k]? = some (arrV (TY (h.2.2.1 k).1) (h.2.2.1 k).2 (fun j => .int (Int32.ofInt (h.2.2.2.1 k j))))
  else H[z + k]? = some (arrV (TY (h.2.2.1 k).1) (h.2.2.1 k).2 (fun j => va_rf ((h.2.2.2.2.2.2.1 k j).map (fun k => z + k))))
def av_R (s0 : State) (D : va_G) (TY : Nat → ClassId) (_ : av_Sr) (h : av_H) (H : Heap) : Prop :=
  H.size = s0.heap.size + h.1 ∧ (∀ q : Nat, q < s0.heap.size → H[q]? = s0.heap[q]?) ∧ True ∧ ∀ k : Nat, k < h.1 → av_at s0.heap.size D TY h k H
def av_ft : Nat → FieldType := fun k => match k with
  | 20 => .int
  | 21 => .byte
  | 22 => .boolean
  | 30 => .object RX1
  | 31 => .object RX5
  | _ => .array .int
/-- what holds of the start: the tables' words, the rows of objects, of arrays -/
def av_Z (a0 : Array Value) (s0 : State) (D : va_G) (TY : Nat → ClassId) : Prop :=
  (∀ w ∈ lw_tbl, w.before a0 s0 = true) ∧ (∀ ci, ci < 9 → u_Kn s0 (av_cn ci) (av_T ci) (av_N ci) (D.1 ci) (D.2 ci)) ∧ ∀ k ∈ [20, 21, 22, 30, 31, 32], ArrOfT s0 (TY k) (av_ft k) ∧ va_RA s0 (TY k) (av_ft k)
def av_Lr (z : Nat) (kr : Nat → Nat) (ls : Array Slot) (nL : Nat) (lv : av_L) : Prop :=
  ls.size = nL ∧ lv.length = nL ∧ lv_wf ls ∧ ∀ (i : Nat) (v : av_V), lv[i]? = some (some v) → ls[i]? = some (.val (av_ev z kr v))
def av_lst (z : Nat) (kr : Nat → Nat) (lv : av_L) : List (Nat × Value) := (List.range lv.length).filterMap (fun i => ((lv[i]?).join).map (fun v => (i, av_ev z kr v)))
theorem av_lst_mem {z : Nat} {kr : Nat → Nat} {lv : av_L} {q : Nat × Value} : q ∈ av_lst z kr lv ↔ ∃ v, lv[q.1]? = some (some v) ∧ q.2 = av_ev z kr v := by
  unfold av_lst
  rw [List.mem_filterMap]
  constructor
  · rintro ⟨i, hi, h⟩
    rw [Option.map_eq_some_iff] at h
    obtain ⟨v, h1, h2⟩ := h
    subst h2
    refine ⟨v, ?_, rfl⟩
    rw [Option.join_eq_some_iff] at h1
    exact h1
  · rintro ⟨v, h1, h2⟩
    refine ⟨q.1, List.mem_range.mpr (List.getElem?_eq_some_iff.mp h1).1, ?_⟩
    rw [h1]
    simp [h2.symm]
theorem av_toHas {z : Nat} {kr : Nat → Nat} {ls : Array Slot} {nL : Nat} {lv : av_L} (h : av_Lr z kr ls nL lv) : lv_has ls nL (av_lst z kr lv) := by
  refine ⟨h.1, h.2.2.1, fun q hq => ?_⟩
  obtain ⟨v, h1, h2⟩ := av_lst_mem.mp hq
  rw [h2]
  exact h.2.2.2 _ _ h1
theorem av_sto_eq {lv lv' : av_L} {i : Nat} {v : av_V} (h : av_sto lv i v = some lv') : i < lv.length ∧ lv' = lv.set i (some v) ∧ ∀ (j : Nat) (u : av_V), j + 1 = i → lv[j]? = some (some u) → av_cat u = 1 := by
  cases i with
  | zero =>
    simp only [av_sto] at h
    split at h
    · next h0 => exact ⟨h0, (Option.some.inj h).symm, fun j u hj => by omega⟩
    · cases h
  | succ j =>
    simp only [av_sto] at h
    split at h
    · next h0 =>
      split at h
      · cases h
      · next h1 =>
        refine ⟨h0, (Option.some.inj h).symm, fun j' u hj hu => ?_⟩
        have : j' = j := by omega
        subst this
        rw [hu] at h1
        rcases u with x | x | (_ | k) | k
        · rfl
        · exact absurd rfl h1
        · rfl
        · rfl
        · rfl
    · cases h
theorem av_ofHas {z : Nat} {kr : Nat → Nat} {ls : Array Slot} {nL : Nat} {lv lv' : av_L} {i : Nat} {v : av_V} (hL : lv.length = nL) (hs : av_sto lv i v = some lv')
    (h : lv_has ls nL ((i, av_ev z kr v) :: (av_lst z kr lv).filter (fun q => !(q.1 == i) && !(q.1 + 1 == i && q.2.category == 2)))) : av_Lr z kr ls nL lv' := by
  obtain ⟨h1, h2, h3⟩ := av_sto_eq hs
  subst h2
  refine ⟨h.1, by rw [List.length_set]; exact hL, h.2.1, fun j u hj => ?_⟩
  by_cases e : j = i
  · subst e
    rw [List.getElem?_set_self h1] at hj
    cases hj
    exact h.2.2 (j, av_ev z kr v) List.mem_cons_self
  · rw [List.getElem?_set_ne (Ne.symm e)] at hj
    refine h.2.2 (j, av_ev z kr u) (List.mem_cons_of_mem _ (List.mem_filter.mpr ⟨av_lst_mem.mpr ⟨u, hj, rfl⟩, ?_⟩))
    have e2 : ¬ (j + 1 = i ∧ (av_ev z kr u).category = 2) := by
      rintro ⟨q1, q2⟩
      rw [av_ev_cat, h3 j u q1 hj] at q2
      cases q2
    simp only [Bool.and_eq_true, Bool.not_eq_true', beq_eq_false_iff_ne, ne_eq, Bool.and_eq_false_iff]
    refine ⟨e, ?_⟩
    by_cases q1 : j + 1 = i
    · exact Or.inr (fun q2 => e2 ⟨q1, q2⟩)
    · exact Or.inl q1
-- numbers
theorem av_w_eq (x : Int) : (Int32.ofInt x).toInt = av_w x := by
  rw [Int32.toInt_ofInt]; rfl
theorem av_wl_eq (x : Int) : (Int64.ofInt x).toInt = av_wl x := by
  rw [Int64.toInt_ofInt]; rfl
theorem av_of_toInt (x : Int32) : Int32.ofInt x.toInt = x := Int32.ofInt_toInt x
theorem av_lt (x y : Int) : Int32.ofInt x < Int32.ofInt y ↔ av_w x < av_w y := by
  rw [Int32.lt_iff_toInt_lt, av_w_eq, av_w_eq]
theorem av_le (x y : Int) : Int32.ofInt x ≤ Int32.ofInt y ↔ av_w x ≤ av_w y := by
  rw [Int32.le_iff_toInt_le, av_w_eq, av_w_eq]
theorem av_eq (x y : Int) : Int32.ofInt x = Int32.ofInt y ↔ av_w x = av_w y := by
  rw [← Int32.toInt_inj, av_w_eq, av_w_eq]
theorem av_lt0 (x : Int) : Int32.ofInt x < 0 ↔ av_w x < 0 := by
  have h := av_lt x 0
  rw [show av_w 0 = 0 from rfl, show Int32.ofInt 0 = 0 from rfl] at h
  exact h
theorem av_nat (x : Int) : (Int32.ofInt x).toNatClampNeg = (av_w x).toNat := by
  show (Int32.ofInt x).toInt.toNat = _
  rw [av_w_eq]
theorem av_inP {i : Int} {n : Nat} (h : av_inB i n = true) : ¬ (Int32.ofInt i < 0 ∨ n ≤ (Int32.ofInt i).toNatClampNeg) ∧ (av_w i).toNat < n := by
  simp only [av_inB, Bool.and_eq_true, decide_eq_true_eq] at h
  rw [av_lt0, av_nat]
  omega
theorem av_ofw (x : Int) : Int32.ofInt (av_w x) = Int32.ofInt x := by
  rw [← av_w_eq, Int32.ofInt_toInt]
theorem av_tdiv (x y : Int) : Int32.ofInt ((av_w x).tdiv (av_w y)) = Int32.ofInt x / Int32.ofInt y := by
  rw [← Int32.toInt_inj, Int32.toInt_div, Int32.toInt_ofInt, av_w_eq, av_w_eq]
theorem av_tmod (x y : Int) : Int32.ofInt ((av_w x).tmod (av_w y)) = Int32.ofInt x - Int32.ofInt x / Int32.ofInt y * Int32.ofInt y := by
  rw [← av_tdiv, Int.tmod_def, Int32.ofInt_sub, Int32.ofInt_mul, av_ofw, av_ofw, Int32.mul_comm]
theorem av_byte (x : Int) : Int32.ofInt (av_b x) = (Int32.ofInt x).toInt8.toInt32 := by
  rw [← Int32.toInt_inj]
  simp only [av_b, Int32.toInt_ofInt, Int8.toInt_toInt32, Int32.toInt_toInt8]
  have h1 := Int.le_bmod (x := x) (m := 256) (by omega)
  have h2 := Int.bmod_lt (x := x) (m := 256) (by omega)
  show (x.bmod 256).bmod 4294967296 = (x.bmod 4294967296).bmod 256
  rw [Int.bmod_eq_of_le (n := x.bmod 256) (by omega) (by omega), Int.bmod_bmod_of_dvd (by omega)]
