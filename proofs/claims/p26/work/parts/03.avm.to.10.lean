section
/-! THE SMALL MACHINE: the class's and the reference's bytecode over plain numbers. A value: an int, a long, a reference (a cell's number from the law's start on; none: null), a constant (a literal's place; 100 the script, 101 the plain law).
A heap: how many cells, how many slots so far, what each cell is (its kind: 0 to 8 an object of that row of av_cn; 20 ints, 21 bytes, 22 booleans; 30, 31, 32 references; its length), arrays of numbers, number fields, reference fields, arrays of references. The script lies outside: only the law itself may read it. -/
abbrev av_Sr : Type := Option (Nat × (Nat → Int))
abbrev av_V : Type := Int ⊕ Int ⊕ Option Nat ⊕ Nat
abbrev av_L : Type := List (Option av_V)
abbrev av_H : Type := Nat × Nat × (Nat → Nat × Nat) × (Nat → Nat → Int) × (Nat → Nat → Int) × (Nat → Nat → Option Nat) × (Nat → Nat → Option Nat) × Unit
abbrev av_E : Type := Instr × Nat × Nat × Nat × Nat × Int
def av_w (x : Int) : Int := Int.bmod x 4294967296
def av_wl (x : Int) : Int := Int.bmod x 18446744073709551616
def av_u2 {α : Type} (f : Nat → Nat → α) (i j : Nat) (v : α) : Nat → Nat → α := fun a b => if a = i ∧ b = j then v else f a b
def av_u1 {α : Type} (f : Nat → α) (i : Nat) (v : α) : Nat → α := fun a => if a = i then v else f a
def av_cat : av_V → Nat
  | .inr (.inl _) => 2
  | _ => 1
def av_cmp (c : Jvm.ClassFile.Cond) (x y : Int) : Bool := match c with
  | .eq => decide (x = y)
  | .ne => decide (¬ x = y)
  | .lt => decide (x < y)
  | .ge => decide (y ≤ x)
  | .gt => decide (y < x)
  | .le => decide (x ≤ y)
def av_and (x y : Int) : Int := (Int32.ofInt x &&& Int32.ofInt y).toInt
def av_or (x y : Int) : Int := (Int32.ofInt x ||| Int32.ofInt y).toInt
def av_shl (x y : Int) : Int := (Int32.ofInt x <<< (Int32.ofInt y &&& 31)).toInt
def av_shr (x y : Int) : Int := (Int32.ofInt x >>> (Int32.ofInt y &&& 31)).toInt
def av_ushr (x y : Int) : Int := ((Int32.ofInt x).toUInt32 >>> ((Int32.ofInt y).toUInt32 &&& Int32.toUInt32 31)).toInt32.toInt
def av_b (x : Int) : Int := Int.bmod x 256
/-- the plain law's cells -/
def av_plain (k : Nat) : Int := [1, 1, 1, 1, 1, 1, 0, -1, -1, 0, 0, 0, 0, 0].getD k 0
def av_lg : Option av_V → Bool
  | some (.inr (.inl _)) => true
  | _ => false
def av_sto (lv : av_L) (i : Nat) (v : av_V) : Option av_L := match i with
  | 0 => if 0 < lv.length then some (lv.set 0 (some v)) else none
  | j + 1 => if j + 1 < lv.length then (if av_lg ((lv[j]?).join) then none else some (lv.set (j + 1) (some v))) else none
abbrev av_S : Type := Nat × av_L × List av_V × av_H
def av_bin (f : Int → Int → Int) (pc : Nat) (lv : av_L) (st : List av_V) (h : av_H) : Option av_S := match st with
  | .inl y :: .inl x :: r => some (pc + 1, lv, .inl (f x y) :: r, h)
  | _ => none
/-- a number that is loaded, a reference that is loaded, a long that is loaded -/
def av_ldi (i n pc : Nat) (lv : av_L) (st : List av_V) (h : av_H) : Option av_S := match (lv[i]?).join with
  | some (.inl x) => some (pc + n, lv, .inl x :: st, h)
  | _ => none
def av_lda (i n pc : Nat) (lv : av_L) (st : List av_V) (h : av_H) : Option av_S := match (lv[i]?).join with
  | some (.inr (.inr v)) => some (pc + n, lv, .inr (.inr v) :: st, h)
  | _ => none
def av_ldl (i n pc : Nat) (lv : av_L) (st : List av_V) (h : av_H) : Option av_S := match (lv[i]?).join with
  | some (.inr (.inl x)) => some (pc + n, lv, .inr (.inl x) :: st, h)
  | _ => none
def av_sti (i n pc : Nat) (lv : av_L) (st : List av_V) (h : av_H) : Option av_S := match st with
  | .inl x :: r => (av_sto lv i (.inl x)).map (fun lv' => (pc + n, lv', r, h))
  | _ => none
def av_sta (i n pc : Nat) (lv : av_L) (st : List av_V) (h : av_H) : Option av_S := match st with
  | .inr (.inr v) :: r => (av_sto lv i (.inr (.inr v))).map (fun lv' => (pc + n, lv', r, h))
  | _ => none
def av_iinc (i : Nat) (n : Int) (pc : Nat) (lv : av_L) (st : List av_V) (h : av_H) : Option av_S := match (lv[i]?).join with
  | some (.inl x) => (av_sto lv i (.inl (x + n))).map (fun lv' => (pc + 3, lv', st, h))
  | _ => none
def av_getf (e : av_E) (pc : Nat) (lv : av_L) (st : List av_V) (h : av_H) : Option av_S := match st with
  | .inr (.inr (.inl (some o))) :: r =>
    if o < h.1 ∧ (h.2.2.1 o).1 = e.2.2.1 then
      some (pc + 3, lv, (match e.2.2.2.2.1 with
        | 1 => .inr (.inl (h.2.2.2.2.1 o e.2.2.2.1))
        | 2 => .inr (.inr (.inl (h.2.2.2.2.2.1 o e.2.2.2.1)))
        | _ => .inl (h.2.2.2.2.1 o e.2.2.2.1)) :: r, h)
    else none
  | _ => none
def av_putf (e : av_E) (pc : Nat) (lv : av_L) (st : List av_V) (h : av_H) : Option av_S := match e.2.2.2.2.1, st with
  | 0, .inl x :: .inr (.inr (.inl (some o))) :: r => if o < h.1 ∧ (h.2.2.1 o).1 = e.2.2.1 then some (pc + 3, lv, r, (h.1, h.2.1, h.2.2.1, h.2.2.2.1, av_u2 h.2.2.2.2.1 o e.2.2.2.1 x, h.2.2.2.2.2)) else none
  | 1, .inr (.inl x) :: .inr (.inr (.inl (some o))) :: r => if o < h.1 ∧ (h.2.2.1 o).1 = e.2.2.1 then some (pc + 3, lv, r, (h.1, h.2.1, h.2.2.1, h.2.2.2.1, av_u2 h.2.2.2.2.1 o e.2.2.2.1 x, h.2.2.2.2.2)) else none
  | 2, .inr (.inr (.inl v)) :: .inr (.inr (.inl (some o))) :: r => if o < h.1 ∧ (h.2.2.1 o).1 = e.2.2.1 then some (pc + 3, lv, r, (h.1, h.2.1, h.2.2.1, h.2.2.2.1, h.2.2.2.2.1, av_u2 h.2.2.2.2.2.1 o e.2.2.2.1 v, h.2.2.2.2.2.2)) else none
  | 3, .inl x :: .inr (.inr (.inl (some o))) :: r => if (o < h.1 ∧ (h.2.2.1 o).1 = e.2.2.1) ∧ (x = 0 ∨ x = 1) then some (pc + 3, lv, r, (h.1, h.2.1, h.2.2.1, h.2.2.2.1, av_u2 h.2.2.2.2.1 o e.2.2.2.1 x, h.2.2.2.2.2)) else none
  | _, _ => none
/-- the place i lies in a row of n -/
def av_in (i : Int) (n : Nat) : Prop := 0 ≤ av_w i ∧ av_w i < n
def av_inB (i : Int) (n : Nat) : Bool := decide (0 ≤ av_w i) && decide (av_w i < n)
def av_ald (sc : av_Sr) (ks : List Nat) (pc : Nat) (lv : av_L) (st : List av_V) (h : av_H) : Option av_S := match st with
  | .inl i :: .inr (.inr (.inl (some o))) :: r => if (o < h.1 ∧ (h.2.2.1 o).1 ∈ ks) ∧ av_inB i (h.2.2.1 o).2 = true then some (pc + 1, lv, .inl (h.2.2.2.1 o (av_w i).toNat) :: r, h) else none
  | .inl i :: .inr (.inr (.inr 100)) :: r => (match sc with
    | none => none
    | some q => if ks = [20] ∧ av_inB i q.1 = true then some (pc + 1, lv, .inl (q.2 (av_w i).toNat) :: r, h) else none)
  | _ => none
/-- a reference may lie in the row o -/
def av_okR (h : av_H) (o : Nat) (v : Option Nat) : Bool := match v with
  | none => true
  | some q => decide (q < h.1 ∧ (h.2.2.1 q).1 = (if (h.2.2.1 o).1 = 30 then 1 else 5))
def av_aast (pc : Nat) (lv : av_L) (st : List av_V) (h : av_H) : Option av_S := match st with
  | .inr (.inr (.inl v)) :: .inl i :: .inr (.inr (.inl (some o))) :: r =>
    if (o < h.1 ∧ ((h.2.2.1 o).1 = 30 ∨ (h.2.2.1 o).1 = 31)) ∧ av_inB i (h.2.2.1 o).2 = true ∧ av_okR h o v = true then
      some (pc + 1, lv, r, (h.1, h.2.1, h.2.2.1, h.2.2.2.1, h.2.2.2.2.1, h.2.2.2.2.2.1, av_u2 h.2.2.2.2.2.2.1 o (av_w i).toNat v, h.2.2.2.2.2.2.2))
    else none
  | _ => none
def av_aald (pc : Nat) (lv : av_L) (st : List av_V) (h : av_H) : Option av_S := match st with
  | .inl i :: .inr (.inr (.inl (some o))) :: r => if (o < h.1 ∧ (h.2.2.1 o).1 ∈ [30, 31, 32]) ∧ av_inB i (h.2.2.1 o).2 = true then some (pc + 1, lv, .inr (.inr (.inl (h.2.2.2.2.2.2.1 o (av_w i).toNat))) :: r, h) else none
  | _ => none
def av_iast (pc : Nat) (lv : av_L) (st : List av_V) (h : av_H) : Option av_S := match st with
  | .inl x :: .inl i :: .inr (.inr (.inl (some o))) :: r => if (o < h.1 ∧ (h.2.2.1 o).1 = 20) ∧ av_inB i (h.2.2.1 o).2 = true then some (pc + 1, lv, r, (h.1, h.2.1, h.2.2.1, av_u2 h.2.2.2.1 o (av_w i).toNat x, h.2.2.2.2)) else none
  | _ => none
def av_bast (pc : Nat) (lv : av_L) (st : List av_V) (h : av_H) : Option av_S := match st with
  | .inl x :: .inl i :: .inr (.inr (.inl (some o))) :: r =>
    if (o < h.1 ∧ (h.2.2.1 o).1 = 21) ∧ av_inB i (h.2.2.1 o).2 = true then some (pc + 1, lv, r, (h.1, h.2.1, h.2.2.1, av_u2 h.2.2.2.1 o (av_w i).toNat (av_b x), h.2.2.2.2))
    else if (o < h.1 ∧ (h.2.2.1 o).1 = 22) ∧ av_inB i (h.2.2.1 o).2 = true ∧ (x = 0 ∨ x = 1) then some (pc + 1, lv, r, (h.1, h.2.1, h.2.2.1, av_u2 h.2.2.2.1 o (av_w i).toNat x, h.2.2.2.2))
    else none
  | _ => none
/-- a new row of numbers, of references; a new object -/
def av_newN (k n : Nat) (f : Nat → Int) (h : av_H) : av_H := (h.1 + 1, h.2.1 + n, av_u1 h.2.2.1 h.1 (k, n), av_u1 h.2.2.2.1 h.1 f, h.2.2.2.2)
def av_newR (k n : Nat) (h : av_H) : av_H := (h.1 + 1, h.2.1 + n, av_u1 h.2.2.1 h.1 (k, n), h.2.2.2.1, h.2.2.2.2.1, h.2.2.2.2.2.1, av_u1 h.2.2.2.2.2.2.1 h.1 (fun _ => none), h.2.2.2.2.2.2.2)
def av_newO (ci n : Nat) (h : av_H) : av_H := (h.1 + 1, h.2.1 + n, av_u1 h.2.2.1 h.1 (ci, 0), h.2.2.2.1, av_u1 h.2.2.2.2.1 h.1 (fun _ => 0), av_u1 h.2.2.2.2.2.1 h.1 (fun _ => none), h.2.2.2.2.2.2)
/-- n rows of k ints, and the row of them -/
def av_newM (n k : Nat) (h : av_H) : av_H := (h.1 + 1 + n, h.2.1 + n + n * k, (fun a => if a = h.1 then (32, n) else if h.1 < a ∧ a < h.1 + 1 + n then (20, k) else h.2.2.1 a), (fun a j => if h.1 < a ∧ a < h.1 + 1 + n then 0 else h.2.2.2.1 a j), h.2.2.2.2.1, h.2.2.2.2.2.1, av_u1 h.2.2.2.2.2.2.1 h.1 (fun i => if i < n then some (h.1 + 1 + i) else none), h.2.2.2.2.2.2.2)
def av_atk : ArrayType → Nat
  | .int => 20
  | .byte => 21
  | .boolean => 22
  | _ => 99
def av_newa (t : ArrayType) (pc : Nat) (lv : av_L) (st : List av_V) (h : av_H) : Option av_S := match st with
  | .inl n :: r => if av_atk t ≠ 99 ∧ 0 ≤ av_w n ∧ av_w n ≤ 100000 then some (pc + 2, lv, .inr (.inr (.inl (some h.1))) :: r, av_newN (av_atk t) (av_w n).toNat (fun _ => 0) h) else none
  | _ => none
def av_anew (k pc : Nat) (lv : av_L) (st : List av_V) (h : av_H) : Option av_S := match st with
  | .inl n :: r => if (k = 30 ∨ k = 31) ∧ 0 ≤ av_w n ∧ av_w n ≤ 100000 then some (pc + 3, lv, .inr (.inr (.inl (some h.1))) :: r, av_newR k (av_w n).toNat h) else none
  | _ => none
def av_mnew (pc : Nat) (lv : av_L) (st : List av_V) (h : av_H) : Option av_S := match st with
  | .inl k :: .inl n :: r => if (0 ≤ av_w n ∧ av_w n ≤ 1000) ∧ (0 ≤ av_w k ∧ av_w k ≤ 1000) then some (pc + 4, lv, .inr (.inr (.inl (some h.1))) :: r, av_newM (av_w n).toNat (av_w k).toNat h) else none
  | _ => none
def av_alen (sc : av_Sr) (pc : Nat) (lv : av_L) (st : List av_V) (h : av_H) : Option av_S := match st with
  | .inr (.inr (.inl (some o))) :: r => if o < h.1 ∧ (h.2.2.1 o).1 ∈ [20, 21, 22, 30, 31, 32] then some (pc + 1, lv, .inl ((h.2.2.1 o).2 : Int) :: r, h) else none
  | .inr (.inr (.inr 100)) :: r => (match sc with
    | none => none
    | some q => some (pc + 1, lv, .inl (q.1 : Int) :: r, h))
  | _ => none
/-- n places of f from sp on, laid over the row d from dp on -/
def av_cpy (A : Nat → Nat → Int) (d sp dp n : Nat) (f : Nat → Int) : Nat → Nat → Int := fun a j => if a = d ∧ dp ≤ j ∧ j < dp + n then f (sp + (j - dp)) else A a j
/-- the literals' bytes, by their places -/
def av_lits : List (List Int) := [
  [111, 102, 102, 101, 114, 32, 97, 115, 107, 32, 121, 101, 115, 32, 110, 111, 32, 98, 97, 99, 107, 32, 100, 101, 101, 100, 32, 115, 101, 110, 100],
  [97, 32, 98, 32, 99],
  [112, 114, 105, 99, 101, 32, 109, 117, 99, 104, 32, 100, 97, 121, 32, 112, 111, 114, 116, 32, 99, 111, 117, 114, 116],
  [104, 111, 108, 100],
  [103, 105, 118, 101, 110],
  [98, 117, 116],
  [112, 111, 115, 116, 32, 119, 105, 114, 101, 32, 109, 111, 117, 116, 104, 32, 100, 101, 101, 100],
  [97, 116],
  [116, 111],
  [97, 102, 116, 101, 114],
  [114, 101, 97, 100],
  [108, 111, 115, 116],
  [121, 101, 115, 32, 111, 102, 102, 101, 114, 32, 98, 97, 99, 107, 32, 110, 111, 32, 104, 111, 108, 100, 32, 108, 97, 112, 115, 101, 32, 115, 105, 108, 101, 110, 99, 101, 32, 98, 117, 116, 32, 102, 111, 114, 109, 32, 100, 101, 101, 100, 32, 114, 105, 115, 107],
  [112, 111, 115, 116, 32, 119, 105, 114, 101, 32, 109, 111, 117, 116, 104, 32, 97, 108, 108],
  [115, 101, 110, 116, 32, 99, 111, 109, 101, 32, 114, 101, 97, 100],
  [102, 114, 101, 101, 32, 98, 105, 110, 100, 115],
  [110, 111, 32, 115, 109, 97, 108, 108],
  [102, 105, 114, 115, 116, 32, 108, 97, 115, 116, 32, 110, 111, 110, 101],
  [110, 111, 110, 101, 32, 121, 101, 115],
  [98, 97, 114, 103, 97, 105, 110, 32, 115, 101, 110, 116, 32, 99, 111, 109, 101]]
def av_lit (k : Nat) : List Int := av_lits.getD k []
/-- what the library's own members do (1000 Object's constructor, 1001 max, 1002 min, 1003 arraycopy, 1004 clone of ints, 1005 length, 1006 charAt of a literal) -/
def av_lib (a pc : Nat) (lv : av_L) (st : List av_V) (h : av_H) : Option av_S := match a, st with
  | 1000, .inr (.inr (.inl (some _))) :: r => if (r.map av_cat).sum ≤ 8 then some (pc + 3, lv, r, h) else none
  | 1001, .inl y :: .inl x :: r => if (r.map av_cat).sum ≤ 8 then some (pc + 3, lv, .inl (if av_w x < av_w y then y else x) :: r, h) else none
  | 1002, .inl y :: .inl x :: r => if (r.map av_cat).sum ≤ 8 then some (pc + 3, lv, .inl (if av_w y < av_w x then y else x) :: r, h) else none
  | 1003, .inl n :: .inl dp :: .inr (.inr (.inl (some d))) :: .inl sp :: .inr (.inr (.inl (some q))) :: r =>
    if (r.map av_cat).sum ≤ 8 ∧ (d < h.1 ∧ (h.2.2.1 d).1 = 20) ∧ (q < h.1 ∧ (h.2.2.1 q).1 = 20) ∧ (0 ≤ av_w n ∧ 0 ≤ av_w dp ∧ 0 ≤ av_w sp) ∧ av_w sp + av_w n ≤ (h.2.2.1 q).2 ∧ av_w dp + av_w n ≤ (h.2.2.1 d).2 then
      some (pc + 3, lv, r, (h.1, h.2.1, h.2.2.1, av_cpy h.2.2.2.1 d (av_w sp).toNat (av_w dp).toNat (av_w n).toNat (h.2.2.2.1 q), h.2.2.2.2)) else none
  | 1003, .inl n :: .inl dp :: .inr (.inr (.inl (some d))) :: .inl sp :: .inr (.inr (.inr 101)) :: r =>
    if (r.map av_cat).sum ≤ 8 ∧ (d < h.1 ∧ (h.2.2.1 d).1 = 20) ∧ (0 ≤ av_w n ∧ 0 ≤ av_w dp ∧ 0 ≤ av_w sp) ∧ av_w sp + av_w n ≤ 14 ∧ av_w dp + av_w n ≤ (h.2.2.1 d).2 then
      some (pc + 3, lv, r, (h.1, h.2.1, h.2.2.1, av_cpy h.2.2.2.1 d (av_w sp).toNat (av_w dp).toNat (av_w n).toNat av_plain, h.2.2.2.2)) else none
  | 1004, .inr (.inr (.inl (some o))) :: r =>
    if (r.map av_cat).sum ≤ 8 ∧ (o < h.1 ∧ (h.2.2.1 o).1 = 20) then some (pc + 3, lv, .inr (.inr (.inl (some h.1))) :: r, av_newN 20 (h.2.2.1 o).2 (h.2.2.2.1 o) h) else none
  | 1005, .inr (.inr (.inr k)) :: r => if (r.map av_cat).sum ≤ 8 ∧ k < 20 then some (pc + 3, lv, .inl ((av_lit k).length : Int) :: r, h) else none
  | 1006, .inl i :: .inr (.inr (.inr k)) :: r => if (r.map av_cat).sum ≤ 8 ∧ k < 20 ∧ av_inB i (av_lit k).length = true then some (pc + 3, lv, .inl ((av_lit k).getD (av_w i).toNat 0) :: r, h) else none
  | _, _ => none
def av_stp (sc : av_Sr) (e : av_E) (pc : Nat) (lv : av_L) (st : List av_V) (h : av_H) : Option av_S := match e.1 with
  | .iconst n => some (pc + 1, lv, .inl n :: st, h)
  | .bipush n => some (pc + 2, lv, .inl n :: st, h)
  | .sipush n => some (pc + 3, lv, .inl n :: st, h)
  | .ldc _ => if e.2.2.1 = 0 then some (pc + 2, lv, .inl e.2.2.2.2.2 :: st, h) else some (pc + 2, lv, .inr (.inr (.inr e.2.2.2.1)) :: st, h)
  | .ldc_w _ => some (pc + 3, lv, .inl e.2.2.2.2.2 :: st, h)
  | .ldc2_w _ => some (pc + 3, lv, .inr (.inl e.2.2.2.2.2) :: st, h)
  | .lconst n => some (pc + 1, lv, .inr (.inl (n.val : Int)) :: st, h)
  | .aconst_null => some (pc + 1, lv, .inr (.inr (.inl none)) :: st, h)
  | .iload_n i => av_ldi i.val 1 pc lv st h
  | .iload i => av_ldi i 2 pc lv st h
  | .aload_n i => av_lda i.val 1 pc lv st h
  | .aload i => av_lda i 2 pc lv st h
  | .lload_n i => av_ldl i.val 1 pc lv st h
  | .lload i => av_ldl i 2 pc lv st h
  | .istore_n i => av_sti i.val 1 pc lv st h
  | .istore i => av_sti i 2 pc lv st h
  | .astore_n i => av_sta i.val 1 pc lv st h
  | .astore i => av_sta i 2 pc lv st h
  | .iinc i n => av_iinc i n pc lv st h
  | .iadd => av_bin (fun x y => x + y) pc lv st h
  | .isub => av_bin (fun x y => x - y) pc lv st h
  | .imul => av_bin (fun x y => x * y) pc lv st h
  | .iand => av_bin av_and pc lv st h
  | .ior => av_bin av_or pc lv st h
  | .ishl => av_bin av_shl pc lv st h
  | .ishr => av_bin av_shr pc lv st h
  | .iushr => av_bin av_ushr pc lv st h
  | .idiv => (match st with
    | .inl y :: .inl x :: r => if av_w y = 0 then none else some (pc + 1, lv, .inl ((av_w x).tdiv (av_w y)) :: r, h)
    | _ => none)
  | .irem => (match st with
    | .inl y :: .inl x :: r => if av_w y = 0 then none else some (pc + 1, lv, .inl ((av_w x).tmod (av_w y)) :: r, h)
    | _ => none)
  | .ladd => (match st with
    | .inr (.inl y) :: .inr (.inl x) :: r => some (pc + 1, lv, .inr (.inl (x + y)) :: r, h)
    | _ => none)
  | .lmul => (match st with
    | .inr (.inl y) :: .inr (.inl x) :: r => some (pc + 1, lv, .inr (.inl (x * y)) :: r, h)
    | _ => none)
  | .lcmp => (match st with
    | .inr (.inl y) :: .inr (.inl x) :: r => some (pc + 1, lv, .inl (if av_wl y < av_wl x then 1 else if av_wl x = av_wl y then 0 else -1) :: r, h)
    | _ => none)
  | .i2l => (match st with
    | .inl x :: r => some (pc + 1, lv, .inr (.inl (av_w x)) :: r, h)
    | _ => none)
  | .l2i => (match st with
    | .inr (.inl x) :: r => some (pc + 1, lv, .inl x :: r, h)
    | _ => none)
  | .i2b => (match st with
    | .inl x :: r => some (pc + 1, lv, .inl (av_b x) :: r, h)
    | _ => none)
  | .dup => (match st with
    | v :: r => if av_cat v = 1 then some (pc + 1, lv, v :: v :: r, h) else none
    | _ => none)
  | .pop => (match st with
    | v :: r => if av_cat v = 1 then some (pc + 1, lv, r, h) else none
    | _ => none)
  | .dup2 => (match st with
    | v :: u :: r => if av_cat v = 1 ∧ av_cat u = 1 then some (pc + 1, lv, v :: u :: v :: u :: r, h) else none
    | _ => none)
  | .goto _ => some (e.2.2.1, lv, st, h)
  | .ifCond c _ => (match st with
    | .inl x :: r => some (if av_cmp c (av_w x) 0 = true then e.2.2.1 else pc + 3, lv, r, h)
    | _ => none)
  | .if_icmp c _ => (match st with
    | .inl y :: .inl x :: r => some (if av_cmp c (av_w x) (av_w y) = true then e.2.2.1 else pc + 3, lv, r, h)
    | _ => none)
  | .ifnull _ => (match st with
    | .inr (.inr (.inl v)) :: r => some (match v with
      | none => e.2.2.1
      | some _ => pc + 3, lv, r, h)
    | _ => none)
  | .ifnonnull _ => (match st with
    | .inr (.inr (.inl v)) :: r => some (match v with
      | none => pc + 3
      | some _ => e.2.2.1, lv, r, h)
    | _ => none)
  | .tableswitch d lo hi offs => (match st with
    | .inl x :: r => some ((pc + (if av_w x < lo ∨ hi < av_w x then d else offs.toList.getD (av_w x - lo).toNat 0)).toNat, lv, r, h)
    | _ => none)
  | .lookupswitch d ps => (match st with
    | .inl x :: r => some ((pc + Op.lookupswitch.offset ps.toList d (av_w x)).toNat, lv, r, h)
    | _ => none)
  | .getfield _ => av_getf e pc lv st h
  | .putfield _ => av_putf e pc lv st h
  | .getstatic _ => some (pc + 3, lv, .inr (.inr (.inr 101)) :: st, h)
  | .iaload => av_ald sc [20] pc lv st h
  | .baload => av_ald sc [21, 22] pc lv st h
  | .aaload => av_aald pc lv st h
  | .iastore => av_iast pc lv st h
  | .bastore => av_bast pc lv st h
  | .aastore => av_aast pc lv st h
  | .arraylength => av_alen sc pc lv st h
  | .newarray t => av_newa t pc lv st h
  | .anewarray _ => av_anew e.2.2.1 pc lv st h
  | .multianewarray _ _ => av_mnew pc lv st h
  | .new _ => some (pc + 3, lv, .inr (.inr (.inl (some h.1))) :: st, av_newO e.2.2.1 (av_N e.2.2.1) h)
  | .checkcast _ => (match st with
    | .inr (.inr (.inl (some o))) :: r => if o < h.1 ∧ (h.2.2.1 o).1 = 20 then some (pc + 3, lv, .inr (.inr (.inl (some o))) :: r, h) else none
    | _ => none)
  | .invokevirtual _ => av_lib e.2.2.1 pc lv st h
  | .invokespecial _ => av_lib e.2.2.1 pc lv st h
  | .invokestatic _ => av_lib e.2.2.1 pc lv st h
  | _ => none
/-- 0 a step of its own, 1 a return, 2 a call -/
def av_kd (e : av_E) : Nat := match e.1 with
  | .ireturn => 1
  | .areturn => 1
  | .return_ => 1
  | .invokevirtual _ => if e.2.2.1 < 1000 then 2 else 0
  | .invokespecial _ => if e.2.2.1 < 1000 then 2 else 0
  | .invokestatic _ => if e.2.2.1 < 1000 then 2 else 0
  | _ => 0
def av_ret (e : av_E) (st : List av_V) (h : av_H) : Option (Option av_V × av_H) := match e.1, st with
  | .return_, [] => some (none, h)
  | .ireturn, [.inl x] => if e.2.2.1 = 0 ∨ x = 0 ∨ x = 1 then some (some (.inl x), h) else none
  | .areturn, [.inr (.inr (.inl v))] => some (some (.inr (.inr (.inl v))), h)
  | _, _ => none
/-- a call's values (the receiver first) and what is left below; b: how many arguments, c: 0 an object of the row k, 1 a constructor, 2 static -/
def av_pop (e : av_E) (st : List av_V) (h : av_H) : Option (List av_V × List av_V) :=
  if e.2.2.2.1 ≤ st.length then
    (match e.2.2.2.2.1, st.drop e.2.2.2.1 with
    | 2, r => if (r.map av_cat).sum ≤ 8 then some ((st.take e.2.2.2.1).reverse, r) else none
    | _, .inr (.inr (.inl (some o))) :: r => if (r.map av_cat).sum ≤ 8 ∧ o < h.1 ∧ ((h.2.2.1 o).1 : Int) = e.2.2.2.2.2 then some (.inr (.inr (.inl (some o))) :: (st.take e.2.2.2.1).reverse, r) else none
    | _, _ => none)
  else none
/-- a method's locals at its entry -/
def av_args : List av_V → av_L
  | [] => []
  | v :: vs => if av_cat v = 2 then some v :: none :: av_args vs else some v :: av_args vs
def av_ent (n : Nat) (vs : List av_V) : av_L := av_args vs ++ List.replicate (n - (av_args vs).length) none
/-- a program: of each method how many locals, and its code -/
abbrev av_P : Type := Nat → Option (Nat × List (Nat × av_E))
/-- fuel, the method's code, the place, locals, stack, heap: what comes back -/
def av_run (P : av_P) : av_Sr → Nat → List (Nat × av_E) → Nat → av_L → List av_V → av_H → Option (Option av_V × av_H)
  | _, 0, _, _, _, _, _ => none
  | sc, n + 1, cd, pc, lv, st, h =>
    match cd.lookup pc with
    | none => none
    | some e =>
      match av_kd e with
      | 0 => (match av_stp sc e pc lv st h with
        | none => none
        | some (pc', lv', st', h') => av_run P sc n cd pc' lv' st' h')
      | 1 => av_ret e st h
      | _ => (match P e.2.2.1, av_pop e st h with
        | some M, some (vs, r) =>
          if (av_args vs).length ≤ M.1 then
            (match av_run P none n M.2 0 (av_ent M.1 vs) [] h with
            | none => none
            | some (v, h') => av_run P sc n cd (pc + 3) lv (v.toList ++ r) h')
          else none
        | _, _ => none)
end
section
/-! HOW THE SMALL MACHINE STANDS TO THE MACHINE -/
def av_ev (z : Nat) (kr : Nat → Nat) : av_V → Value
  | .inl x => .int (Int32.ofInt x)
  | .inr (.inl x) => .long (Int64.ofInt x)
  | .inr (.inr (.inl r)) => va_rf (r.map (fun k => z + k))
  | .inr (.inr (.inr k)) => .ref (kr k)
theorem av_ev_cat (z : Nat) (kr : Nat → Nat) (v : av_V) : (av_ev z kr v).category = av_cat v := by
  rcases v with x | x | (_ | k) | k <;> rfl
def av_tg : FieldType → Nat
  | .long => 1
  | .object _ => 2
  | .array _ => 2
  | .boolean => 3
  | _ => 0
def av_fv (z : Nat) (h : av_H) (ty : FieldType) (o k : Nat) : Value := match av_tg ty with
  | 1 => .long (Int64.ofInt (h.2.2.2.2.1 o k))
  | 2 => va_rf ((h.2.2.2.2.2.1 o k).map (fun k => z + k))
  | _ => .int (Int32.ofInt (h.2.2.2.2.1 o k))
def av_at (z : Nat) (D : va_G) (TY : Nat → ClassId) (h : av_H) (k : Nat) (H : Heap) : Prop :=
  if (h.2.2.1 k).1 < 9 then t_OB (z + k) (D.1 (h.2.2.1 k).1) (av_N (h.2.2.1 k).1) (D.2 (h.2.2.1 k).1) H (fun j => av_fv z h (av_ty (h.2.2.1 k).1 j) k j)
  else if (h.2.2.1 k).1 < 30 then H[z + k]? = some (arrV (TY (h.2.2.1 k).1) (h.2.2.1 k).2 (fun j => .int (Int32.ofInt (h.2.2.2.1 k j))))
  else H[z + k]? = some (arrV (TY (h.2.2.1 k).1) (h.2.2.1 k).2 (fun j => va_rf ((h.2.2.2.2.2.2.1 k j).map (fun k => z + k))))
def av_R (s0 : State) (D : va_G) (TY : Nat → ClassId) (_ : av_Sr) (h : av_H) (H : Heap) : Prop :=
  H.size = s0.heap.size + h.1 ∧ (∀ q : Nat, q < s0.heap.size → H[q]? = s0.heap[q]?) ∧ True ∧ ∀ k : Nat, k < h.1 → av_at s0.heap.size D TY h k H
def av_ft : Nat → FieldType := fun k => match k with
  | 20 => .int
  | 21 => .byte
  | 22 => .boolean
  | 30 => .object RX1
  | 31 => .object RX5
  | _ => .array .int
/-- what holds of the start: the tables' words, the rows of objects, of arrays -/
def av_Z (a0 : Array Value) (s0 : State) (D : va_G) (TY : Nat → ClassId) : Prop :=
  (∀ w ∈ lw_tbl, w.before a0 s0 = true) ∧ (∀ ci, ci < 9 → u_Kn s0 (av_cn ci) (av_T ci) (av_N ci) (D.1 ci) (D.2 ci)) ∧ ∀ k ∈ [20, 21, 22, 30, 31, 32], ArrOfT s0 (TY k) (av_ft k) ∧ va_RA s0 (TY k) (av_ft k)
def av_Lr (z : Nat) (kr : Nat → Nat) (ls : Array Slot) (nL : Nat) (lv : av_L) : Prop :=
  ls.size = nL ∧ lv.length = nL ∧ lv_wf ls ∧ ∀ (i : Nat) (v : av_V), lv[i]? = some (some v) → ls[i]? = some (.val (av_ev z kr v))
def av_lst (z : Nat) (kr : Nat → Nat) (lv : av_L) : List (Nat × Value) := (List.range lv.length).filterMap (fun i => ((lv[i]?).join).map (fun v => (i, av_ev z kr v)))
theorem av_lst_mem {z : Nat} {kr : Nat → Nat} {lv : av_L} {q : Nat × Value} : q ∈ av_lst z kr lv ↔ ∃ v, lv[q.1]? = some (some v) ∧ q.2 = av_ev z kr v := by
  unfold av_lst
  rw [List.mem_filterMap]
  constructor
  · rintro ⟨i, hi, h⟩
    rw [Option.map_eq_some_iff] at h
    obtain ⟨v, h1, h2⟩ := h
    subst h2
    refine ⟨v, ?_, rfl⟩
    rw [Option.join_eq_some_iff] at h1
    exact h1
  · rintro ⟨v, h1, h2⟩
    refine ⟨q.1, List.mem_range.mpr (List.getElem?_eq_some_iff.mp h1).1, ?_⟩
    rw [h1]
    simp [h2.symm]
theorem av_toHas {z : Nat} {kr : Nat → Nat} {ls : Array Slot} {nL : Nat} {lv : av_L} (h : av_Lr z kr ls nL lv) : lv_has ls nL (av_lst z kr lv) := by
  refine ⟨h.1, h.2.2.1, fun q hq => ?_⟩
  obtain ⟨v, h1, h2⟩ := av_lst_mem.mp hq
  rw [h2]
  exact h.2.2.2 _ _ h1
theorem av_sto_eq {lv lv' : av_L} {i : Nat} {v : av_V} (h : av_sto lv i v = some lv') : i < lv.length ∧ lv' = lv.set i (some v) ∧ ∀ (j : Nat) (u : av_V), j + 1 = i → lv[j]? = some (some u) → av_cat u = 1 := by
  cases i with
  | zero =>
    simp only [av_sto] at h
    split at h
    · next h0 => exact ⟨h0, (Option.some.inj h).symm, fun j u hj => by omega⟩
    · cases h
  | succ j =>
    simp only [av_sto] at h
    split at h
    · next h0 =>
      split at h
      · cases h
      · next h1 =>
        refine ⟨h0, (Option.some.inj h).symm, fun j' u hj hu => ?_⟩
        have : j' = j := by omega
        subst this
        rw [hu] at h1
        rcases u with x | x | (_ | k) | k
        · rfl
        · exact absurd rfl h1
        · rfl
        · rfl
        · rfl
    · cases h
theorem av_ofHas {z : Nat} {kr : Nat → Nat} {ls : Array Slot} {nL : Nat} {lv lv' : av_L} {i : Nat} {v : av_V} (hL : lv.length = nL) (hs : av_sto lv i v = some lv')
    (h : lv_has ls nL ((i, av_ev z kr v) :: (av_lst z kr lv).filter (fun q => !(q.1 == i) && !(q.1 + 1 == i && q.2.category == 2)))) : av_Lr z kr ls nL lv' := by
  obtain ⟨h1, h2, h3⟩ := av_sto_eq hs
  subst h2
  refine ⟨h.1, by rw [List.length_set]; exact hL, h.2.1, fun j u hj => ?_⟩
  by_cases e : j = i
  · subst e
    rw [List.getElem?_set_self h1] at hj
    cases hj
    exact h.2.2 (j, av_ev z kr v) List.mem_cons_self
  · rw [List.getElem?_set_ne (Ne.symm e)] at hj
    refine h.2.2 (j, av_ev z kr u) (List.mem_cons_of_mem _ (List.mem_filter.mpr ⟨av_lst_mem.mpr ⟨u, hj, rfl⟩, ?_⟩))
    have e2 : ¬ (j + 1 = i ∧ (av_ev z kr u).category = 2) := by
      rintro ⟨q1, q2⟩
      rw [av_ev_cat, h3 j u q1 hj] at q2
      cases q2
    simp only [Bool.and_eq_true, Bool.not_eq_true', beq_eq_false_iff_ne, ne_eq, Bool.and_eq_false_iff]
    refine ⟨e, ?_⟩
    by_cases q1 : j + 1 = i
    · exact Or.inr (fun q2 => e2 ⟨q1, q2⟩)
    · exact Or.inl q1
-- numbers
theorem av_w_eq (x : Int) : (Int32.ofInt x).toInt = av_w x := by
  rw [Int32.toInt_ofInt]; rfl
theorem av_wl_eq (x : Int) : (Int64.ofInt x).toInt = av_wl x := by
  rw [Int64.toInt_ofInt]; rfl
theorem av_of_toInt (x : Int32) : Int32.ofInt x.toInt = x := Int32.ofInt_toInt x
theorem av_lt (x y : Int) : Int32.ofInt x < Int32.ofInt y ↔ av_w x < av_w y := by
  rw [Int32.lt_iff_toInt_lt, av_w_eq, av_w_eq]
theorem av_le (x y : Int) : Int32.ofInt x ≤ Int32.ofInt y ↔ av_w x ≤ av_w y := by
  rw [Int32.le_iff_toInt_le, av_w_eq, av_w_eq]
theorem av_eq (x y : Int) : Int32.ofInt x = Int32.ofInt y ↔ av_w x = av_w y := by
  rw [← Int32.toInt_inj, av_w_eq, av_w_eq]
theorem av_lt0 (x : Int) : Int32.ofInt x < 0 ↔ av_w x < 0 := by
  have h := av_lt x 0
  rw [show av_w 0 = 0 from rfl, show Int32.ofInt 0 = 0 from rfl] at h
  exact h
theorem av_nat (x : Int) : (Int32.ofInt x).toNatClampNeg = (av_w x).toNat := by
  show (Int32.ofInt x).toInt.toNat = _
  rw [av_w_eq]
theorem av_inP {i : Int} {n : Nat} (h : av_inB i n = true) : ¬ (Int32.ofInt i < 0 ∨ n ≤ (Int32.ofInt i).toNatClampNeg) ∧ (av_w i).toNat < n := by
  simp only [av_inB, Bool.and_eq_true, decide_eq_true_eq] at h
  rw [av_lt0, av_nat]
  omega
theorem av_ofw (x : Int) : Int32.ofInt (av_w x) = Int32.ofInt x := by
  rw [← av_w_eq, Int32.ofInt_toInt]
theorem av_tdiv (x y : Int) : Int32.ofInt ((av_w x).tdiv (av_w y)) = Int32.ofInt x / Int32.ofInt y := by
  rw [← Int32.toInt_inj, Int32.toInt_div, Int32.toInt_ofInt, av_w_eq, av_w_eq]
theorem av_tmod (x y : Int) : Int32.ofInt ((av_w x).tmod (av_w y)) = Int32.ofInt x - Int32.ofInt x / Int32.ofInt y * Int32.ofInt y := by
  rw [← av_tdiv, Int.tmod_def, Int32.ofInt_sub, Int32.ofInt_mul, av_ofw, av_ofw, Int32.mul_comm]
theorem av_byte (x : Int) : Int32.ofInt (av_b x) = (Int32.ofInt x).toInt8.toInt32 := by
  rw [← Int32.toInt_inj]
  simp only [av_b, Int32.toInt_ofInt, Int8.toInt_toInt32, Int32.toInt_toInt8]
  have h1 := Int.le_bmod (x := x) (m := 256) (by omega)
  have h2 := Int.bmod_lt (x := x) (m := 256) (by omega)
  show (x.bmod 256).bmod 4294967296 = (x.bmod 4294967296).bmod 256
  rw [Int.bmod_eq_of_le (n := x.bmod 256) (by omega) (by omega), Int.bmod_bmod_of_dvd (by omega)]
end
section
/-! ONE STEP OF THE SMALL MACHINE, A ROW OF THE KIT: what changes no cell -/
section AVS
variable {p : Program} {l : Launch} {e : Env} {R : Room} {s : State} {m : MethodId} {args : Array Value} {below : List Frame} {meth : Method} {c : Code} {Q : State → Prop}
variable {a0 : Array Value} {s0 : State} {D : va_G} {TY : Nat → ClassId} {kr : Nat → Nat} {sc : av_Sr} {own nL : Nat} {cc : ByteArray} {ini : Bool} {h0 hf h h' : av_H} {pc pc' : Nat} {lv lv' : av_L} {st st' : List av_V}
/-- from every state of the machine that stands so to this state of the small one, Q is reached -/
def av_W (p : Program) (l : Launch) (e : Env) (R : Room) (s : State) (m : MethodId) (args : Array Value) (below : List Frame) (meth : Method) (c : Code) (Q : State → Prop) (s0 : State) (D : va_G) (TY : Nat → ClassId) (kr : Nat → Nat) (sc : av_Sr) (nL : Nat) (h0 : av_H) (pc : Nat) (lv : av_L) (st : List av_V) (h : av_H) : Prop :=
  ∀ (H : Heap) (locs : List Loc) (ls : Array Slot), av_R s0 D TY sc h H → (∀ q ∈ locs, s0.heap.size ≤ q.base) → av_Lr s0.heap.size kr ls nL lv → h0.1 ≤ h.1 → h0.2.1 ≤ h.2.1 →
    W p l e R s m args below meth c H locs (h.1 - h0.1) (h.2.1 - h0.2.1) Q (F0 m pc ls (st.map (av_ev s0.heap.size kr)))
/-- what a method's body knows -/
def av_Cx (p : Program) (R : Room) (s : State) (m : MethodId) (meth : Method) (c : Code) (a0 : Array Value) (s0 : State) (D : va_G) (TY : Nat → ClassId) (own nL : Nat) (cc : ByteArray) (ini : Bool) (h0 hf : av_H) : Prop :=
  p.tables.exec = Jvm.exec ∧ c.code = cc ∧ c.maxLocals = nL ∧ s.vm.findClass (av_cn own) = some m.cls ∧ s0.WarmedH s.vm ∧ av_Z a0 s0 D TY ∧ (ini = true → meth.name = "<init>") ∧ hf.1 - h0.1 ≤ R.cells ∧ hf.2.1 - h0.2.1 ≤ R.slots
theorem av_s_iconst {n : Int} (C : av_Cx p R s m meth c a0 s0 D TY own nL cc ini h0 hf) (hd : decode cc pc = .ok (.iconst n, 1)) (k : av_W p l e R s m args below meth c Q s0 D TY kr sc nL h0 (pc + 1) lv (.inl n :: st) h) : av_W p l e R s m args below meth c Q s0 D TY kr sc nL h0 pc lv st h :=
  fun H locs ls hR hl hL h1 h2 => lv_iconst C.1 C.2.1 hd rfl (k H locs ls hR hl hL h1 h2)
theorem av_s_bipush {n : Int} (C : av_Cx p R s m meth c a0 s0 D TY own nL cc ini h0 hf) (hd : decode cc pc = .ok (.bipush n, 2)) (hn : (Int8.ofInt n).toInt32 = Int32.ofInt n) (k : av_W p l e R s m args below meth c Q s0 D TY kr sc nL h0 (pc + 2) lv (.inl n :: st) h) : av_W p l e R s m args below meth c Q s0 D TY kr sc nL h0 pc lv st h :=
  fun H locs ls hR hl hL h1 h2 => lv_bipush C.1 C.2.1 hd hn (k H locs ls hR hl hL h1 h2)
theorem av_s_sipush {n : Int} (C : av_Cx p R s m meth c a0 s0 D TY own nL cc ini h0 hf) (hd : decode cc pc = .ok (.sipush n, 3)) (hn : (Int16.ofInt n).toInt32 = Int32.ofInt n) (k : av_W p l e R s m args below meth c Q s0 D TY kr sc nL h0 (pc + 3) lv (.inl n :: st) h) : av_W p l e R s m args below meth c Q s0 D TY kr sc nL h0 pc lv st h :=
  fun H locs ls hR hl hL h1 h2 => lv_sipush C.1 C.2.1 hd hn (k H locs ls hR hl hL h1 h2)
theorem av_s_lconst {n : Fin 2} (C : av_Cx p R s m meth c a0 s0 D TY own nL cc ini h0 hf) (hd : decode cc pc = .ok (.lconst n, 1)) (k : av_W p l e R s m args below meth c Q s0 D TY kr sc nL h0 (pc + 1) lv (.inr (.inl (n.val : Int)) :: st) h) : av_W p l e R s m args below meth c Q s0 D TY kr sc nL h0 pc lv st h :=
  fun H locs ls hR hl hL h1 h2 => lv_lconst C.1 C.2.1 hd (by rcases n with ⟨_ | _ | n, hn⟩ <;> first | rfl | omega) (k H locs ls hR hl hL h1 h2)
theorem av_s_null (C : av_Cx p R s m meth c a0 s0 D TY own nL cc ini h0 hf) (hd : decode cc pc = .ok (.aconst_null, 1)) (k : av_W p l e R s m args below meth c Q s0 D TY kr sc nL h0 (pc + 1) lv (.inr (.inr (.inl none)) :: st) h) : av_W p l e R s m args below meth c Q s0 D TY kr sc nL h0 pc lv st h :=
  fun H locs ls hR hl hL h1 h2 => lv_null C.1 C.2.1 hd (k H locs ls hR hl hL h1 h2)
theorem av_join {lv : av_L} {i : Nat} {v : av_V} (h : (lv[i]?).join = some v) : lv[i]? = some (some v) := by
  rw [Option.join_eq_some_iff] at h
  exact h
theorem av_s_iload_n {i : Fin 4} (C : av_Cx p R s m meth c a0 s0 D TY own nL cc ini h0 hf) (hd : decode cc pc = .ok (.iload_n i, 1)) (hs : av_ldi i.val 1 pc lv st h = some (pc', lv', st', h')) (k : av_W p l e R s m args below meth c Q s0 D TY kr sc nL h0 pc' lv' st' h') : av_W p l e R s m args below meth c Q s0 D TY kr sc nL h0 pc lv st h := by
  intro H locs ls hR hl hL h1 h2
  unfold av_ldi at hs
  split at hs
  · next x hx =>
    cases hs
    exact lv_iload_n C.1 C.2.1 hd rfl (hL.2.2.2 _ _ (av_join hx)) (k H locs ls hR hl hL h1 h2)
  · cases hs
theorem av_s_iload {i : Nat} (C : av_Cx p R s m meth c a0 s0 D TY own nL cc ini h0 hf) (hd : decode cc pc = .ok (.iload i, 2)) (hs : av_ldi i 2 pc lv st h = some (pc', lv', st', h')) (k : av_W p l e R s m args below meth c Q s0 D TY kr sc nL h0 pc' lv' st' h') : av_W p l e R s m args below meth c Q s0 D TY kr sc nL h0 pc lv st h := by
  intro H locs ls hR hl hL h1 h2
  unfold av_ldi at hs
  split at hs
  · next x hx =>
    cases hs
    exact lv_iload C.1 C.2.1 hd (hL.2.2.2 _ _ (av_join hx)) (k H locs ls hR hl hL h1 h2)
  · cases hs
theorem av_s_lload_n {i : Fin 4} (C : av_Cx p R s m meth c a0 s0 D TY own nL cc ini h0 hf) (hd : decode cc pc = .ok (.lload_n i, 1)) (hs : av_ldl i.val 1 pc lv st h = some (pc', lv', st', h')) (k : av_W p l e R s m args below meth c Q s0 D TY kr sc nL h0 pc' lv' st' h') : av_W p l e R s m args below meth c Q s0 D TY kr sc nL h0 pc lv st h := by
  intro H locs ls hR hl hL h1 h2
  unfold av_ldl at hs
  split at hs
  · next x hx =>
    cases hs
    exact lv_lload_n C.1 C.2.1 hd rfl (hL.2.2.2 _ _ (av_join hx)) (k H locs ls hR hl hL h1 h2)
  · cases hs
theorem av_s_lload {i : Nat} (C : av_Cx p R s m meth c a0 s0 D TY own nL cc ini h0 hf) (hd : decode cc pc = .ok (.lload i, 2)) (hs : av_ldl i 2 pc lv st h = some (pc', lv', st', h')) (k : av_W p l e R s m args below meth c Q s0 D TY kr sc nL h0 pc' lv' st' h') : av_W p l e R s m args below meth c Q s0 D TY kr sc nL h0 pc lv st h := by
  intro H locs ls hR hl hL h1 h2
  unfold av_ldl at hs
  split at hs
  · next x hx =>
    cases hs
    exact lv_lload C.1 C.2.1 hd (hL.2.2.2 _ _ (av_join hx)) (k H locs ls hR hl hL h1 h2)
  · cases hs
theorem av_s_aload_n {i : Fin 4} (C : av_Cx p R s m meth c a0 s0 D TY own nL cc ini h0 hf) (hd : decode cc pc = .ok (.aload_n i, 1)) (hs : av_lda i.val 1 pc lv st h = some (pc', lv', st', h')) (k : av_W p l e R s m args below meth c Q s0 D TY kr sc nL h0 pc' lv' st' h') : av_W p l e R s m args below meth c Q s0 D TY kr sc nL h0 pc lv st h := by
  intro H locs ls hR hl hL h1 h2
  unfold av_lda at hs
  split at hs
  · next v hx =>
    cases hs
    have hv := hL.2.2.2 _ _ (av_join hx)
    have kk := k H locs ls hR hl hL h1 h2
    rcases v with (_ | o) | q
    · exact lv_aload_nN C.1 C.2.1 hd rfl hv kk
    · exact lv_aload_n C.1 C.2.1 hd rfl hv kk
    · exact lv_aload_n C.1 C.2.1 hd rfl hv kk
  · cases hs
theorem av_s_aload {i : Nat} (C : av_Cx p R s m meth c a0 s0 D TY own nL cc ini h0 hf) (hd : decode cc pc = .ok (.aload i, 2)) (hs : av_lda i 2 pc lv st h = some (pc', lv', st', h')) (k : av_W p l e R s m args below meth c Q s0 D TY kr sc nL h0 pc' lv' st' h') : av_W p l e R s m args below meth c Q s0 D TY kr sc nL h0 pc lv st h := by
  intro H locs ls hR hl hL h1 h2
  unfold av_lda at hs
  split at hs
  · next v hx =>
    cases hs
    have hv := hL.2.2.2 _ _ (av_join hx)
    have kk := k H locs ls hR hl hL h1 h2
    rcases v with (_ | o) | q
    · exact lv_aloadN C.1 C.2.1 hd hv kk
    · exact lv_aload C.1 C.2.1 hd hv kk
    · exact lv_aload C.1 C.2.1 hd hv kk
  · cases hs
theorem av_s_istore_n {i : Fin 4} (C : av_Cx p R s m meth c a0 s0 D TY own nL cc ini h0 hf) (hd : decode cc pc = .ok (.istore_n i, 1)) (hs : av_sti i.val 1 pc lv st h = some (pc', lv', st', h')) (k : av_W p l e R s m args below meth c Q s0 D TY kr sc nL h0 pc' lv' st' h') : av_W p l e R s m args below meth c Q s0 D TY kr sc nL h0 pc lv st h := by
  intro H locs ls hR hl hL h1 h2
  unfold av_sti at hs
  split at hs
  · next x r =>
    rw [Option.map_eq_some_iff] at hs
    obtain ⟨lv1, hst, he⟩ := hs
    cases he
    exact lv_istore_n C.1 C.2.1 hd rfl (av_toHas hL) (by rw [← hL.2.1]; exact (av_sto_eq hst).1) rfl (fun ls' hh => k H locs ls' hR hl (av_ofHas hL.2.1 hst hh) h1 h2)
  · cases hs
theorem av_s_istore {i : Nat} (C : av_Cx p R s m meth c a0 s0 D TY own nL cc ini h0 hf) (hd : decode cc pc = .ok (.istore i, 2)) (hs : av_sti i 2 pc lv st h = some (pc', lv', st', h')) (k : av_W p l e R s m args below meth c Q s0 D TY kr sc nL h0 pc' lv' st' h') : av_W p l e R s m args below meth c Q s0 D TY kr sc nL h0 pc lv st h := by
  intro H locs ls hR hl hL h1 h2
  unfold av_sti at hs
  split at hs
  · next x r =>
    rw [Option.map_eq_some_iff] at hs
    obtain ⟨lv1, hst, he⟩ := hs
    cases he
    exact lv_istore C.1 C.2.1 hd (av_toHas hL) (by rw [← hL.2.1]; exact (av_sto_eq hst).1) rfl (fun ls' hh => k H locs ls' hR hl (av_ofHas hL.2.1 hst hh) h1 h2)
  · cases hs
theorem av_s_astore_n {i : Fin 4} (C : av_Cx p R s m meth c a0 s0 D TY own nL cc ini h0 hf) (hd : decode cc pc = .ok (.astore_n i, 1)) (hs : av_sta i.val 1 pc lv st h = some (pc', lv', st', h')) (k : av_W p l e R s m args below meth c Q s0 D TY kr sc nL h0 pc' lv' st' h') : av_W p l e R s m args below meth c Q s0 D TY kr sc nL h0 pc lv st h := by
  intro H locs ls hR hl hL h1 h2
  unfold av_sta at hs
  split at hs
  · next v r =>
    rw [Option.map_eq_some_iff] at hs
    obtain ⟨lv1, hst, he⟩ := hs
    cases he
    have hi : i.val < nL := by rw [← hL.2.1]; exact (av_sto_eq hst).1
    rcases v with (_ | o) | q
    · exact lv_astore_nN C.1 C.2.1 hd rfl (av_toHas hL) hi rfl (fun ls' hh => k H locs ls' hR hl (av_ofHas hL.2.1 hst hh) h1 h2)
    · exact lv_astore_n C.1 C.2.1 hd rfl (av_toHas hL) hi rfl (fun ls' hh => k H locs ls' hR hl (av_ofHas hL.2.1 hst hh) h1 h2)
    · exact lv_astore_n C.1 C.2.1 hd rfl (av_toHas hL) hi rfl (fun ls' hh => k H locs ls' hR hl (av_ofHas hL.2.1 hst hh) h1 h2)
  · cases hs
theorem av_s_astore {i : Nat} (C : av_Cx p R s m meth c a0 s0 D TY own nL cc ini h0 hf) (hd : decode cc pc = .ok (.astore i, 2)) (hs : av_sta i 2 pc lv st h = some (pc', lv', st', h')) (k : av_W p l e R s m args below meth c Q s0 D TY kr sc nL h0 pc' lv' st' h') : av_W p l e R s m args below meth c Q s0 D TY kr sc nL h0 pc lv st h := by
  intro H locs ls hR hl hL h1 h2
  unfold av_sta at hs
  split at hs
  · next v r =>
    rw [Option.map_eq_some_iff] at hs
    obtain ⟨lv1, hst, he⟩ := hs
    cases he
    have hi : i < nL := by rw [← hL.2.1]; exact (av_sto_eq hst).1
    rcases v with (_ | o) | q
    · exact lv_astoreN C.1 C.2.1 hd (av_toHas hL) hi rfl (fun ls' hh => k H locs ls' hR hl (av_ofHas hL.2.1 hst hh) h1 h2)
    · exact lv_astore C.1 C.2.1 hd (av_toHas hL) hi rfl (fun ls' hh => k H locs ls' hR hl (av_ofHas hL.2.1 hst hh) h1 h2)
    · exact lv_astore C.1 C.2.1 hd (av_toHas hL) hi rfl (fun ls' hh => k H locs ls' hR hl (av_ofHas hL.2.1 hst hh) h1 h2)
  · cases hs
theorem av_s_iinc {i : Nat} {n : Int} (C : av_Cx p R s m meth c a0 s0 D TY own nL cc ini h0 hf) (hd : decode cc pc = .ok (.iinc i n, 3)) (hs : av_iinc i n pc lv st h = some (pc', lv', st', h')) (k : av_W p l e R s m args below meth c Q s0 D TY kr sc nL h0 pc' lv' st' h') : av_W p l e R s m args below meth c Q s0 D TY kr sc nL h0 pc lv st h := by
  intro H locs ls hR hl hL h1 h2
  unfold av_iinc at hs
  split at hs
  · next x hx =>
    rw [Option.map_eq_some_iff] at hs
    obtain ⟨lv1, hst, he⟩ := hs
    cases he
    have hi : i < nL := by rw [← hL.2.1]; exact (av_sto_eq hst).1
    obtain ⟨k0, hk0⟩ := List.getElem?_of_mem (av_lst_mem (z := s0.heap.size) (kr := kr) (q := (i, Value.int (Int32.ofInt x))) |>.mpr ⟨.inl x, av_join hx, rfl⟩)
    exact lv_iinc C.1 C.2.1 hd (av_toHas hL) hk0 (v := Int32.ofInt (x + n)) (Int32.ofInt_add x n).symm hi rfl (fun ls' hh => k H locs ls' hR hl (av_ofHas hL.2.1 hst hh) h1 h2)
  · cases hs
end AVS
end
section
/-! ONE STEP: sums, jumps, the stack -/
section AVA
variable {p : Program} {l : Launch} {e : Env} {R : Room} {s : State} {m : MethodId} {args : Array Value} {below : List Frame} {meth : Method} {c : Code} {Q : State → Prop}
variable {a0 : Array Value} {s0 : State} {D : va_G} {TY : Nat → ClassId} {kr : Nat → Nat} {sc : av_Sr} {own nL : Nat} {cc : ByteArray} {ini : Bool} {h0 hf h h' : av_H} {pc pc' : Nat} {lv lv' : av_L} {st st' : List av_V}

theorem av_s_iadd (C : av_Cx p R s m meth c a0 s0 D TY own nL cc ini h0 hf) (hd : decode cc pc = .ok (.iadd, 1)) (hs : av_bin (fun x y => x + y) pc lv st h = some (pc', lv', st', h')) (k : av_W p l e R s m args below meth c Q s0 D TY kr sc nL h0 pc' lv' st' h') : av_W p l e R s m args below meth c Q s0 D TY kr sc nL h0 pc lv st h := by
  intro H locs ls hR hl hL h1 h2
  unfold av_bin at hs
  split at hs
  · next y x r =>
    cases hs
    have kk := k H locs ls hR hl hL h1 h2
    refine lv_iadd C.1 C.2.1 hd (lv_topi (fun v hv => ?_))
    have hv : v = Int32.ofInt ((fun x y => x + y) x y) := hv.trans (((Int32.ofInt_add x y).symm).symm).symm
    subst hv
    exact kk
  · cases hs
theorem av_s_isub (C : av_Cx p R s m meth c a0 s0 D TY own nL cc ini h0 hf) (hd : decode cc pc = .ok (.isub, 1)) (hs : av_bin (fun x y => x - y) pc lv st h = some (pc', lv', st', h')) (k : av_W p l e R s m args below meth c Q s0 D TY kr sc nL h0 pc' lv' st' h') : av_W p l e R s m args below meth c Q s0 D TY kr sc nL h0 pc lv st h := by
  intro H locs ls hR hl hL h1 h2
  unfold av_bin at hs
  split at hs
  · next y x r =>
    cases hs
    have kk := k H locs ls hR hl hL h1 h2
    refine lv_isub C.1 C.2.1 hd (lv_topi (fun v hv => ?_))
    have hv : v = Int32.ofInt ((fun x y => x - y) x y) := hv.trans (((Int32.ofInt_sub x y).symm).symm).symm
    subst hv
    exact kk
  · cases hs
theorem av_s_imul (C : av_Cx p R s m meth c a0 s0 D TY own nL cc ini h0 hf) (hd : decode cc pc = .ok (.imul, 1)) (hs : av_bin (fun x y => x * y) pc lv st h = some (pc', lv', st', h')) (k : av_W p l e R s m args below meth c Q s0 D TY kr sc nL h0 pc' lv' st' h') : av_W p l e R s m args below meth c Q s0 D TY kr sc nL h0 pc lv st h := by
  intro H locs ls hR hl hL h1 h2
  unfold av_bin at hs
  split at hs
  · next y x r =>
    cases hs
    have kk := k H locs ls hR hl hL h1 h2
    refine lv_imul C.1 C.2.1 hd (lv_topi (fun v hv => ?_))
    have hv : v = Int32.ofInt ((fun x y => x * y) x y) := hv.trans (((Int32.ofInt_mul x y).symm).symm).symm
    subst hv
    exact kk
  · cases hs
theorem av_s_iand (C : av_Cx p R s m meth c a0 s0 D TY own nL cc ini h0 hf) (hd : decode cc pc = .ok (.iand, 1)) (hs : av_bin av_and pc lv st h = some (pc', lv', st', h')) (k : av_W p l e R s m args below meth c Q s0 D TY kr sc nL h0 pc' lv' st' h') : av_W p l e R s m args below meth c Q s0 D TY kr sc nL h0 pc lv st h := by
  intro H locs ls hR hl hL h1 h2
  unfold av_bin at hs
  split at hs
  · next y x r =>
    cases hs
    have kk := k H locs ls hR hl hL h1 h2
    refine lv_iand C.1 C.2.1 hd (lv_topi (fun v hv => ?_))
    have hv : v = Int32.ofInt (av_and x y) := hv.trans (((Int32.ofInt_toInt _).symm).symm).symm
    subst hv
    exact kk
  · cases hs
theorem av_s_ior (C : av_Cx p R s m meth c a0 s0 D TY own nL cc ini h0 hf) (hd : decode cc pc = .ok (.ior, 1)) (hs : av_bin av_or pc lv st h = some (pc', lv', st', h')) (k : av_W p l e R s m args below meth c Q s0 D TY kr sc nL h0 pc' lv' st' h') : av_W p l e R s m args below meth c Q s0 D TY kr sc nL h0 pc lv st h := by
  intro H locs ls hR hl hL h1 h2
  unfold av_bin at hs
  split at hs
  · next y x r =>
    cases hs
    have kk := k H locs ls hR hl hL h1 h2
    refine lv_ior C.1 C.2.1 hd (lv_topi (fun v hv => ?_))
    have hv : v = Int32.ofInt (av_or x y) := hv.trans (((Int32.ofInt_toInt _).symm).symm).symm
    subst hv
    exact kk
  · cases hs
theorem av_s_ishl (C : av_Cx p R s m meth c a0 s0 D TY own nL cc ini h0 hf) (hd : decode cc pc = .ok (.ishl, 1)) (hs : av_bin av_shl pc lv st h = some (pc', lv', st', h')) (k : av_W p l e R s m args below meth c Q s0 D TY kr sc nL h0 pc' lv' st' h') : av_W p l e R s m args below meth c Q s0 D TY kr sc nL h0 pc lv st h := by
  intro H locs ls hR hl hL h1 h2
  unfold av_bin at hs
  split at hs
  · next y x r =>
    cases hs
    have kk := k H locs ls hR hl hL h1 h2
    refine lv_ishl C.1 C.2.1 hd (lv_topi (fun v hv => ?_))
    have hv : v = Int32.ofInt (av_shl x y) := hv.trans (((Int32.ofInt_toInt _).symm).symm).symm
    subst hv
    exact kk
  · cases hs
theorem av_s_ishr (C : av_Cx p R s m meth c a0 s0 D TY own nL cc ini h0 hf) (hd : decode cc pc = .ok (.ishr, 1)) (hs : av_bin av_shr pc lv st h = some (pc', lv', st', h')) (k : av_W p l e R s m args below meth c Q s0 D TY kr sc nL h0 pc' lv' st' h') : av_W p l e R s m args below meth c Q s0 D TY kr sc nL h0 pc lv st h := by
  intro H locs ls hR hl hL h1 h2
  unfold av_bin at hs
  split at hs
  · next y x r =>
    cases hs
    have kk := k H locs ls hR hl hL h1 h2
    refine lv_ishr C.1 C.2.1 hd (lv_topi (fun v hv => ?_))
    have hv : v = Int32.ofInt (av_shr x y) := hv.trans (((Int32.ofInt_toInt _).symm).symm).symm
    subst hv
    exact kk
  · cases hs
theorem av_s_iushr (C : av_Cx p R s m meth c a0 s0 D TY own nL cc ini h0 hf) (hd : decode cc pc = .ok (.iushr, 1)) (hs : av_bin av_ushr pc lv st h = some (pc', lv', st', h')) (k : av_W p l e R s m args below meth c Q s0 D TY kr sc nL h0 pc' lv' st' h') : av_W p l e R s m args below meth c Q s0 D TY kr sc nL h0 pc lv st h := by
  intro H locs ls hR hl hL h1 h2
  unfold av_bin at hs
  split at hs
  · next y x r =>
    cases hs
    have kk := k H locs ls hR hl hL h1 h2
    exact lv_iushr C.1 C.2.1 hd (v := Int32.ofInt (av_ushr x y)) (Int32.ofInt_toInt _).symm kk
  · cases hs
theorem av_s_idiv {x y : Int} {r : List av_V} (C : av_Cx p R s m meth c a0 s0 D TY own nL cc ini h0 hf) (hd : decode cc pc = .ok (.idiv, 1)) (hy : ¬ av_w y = 0) (k : av_W p l e R s m args below meth c Q s0 D TY kr sc nL h0 (pc + 1) lv (.inl ((av_w x).tdiv (av_w y)) :: r) h) : av_W p l e R s m args below meth c Q s0 D TY kr sc nL h0 pc lv (.inl y :: .inl x :: r) h := by
  intro H locs ls hR hl hL h1 h2
  have kk := k H locs ls hR hl hL h1 h2
  refine lv_idiv C.1 C.2.1 hd (fun q => hy ?_) (lv_topi (fun v hv => ?_))
  · have := (av_eq y 0).mp q
    exact this
  · have hv : v = Int32.ofInt ((av_w x).tdiv (av_w y)) := hv.trans (av_tdiv x y).symm
    subst hv
    exact kk
theorem av_s_irem {x y : Int} {r : List av_V} (C : av_Cx p R s m meth c a0 s0 D TY own nL cc ini h0 hf) (hd : decode cc pc = .ok (.irem, 1)) (hy : ¬ av_w y = 0) (k : av_W p l e R s m args below meth c Q s0 D TY kr sc nL h0 (pc + 1) lv (.inl ((av_w x).tmod (av_w y)) :: r) h) : av_W p l e R s m args below meth c Q s0 D TY kr sc nL h0 pc lv (.inl y :: .inl x :: r) h := by
  intro H locs ls hR hl hL h1 h2
  have kk := k H locs ls hR hl hL h1 h2
  refine lv_irem C.1 C.2.1 hd (fun q => hy ?_) (lv_topi (fun v hv => ?_))
  · have := (av_eq y 0).mp q
    exact this
  · have hv : v = Int32.ofInt ((av_w x).tmod (av_w y)) := hv.trans (av_tmod x y).symm
    subst hv
    exact kk
theorem av_s_ladd {x y : Int} {r : List av_V} (C : av_Cx p R s m meth c a0 s0 D TY own nL cc ini h0 hf) (hd : decode cc pc = .ok (.ladd, 1)) (k : av_W p l e R s m args below meth c Q s0 D TY kr sc nL h0 (pc + 1) lv (.inr (.inl (x + y)) :: r) h) : av_W p l e R s m args below meth c Q s0 D TY kr sc nL h0 pc lv (.inr (.inl y) :: .inr (.inl x) :: r) h := by
  intro H locs ls hR hl hL h1 h2
  have kk := k H locs ls hR hl hL h1 h2
  refine lv_ladd C.1 C.2.1 hd (lv_topl (fun v hv => ?_))
  have hv : v = Int64.ofInt (x + y) := hv.trans (Int64.ofInt_add x y).symm
  subst hv
  exact kk
theorem av_s_lmul {x y : Int} {r : List av_V} (C : av_Cx p R s m meth c a0 s0 D TY own nL cc ini h0 hf) (hd : decode cc pc = .ok (.lmul, 1)) (k : av_W p l e R s m args below meth c Q s0 D TY kr sc nL h0 (pc + 1) lv (.inr (.inl (x * y)) :: r) h) : av_W p l e R s m args below meth c Q s0 D TY kr sc nL h0 pc lv (.inr (.inl y) :: .inr (.inl x) :: r) h := by
  intro H locs ls hR hl hL h1 h2
  have kk := k H locs ls hR hl hL h1 h2
  refine lv_lmul C.1 C.2.1 hd (lv_topl (fun v hv => ?_))
  have hv : v = Int64.ofInt (x * y) := hv.trans (Int64.ofInt_mul x y).symm
  subst hv
  exact kk
theorem av_lcmp (x y : Int) : lg_cmp (Int64.ofInt x) (Int64.ofInt y) = Int32.ofInt (if av_wl y < av_wl x then 1 else if av_wl x = av_wl y then 0 else -1) := by
  have e1 : Int64.ofInt y < Int64.ofInt x ↔ av_wl y < av_wl x := by rw [Int64.lt_iff_toInt_lt, av_wl_eq, av_wl_eq]
  have e2 : Int64.ofInt x = Int64.ofInt y ↔ av_wl x = av_wl y := by rw [← Int64.toInt_inj, av_wl_eq, av_wl_eq]
  unfold lg_cmp
  by_cases q1 : av_wl y < av_wl x
  · simp [e1, q1]
  · by_cases q2 : av_wl x = av_wl y
    · simp [e1, e2, q2]
    · simp [e1, e2, q1, q2]
theorem av_s_lcmp {x y : Int} {r : List av_V} (C : av_Cx p R s m meth c a0 s0 D TY own nL cc ini h0 hf) (hd : decode cc pc = .ok (.lcmp, 1)) (k : av_W p l e R s m args below meth c Q s0 D TY kr sc nL h0 (pc + 1) lv (.inl (if av_wl y < av_wl x then 1 else if av_wl x = av_wl y then 0 else -1) :: r) h) : av_W p l e R s m args below meth c Q s0 D TY kr sc nL h0 pc lv (.inr (.inl y) :: .inr (.inl x) :: r) h := by
  intro H locs ls hR hl hL h1 h2
  have kk := k H locs ls hR hl hL h1 h2
  refine W.lcmp C.1 C.2.1 hd (lv_topi (fun v hv => ?_))
  have hv : v = Int32.ofInt (if av_wl y < av_wl x then 1 else if av_wl x = av_wl y then 0 else -1) := hv.trans (av_lcmp x y)
  subst hv
  exact kk
theorem av_s_i2l {x : Int} {r : List av_V} (C : av_Cx p R s m meth c a0 s0 D TY own nL cc ini h0 hf) (hd : decode cc pc = .ok (.i2l, 1)) (k : av_W p l e R s m args below meth c Q s0 D TY kr sc nL h0 (pc + 1) lv (.inr (.inl (av_w x)) :: r) h) : av_W p l e R s m args below meth c Q s0 D TY kr sc nL h0 pc lv (.inl x :: r) h :=
  fun H locs ls hR hl hL h1 h2 => lv_i2l C.1 C.2.1 hd (v := Int64.ofInt (av_w x)) (by rw [← av_w_eq, ← Int64.toInt_inj, Int32.toInt_toInt64, Int64.toInt_ofInt]; exact (Int.bmod_eq_of_le (by have := Int32.le_toInt (Int32.ofInt x); simp at this ⊢; omega) (by have := Int32.toInt_lt (Int32.ofInt x); simp at this ⊢; omega)).symm) (k H locs ls hR hl hL h1 h2)
theorem av_s_l2i {x : Int} {r : List av_V} (C : av_Cx p R s m meth c a0 s0 D TY own nL cc ini h0 hf) (hd : decode cc pc = .ok (.l2i, 1)) (k : av_W p l e R s m args below meth c Q s0 D TY kr sc nL h0 (pc + 1) lv (.inl x :: r) h) : av_W p l e R s m args below meth c Q s0 D TY kr sc nL h0 pc lv (.inr (.inl x) :: r) h :=
  fun H locs ls hR hl hL h1 h2 => lv_l2i C.1 C.2.1 hd (v := Int32.ofInt x) (by rw [← Int32.toInt_inj, Int64.toInt_toInt32, Int64.toInt_ofInt, Int32.toInt_ofInt]; exact Int.bmod_bmod_of_dvd ⟨4294967296, rfl⟩) (k H locs ls hR hl hL h1 h2)
theorem av_s_i2b {x : Int} {r : List av_V} (C : av_Cx p R s m meth c a0 s0 D TY own nL cc ini h0 hf) (hd : decode cc pc = .ok (.i2b, 1)) (k : av_W p l e R s m args below meth c Q s0 D TY kr sc nL h0 (pc + 1) lv (.inl (av_b x) :: r) h) : av_W p l e R s m args below meth c Q s0 D TY kr sc nL h0 pc lv (.inl x :: r) h :=
  fun H locs ls hR hl hL h1 h2 => lv_i2b C.1 C.2.1 hd (v := Int32.ofInt (av_b x)) (av_byte x).symm (k H locs ls hR hl hL h1 h2)
theorem av_s_dup {v : av_V} {r : List av_V} (C : av_Cx p R s m meth c a0 s0 D TY own nL cc ini h0 hf) (hd : decode cc pc = .ok (.dup, 1)) (hv : av_cat v = 1) (k : av_W p l e R s m args below meth c Q s0 D TY kr sc nL h0 (pc + 1) lv (v :: v :: r) h) : av_W p l e R s m args below meth c Q s0 D TY kr sc nL h0 pc lv (v :: r) h :=
  fun H locs ls hR hl hL h1 h2 => lv_dup C.1 C.2.1 hd (by rw [av_ev_cat]; exact hv) (k H locs ls hR hl hL h1 h2)
theorem av_s_pop {v : av_V} {r : List av_V} (C : av_Cx p R s m meth c a0 s0 D TY own nL cc ini h0 hf) (hd : decode cc pc = .ok (.pop, 1)) (hv : av_cat v = 1) (k : av_W p l e R s m args below meth c Q s0 D TY kr sc nL h0 (pc + 1) lv r h) : av_W p l e R s m args below meth c Q s0 D TY kr sc nL h0 pc lv (v :: r) h :=
  fun H locs ls hR hl hL h1 h2 => lv_pop C.1 C.2.1 hd (by rw [av_ev_cat]; exact hv) (k H locs ls hR hl hL h1 h2)
theorem av_s_dup2 {v u : av_V} {r : List av_V} (C : av_Cx p R s m meth c a0 s0 D TY own nL cc ini h0 hf) (hd : decode cc pc = .ok (.dup2, 1)) (hv : av_cat v = 1) (hu : av_cat u = 1) (k : av_W p l e R s m args below meth c Q s0 D TY kr sc nL h0 (pc + 1) lv (v :: u :: v :: u :: r) h) : av_W p l e R s m args below meth c Q s0 D TY kr sc nL h0 pc lv (v :: u :: r) h :=
  fun H locs ls hR hl hL h1 h2 => lv_dup2_11 C.1 C.2.1 hd (by rw [av_ev_cat]; exact hv) (by rw [av_ev_cat]; exact hu) (k H locs ls hR hl hL h1 h2)
theorem av_s_goto {off : Int} {t : Nat} (C : av_Cx p R s m meth c a0 s0 D TY own nL cc ini h0 hf) (hd : decode cc pc = .ok (.goto off, 3)) (ht : (pc : Int) + off = (t : Int)) (k : av_W p l e R s m args below meth c Q s0 D TY kr sc nL h0 t lv st h) : av_W p l e R s m args below meth c Q s0 D TY kr sc nL h0 pc lv st h :=
  fun H locs ls hR hl hL h1 h2 => lv_goto C.1 C.2.1 hd ht (k H locs ls hR hl hL h1 h2)
theorem av_s_icmp {cd : Jvm.ClassFile.Cond} {off : Int} {t : Nat} {x y : Int} {r : List av_V} (C : av_Cx p R s m meth c a0 s0 D TY own nL cc ini h0 hf) (hd : decode cc pc = .ok (.if_icmp cd off, 3)) (ht : (pc : Int) + off = (t : Int)) (k : av_W p l e R s m args below meth c Q s0 D TY kr sc nL h0 (if av_cmp cd (av_w x) (av_w y) = true then t else pc + 3) lv r h) : av_W p l e R s m args below meth c Q s0 D TY kr sc nL h0 pc lv (.inl y :: .inl x :: r) h := by
  intro H locs ls hR hl hL h1 h2
  cases cd with
  | eq =>
    refine lv_icmp_eq C.1 C.2.1 hd ht (fun q => ?_) (fun q => ?_)
    · have hc : av_cmp .eq (av_w x) (av_w y) = true := by simpa [av_cmp, av_eq, av_lt, av_le] using q
      rw [if_pos hc] at k
      exact k H locs ls hR hl hL h1 h2
    · have hc : ¬ av_cmp .eq (av_w x) (av_w y) = true := by simpa [av_cmp, av_eq, av_lt, av_le] using q
      rw [if_neg hc] at k
      exact k H locs ls hR hl hL h1 h2
  | ne =>
    refine lv_icmp_ne C.1 C.2.1 hd ht (fun q => ?_) (fun q => ?_)
    · have hc : av_cmp .ne (av_w x) (av_w y) = true := by simpa [av_cmp, av_eq, av_lt, av_le] using q
      rw [if_pos hc] at k
      exact k H locs ls hR hl hL h1 h2
    · have hc : ¬ av_cmp .ne (av_w x) (av_w y) = true := by simpa [av_cmp, av_eq, av_lt, av_le] using q
      rw [if_neg hc] at k
      exact k H locs ls hR hl hL h1 h2
  | lt =>
    refine lv_icmp_lt C.1 C.2.1 hd ht (fun q => ?_) (fun q => ?_)
    · have hc : av_cmp .lt (av_w x) (av_w y) = true := by simpa [av_cmp, av_eq, av_lt, av_le] using q
      rw [if_pos hc] at k
      exact k H locs ls hR hl hL h1 h2
    · have hc : ¬ av_cmp .lt (av_w x) (av_w y) = true := by simpa [av_cmp, av_eq, av_lt, av_le] using q
      rw [if_neg hc] at k
      exact k H locs ls hR hl hL h1 h2
  | ge =>
    refine lv_icmp_ge C.1 C.2.1 hd ht (fun q => ?_) (fun q => ?_)
    · have hc : av_cmp .ge (av_w x) (av_w y) = true := by simpa [av_cmp, av_eq, av_lt, av_le] using q
      rw [if_pos hc] at k
      exact k H locs ls hR hl hL h1 h2
    · have hc : ¬ av_cmp .ge (av_w x) (av_w y) = true := by simpa [av_cmp, av_eq, av_lt, av_le] using q
      rw [if_neg hc] at k
      exact k H locs ls hR hl hL h1 h2
  | gt =>
    refine lv_icmp_gt C.1 C.2.1 hd ht (fun q => ?_) (fun q => ?_)
    · have hc : av_cmp .gt (av_w x) (av_w y) = true := by simpa [av_cmp, av_eq, av_lt, av_le] using q
      rw [if_pos hc] at k
      exact k H locs ls hR hl hL h1 h2
    · have hc : ¬ av_cmp .gt (av_w x) (av_w y) = true := by simpa [av_cmp, av_eq, av_lt, av_le] using q
      rw [if_neg hc] at k
      exact k H locs ls hR hl hL h1 h2
  | le =>
    refine lv_icmp_le C.1 C.2.1 hd ht (fun q => ?_) (fun q => ?_)
    · have hc : av_cmp .le (av_w x) (av_w y) = true := by simpa [av_cmp, av_eq, av_lt, av_le] using q
      rw [if_pos hc] at k
      exact k H locs ls hR hl hL h1 h2
    · have hc : ¬ av_cmp .le (av_w x) (av_w y) = true := by simpa [av_cmp, av_eq, av_lt, av_le] using q
      rw [if_neg hc] at k
      exact k H locs ls hR hl hL h1 h2
theorem av_s_if {cd : Jvm.ClassFile.Cond} {off : Int} {t : Nat} {x : Int} {r : List av_V} (C : av_Cx p R s m meth c a0 s0 D TY own nL cc ini h0 hf) (hd : decode cc pc = .ok (.ifCond cd off, 3)) (ht : (pc : Int) + off = (t : Int)) (k : av_W p l e R s m args below meth c Q s0 D TY kr sc nL h0 (if av_cmp cd (av_w x) 0 = true then t else pc + 3) lv r h) : av_W p l e R s m args below meth c Q s0 D TY kr sc nL h0 pc lv (.inl x :: r) h := by
  intro H locs ls hR hl hL h1 h2
  have e0 : Int32.ofInt x = 0 ↔ av_w x = 0 := av_eq x 0
  have e1 : Int32.ofInt x < 0 ↔ av_w x < 0 := av_lt x 0
  have e2 : Int32.ofInt x ≤ 0 ↔ av_w x ≤ 0 := av_le x 0
  have e3 : (0 : Int32) < Int32.ofInt x ↔ 0 < av_w x := av_lt 0 x
  have e4 : (0 : Int32) ≤ Int32.ofInt x ↔ 0 ≤ av_w x := av_le 0 x
  cases cd with
  | eq =>
    refine lv_if_eq C.1 C.2.1 hd ht (fun q => ?_) (fun q => ?_)
    · have hc : av_cmp .eq (av_w x) 0 = true := by simpa [av_cmp, e0, e1, e2, e3, e4] using q
      rw [if_pos hc] at k
      exact k H locs ls hR hl hL h1 h2
    · have hc : ¬ av_cmp .eq (av_w x) 0 = true := by simpa [av_cmp, e0, e1, e2, e3, e4] using q
      rw [if_neg hc] at k
      exact k H locs ls hR hl hL h1 h2
  | ne =>
    refine lv_if_ne C.1 C.2.1 hd ht (fun q => ?_) (fun q => ?_)
    · have hc : av_cmp .ne (av_w x) 0 = true := by simpa [av_cmp, e0, e1, e2, e3, e4] using q
      rw [if_pos hc] at k
      exact k H locs ls hR hl hL h1 h2
    · have hc : ¬ av_cmp .ne (av_w x) 0 = true := by simpa [av_cmp, e0, e1, e2, e3, e4] using q
      rw [if_neg hc] at k
      exact k H locs ls hR hl hL h1 h2
  | lt =>
    refine lv_if_lt C.1 C.2.1 hd ht (fun q => ?_) (fun q => ?_)
    · have hc : av_cmp .lt (av_w x) 0 = true := by simpa [av_cmp, e0, e1, e2, e3, e4] using q
      rw [if_pos hc] at k
      exact k H locs ls hR hl hL h1 h2
    · have hc : ¬ av_cmp .lt (av_w x) 0 = true := by simpa [av_cmp, e0, e1, e2, e3, e4] using q
      rw [if_neg hc] at k
      exact k H locs ls hR hl hL h1 h2
  | ge =>
    refine lv_if_ge C.1 C.2.1 hd ht (fun q => ?_) (fun q => ?_)
    · have hc : av_cmp .ge (av_w x) 0 = true := by simpa [av_cmp, e0, e1, e2, e3, e4] using q
      rw [if_pos hc] at k
      exact k H locs ls hR hl hL h1 h2
    · have hc : ¬ av_cmp .ge (av_w x) 0 = true := by simpa [av_cmp, e0, e1, e2, e3, e4] using q
      rw [if_neg hc] at k
      exact k H locs ls hR hl hL h1 h2
  | gt =>
    refine lv_if_gt C.1 C.2.1 hd ht (fun q => ?_) (fun q => ?_)
    · have hc : av_cmp .gt (av_w x) 0 = true := by simpa [av_cmp, e0, e1, e2, e3, e4] using q
      rw [if_pos hc] at k
      exact k H locs ls hR hl hL h1 h2
    · have hc : ¬ av_cmp .gt (av_w x) 0 = true := by simpa [av_cmp, e0, e1, e2, e3, e4] using q
      rw [if_neg hc] at k
      exact k H locs ls hR hl hL h1 h2
  | le =>
    refine lv_if_le C.1 C.2.1 hd ht (fun q => ?_) (fun q => ?_)
    · have hc : av_cmp .le (av_w x) 0 = true := by simpa [av_cmp, e0, e1, e2, e3, e4] using q
      rw [if_pos hc] at k
      exact k H locs ls hR hl hL h1 h2
    · have hc : ¬ av_cmp .le (av_w x) 0 = true := by simpa [av_cmp, e0, e1, e2, e3, e4] using q
      rw [if_neg hc] at k
      exact k H locs ls hR hl hL h1 h2
theorem av_s_ifnull {off : Int} {t : Nat} {v : Option Nat} {r : List av_V} (C : av_Cx p R s m meth c a0 s0 D TY own nL cc ini h0 hf) (hd : decode cc pc = .ok (.ifnull off, 3)) (ht : (pc : Int) + off = (t : Int)) (k : av_W p l e R s m args below meth c Q s0 D TY kr sc nL h0 (match v with
      | none => t
      | some _ => pc + 3) lv r h) : av_W p l e R s m args below meth c Q s0 D TY kr sc nL h0 pc lv (.inr (.inr (.inl v)) :: r) h := by
  intro H locs ls hR hl hL h1 h2
  cases v with
  | none => exact lv_ifnullN C.1 C.2.1 hd ht (k H locs ls hR hl hL h1 h2)
  | some o => exact lv_ifnull C.1 C.2.1 hd (k H locs ls hR hl hL h1 h2)
theorem av_s_ifnonnull {off : Int} {t : Nat} {v : Option Nat} {r : List av_V} (C : av_Cx p R s m meth c a0 s0 D TY own nL cc ini h0 hf) (hd : decode cc pc = .ok (.ifnonnull off, 3)) (ht : (pc : Int) + off = (t : Int)) (k : av_W p l e R s m args below meth c Q s0 D TY kr sc nL h0 (match v with
      | none => pc + 3
      | some _ => t) lv r h) : av_W p l e R s m args below meth c Q s0 D TY kr sc nL h0 pc lv (.inr (.inr (.inl v)) :: r) h := by
  intro H locs ls hR hl hL h1 h2
  cases v with
  | none => exact lv_ifnonnullN C.1 C.2.1 hd (k H locs ls hR hl hL h1 h2)
  | some o => exact lv_ifnonnull C.1 C.2.1 hd ht (k H locs ls hR hl hL h1 h2)
theorem av_s_table {d lo hi : Int} {offs : Array Int} {len : Nat} {x : Int} {r : List av_V} (C : av_Cx p R s m meth c a0 s0 D TY own nL cc ini h0 hf) (hd : decode cc pc = .ok (.tableswitch d lo hi offs, len)) (h3 : 0 ≤ (pc : Int) + d) (h4 : ∀ q ∈ offs.toList, 0 ≤ (pc : Int) + q) (h5 : hi - lo < offs.toList.length) (k : av_W p l e R s m args below meth c Q s0 D TY kr sc nL h0 ((pc : Int) + (if av_w x < lo ∨ hi < av_w x then d else offs.toList.getD (av_w x - lo).toNat 0)).toNat lv r h) : av_W p l e R s m args below meth c Q s0 D TY kr sc nL h0 pc lv (.inl x :: r) h := by
  intro H locs ls hR hl hL h1 h2
  by_cases q : av_w x < lo ∨ hi < av_w x
  · rw [if_pos q] at k
    refine lv_tableOut C.1 C.2.1 hd (by rw [av_w_eq]; exact q) (tgt := ((pc : Int) + d).toNat) ?_ (k H locs ls hR hl hL h1 h2)
    omega
  · rw [if_neg q] at k
    have hi1 : (av_w x - lo).toNat < offs.toList.length := by omega
    have e1 : offs.toList.getD (av_w x - lo).toNat 0 = offs.toList[(av_w x - lo).toNat] := by
      rw [List.getD_eq_getElem?_getD, List.getElem?_eq_getElem hi1]; rfl
    have hm : offs.toList.getD (av_w x - lo).toNat 0 ∈ offs.toList := by rw [e1]; exact List.getElem_mem hi1
    refine lv_tableIn C.1 C.2.1 hd (by rw [av_w_eq]; omega) (by rw [av_w_eq]; omega) (off := offs.toList.getD (av_w x - lo).toNat 0) ?_ (tgt := ((pc : Int) + offs.toList.getD (av_w x - lo).toNat 0).toNat) ?_ (k H locs ls hR hl hL h1 h2)
    · rw [av_w_eq, ← Array.getElem?_toList, List.getElem?_eq_getElem hi1, e1]
    · have := h4 _ hm
      omega
theorem av_s_lookup {d : Int} {ps : Array (Int × Int)} {len : Nat} {x : Int} {r : List av_V} (C : av_Cx p R s m meth c a0 s0 D TY own nL cc ini h0 hf) (hd : decode cc pc = .ok (.lookupswitch d ps, len)) (h3 : (ps.toList.zip (ps.toList.drop 1)).all (fun (a, next) => a.1 < next.1) = true) (h4 : 0 ≤ (pc : Int) + Op.lookupswitch.offset ps.toList d (av_w x)) (k : av_W p l e R s m args below meth c Q s0 D TY kr sc nL h0 ((pc : Int) + Op.lookupswitch.offset ps.toList d (av_w x)).toNat lv r h) : av_W p l e R s m args below meth c Q s0 D TY kr sc nL h0 pc lv (.inl x :: r) h :=
  fun H locs ls hR hl hL h1 h2 => lv_lookup C.1 C.2.1 hd h3 (by rw [av_w_eq]) (tgt := ((pc : Int) + Op.lookupswitch.offset ps.toList d (av_w x)).toNat) (by omega) (k H locs ls hR hl hL h1 h2)
end AVA
end
section
/-! ONE STEP: fields and arrays -/
section AVH
variable {p : Program} {l : Launch} {e : Env} {R : Room} {s : State} {m : MethodId} {args : Array Value} {below : List Frame} {meth : Method} {c : Code} {Q : State → Prop}
variable {a0 : Array Value} {s0 : State} {D : va_G} {TY : Nat → ClassId} {kr : Nat → Nat} {sc : av_Sr} {own nL : Nat} {cc : ByteArray} {ini : Bool} {h0 hf h h' : av_H} {pc pc' : Nat} {lv lv' : av_L} {st st' : List av_V}

theorem av_at_eq {z : Nat} {k : Nat} {H H' : Heap} (hk : av_at z D TY h k H) (hH : H'[z + k]? = H[z + k]?) (hlay : h'.2.2.1 k = h.2.2.1 k) (hA : h'.2.2.2.1 k = h.2.2.2.1 k) (hI : h'.2.2.2.2.1 k = h.2.2.2.2.1 k) (hG : h'.2.2.2.2.2.1 k = h.2.2.2.2.2.1 k) (hRr : h'.2.2.2.2.2.2.1 k = h.2.2.2.2.2.2.1 k) : av_at z D TY h' k H' := by
  unfold av_at at hk ⊢
  rw [hlay]
  by_cases c1 : (h.2.2.1 k).1 < 9
  · rw [if_pos c1] at hk ⊢
    refine (hk.kept hH).to (fun j _ => ?_)
    unfold av_fv
    rw [hI, hG]
  · rw [if_neg c1] at hk ⊢
    by_cases c2 : (h.2.2.1 k).1 < 30
    · rw [if_pos c2] at hk ⊢
      rw [hH, hA]
      exact hk
    · rw [if_neg c2] at hk ⊢
      rw [hH, hRr]
      exact hk
/-- one cell of the small heap has changed -/
theorem av_R_upd {H H' : Heap} {o : Nat} (hR : av_R s0 D TY sc h H) (hz : H'.size = H.size) (hoth : ∀ q : Nat, q ≠ s0.heap.size + o → H'[q]? = H[q]?) (hn : h'.1 = h.1) (hlay : h'.2.2.1 = h.2.2.1) (hsc : h'.2.2.2.2.2.2.2 = h.2.2.2.2.2.2.2)
    (hsame : ∀ k, k ≠ o → h'.2.2.2.1 k = h.2.2.2.1 k ∧ h'.2.2.2.2.1 k = h.2.2.2.2.1 k ∧ h'.2.2.2.2.2.1 k = h.2.2.2.2.2.1 k ∧ h'.2.2.2.2.2.2.1 k = h.2.2.2.2.2.2.1 k) (hc : av_at s0.heap.size D TY h' o H') : av_R s0 D TY sc h' H' := by
  obtain ⟨r1, r2, r3, r4⟩ := hR
  refine ⟨by rw [hz, r1, hn], fun q hq => (hoth q (by omega)).trans (r2 q hq), trivial, fun k hk => ?_⟩
  by_cases e : k = o
  · subst e
    exact hc
  · obtain ⟨q1, q2, q3, q4⟩ := hsame k e
    exact av_at_eq (r4 k (by rw [← hn]; exact hk)) (hoth _ (by omega)) (by rw [hlay]) q1 q2 q3 q4
/-- a cell has come behind -/
theorem av_R_new {H H' : Heap} (hR : av_R s0 D TY sc h H) (hz : H'.size = H.size + 1) (hoth : ∀ q : Nat, q < H.size → H'[q]? = H[q]?) (hn : h'.1 = h.1 + 1) (hsc : h'.2.2.2.2.2.2.2 = h.2.2.2.2.2.2.2)
    (hsame : ∀ k, k ≠ h.1 → h'.2.2.1 k = h.2.2.1 k ∧ h'.2.2.2.1 k = h.2.2.2.1 k ∧ h'.2.2.2.2.1 k = h.2.2.2.2.1 k ∧ h'.2.2.2.2.2.1 k = h.2.2.2.2.2.1 k ∧ h'.2.2.2.2.2.2.1 k = h.2.2.2.2.2.2.1 k) (hc : av_at s0.heap.size D TY h' h.1 H') : av_R s0 D TY sc h' H' := by
  obtain ⟨r1, r2, r3, r4⟩ := hR
  refine ⟨by rw [hz, r1, hn]; omega, fun q hq => (hoth q (by omega)).trans (r2 q hq), trivial, fun k hk => ?_⟩
  by_cases e : k = h.1
  · subst e
    exact hc
  · obtain ⟨q0, q1, q2, q3, q4⟩ := hsame k e
    exact av_at_eq (r4 k (by omega)) (hoth _ (by omega)) q0 q1 q2 q3 q4
theorem av_wd {w : Cond} (C : av_Cx p R s m meth c a0 s0 D TY own nL cc ini h0 hf) (hw : w ∈ lw_tbl) (hg : (w.onTables && w.keeps) = true) : w.before args s = true := word_at C.2.2.2.2.1 (Or.inl hg) (C.2.2.2.2.2.1.1 w hw)
theorem av_wdA {ty : FieldType} (C : av_Cx p R s m meth c a0 s0 D TY own nL cc ini h0 hf) (hw : Cond.arrayClass ty ∈ lw_tbl) : (Cond.arrayClass ty).before args s = true := word_at C.2.2.2.2.1 (Or.inr ⟨ty, rfl⟩) (C.2.2.2.2.2.1.1 _ hw)
theorem av_wdF {b n d host : String} {a : String} {i : Nat} (C : av_Cx p R s m meth c a0 s0 D TY own nL cc ini h0 hf) (hw : Cond.fieldLinkNest a i b n d host ∈ lw_tbl) : (Cond.fieldLinkNest a i b n d host).before args s = true := va_Nw.use rfl (va_Nw.warmF C.2.2.2.2.1 (va_Nw.of rfl (C.2.2.2.2.2.1.1 _ hw)))
theorem av_wdM {a host : String} {i : Nat} {x : MethodName} (C : av_Cx p R s m meth c a0 s0 D TY own nL cc ini h0 hf) (hw : Cond.methodLinkNest a i x host ∈ lw_tbl) : va_Nw (.methodLinkNest a i x host) s := va_Nw.warmM C.2.2.2.2.1 (va_Nw.of rfl (C.2.2.2.2.2.1.1 _ hw))
theorem av_kn {ci : Nat} (C : av_Cx p R s m meth c a0 s0 D TY own nL cc ini h0 hf) (hci : ci < 9) : u_Kn s (av_cn ci) (av_T ci) (av_N ci) (D.1 ci) (D.2 ci) := u_Kn_moved C.2.2.2.2.1.alike (C.2.2.2.2.2.1.2.1 ci hci)
theorem av_ka {k : Nat} (C : av_Cx p R s m meth c a0 s0 D TY own nL cc ini h0 hf) (hk : k ∈ [20, 21, 22, 30, 31, 32]) : ArrOfT s (TY k) (av_ft k) ∧ va_RA s (TY k) (av_ft k) := ⟨arrOfT_moved C.2.2.2.2.1.alike (C.2.2.2.2.2.1.2.2 k hk).1, (C.2.2.2.2.2.1.2.2 k hk).2.moved C.2.2.2.2.1.alike⟩
theorem av_hts {ci : Nat} (C : av_Cx p R s m meth c a0 s0 D TY own nL cc ini h0 hf) (hci : ci < 9) : ∀ w ∈ u_ws (av_cn ci) (av_T ci) (av_N ci), w.before args s = true := by
  intro w hw
  refine av_wd C (av_lay ci hci w hw) ?_
  obtain ⟨k, -, rfl⟩ := List.mem_map.mp hw
  unfold u_lay
  split <;> rfl
/-- how a field is named at a place: by the tables' word, or by the nest's -/
def av_FL (own idx ci k : Nat) : Prop := Cond.fieldLink (av_cn own) idx (av_T ci k).1 (av_T ci k).2.1 (av_T ci k).2.2.1 ∈ lw_tbl ∨ ∃ host, Cond.fieldLinkNest (av_cn own) idx (av_T ci k).1 (av_T ci k).2.1 (av_T ci k).2.2.1 host ∈ lw_tbl
theorem av_s_getf {x : av_E} {idx : Nat} (C : av_Cx p R s m meth c a0 s0 D TY own nL cc ini h0 hf) (hd : decode cc pc = .ok (.getfield idx, 3)) (hci : x.2.2.1 < 9) (hk : x.2.2.2.1 < av_N x.2.2.1) (ht : x.2.2.2.2.1 = av_tg (av_ty x.2.2.1 x.2.2.2.1)) (hlk : av_FL own idx x.2.2.1 x.2.2.2.1)
    (hs : av_getf x pc lv st h = some (pc', lv', st', h')) (k : av_W p l e R s m args below meth c Q s0 D TY kr sc nL h0 pc' lv' st' h') : av_W p l e R s m args below meth c Q s0 D TY kr sc nL h0 pc lv st h := by
  intro H locs ls hR hl hL h1 h2
  unfold av_getf at hs
  split at hs
  · next o r =>
    split at hs
    · next hc =>
      cases hs
      have kk := k H locs ls hR hl hL h1 h2
      have hat := hR.2.2.2 o hc.1
      unfold av_at at hat
      rw [if_pos (by rw [hc.2]; exact hci), hc.2] at hat
      obtain ⟨cell, q1, q2, q3, q4⟩ := hat
      have hK := av_kn C hci
      obtain ⟨hS, hfc, kC, hkC, hkind⟩ := hK
      obtain ⟨cf, kf, fi, f, hi, hsl⟩ := hS _ hk
      have hst := (u_facts hfc hkC (u_lays (args := args) (av_hts C hci) (fun w hw => hw) hk) hi).1
      have hv : cell.slots[f.slot]? = some (av_ev s0.heap.size kr (match x.2.2.2.2.1 with
        | 1 => .inr (.inl (h.2.2.2.2.1 o x.2.2.2.1))
        | 2 => .inr (.inr (.inl (h.2.2.2.2.2.1 o x.2.2.2.1)))
        | _ => .inl (h.2.2.2.2.1 o x.2.2.2.1))) := by
        rw [hsl, q4 _ hk]
        unfold av_fv
        dsimp only
        rw [← ht]
        generalize x.2.2.2.2.1 = tg
        rcases tg with _ | _ | _ | tg <;> rfl
      rcases hlk with hlk | ⟨host, hlk⟩
      · exact W.getf C.1 C.2.1 C.2.2.2.1 (av_wd C hlk rfl) hi hst q1 (by rw [q3]; exact fun q => by cases q) hv rfl rfl hd kk
      · exact va_Wgetf C.1 C.2.1 C.2.2.2.1 (av_wdF C hlk) hi hst q1 (by rw [q3]; exact fun q => by cases q) hv rfl rfl hd kk
    · cases hs
  · cases hs
theorem av_apart {ci : Nat} (C : av_Cx p R s m meth c a0 s0 D TY own nL cc ini h0 hf) (hci : ci < 9) : ∀ x y, x < av_N ci → y < av_N ci → x ≠ y → (D.2 ci) x ≠ (D.2 ci) y := by
  intro x y hx hy hne
  obtain ⟨hS, -⟩ := av_kn C hci
  obtain ⟨_, _, _, fa, hia, ea⟩ := hS x hx
  obtain ⟨_, _, _, fb, hib, eb⟩ := hS y hy
  rw [← ea, ← eb]
  refine u_apart (args := #[]) (u_lays (args := #[]) (av_hts C hci) (fun w hw => hw) hx) (u_lays (args := #[]) (av_hts C hci) (fun w hw => hw) hy) hia hib ?_
  rw [(State.fieldFound?_type hia (av_tyok ci hci x hx)).1, (State.fieldFound?_type hib (av_tyok ci hci y hy)).1]
  exact av_nm ci hci x hx y hy hne
/-- a store into a field: the cell, as the kit's rows give it -/
theorem av_put {idx ci k o : Nat} {v : Value} {rest : List Value} {H : Heap} {locs : List Loc} {cells slots : Nat} {ls : Array Slot} (C : av_Cx p R s m meth c a0 s0 D TY own nL cc ini h0 hf) (hd : decode cc pc = .ok (.putfield idx, 3)) (hci : ci < 9) (hk : k < av_N ci) (hlk : av_FL own idx ci k) (hfi : (av_T ci k).2.2.2 = false ∨ (own = ci ∧ (av_T ci k).1 = av_cn ci ∧ ini = true ∧ Cond.fieldLink (av_cn own) idx (av_T ci k).1 (av_T ci k).2.1 (av_T ci k).2.2.1 ∈ lw_tbl))
    (hn : narrow (av_ty ci k) v = v) (hfit : fits (av_ty ci k) v = true) (ho : o < h.1 ∧ (h.2.2.1 o).1 = ci) (hR : av_R s0 D TY sc h H)
    (kk : ∀ (H1 : Heap) (lc : Loc), H1.size = H.size → (∀ q : Nat, q ≠ s0.heap.size + o → H1[q]? = H[q]?) → t_OB (s0.heap.size + o) (D.1 ci) (av_N ci) (D.2 ci) H1 (updV (fun j => av_fv s0.heap.size h (av_ty ci j) o j) k v) → lc.base = s0.heap.size + o → W p l e R s m args below meth c H1 (locs ++ [lc]) cells slots Q (F0 m (pc + 3) ls rest)) : W p l e R s m args below meth c H locs cells slots Q (F0 m pc ls (v :: .ref (s0.heap.size + o) :: rest)) := by
  have hap := av_apart C hci
  have hat := hR.2.2.2 o ho.1
  unfold av_at at hat
  rw [if_pos (by rw [ho.2]; exact hci), ho.2] at hat
  obtain ⟨cell, q1, q2, q3, q4⟩ := hat
  have hK := av_kn C hci
  obtain ⟨hS, hfc, kC, hkC, hkind⟩ := hK
  obtain ⟨cf, kf, fi, f, hi, hsl⟩ := hS _ hk
  have hts := av_hts (args := args) C hci
  have hst := (u_facts hfc hkC (u_lays hts (fun w hw => hw) hk) hi).1
  have hlay := hts _ (u_in_lay hk)
  have hty := av_tyok ci hci k hk
  have fin : ∀ (H' : Heap), H'[s0.heap.size + o]? = some (cell.setSlot f.slot v) → t_OB (s0.heap.size + o) (D.1 ci) (av_N ci) (D.2 ci) H' (updV (fun j => av_fv s0.heap.size h (av_ty ci j) o j) k v) := by
    intro H' e1
    rw [hsl] at e1
    exact ⟨_, e1, q2, q3, t_set q4 hap hk v⟩
  rcases hfi with hfi | ⟨hoc, hdl, hin, hlf⟩
  · unfold u_lay at hlay
    rw [if_neg (by rw [hfi]; decide)] at hlay
    have h6 := u_store hfc hkC hkind hlay hi hty hn hfit
    rcases hlk with hlk | ⟨host, hlk⟩
    · exact W.putK C.1 C.2.1 (f := f) ⟨C.2.2.2.1, av_wd C hlk rfl, ⟨_, _, _, hi⟩, hst⟩ (by rw [q2]; exact h6) q1 q3 (by rw [hsl]; exact k2_hasslot (q4 k hk)) rfl rfl hd fun H' e1 e2 e3 => kk H' _ e2 e3 (fin H' e1) rfl
    · exact va_WputK C.1 C.2.1 (f := f) C.2.2.2.1 (av_wdF C hlk) hi hst (by rw [q2]; exact h6) q1 q3 (by rw [hsl]; exact k2_hasslot (q4 k hk)) rfl rfl hd fun H' e1 e2 e3 => kk H' _ e2 e3 (fin H' e1) rfl
  · by_cases hfi : (av_T ci k).2.2.2 = true
    · unfold u_lay at hlay
      rw [if_pos hfi] at hlay
      have hcf : m.cls = cf := by
        obtain ⟨_, _, c', _, _, _, -, -, hf', -, -, -, hown2, -⟩ := Cond.laysFinal_spec hlay
        have e1 : c' = cf := by have := hi.symm.trans hf'; simp at this; exact this.1.symm
        rw [hdl, ← hoc] at hown2
        rw [← e1]
        exact Option.some.inj (C.2.2.2.1.symm.trans hown2)
      have h6 := u_fits hfc hkC hkind (Or.inr hlay) hi hty hn hfit
      exact W.putFinK C.1 C.2.1 C.2.2.2.1 (av_wd C hlf rfl) hi hst hcf (C.2.2.2.2.2.2.1 hin) (by rw [q2]; exact h6) q1 q3 (by rw [hsl]; exact k2_hasslot (q4 k hk)) rfl rfl hd fun H' e1 e2 e3 => kk H' _ e2 e3 (fin H' e1) rfl
    · unfold u_lay at hlay
      rw [if_neg hfi] at hlay
      have h6 := u_store hfc hkC hkind hlay hi hty hn hfit
      exact W.putK C.1 C.2.1 (f := f) ⟨C.2.2.2.1, av_wd C hlf rfl, ⟨_, _, _, hi⟩, hst⟩ (by rw [q2]; exact h6) q1 q3 (by rw [hsl]; exact k2_hasslot (q4 k hk)) rfl rfl hd fun H' e1 e2 e3 => kk H' _ e2 e3 (fin H' e1) rfl
end AVH
end
section
/-! ONE STEP: stores -/
section AVP
variable {p : Program} {l : Launch} {e : Env} {R : Room} {s : State} {m : MethodId} {args : Array Value} {below : List Frame} {meth : Method} {c : Code} {Q : State → Prop}
variable {a0 : Array Value} {s0 : State} {D : va_G} {TY : Nat → ClassId} {kr : Nat → Nat} {sc : av_Sr} {own nL : Nat} {cc : ByteArray} {ini : Bool} {h0 hf h h' : av_H} {pc pc' : Nat} {lv lv' : av_L} {st st' : List av_V}

theorem av_u2_ne {α : Type} {f : Nat → Nat → α} {i j a : Nat} {v : α} (h : a ≠ i) : av_u2 f i j v a = f a := by
  funext b
  simp [av_u2, h]
theorem av_u2_self {α : Type} {f : Nat → Nat → α} {i j : Nat} {v : α} : av_u2 f i j v i j = v := by simp [av_u2]
theorem av_u2_oth {α : Type} {f : Nat → Nat → α} {i j b : Nat} {v : α} (h : b ≠ j) : av_u2 f i j v i b = f i b := by simp [av_u2, h]
theorem av_u1_ne {α : Type} {f : Nat → α} {i a : Nat} {v : α} (h : a ≠ i) : av_u1 f i v a = f a := by simp [av_u1, h]
theorem av_u1_self {α : Type} {f : Nat → α} {i : Nat} {v : α} : av_u1 f i v i = v := by simp [av_u1]
theorem av_locs {locs : List Loc} {lc : Loc} {z o : Nat} (hl : ∀ q ∈ locs, z ≤ q.base) (hb : lc.base = z + o) : ∀ q ∈ locs ++ [lc], z ≤ q.base := by
  intro q hq
  rcases List.mem_append.mp hq with hq | hq
  · exact hl q hq
  · rw [List.mem_singleton.mp hq, hb]
    omega
theorem av_tg1 {ty : FieldType} (h : av_tg ty = 1) : ty = .long := by cases ty <;> first | rfl | cases h
theorem av_tg3 {ty : FieldType} (h : av_tg ty = 3) : ty = .boolean := by cases ty <;> first | rfl | cases h
theorem av_tg2 {ty : FieldType} (h : av_tg ty = 2) (v : Option Nat) : narrow ty (va_rf v) = va_rf v ∧ fits ty (va_rf v) = true := by
  cases ty <;> first | (cases v <;> exact ⟨rfl, rfl⟩) | cases h
theorem av_bool {x : Int} (h : x = 0 ∨ x = 1) : narrow .boolean (.int (Int32.ofInt x)) = .int (Int32.ofInt x) ∧ fits .boolean (.int (Int32.ofInt x)) = true := by
  rcases h with rfl | rfl
  · exact ⟨by decide, by decide⟩
  · exact ⟨by decide, by decide⟩
/-- the object's cell behind a store into its number field k -/
theorem av_at_putI {H1 : Heap} {z o ci k : Nat} {x : Int} (hci : ci < 9) (ho : (h.2.2.1 o).1 = ci) (hv : av_tg (av_ty ci k) ≠ 2) (hob : t_OB (z + o) (D.1 ci) (av_N ci) (D.2 ci) H1 (updV (fun j => av_fv z h (av_ty ci j) o j) k (match av_tg (av_ty ci k) with
    | 1 => .long (Int64.ofInt x)
    | _ => .int (Int32.ofInt x)))) : av_at z D TY (h.1, h.2.1, h.2.2.1, h.2.2.2.1, av_u2 h.2.2.2.2.1 o k x, h.2.2.2.2.2) o H1 := by
  unfold av_at
  dsimp only
  rw [if_pos (by rw [ho]; exact hci), ho]
  refine hob.to (fun j _ => ?_)
  by_cases e : j = k
  · subst e
    simp only [updV, if_pos]
    unfold av_fv
    simp only [av_u2_self]
    generalize av_tg (av_ty ci j) = tg at hv
    rcases tg with _ | _ | _ | tg
    · rfl
    · rfl
    · exact absurd rfl hv
    · rfl
  · simp only [updV, if_neg e]
    unfold av_fv
    simp only [av_u2_oth e]
theorem av_at_putG {H1 : Heap} {z o ci k : Nat} {v : Option Nat} (hci : ci < 9) (ho : (h.2.2.1 o).1 = ci) (hv : av_tg (av_ty ci k) = 2) (hob : t_OB (z + o) (D.1 ci) (av_N ci) (D.2 ci) H1 (updV (fun j => av_fv z h (av_ty ci j) o j) k (va_rf (v.map (fun q => z + q))))) : av_at z D TY (h.1, h.2.1, h.2.2.1, h.2.2.2.1, h.2.2.2.2.1, av_u2 h.2.2.2.2.2.1 o k v, h.2.2.2.2.2.2) o H1 := by
  unfold av_at
  dsimp only
  rw [if_pos (by rw [ho]; exact hci), ho]
  refine hob.to (fun j _ => ?_)
  by_cases e : j = k
  · subst e
    simp only [updV, if_pos]
    unfold av_fv
    simp only [av_u2_self, hv]
  · simp only [updV, if_neg e]
    unfold av_fv
    simp only [av_u2_oth e]
theorem av_s_putf {x : av_E} {idx : Nat} (C : av_Cx p R s m meth c a0 s0 D TY own nL cc ini h0 hf) (hd : decode cc pc = .ok (.putfield idx, 3)) (hci : x.2.2.1 < 9) (hk : x.2.2.2.1 < av_N x.2.2.1) (ht : x.2.2.2.2.1 = av_tg (av_ty x.2.2.1 x.2.2.2.1)) (ht0 : x.2.2.2.2.1 = 0 → av_ty x.2.2.1 x.2.2.2.1 = .int) (hlk : av_FL own idx x.2.2.1 x.2.2.2.1)
    (hfi : (av_T x.2.2.1 x.2.2.2.1).2.2.2 = false ∨ (own = x.2.2.1 ∧ (av_T x.2.2.1 x.2.2.2.1).1 = av_cn x.2.2.1 ∧ ini = true ∧ Cond.fieldLink (av_cn own) idx (av_T x.2.2.1 x.2.2.2.1).1 (av_T x.2.2.1 x.2.2.2.1).2.1 (av_T x.2.2.1 x.2.2.2.1).2.2.1 ∈ lw_tbl))
    (hs : av_putf x pc lv st h = some (pc', lv', st', h')) (k : av_W p l e R s m args below meth c Q s0 D TY kr sc nL h0 pc' lv' st' h') : av_W p l e R s m args below meth c Q s0 D TY kr sc nL h0 pc lv st h := by
  intro H locs ls hR hl hL h1 h2
  unfold av_putf at hs
  split at hs
  · next tg st9 v o r et =>
    split at hs
    · next hc =>
      cases hs
      have ety := ht0 et
      refine av_put C hd hci hk hlk hfi (by rw [ety]; rfl) (by rw [ety]; rfl) hc hR (fun H1 lc e1 e2 e3 e4 => ?_)
      refine k H1 (locs ++ [lc]) ls (av_R_upd hR e1 e2 rfl rfl rfl (fun k hk => ⟨rfl, av_u2_ne hk, rfl, rfl⟩) (av_at_putI hci hc.2 (by rw [← ht, et]; decide) ?_)) (av_locs hl e4) hL h1 h2
      rw [← ht, et]
      exact e3
    · cases hs
  · next tg st9 v o r et =>
    split at hs
    · next hc =>
      cases hs
      have ety := av_tg1 (ht.symm.trans et)
      refine av_put C hd hci hk hlk hfi (by rw [ety]; rfl) (by rw [ety]; rfl) hc hR (fun H1 lc e1 e2 e3 e4 => ?_)
      refine k H1 (locs ++ [lc]) ls (av_R_upd hR e1 e2 rfl rfl rfl (fun k hk => ⟨rfl, av_u2_ne hk, rfl, rfl⟩) (av_at_putI hci hc.2 (by rw [← ht, et]; decide) ?_)) (av_locs hl e4) hL h1 h2
      rw [← ht, et]
      exact e3
    · cases hs
  · next tg st9 v o r et =>
    split at hs
    · next hc =>
      cases hs
      have ety := av_tg2 (ht.symm.trans et)
      refine av_put C hd hci hk hlk hfi (ety _).1 (ety _).2 hc hR (fun H1 lc e1 e2 e3 e4 => ?_)
      exact k H1 (locs ++ [lc]) ls (av_R_upd hR e1 e2 rfl rfl rfl (fun k hk => ⟨rfl, rfl, av_u2_ne hk, rfl⟩) (av_at_putG hci hc.2 (ht.symm.trans et) e3)) (av_locs hl e4) hL h1 h2
    · cases hs
  · next tg st9 v o r et =>
    split at hs
    · next hc =>
      cases hs
      have ety := av_tg3 (ht.symm.trans et)
      refine av_put C hd hci hk hlk hfi (by rw [ety]; exact (av_bool hc.2).1) (by rw [ety]; exact (av_bool hc.2).2) hc.1 hR (fun H1 lc e1 e2 e3 e4 => ?_)
      refine k H1 (locs ++ [lc]) ls (av_R_upd hR e1 e2 rfl rfl rfl (fun k hk => ⟨rfl, av_u2_ne hk, rfl, rfl⟩) (av_at_putI hci hc.1.2 (by rw [← ht, et]; decide) ?_)) (av_locs hl e4) hL h1 h2
      rw [← ht, et]
      exact e3
    · cases hs
  · cases hs
/-- an array's cell -/
theorem av_arrN {H : Heap} {o k : Nat} (hR : av_R s0 D TY sc h H) (ho : o < h.1) (hk : (h.2.2.1 o).1 = k) (h9 : 9 ≤ k) (h30 : k < 30) : H[s0.heap.size + o]? = some (arrV (TY k) (h.2.2.1 o).2 (fun j => .int (Int32.ofInt (h.2.2.2.1 o j)))) := by
  have hat := hR.2.2.2 o ho
  unfold av_at at hat
  rw [if_neg (by omega), if_pos (by omega), hk] at hat
  exact hat
theorem av_arrR {H : Heap} {o k : Nat} (hR : av_R s0 D TY sc h H) (ho : o < h.1) (hk : (h.2.2.1 o).1 = k) (h30 : 30 ≤ k) : H[s0.heap.size + o]? = some (arrV (TY k) (h.2.2.1 o).2 (fun j => va_rf ((h.2.2.2.2.2.2.1 o j).map (fun q => s0.heap.size + q)))) := by
  have hat := hR.2.2.2 o ho
  unfold av_at at hat
  rw [if_neg (by omega), if_neg (by omega), hk] at hat
  exact hat
theorem av_at_setA {H1 : Heap} {z o i : Nat} {x : Int} {k : Nat} (hk : (h.2.2.1 o).1 = k) (h9 : 9 ≤ k) (h30 : k < 30) (hc : H1[z + o]? = some ((arrV (TY k) (h.2.2.1 o).2 (fun j => .int (Int32.ofInt (h.2.2.2.1 o j)))).setSlot i (.int (Int32.ofInt x)))) : av_at z D TY (h.1, h.2.1, h.2.2.1, av_u2 h.2.2.2.1 o i x, h.2.2.2.2) o H1 := by
  unfold av_at
  dsimp only
  rw [if_neg (by omega), if_pos (by omega), hc, arrV_store, hk]
  congr 2
  funext j
  by_cases e : j = i
  · subst e
    simp [updV, av_u2_self]
  · simp [updV, e, av_u2_oth e]
theorem av_at_setR {H1 : Heap} {z o i : Nat} {v : Option Nat} {k : Nat} (hk : (h.2.2.1 o).1 = k) (h30 : 30 ≤ k) (hc : H1[z + o]? = some ((arrV (TY k) (h.2.2.1 o).2 (fun j => va_rf ((h.2.2.2.2.2.2.1 o j).map (fun q => z + q)))).setSlot i (va_rf (v.map (fun q => z + q))))) : av_at z D TY (h.1, h.2.1, h.2.2.1, h.2.2.2.1, h.2.2.2.2.1, h.2.2.2.2.2.1, av_u2 h.2.2.2.2.2.2.1 o i v, h.2.2.2.2.2.2.2) o H1 := by
  unfold av_at
  dsimp only
  rw [if_neg (by omega), if_neg (by omega), hc, arrV_store, hk]
  congr 2
  funext j
  by_cases e : j = i
  · subst e
    simp [updV, av_u2_self]
  · simp [updV, e, av_u2_oth e]
theorem av_s_iast (C : av_Cx p R s m meth c a0 s0 D TY own nL cc ini h0 hf) (hd : decode cc pc = .ok (.iastore, 1)) (hs : av_iast pc lv st h = some (pc', lv', st', h')) (k : av_W p l e R s m args below meth c Q s0 D TY kr sc nL h0 pc' lv' st' h') : av_W p l e R s m args below meth c Q s0 D TY kr sc nL h0 pc lv st h := by
  intro H locs ls hR hl hL h1 h2
  unfold av_iast at hs
  split at hs
  · next x i o r =>
    split at hs
    · next hc =>
      cases hs
      obtain ⟨hin, hlt⟩ := av_inP hc.2
      have hcell := av_arrN hR hc.1.1 hc.1.2 (by omega) (by omega)
      refine W.iast C.1 C.2.1 hcell ((av_ka C (k := 20) (by decide)).1 _ _) (fun q => by cases q) (by rw [arrV_size]; exact hin) rfl rfl hd (fun H' e1 e2 e3 => ?_)
      rw [av_nat] at e1 ⊢
      exact k H' _ ls (av_R_upd hR e2 e3 rfl rfl rfl (fun k hk => ⟨av_u2_ne hk, rfl, rfl, rfl⟩) (av_at_setA hc.1.2 (by omega) (by omega) e1)) (av_locs hl rfl) hL h1 h2
    · cases hs
  · cases hs
theorem av_s_bast (C : av_Cx p R s m meth c a0 s0 D TY own nL cc ini h0 hf) (hd : decode cc pc = .ok (.bastore, 1)) (hs : av_bast pc lv st h = some (pc', lv', st', h')) (k : av_W p l e R s m args below meth c Q s0 D TY kr sc nL h0 pc' lv' st' h') : av_W p l e R s m args below meth c Q s0 D TY kr sc nL h0 pc lv st h := by
  intro H locs ls hR hl hL h1 h2
  unfold av_bast at hs
  split at hs
  · next x i o r =>
    split at hs
    · next hc =>
      cases hs
      obtain ⟨hin, hlt⟩ := av_inP hc.2
      have hcell := av_arrN hR hc.1.1 hc.1.2 (by omega) (by omega)
      refine W.bast C.1 C.2.1 hcell ((av_ka C (k := 21) (by decide)).1 _ _) (fun q => by cases q) (by rw [arrV_size]; exact hin) rfl rfl hd (fun H' e1 e2 e3 => ?_)
      have e1 : H'[s0.heap.size + o]? = some ((arrV (TY 21) (h.2.2.1 o).2 (fun j => .int (Int32.ofInt (h.2.2.2.1 o j)))).setSlot (av_w i).toNat (.int (Int32.ofInt (av_b x)))) := by
        rw [e1, av_nat, av_byte]
        rfl
      rw [av_nat]
      exact k H' _ ls (av_R_upd hR e2 e3 rfl rfl rfl (fun k hk => ⟨av_u2_ne hk, rfl, rfl, rfl⟩) (av_at_setA hc.1.2 (by omega) (by omega) e1)) (av_locs hl rfl) hL h1 h2
    · split at hs
      · next hc =>
        cases hs
        obtain ⟨hin, hlt⟩ := av_inP hc.2.1
        have hcell := av_arrN hR hc.1.1 hc.1.2 (by omega) (by omega)
        refine W.zast C.1 C.2.1 hcell ((av_ka C (k := 22) (by decide)).1 _ _) (fun q => by cases q) (by rw [arrV_size]; exact hin) rfl rfl hd (fun H' e1 e2 e3 => ?_)
        have e1 : H'[s0.heap.size + o]? = some ((arrV (TY 22) (h.2.2.1 o).2 (fun j => .int (Int32.ofInt (h.2.2.2.1 o j)))).setSlot (av_w i).toNat (.int (Int32.ofInt x))) := by
          rw [e1, av_nat]
          rcases hc.2.2 with rfl | rfl <;> rfl
        rw [av_nat]
        exact k H' _ ls (av_R_upd hR e2 e3 rfl rfl rfl (fun k hk => ⟨av_u2_ne hk, rfl, rfl, rfl⟩) (av_at_setA hc.1.2 (by omega) (by omega) e1)) (av_locs hl rfl) hL h1 h2
      · cases hs
  · cases hs
end AVP
end
section
/-! ONE STEP: loads, lengths, what is made -/
section AVN
variable {p : Program} {l : Launch} {e : Env} {R : Room} {s : State} {m : MethodId} {args : Array Value} {below : List Frame} {meth : Method} {c : Code} {Q : State → Prop}
variable {a0 : Array Value} {s0 : State} {D : va_G} {TY : Nat → ClassId} {kr : Nat → Nat} {sc : av_Sr} {own nL : Nat} {cc : ByteArray} {ini : Bool} {h0 hf h h' : av_H} {pc pc' : Nat} {lv lv' : av_L} {st st' : List av_V}

/-- the script, as the start has it -/
def av_Sc (s0 : State) (kr : Nat → Nat) (sc : av_Sr) : Prop := match sc with
  | none => True
  | some q => va_X (kr 100) q.1 (fun j => Int32.ofInt (q.2 j)) s0 s0.heap ∧ kr 100 < s0.heap.size ∧ q.1 < 2 ^ 31
theorem av_scr {H : Heap} {q : Nat × (Nat → Int)} (C : av_Cx p R s m meth c a0 s0 D TY own nL cc ini h0 hf) (hS : av_Sc s0 kr (some q)) (hR : av_R s0 D TY sc h H) : ∃ scr : Cell, H[kr 100]? = some scr ∧ s.isArrayOf scr .int ∧ scr.vm ≠ .unknown ∧ scr.slots.size = q.1 ∧ ∀ j : Nat, j < q.1 → scr.slots[j]? = some (.int (Int32.ofInt (q.2 j))) := by
  obtain ⟨⟨scr, g1, g2, g3, g4, g5⟩, g6, -⟩ := hS
  exact ⟨scr, by rw [hR.2.1 _ g6]; exact g1, State.isArrayOf_alike C.2.2.2.2.1.alike g2, g3, g4, g5⟩
theorem av_s_iald (C : av_Cx p R s m meth c a0 s0 D TY own nL cc ini h0 hf) (hS : av_Sc s0 kr sc) (hd : decode cc pc = .ok (.iaload, 1)) (hs : av_ald sc [20] pc lv st h = some (pc', lv', st', h')) (k : av_W p l e R s m args below meth c Q s0 D TY kr sc nL h0 pc' lv' st' h') : av_W p l e R s m args below meth c Q s0 D TY kr sc nL h0 pc lv st h := by
  intro H locs ls hR hl hL h1 h2
  unfold av_ald at hs
  split at hs
  · next i o r =>
    split at hs
    · next hc =>
      cases hs
      obtain ⟨hin, hlt⟩ := av_inP hc.2
      have hk : (h.2.2.1 o).1 = 20 := by simpa using hc.1.2
      have hcell := av_arrN hR hc.1.1 hk (by omega) (by omega)
      refine W.iald C.1 C.2.1 hcell ((av_ka C (k := 20) (by decide)).1 _ _) (fun q => by cases q) (by rw [arrV_size]; exact hin) (v := .int (Int32.ofInt (h.2.2.2.1 o (av_w i).toNat))) ?_ rfl rfl hd (k H locs ls hR hl hL h1 h2)
      rw [av_nat, arrV_read _ _ hlt]
    · cases hs
  · next i r =>
    split at hs
    · cases hs
    · next q =>
      split at hs
      · next hc =>
        cases hs
        obtain ⟨hin, hlt⟩ := av_inP hc.2
        obtain ⟨scr, g1, g2, g3, g4, g5⟩ := av_scr C hS hR
        refine W.iald C.1 C.2.1 g1 g2 g3 (by rw [g4]; exact hin) (v := .int (Int32.ofInt (q.2 (av_w i).toNat))) ?_ rfl rfl hd (k H locs ls hR hl hL h1 h2)
        rw [av_nat]
        exact g5 _ hlt
      · cases hs
  · cases hs
theorem av_s_bald (C : av_Cx p R s m meth c a0 s0 D TY own nL cc ini h0 hf) (hd : decode cc pc = .ok (.baload, 1)) (hs : av_ald sc [21, 22] pc lv st h = some (pc', lv', st', h')) (k : av_W p l e R s m args below meth c Q s0 D TY kr sc nL h0 pc' lv' st' h') : av_W p l e R s m args below meth c Q s0 D TY kr sc nL h0 pc lv st h := by
  intro H locs ls hR hl hL h1 h2
  unfold av_ald at hs
  split at hs
  · next i o r =>
    split at hs
    · next hc =>
      cases hs
      obtain ⟨hin, hlt⟩ := av_inP hc.2
      have hk : (h.2.2.1 o).1 = 21 ∨ (h.2.2.1 o).1 = 22 := by simpa using hc.1.2
      rcases hk with hk | hk
      · have hcell := av_arrN hR hc.1.1 hk (by omega) (by omega)
        refine W.bald C.1 C.2.1 hcell ((av_ka C (k := 21) (by decide)).1 _ _) (fun q => by cases q) (by rw [arrV_size]; exact hin) (v := .int (Int32.ofInt (h.2.2.2.1 o (av_w i).toNat))) ?_ rfl rfl hd (k H locs ls hR hl hL h1 h2)
        rw [av_nat, arrV_read _ _ hlt]
      · have hcell := av_arrN hR hc.1.1 hk (by omega) (by omega)
        refine W.zald C.1 C.2.1 hcell ((av_ka C (k := 22) (by decide)).1 _ _) (fun q => by cases q) (by rw [arrV_size]; exact hin) (v := .int (Int32.ofInt (h.2.2.2.1 o (av_w i).toNat))) ?_ rfl rfl hd (k H locs ls hR hl hL h1 h2)
        rw [av_nat, arrV_read _ _ hlt]
    · cases hs
  · next i r =>
    split at hs
    · cases hs
    · split at hs
      · next hc => exact absurd hc.1 (by decide)
      · cases hs
  · cases hs
theorem av_s_aald (C : av_Cx p R s m meth c a0 s0 D TY own nL cc ini h0 hf) (hd : decode cc pc = .ok (.aaload, 1)) (hs : av_aald pc lv st h = some (pc', lv', st', h')) (k : av_W p l e R s m args below meth c Q s0 D TY kr sc nL h0 pc' lv' st' h') : av_W p l e R s m args below meth c Q s0 D TY kr sc nL h0 pc lv st h := by
  intro H locs ls hR hl hL h1 h2
  unfold av_aald at hs
  split at hs
  · next i o r =>
    split at hs
    · next hc =>
      cases hs
      obtain ⟨hin, hlt⟩ := av_inP hc.2
      have hk : (h.2.2.1 o).1 = 30 ∨ (h.2.2.1 o).1 = 31 ∨ (h.2.2.1 o).1 = 32 := by simpa using hc.1.2
      have go : ∀ kk : Nat, (h.2.2.1 o).1 = kk → 30 ≤ kk → kk ∈ [20, 21, 22, 30, 31, 32] → (av_ft kk).isReference = true → W p l e R s m args below meth c H locs (h.1 - h0.1) (h.2.1 - h0.2.1) Q (F0 m pc ls ((.inl i :: .inr (.inr (.inl (some o))) :: r).map (av_ev s0.heap.size kr))) := by
        intro kk hk h30 hm hr
        have hcell := av_arrR hR hc.1.1 hk h30
        refine W.aald C.1 C.2.1 hcell ((av_ka C hm).1 _ _) hr (fun q => by cases q) (by rw [arrV_size]; exact hin) (v := va_rf ((h.2.2.2.2.2.2.1 o (av_w i).toNat).map (fun q => s0.heap.size + q))) ?_ rfl rfl hd (k H locs ls hR hl hL h1 h2)
        rw [av_nat, arrV_read _ _ hlt]
      rcases hk with hk | hk | hk
      · exact go 30 hk (by omega) (by decide) rfl
      · exact go 31 hk (by omega) (by decide) rfl
      · exact go 32 hk (by omega) (by decide) rfl
    · cases hs
  · cases hs
theorem av_s_alen (C : av_Cx p R s m meth c a0 s0 D TY own nL cc ini h0 hf) (hS : av_Sc s0 kr sc) (hd : decode cc pc = .ok (.arraylength, 1)) (hs : av_alen sc pc lv st h = some (pc', lv', st', h')) (k : av_W p l e R s m args below meth c Q s0 D TY kr sc nL h0 pc' lv' st' h') : av_W p l e R s m args below meth c Q s0 D TY kr sc nL h0 pc lv st h := by
  intro H locs ls hR hl hL h1 h2
  unfold av_alen at hs
  split at hs
  · next o r =>
    split at hs
    · next hc =>
      cases hs
      have kk := k H locs ls hR hl hL h1 h2
      have hm := hc.2
      have hcell : ∃ f, H[s0.heap.size + o]? = some (arrV (TY (h.2.2.1 o).1) (h.2.2.1 o).2 f) := by
        by_cases q : (h.2.2.1 o).1 < 30
        · have q9 : 9 ≤ (h.2.2.1 o).1 := by
            simp only [List.mem_cons, List.not_mem_nil, or_false] at hm
            omega
          exact ⟨_, av_arrN hR hc.1 rfl q9 q⟩
        · exact ⟨_, av_arrR hR hc.1 rfl (by omega)⟩
      obtain ⟨f, hcell⟩ := hcell
      refine W.alen C.1 C.2.1 hcell ((av_ka C hm).1 _ _) (n := Int32.ofInt ((h.2.2.1 o).2 : Int)) ?_ rfl rfl hd kk
      rw [arrV_size]
      exact (Int32.ofInt_eq_ofNat (n := (h.2.2.1 o).2)).symm
    · cases hs
  · next r =>
    split at hs
    · cases hs
    · next q =>
      cases hs
      have kk := k H locs ls hR hl hL h1 h2
      obtain ⟨scr, g1, g2, g3, g4, g5⟩ := av_scr C hS hR
      refine W.alen C.1 C.2.1 g1 g2 (n := Int32.ofInt ((q.1 : Nat) : Int)) ?_ rfl rfl hd kk
      rw [g4]
      exact (Int32.ofInt_eq_ofNat (n := q.1)).symm
  · cases hs
theorem av_s_newa {t : ArrayType} (C : av_Cx p R s m meth c a0 s0 D TY own nL cc ini h0 hf) (hd : decode cc pc = .ok (.newarray t, 2)) (hac : Cond.arrayClass (newarray.typeOf t) ∈ lw_tbl) (hs : av_newa t pc lv st h = some (pc', lv', st', h')) (hle : h'.1 ≤ hf.1 ∧ h'.2.1 ≤ hf.2.1) (k : av_W p l e R s m args below meth c Q s0 D TY kr sc nL h0 pc' lv' st' h') : av_W p l e R s m args below meth c Q s0 D TY kr sc nL h0 pc lv st h := by
  intro H locs ls hR hl hL h1 h2
  unfold av_newa at hs
  split at hs
  · next n r =>
    split at hs
    · next hc =>
      cases hs
      obtain ⟨c1, c2, c3⟩ := hc
      simp only [av_newN] at hle
      have hroom : h.1 - h0.1 + 1 ≤ R.cells ∧ h.2.1 - h0.2.1 + (av_w n).toNat ≤ R.slots := by
        have := C.2.2.2.2.2.2.2
        omega
      have hty : ∃ kk : Nat, av_atk t = kk ∧ kk ∈ [20, 21, 22, 30, 31, 32] ∧ 9 ≤ kk ∧ kk < 30 ∧ newarray.typeOf t = av_ft kk ∧ componentBytes (newarray.typeOf t) ≤ 4 ∧ defaultValue (newarray.typeOf t) = .int 0 ∧ ("[" ++ (newarray.typeOf t).toString) = ("[" ++ (av_ft kk).toString) := by
        cases t <;> first | exact absurd rfl c1 | exact ⟨_, rfl, by decide, by decide, by decide, rfl, by decide, rfl, rfl⟩
      obtain ⟨kk, e1, e2, e3, e4, e5, e6, e7, e8⟩ := hty
      have hka := av_ka C e2
      refine va_newaK C.1 C.2.1 (av_wdA C hac) rfl hd (n := Int32.ofInt n) rfl (by rw [av_lt0]; omega) (av_nat n) (by
        have : (av_w n).toNat ≤ 100000 := by omega
        calc (av_w n).toNat * componentBytes (newarray.typeOf t) ≤ 100000 * 4 := Nat.mul_le_mul this e6
          _ ≤ 536870912 := by decide) hroom.1 hroom.2 rfl (fun H' cA f1 f2 f3 f4 f5 => ?_)
      have hcA : cA = TY kk := by
        have hra := hka.2
        rw [e8] at f5
        have hn : s.vm.findClass ("[" ++ (av_ft kk).toString) = some (TY kk) := by
          simp only [List.mem_cons, List.not_mem_nil, or_false] at e2
          rcases e2 with rfl | rfl | rfl | rfl | rfl | rfl <;> first | exact hra | omega
        exact Option.some.inj (f5.symm.trans hn)
      subst hcA
      rw [e7] at f1
      have hsz := hR.1
      have hR' : av_R s0 D TY sc (av_newN kk (av_w n).toNat (fun _ => 0) h) H' := by
        refine av_R_new hR f2 f3 rfl rfl (fun q hq => ⟨av_u1_ne hq, av_u1_ne hq, rfl, rfl, rfl⟩) ?_
        unfold av_at
        simp only [av_newN, av_u1_self]
        rw [if_neg (by omega), if_pos e4, ← hsz]
        exact f1
      rw [e1] at k
      have kk9 := k H' locs ls hR' hl hL (by simp only [av_newN]; omega) (by simp only [av_newN]; omega)
      have g1 : (av_newN kk (av_w n).toNat (fun _ => 0) h).1 - h0.1 = h.1 - h0.1 + 1 := by simp only [av_newN]; omega
      have g2 : (av_newN kk (av_w n).toNat (fun _ => 0) h).2.1 - h0.2.1 = h.2.1 - h0.2.1 + (av_w n).toNat := by simp only [av_newN]; omega
      rw [g1, g2] at kk9
      rw [hsz]
      exact kk9
    · cases hs
  · cases hs
end AVN
end
section
/-! ONE STEP: objects, rows of references, rows of rows -/
section AVM
variable {p : Program} {l : Launch} {e : Env} {R : Room} {s : State} {m : MethodId} {args : Array Value} {below : List Frame} {meth : Method} {c : Code} {Q : State → Prop}
variable {a0 : Array Value} {s0 : State} {D : va_G} {TY : Nat → ClassId} {kr : Nat → Nat} {sc : av_Sr} {own nL : Nat} {cc : ByteArray} {ini : Bool} {h0 hf h h' : av_H} {pc pc' : Nat} {lv lv' : av_L} {st st' : List av_V}

theorem av_ra {k : Nat} (C : av_Cx p R s m meth c a0 s0 D TY own nL cc ini h0 hf) (hk : k ∈ [20, 21, 22, 30, 31, 32]) : s.vm.findClass ("[" ++ (av_ft k).toString) = some (TY k) := by
  have hra := (av_ka C hk).2
  simp only [List.mem_cons, List.not_mem_nil, or_false] at hk
  rcases hk with rfl | rfl | rfl | rfl | rfl | rfl
  · exact hra
  · exact hra
  · exact hra
  · obtain ⟨_, _, _, _, _, q⟩ := hra
    exact q
  · obtain ⟨_, _, _, _, _, q⟩ := hra
    exact q
  · exact hra
theorem av_dfl : ∀ ci, ci < 9 → ∀ j, j < av_N ci → defaultValue (av_ty ci j) = (match av_tg (av_ty ci j) with
    | 1 => .long 0
    | 2 => .null
    | _ => .int 0) := by decide +kernel
theorem av_outer (c : ClassId) (N h0 : Nat) : ∀ i : Nat, Jvm.Free.Multi.outerC c N h0 i = arrV c N (fun j => va_rf (if j < i then some (h0 + 1 + j) else none))
  | 0 => by
    show ({ cls := c, slots := Array.replicate N .null, vm := .none } : Cell) = _
    rw [arrV_new]
    refine congrArg (arrV c N) (funext fun j => ?_)
    simp [va_rf]
  | i + 1 => by
    show (Jvm.Free.Multi.outerC c N h0 i).setSlot i (.ref (h0 + 1 + i)) = _
    rw [av_outer c N h0 i, arrV_store]
    refine congrArg (arrV c N) (funext fun j => ?_)
    by_cases e : j = i
    · subst e
      simp [updV, va_rf]
    · by_cases h : j < i
      · simp [updV, e, h, Nat.lt_succ_of_lt h]
      · simp [updV, e, h, show ¬ j < i + 1 by omega]
theorem av_s_new {x : av_E} {idx : Nat} (C : av_Cx p R s m meth c a0 s0 D TY own nL cc ini h0 hf) (hd : decode cc pc = .ok (.new idx, 3)) (hci : x.2.2.1 < 9) (hlk : Cond.classLink (av_cn own) idx (av_cn x.2.2.1) ∈ lw_tbl) (hle : (av_newO x.2.2.1 (av_N x.2.2.1) h).1 ≤ hf.1 ∧ (av_newO x.2.2.1 (av_N x.2.2.1) h).2.1 ≤ hf.2.1) (k : av_W p l e R s m args below meth c Q s0 D TY kr sc nL h0 (pc + 3) lv (.inr (.inr (.inl (some h.1))) :: st) (av_newO x.2.2.1 (av_N x.2.2.1) h)) : av_W p l e R s m args below meth c Q s0 D TY kr sc nL h0 pc lv st h := by
  intro H locs ls hR hl hL h1 h2
  simp only [av_newO] at hle
  have hroom : h.1 - h0.1 + 1 ≤ R.cells ∧ h.2.1 - h0.2.1 + av_N x.2.2.1 ≤ R.slots := by
    have := C.2.2.2.2.2.2.2
    omega
  have hK := av_kn C hci
  have hin := av_inst x.2.2.1 hci
  refine W.newcK C.1 C.2.1 C.2.2.2.1 (av_wd C hlk rfl) (av_wd C hin.1 rfl) (av_wd C hin.2 rfl) rfl hd hroom.1 hroom.2 hK.2.1 rfl (fun H' kC e1 e2 e3 e4 => ?_)
  have hsz := hR.1
  have hb := u_born (args := args) (av_ty x.2.2.1) (av_hts C hci) (fun w hw => hw) hK e1 e2 (av_tyok x.2.2.1 hci)
  have hR' : av_R s0 D TY sc (av_newO x.2.2.1 (av_N x.2.2.1) h) H' := by
    refine av_R_new hR e3 e4 rfl rfl (fun q hq => ⟨av_u1_ne hq, rfl, av_u1_ne hq, av_u1_ne hq, rfl⟩) ?_
    unfold av_at
    simp only [av_newO, av_u1_self]
    rw [if_pos hci, ← hsz]
    refine hb.to (fun j hj => ?_)
    rw [av_dfl _ hci j hj]
    unfold av_fv
    simp only [av_u1_self]
    generalize av_tg (av_ty x.2.2.1 j) = tg
    rcases tg with _ | _ | _ | tg <;> rfl
  have kk := k H' locs ls hR' hl hL (by simp only [av_newO]; omega) (by simp only [av_newO]; omega)
  have g1 : (av_newO x.2.2.1 (av_N x.2.2.1) h).1 - h0.1 = h.1 - h0.1 + 1 := by simp only [av_newO]; omega
  have g2 : (av_newO x.2.2.1 (av_N x.2.2.1) h).2.1 - h0.2.1 = h.2.1 - h0.2.1 + av_N x.2.2.1 := by simp only [av_newO]; omega
  rw [g1, g2] at kk
  rw [hsz]
  exact kk
theorem av_s_anew {x : av_E} {idx : Nat} {C0 : String} (C : av_Cx p R s m meth c a0 s0 D TY own nL cc ini h0 hf) (hd : decode cc pc = .ok (.anewarray idx, 3)) (hft : av_ft x.2.2.1 = .object C0) (hlk : Cond.classLink (av_cn own) idx C0 ∈ lw_tbl) (hov : Cond.arrayOver (.object C0) ∈ lw_tbl) (hs : av_anew x.2.2.1 pc lv st h = some (pc', lv', st', h')) (hle : h'.1 ≤ hf.1 ∧ h'.2.1 ≤ hf.2.1) (k : av_W p l e R s m args below meth c Q s0 D TY kr sc nL h0 pc' lv' st' h') : av_W p l e R s m args below meth c Q s0 D TY kr sc nL h0 pc lv st h := by
  intro H locs ls hR hl hL h1 h2
  unfold av_anew at hs
  split at hs
  · next n r =>
    split at hs
    · next hc =>
      cases hs
      obtain ⟨c1, c2, c3⟩ := hc
      simp only [av_newR] at hle
      have hroom : h.1 - h0.1 + 1 ≤ R.cells ∧ h.2.1 - h0.2.1 + (av_w n).toNat ≤ R.slots := by
        have := C.2.2.2.2.2.2.2
        omega
      have hm : x.2.2.1 ∈ [20, 21, 22, 30, 31, 32] := by rcases c1 with q | q <;> rw [q] <;> decide
      have hov' : va_AO C0 s := va_AO.moved C.2.2.2.2.1.alike (va_AO.of (C.2.2.2.2.2.1.1 _ hov))
      refine W.anew C.1 C.2.1 C.2.2.2.1 (av_wd C hlk rfl) (va_AO.use hov') rfl hd (n := Int32.ofInt n) rfl (by rw [av_lt0]; omega) (by rw [av_nat]; omega) hroom.1 (by rw [av_nat]; exact hroom.2) (fun cA kA comp f1 f2 f3 f4 => ?_)
      have hn := av_ra C hm
      rw [hft] at hn
      have hcA : cA = TY x.2.2.1 := Option.some.inj (f1.symm.trans hn)
      subst hcA
      have hsz := hR.1
      have hR' : av_R s0 D TY sc (av_newR x.2.2.1 (av_w n).toNat h) (H.push { cls := TY x.2.2.1, slots := Array.replicate (Int32.ofInt n).toNatClampNeg .null, vm := .none }) := by
        refine av_R_new hR (Array.size_push _) (fun q hq => by rw [Array.getElem?_push, if_neg (Nat.ne_of_lt hq)]) rfl rfl (fun q hq => ⟨av_u1_ne hq, rfl, rfl, rfl, av_u1_ne hq⟩) ?_
        unfold av_at
        simp only [av_newR, av_u1_self]
        rw [if_neg (by omega), if_neg (by omega), ← hsz, Array.getElem?_push_size, arrV_new, av_nat]
        rfl
      have kk := k _ locs ls hR' hl hL (by simp only [av_newR]; omega) (by simp only [av_newR]; omega)
      have g1 : (av_newR x.2.2.1 (av_w n).toNat h).1 - h0.1 = h.1 - h0.1 + 1 := by simp only [av_newR]; omega
      have g2 : (av_newR x.2.2.1 (av_w n).toNat h).2.1 - h0.2.1 = h.2.1 - h0.2.1 + (av_w n).toNat := by simp only [av_newR]; omega
      rw [g1, g2, ← av_nat] at kk
      rw [hsz]
      exact kk
    · cases hs
  · cases hs
theorem av_s_mnew {idx : Nat} (C : av_Cx p R s m meth c a0 s0 D TY own nL cc ini h0 hf) (hd : decode cc pc = .ok (.multianewarray idx 2, 4)) (hlk : Cond.classLink (av_cn own) idx ("[" ++ (FieldType.array .int).toString) ∈ lw_tbl) (hov : Cond.arrayOver (.array .int) ∈ lw_tbl) (hac : Cond.arrayClass .int ∈ lw_tbl) (hs : av_mnew pc lv st h = some (pc', lv', st', h')) (hle : h'.1 ≤ hf.1 ∧ h'.2.1 ≤ hf.2.1) (k : av_W p l e R s m args below meth c Q s0 D TY kr sc nL h0 pc' lv' st' h') : av_W p l e R s m args below meth c Q s0 D TY kr sc nL h0 pc lv st h := by
  intro H locs ls hR hl hL h1 h2
  unfold av_mnew at hs
  split at hs
  · next d n r =>
    split at hs
    · next hc =>
      cases hs
      obtain ⟨⟨c1, c2⟩, c3, c4⟩ := hc
      have e1 := av_nat n
      have e2 := av_nat d
      generalize hN : (av_w n).toNat = N at *
      generalize hM : (av_w d).toNat = M at *
      have hNM : N * M ≤ 1000 * 1000 := Nat.mul_le_mul (by omega) (by omega)
      simp only [av_newM] at hle
      have hroom : h.1 - h0.1 + (1 + N) ≤ R.cells ∧ h.2.1 - h0.2.1 + (N + N * M) ≤ R.slots := by
        have := C.2.2.2.2.2.2.2
        omega
      have hov' := over_moved (a' := args) C.2.2.2.2.1.alike (C.2.2.2.2.2.1.1 _ hov)
      intro T hT Xs
      obtain ⟨vm₁, cA, comp, -, fA, fC, hO, -, X', step⟩ := Xs.multianewarray2F C.1 C.2.2.2.1 (av_wd C hlk rfl) hov' (av_wdA C hac) (g := F0 m pc ls (.int (Int32.ofInt d) :: .int (Int32.ofInt n) :: r.map (av_ev s0.heap.size kr))) rfl (by rw [C.2.1]; exact hd) rfl (by rw [av_lt0]; omega) (by rw [av_lt0]; omega) (by omega) (by rw [e2]; show M * 4 ≤ 536870912; omega) (by omega) rfl rfl (by rw [e1]; exact hroom.1) (by rw [e1, e2]; exact hroom.2)
      have hcA : cA = TY 32 := Option.some.inj (fA.symm.trans (av_ra C (k := 32) (by decide)))
      have hcC : comp = TY 20 := Option.some.inj (fC.symm.trans (av_ra C (k := 20) (by decide)))
      subst hcA
      subst hcC
      rw [e1, e2] at X' step
      have hsz := hR.1
      generalize hF : Jvm.Free.Multi.fill (T.setVm vm₁) (TY 32) (TY 20) N M (defaultValue .int) N = F at X' step
      have hTh : (T.setVm vm₁).heap = H := hT
      obtain ⟨f1, f2, -, -⟩ := Jvm.Free.Multi.fill_facts (T.setVm vm₁) (TY 32) (TY 20) N M (defaultValue .int) N
      rw [hF, hTh] at f1 f2
      have hold : ∀ x : Nat, x < H.size → F.heap[x]? = H[x]? := fun x hx => by
        have := Jvm.Free.Multi.fill_old (T.setVm vm₁) (TY 32) (TY 20) N M (defaultValue .int) (a := x) (by rw [hTh]; exact hx) N
        rw [hF, hTh] at this
        exact this
      have hrow : ∀ j : Nat, j < N → F.heap[H.size + 1 + j]? = some (arrV (TY 20) M (fun _ => .int 0)) := fun j hj => by
        have := Jvm.Free.Multi.fill_inner (T.setVm vm₁) (TY 32) (TY 20) N M (defaultValue .int) N j hj
        rw [hF, hTh] at this
        rw [this]
        exact congrArg some (arrV_new (TY 20) M (.int 0))
      rw [av_outer] at f2
      have hR' : av_R s0 D TY sc (av_newM N M h) F.heap := by
        obtain ⟨r1, r2, r3, r4⟩ := hR
        refine ⟨by simp only [av_newM]; omega, fun q hq => (hold q (by omega)).trans (r2 q hq), trivial, fun q hq => ?_⟩
        simp only [av_newM] at hq
        by_cases q1 : q = h.1
        · subst q1
          unfold av_at
          simp only [av_newM, if_true, av_u1_self]
          rw [if_neg (by omega), if_neg (by omega), ← r1, f2]
          congr 2
          funext j
          by_cases hj : j < N
          · simp only [if_pos hj, Option.map_some]
            congr 2
            omega
          · simp only [if_neg hj, Option.map_none]
        · by_cases q2 : q < h.1
          · refine av_at_eq (r4 q q2) (hold _ (by omega)) ?_ ?_ rfl rfl (av_u1_ne q1)
            · simp only [av_newM]
              rw [if_neg q1, if_neg (by omega)]
            · funext j
              simp only [av_newM]
              rw [if_neg (by omega)]
          · have q3 : h.1 < q ∧ q < h.1 + 1 + N := by omega
            have hkd : (av_newM N M h).2.2.1 q = (20, M) := by
              simp only [av_newM]
              rw [if_neg q1, if_pos q3]
            have hkA : (av_newM N M h).2.2.2.1 q = fun _ => 0 := by
              funext j
              simp only [av_newM]
              rw [if_pos q3]
            unfold av_at
            rw [hkd, hkA, if_neg (show ¬ (20 : Nat) < 9 by omega), if_pos (show (20 : Nat) < 30 by omega)]
            obtain ⟨j, rfl⟩ : ∃ j, q = h.1 + 1 + j := ⟨q - (h.1 + 1), by omega⟩
            have := hrow j (by omega)
            rw [show s0.heap.size + (h.1 + 1 + j) = H.size + 1 + j by omega, this]
            rfl
      have kk := k F.heap locs ls hR' hl hL (by simp only [av_newM]; omega) (by simp only [av_newM]; omega)
      have g1 : (av_newM N M h).1 - h0.1 = h.1 - h0.1 + 1 + N := by simp only [av_newM]; omega
      have g2 : (av_newM N M h).2.1 - h0.2.1 = h.2.1 - h0.2.1 + N + N * M := by simp only [av_newM]; omega
      rw [g1, g2] at kk
      obtain ⟨t, b1, b2⟩ := kk F rfl X'
      refine ⟨t, step t ?_, b2⟩
      rw [hT, hsz]
      exact b1
    · cases hs
  · cases hs
end AVM
end
