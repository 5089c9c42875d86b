/-! THE SMALL MACHINE: the class's and the reference's bytecode over plain numbers. A value: an int, a long, a reference (a cell's number from the law's start on; none: null), a constant (a literal's place; 100 the script, 101 the plain law).
A heap: how many cells, how many slots so far, what each cell is (its kind: 0 to 8 an object of that row of av_cn; 20 ints, 21 bytes, 22 booleans; 30, 31, 32 references; its length), arrays of numbers, number fields, reference fields, arrays of references. The script lies outside: only the law itself may read it. -/
abbrev av_Sr : Type := Option (Nat × (Nat → Int))
abbrev av_V : Type := Int ⊕ Int ⊕ Option Nat ⊕ Nat
abbrev av_L : Type := List (Option av_V)
abbrev av_H : Type := Nat × Nat × (Nat → Nat × Nat) × (Nat → Nat → Int) × (Nat → Nat → Int) × (Nat → Nat → Option Nat) × (Nat → Nat → Option Nat) × Unit
abbrev av_E : Type := Instr × Nat × Nat × Nat × Nat × Int
def av_w (x : Int) : Int := Int.bmod x 4294967296
def av_wl (x : Int) : Int := Int.bmod x 18446744073709551616
def av_u2 {α : Type} (f : Nat → Nat → α) (i j : Nat) (v : α) : Nat → Nat → α := fun a b => if a = i ∧ b = j then v else f a b
def av_u1 {α : Type} (f : Nat → α) (i : Nat) (v : α) : Nat → α := fun a => if a = i then v else f a
def av_cat : av_V → Nat
  | .inr (.inl _) => 2
  | _ => 1
def av_cmp (c : Jvm.ClassFile.Cond) (x y : Int) : Bool := match c with
  | .eq => decide (x = y)
  | .ne => decide (¬ x = y)
  | .lt => decide (x < y)
  | .ge => decide (y ≤ x)
  | .gt => decide (y < x)
  | .le => decide (x ≤ y)
def av_and (x y : Int) : Int := (Int32.ofInt x &&& Int32.ofInt y).toInt
def av_or (x y : Int) : Int := (Int32.ofInt x ||| Int32.ofInt y).toInt
def av_shl (x y : Int) : Int := (Int32.ofInt x <<< (Int32.ofInt y &&& 31)).toInt
def av_shr (x y : Int) : Int := (Int32.ofInt x >>> (Int32.ofInt y &&& 31)).toInt
def av_ushr (x y : Int) : Int := ((Int32.ofInt x).toUInt32 >>> ((Int32.ofInt y).toUInt32 &&& Int32.toUInt32 31)).toInt32.toInt
def av_b (x : Int) : Int := Int.bmod x 256
/-- the plain law's cells -/
def av_plain (k : Nat) : Int := [1, 1, 1, 1, 1, 1, 0, -1, -1, 0, 0, 0, 0, 0].getD k 0
def av_lg : Option av_V → Bool
  | some (.inr (.inl _)) => true
  | _ => false
def av_sto (lv : av_L) (i : Nat) (v : av_V) : Option av_L := match i with
  | 0 => if 0 < lv.length then some (lv.set 0 (some v)) else none
  | j + 1 => if j + 1 < lv.length then (if av_lg ((lv[j]?).join) then none else some (lv.set (j + 1) (some v))) else none
abbrev av_S : Type := Nat × av_L × List av_V × av_H
def av_bin (f : Int → Int → Int) (pc : Nat) (lv : av_L) (st : List av_V) (h : av_H) : Option av_S := match st with
  | .inl y :: .inl x :: r => some (pc + 1, lv, .inl (f x y) :: r, h)
  | _ => none
/-- a number that is loaded, a reference that is loaded, a long that is loaded -/
def av_ldi (i n pc : Nat) (lv : av_L) (st : List av_V) (h : av_H) : Option av_S := match (lv[i]?).join with
  | some (.inl x) => some (pc + n, lv, .inl x :: st, h)
  | _ => none
def av_lda (i n pc : Nat) (lv : av_L) (st : List av_V) (h : av_H) : Option av_S := match (lv[i]?).join with
  | some (.inr (.inr v)) => some (pc + n, lv, .inr (.inr v) :: st, h)
  | _ => none
def av_ldl (i n pc : Nat) (lv : av_L) (st : List av_V) (h : av_H) : Option av_S := match (lv[i]?).join with
  | some (.inr (.inl x)) => some (pc + n, lv, .inr (.inl x) :: st, h)
  | _ => none
def av_sti (i n pc : Nat) (lv : av_L) (st : List av_V) (h : av_H) : Option av_S := match st with
  | .inl x :: r => (av_sto lv i (.inl x)).map (fun lv' => (pc + n, lv', r, h))
  | _ => none
def av_sta (i n pc : Nat) (lv : av_L) (st : List av_V) (h : av_H) : Option av_S := match st with
  | .inr (.inr v) :: r => (av_sto lv i (.inr (.inr v))).map (fun lv' => (pc + n, lv', r, h))
  | _ => none
def av_iinc (i : Nat) (n : Int) (pc : Nat) (lv : av_L) (st : List av_V) (h : av_H) : Option av_S := match (lv[i]?).join with
  | some (.inl x) => (av_sto lv i (.inl (x + n))).map (fun lv' => (pc + 3, lv', st, h))
  | _ => none
def av_getf (e : av_E) (pc : Nat) (lv : av_L) (st : List av_V) (h : av_H) : Option av_S := match st with
  | .inr (.inr (.inl (some o))) :: r =>
    if o < h.1 ∧ (h.2.2.1 o).1 = e.2.2.1 then
      some (pc + 3, lv, (match e.2.2.2.2.1 with
        | 1 => .inr (.inl (h.2.2.2.2.1 o e.2.2.2.1))
        | 2 => .inr (.inr (.inl (h.2.2.2.2.2.1 o e.2.2.2.1)))
        | _ => .inl (h.2.2.2.2.1 o e.2.2.2.1)) :: r, h)
    else none
  | _ => none
def av_putf (e : av_E) (pc : Nat) (lv : av_L) (st : List av_V) (h : av_H) : Option av_S := match e.2.2.2.2.1, st with
  | 0, .inl x :: .inr (.inr (.inl (some o))) :: r => if o < h.1 ∧ (h.2.2.1 o).1 = e.2.2.1 then some (pc + 3, lv, r, (h.1, h.2.1, h.2.2.1, h.2.2.2.1, av_u2 h.2.2.2.2.1 o e.2.2.2.1 x, h.2.2.2.2.2)) else none
  | 1, .inr (.inl x) :: .inr (.inr (.inl (some o))) :: r => if o < h.1 ∧ (h.2.2.1 o).1 = e.2.2.1 then some (pc + 3, lv, r, (h.1, h.2.1, h.2.2.1, h.2.2.2.1, av_u2 h.2.2.2.2.1 o e.2.2.2.1 x, h.2.2.2.2.2)) else none
  | 2, .inr (.inr (.inl v)) :: .inr (.inr (.inl (some o))) :: r => if o < h.1 ∧ (h.2.2.1 o).1 = e.2.2.1 then some (pc + 3, lv, r, (h.1, h.2.1, h.2.2.1, h.2.2.2.1, h.2.2.2.2.1, av_u2 h.2.2.2.2.2.1 o e.2.2.2.1 v, h.2.2.2.2.2.2)) else none
  | 3, .inl x :: .inr (.inr (.inl (some o))) :: r => if (o < h.1 ∧ (h.2.2.1 o).1 = e.2.2.1) ∧ (x = 0 ∨ x = 1) then some (pc + 3, lv, r, (h.1, h.2.1, h.2.2.1, h.2.2.2.1, av_u2 h.2.2.2.2.1 o e.2.2.2.1 x, h.2.2.2.2.2)) else none
  | _, _ => none
/-- the place i lies in a row of n -/
def av_in (i : Int) (n : Nat) : Prop := 0 ≤ av_w i ∧ av_w i < n
def av_inB (i : Int) (n : Nat) : Bool := decide (0 ≤ av_w i) && decide (av_w i < n)
def av_ald (sc : av_Sr) (ks : List Nat) (pc : Nat) (lv : av_L) (st : List av_V) (h : av_H) : Option av_S := match st with
  | .inl i :: .inr (.inr (.inl (some o))) :: r => if (o < h.1 ∧ (h.2.2.1 o).1 ∈ ks) ∧ av_inB i (h.2.2.1 o).2 = true then some (pc + 1, lv, .inl (h.2.2.2.1 o (av_w i).toNat) :: r, h) else none
  | .inl i :: .inr (.inr (.inr 100)) :: r => (match sc with
    | none => none
    | some q => if ks = [20] ∧ av_inB i q.1 = true then some (pc + 1, lv, .inl (q.2 (av_w i).toNat) :: r, h) else none)
  | _ => none
/-- a reference may lie in the row o -/
def av_okR (h : av_H) (o : Nat) (v : Option Nat) : Bool := match v with
  | none => true
  | some q => decide (q < h.1 ∧ (h.2.2.1 q).1 = (if (h.2.2.1 o).1 = 30 then 1 else 5))
def av_aast (pc : Nat) (lv : av_L) (st : List av_V) (h : av_H) : Option av_S := match st with
  | .inr (.inr (.inl v)) :: .inl i :: .inr (.inr (.inl (some o))) :: r =>
    if (o < h.1 ∧ ((h.2.2.1 o).1 = 30 ∨ (h.2.2.1 o).1 = 31)) ∧ av_inB i (h.2.2.1 o).2 = true ∧ av_okR h o v = true then
      some (pc + 1, lv, r, (h.1, h.2.1, h.2.2.1, h.2.2.2.1, h.2.2.2.2.1, h.2.2.2.2.2.1, av_u2 h.2.2.2.2.2.2.1 o (av_w i).toNat v, h.2.2.2.2.2.2.2))
    else none
  | _ => none
def av_aald (pc : Nat) (lv : av_L) (st : List av_V) (h : av_H) : Option av_S := match st with
  | .inl i :: .inr (.inr (.inl (some o))) :: r => if (o < h.1 ∧ (h.2.2.1 o).1 ∈ [30, 31, 32]) ∧ av_inB i (h.2.2.1 o).2 = true then some (pc + 1, lv, .inr (.inr (.inl (h.2.2.2.2.2.2.1 o (av_w i).toNat))) :: r, h) else none
  | _ => none
def av_iast (pc : Nat) (lv : av_L) (st : List av_V) (h : av_H) : Option av_S := match st with
  | .inl x :: .inl i :: .inr (.inr (.inl (some o))) :: r => if (o < h.1 ∧ (h.2.2.1 o).1 = 20) ∧ av_inB i (h.2.2.1 o).2 = true then some (pc + 1, lv, r, (h.1, h.2.1, h.2.2.1, av_u2 h.2.2.2.1 o (av_w i).toNat x, h.2.2.2.2)) else none
  | _ => none
def av_bast (pc : Nat) (lv : av_L) (st : List av_V) (h : av_H) : Option av_S := match st with
  | .inl x :: .inl i :: .inr (.inr (.inl (some o))) :: r =>
    if (o < h.1 ∧ (h.2.2.1 o).1 = 21) ∧ av_inB i (h.2.2.1 o).2 = true then some (pc + 1, lv, r, (h.1, h.2.1, h.2.2.1, av_u2 h.2.2.2.1 o (av_w i).toNat (av_b x), h.2.2.2.2))
    else if (o < h.1 ∧ (h.2.2.1 o).1 = 22) ∧ av_inB i (h.2.2.1 o).2 = true ∧ (x = 0 ∨ x = 1) then some (pc + 1, lv, r, (h.1, h.2.1, h.2.2.1, av_u2 h.2.2.2.1 o (av_w i).toNat x, h.2.2.2.2))
    else none
  | _ => none
/-- a new row of numbers, of references; a new object -/
def av_newN (k n : Nat) (f : Nat → Int) (h : av_H) : av_H := (h.1 + 1, h.2.1 + n, av_u1 h.2.2.1 h.1 (k, n), av_u1 h.2.2.2.1 h.1 f, h.2.2.2.2)
def av_newR (k n : Nat) (h : av_H) : av_H := (h.1 + 1, h.2.1 + n, av_u1 h.2.2.1 h.1 (k, n), h.2.2.2.1, h.2.2.2.2.1, h.2.2.2.2.2.1, av_u1 h.2.2.2.2.2.2.1 h.1 (fun _ => none), h.2.2.2.2.2.2.2)
def av_newO (ci n : Nat) (h : av_H) : av_H := (h.1 + 1, h.2.1 + n, av_u1 h.2.2.1 h.1 (ci, 0), h.2.2.2.1, av_u1 h.2.2.2.2.1 h.1 (fun _ => 0), av_u1 h.2.2.2.2.2.1 h.1 (fun _ => none), h.2.2.2.2.2.2)
/-- n rows of k ints, and the row of them -/
def av_newM (n k : Nat) (h : av_H) : av_H := (h.1 + 1 + n, h.2.1 + n + n * k, (fun a => if a = h.1 then (32, n) else if h.1 < a ∧ a < h.1 + 1 + n then (20, k) else h.2.2.1 a), (fun a j => if h.1 < a ∧ a < h.1 + 1 + n then 0 else h.2.2.2.1 a j), h.2.2.2.2.1, h.2.2.2.2.2.1, av_u1 h.2.2.2.2.2.2.1 h.1 (fun i => if i < n then some (h.1 + 1 + i) else none), h.2.2.2.2.2.2.2)
def av_atk : ArrayType → Nat
  | .int => 20
  | .byte => 21
  | .boolean => 22
  | _ => 99
def av_newa (t : ArrayType) (pc : Nat) (lv : av_L) (st : List av_V) (h : av_H) : Option av_S := match st with
  | .inl n :: r => if av_atk t ≠ 99 ∧ 0 ≤ av_w n ∧ av_w n ≤ 100000 then some (pc + 2, lv, .inr (.inr (.inl (some h.1))) :: r, av_newN (av_atk t) (av_w n).toNat (fun _ => 0) h) else none
  | _ => none
def av_anew (k pc : Nat) (lv : av_L) (st : List av_V) (h : av_H) : Option av_S := match st with
  | .inl n :: r => if (k = 30 ∨ k = 31) ∧ 0 ≤ av_w n ∧ av_w n ≤ 100000 then some (pc + 3, lv, .inr (.inr (.inl (some h.1))) :: r, av_newR k (av_w n).toNat h) else none
  | _ => none
def av_mnew (pc : Nat) (lv : av_L) (st : List av_V) (h : av_H) : Option av_S := match st with
  | .inl k :: .inl n :: r => if (0 ≤ av_w n ∧ av_w n ≤ 1000) ∧ (0 ≤ av_w k ∧ av_w k ≤ 1000) then some (pc + 4, lv, .inr (.inr (.inl (some h.1))) :: r, av_newM (av_w n).toNat (av_w k).toNat h) else none
  | _ => none
def av_alen (sc : av_Sr) (pc : Nat) (lv : av_L) (st : List av_V) (h : av_H) : Option av_S := match st with
  | .inr (.inr (.inl (some o))) :: r => if o < h.1 ∧ (h.2.2.1 o).1 ∈ [20, 21, 22, 30, 31, 32] then some (pc + 1, lv, .inl ((h.2.2.1 o).2 : Int) :: r, h) else none
  | .inr (.inr (.inr 100)) :: r => (match sc with
    | none => none
    | some q => some (pc + 1, lv, .inl (q.1 : Int) :: r, h))
  | _ => none
/-- n places of f from sp on, laid over the row d from dp on -/
def av_cpy (A : Nat → Nat → Int) (d sp dp n : Nat) (f : Nat → Int) : Nat → Nat → Int := fun a j => if a = d ∧ dp ≤ j ∧ j < dp + n then f (sp + (j - dp)) else A a j
/-- the literals' bytes, by their places -/
def av_lits : List (List Int) := [
  [111, 102, 102, 101, 114, 32, 97, 115, 107, 32, 121, 101, 115, 32, 110, 111, 32, 98, 97, 99, 107, 32, 100, 101, 101, 100, 32, 115, 101, 110, 100],
  [97, 32, 98, 32, 99],
  [112, 114, 105, 99, 101, 32, 109, 117, 99, 104, 32, 100, 97, 121, 32, 112, 111, 114, 116, 32, 99, 111, 117, 114, 116],
  [104, 111, 108, 100],
  [103, 105, 118, 101, 110],
  [98, 117, 116],
  [112, 111, 115, 116, 32, 119, 105, 114, 101, 32, 109, 111, 117, 116, 104, 32, 100, 101, 101, 100],
  [97, 116],
  [116, 111],
  [97, 102, 116, 101, 114],
  [114, 101, 97, 100],
  [108, 111, 115, 116],
  [121, 101, 115, 32, 111, 102, 102, 101, 114, 32, 98, 97, 99, 107, 32, 110, 111, 32, 104, 111, 108, 100, 32, 108, 97, 112, 115, 101, 32, 115, 105, 108, 101, 110, 99, 101, 32, 98, 117, 116, 32, 102, 111, 114, 109, 32, 100, 101, 101, 100, 32, 114, 105, 115, 107],
  [112, 111, 115, 116, 32, 119, 105, 114, 101, 32, 109, 111, 117, 116, 104, 32, 97, 108, 108],
  [115, 101, 110, 116, 32, 99, 111, 109, 101, 32, 114, 101, 97, 100],
  [102, 114, 101, 101, 32, 98, 105, 110, 100, 115],
  [110, 111, 32, 115, 109, 97, 108, 108],
  [102, 105, 114, 115, 116, 32, 108, 97, 115, 116, 32, 110, 111, 110, 101],
  [110, 111, 110, 101, 32, 121, 101, 115],
  [98, 97, 114, 103, 97, 105, 110, 32, 115, 101, 110, 116, 32, 99, 111, 109, 101]]
def av_lit (k : Nat) : List Int := av_lits.getD k []
/-- what the library's own members do (1000 Object's constructor, 1001 max, 1002 min, 1003 arraycopy, 1004 clone of ints, 1005 length, 1006 charAt of a literal) -/
def av_lib (a pc : Nat) (lv : av_L) (st : List av_V) (h : av_H) : Option av_S := match a, st with
  | 1000, .inr (.inr (.inl (some _))) :: r => if (r.map av_cat).sum ≤ 8 then some (pc + 3, lv, r, h) else none
  | 1001, .inl y :: .inl x :: r => if (r.map av_cat).sum ≤ 8 then some (pc + 3, lv, .inl (if av_w x < av_w y then y else x) :: r, h) else none
  | 1002, .inl y :: .inl x :: r => if (r.map av_cat).sum ≤ 8 then some (pc + 3, lv, .inl (if av_w y < av_w x then y else x) :: r, h) else none
  | 1003, .inl n :: .inl dp :: .inr (.inr (.inl (some d))) :: .inl sp :: .inr (.inr (.inl (some q))) :: r =>
    if (r.map av_cat).sum ≤ 8 ∧ (d < h.1 ∧ (h.2.2.1 d).1 = 20) ∧ (q < h.1 ∧ (h.2.2.1 q).1 = 20) ∧ (0 ≤ av_w n ∧ 0 ≤ av_w dp ∧ 0 ≤ av_w sp) ∧ av_w sp + av_w n ≤ (h.2.2.1 q).2 ∧ av_w dp + av_w n ≤ (h.2.2.1 d).2 then
      some (pc + 3, lv, r, (h.1, h.2.1, h.2.2.1, av_cpy h.2.2.2.1 d (av_w sp).toNat (av_w dp).toNat (av_w n).toNat (h.2.2.2.1 q), h.2.2.2.2)) else none
  | 1003, .inl n :: .inl dp :: .inr (.inr (.inl (some d))) :: .inl sp :: .inr (.inr (.inr 101)) :: r =>
    if (r.map av_cat).sum ≤ 8 ∧ (d < h.1 ∧ (h.2.2.1 d).1 = 20) ∧ (0 ≤ av_w n ∧ 0 ≤ av_w dp ∧ 0 ≤ av_w sp) ∧ av_w sp + av_w n ≤ 14 ∧ av_w dp + av_w n ≤ (h.2.2.1 d).2 then
      some (pc + 3, lv, r, (h.1, h.2.1, h.2.2.1, av_cpy h.2.2.2.1 d (av_w sp).toNat (av_w dp).toNat (av_w n).toNat av_plain, h.2.2.2.2)) else none
  | 1004, .inr (.inr (.inl (some o))) :: r =>
    if (r.map av_cat).sum ≤ 8 ∧ (o < h.1 ∧ (h.2.2.1 o).1 = 20) then some (pc + 3, lv, .inr (.inr (.inl (some h.1))) :: r, av_newN 20 (h.2.2.1 o).2 (h.2.2.2.1 o) h) else none
  | 1005, .inr (.inr (.inr k)) :: r => if (r.map av_cat).sum ≤ 8 ∧ k < 20 then some (pc + 3, lv, .inl ((av_lit k).length : Int) :: r, h) else none
  | 1006, .inl i :: .inr (.inr (.inr k)) :: r => if (r.map av_cat).sum ≤ 8 ∧ k < 20 ∧ av_inB i (av_lit k).length = true then some (pc + 3, lv, .inl ((av_lit k).getD (av_w i).toNat 0) :: r, h) else none
  | _, _ => none
def av_stp (sc : av_Sr) (e : av_E) (pc : Nat) (lv : av_L) (st : List av_V) (h : av_H) : Option av_S := match e.1 with
  | .iconst n => some (pc + 1, lv, .inl n :: st, h)
  | .bipush n => some (pc + 2, lv, .inl n :: st, h)
  | .sipush n => some (pc + 3, lv, .inl n :: st, h)
  | .ldc _ => if e.2.2.1 = 0 then some (pc + 2, lv, .inl e.2.2.2.2.2 :: st, h) else some (pc + 2, lv, .inr (.inr (.inr e.2.2.2.1)) :: st, h)
  | .ldc_w _ => some (pc + 3, lv, .inl e.2.2.2.2.2 :: st, h)
  | .ldc2_w _ => some (pc + 3, lv, .inr (.inl e.2.2.2.2.2) :: st, h)
  | .lconst n => some (pc + 1, lv, .inr (.inl (n.val : Int)) :: st, h)
  | .aconst_null => some (pc + 1, lv, .inr (.inr (.inl none)) :: st, h)
  | .iload_n i => av_ldi i.val 1 pc lv st h
  | .iload i => av_ldi i 2 pc lv st h
  | .aload_n i => av_lda i.val 1 pc lv st h
  | .aload i => av_lda i 2 pc lv st h
  | .lload_n i => av_ldl i.val 1 pc lv st h
  | .lload i => av_ldl i 2 pc lv st h
  | .istore_n i => av_sti i.val 1 pc lv st h
  | .istore i => av_sti i 2 pc lv st h
  | .astore_n i => av_sta i.val 1 pc lv st h
  | .astore i => av_sta i 2 pc lv st h
  | .iinc i n => av_iinc i n pc lv st h
  | .iadd => av_bin (fun x y => x + y) pc lv st h
  | .isub => av_bin (fun x y => x - y) pc lv st h
  | .imul => av_bin (fun x y => x * y) pc lv st h
  | .iand => av_bin av_and pc lv st h
  | .ior => av_bin av_or pc lv st h
  | .ishl => av_bin av_shl pc lv st h
  | .ishr => av_bin av_shr pc lv st h
  | .iushr => av_bin av_ushr pc lv st h
  | .idiv => (match st with
    | .inl y :: .inl x :: r => if av_w y = 0 then none else some (pc + 1, lv, .inl ((av_w x).tdiv (av_w y)) :: r, h)
    | _ => none)
  | .irem => (match st with
    | .inl y :: .inl x :: r => if av_w y = 0 then none else some (pc + 1, lv, .inl ((av_w x).tmod (av_w y)) :: r, h)
    | _ => none)
  | .ladd => (match st with
    | .inr (.inl y) :: .inr (.inl x) :: r => some (pc + 1, lv, .inr (.inl (x + y)) :: r, h)
    | _ => none)
  | .lmul => (match st with
    | .inr (.inl y) :: .inr (.inl x) :: r => some (pc + 1, lv, .inr (.inl (x * y)) :: r, h)
    | _ => none)
  | .lcmp => (match st with
    | .inr (.inl y) :: .inr (.inl x) :: r => some (pc + 1, lv, .inl (if av_wl y < av_wl x then 1 else if av_wl x = av_wl y then 0 else -1) :: r, h)
    | _ => none)
  | .i2l => (match st with
    | .inl x :: r => some (pc + 1, lv, .inr (.inl (av_w x)) :: r, h)
    | _ => none)
  | .l2i => (match st with
    | .inr (.inl x) :: r => some (pc + 1, lv, .inl x :: r, h)
    | _ => none)
  | .i2b => (match st with
    | .inl x :: r => some (pc + 1, lv, .inl (av_b x) :: r, h)
    | _ => none)
  | .dup => (match st with
    | v :: r => if av_cat v = 1 then some (pc + 1, lv, v :: v :: r, h) else none
    | _ => none)
  | .pop => (match st with
    | v :: r => if av_cat v = 1 then some (pc + 1, lv, r, h) else none
    | _ => none)
  | .dup2 => (match st with
    | v :: u :: r => if av_cat v = 1 ∧ av_cat u = 1 then some (pc + 1, lv, v :: u :: v :: u :: r, h) else none
    | _ => none)
  | .goto _ => some (e.2.2.1, lv, st, h)
  | .ifCond c _ => (match st with
    | .inl x :: r => some (if av_cmp c (av_w x) 0 = true then e.2.2.1 else pc + 3, lv, r, h)
    | _ => none)
  | .if_icmp c _ => (match st with
    | .inl y :: .inl x :: r => some (if av_cmp c (av_w x) (av_w y) = true then e.2.2.1 else pc + 3, lv, r, h)
    | _ => none)
  | .ifnull _ => (match st with
    | .inr (.inr (.inl v)) :: r => some (match v with
      | none => e.2.2.1
      | some _ => pc + 3, lv, r, h)
    | _ => none)
  | .ifnonnull _ => (match st with
    | .inr (.inr (.inl v)) :: r => some (match v with
      | none => pc + 3
      | some _ => e.2.2.1, lv, r, h)
    | _ => none)
  | .tableswitch d lo hi offs => (match st with
    | .inl x :: r => some ((pc + (if av_w x < lo ∨ hi < av_w x then d else offs.toList.getD (av_w x - lo).toNat 0)).toNat, lv, r, h)
    | _ => none)
  | .lookupswitch d ps => (match st with
    | .inl x :: r => some ((pc + Op.lookupswitch.offset ps.toList d (av_w x)).toNat, lv, r, h)
    | _ => none)
  | .getfield _ => av_getf e pc lv st h
  | .putfield _ => av_putf e pc lv st h
  | .getstatic _ => some (pc + 3, lv, .inr (.inr (.inr 101)) :: st, h)
  | .iaload => av_ald sc [20] pc lv st h
  | .baload => av_ald sc [21, 22] pc lv st h
  | .aaload => av_aald pc lv st h
  | .iastore => av_iast pc lv st h
  | .bastore => av_bast pc lv st h
  | .aastore => av_aast pc lv st h
  | .arraylength => av_alen sc pc lv st h
  | .newarray t => av_newa t pc lv st h
  | .anewarray _ => av_anew e.2.2.1 pc lv st h
  | .multianewarray _ _ => av_mnew pc lv st h
  | .new _ => some (pc + 3, lv, .inr (.inr (.inl (some h.1))) :: st, av_newO e.2.2.1 (av_N e.2.2.1) h)
  | .checkcast _ => (match st with
    | .inr (.inr (.inl (some o))) :: r => if o < h.1 ∧ (h.2.2.1 o).1 = 20 then some (pc + 3, lv, .inr (.inr (.inl (some o))) :: r, h) else none
    | _ => none)
  | .invokevirtual _ => av_lib e.2.2.1 pc lv st h
  | .invokespecial _ => av_lib e.2.2.1 pc lv st h
  | .invokestatic _ => av_lib e.2.2.1 pc lv st h
  | _ => none
/-- 0 a step of its own, 1 a return, 2 a call -/
def av_kd (e : av_E) : Nat := match e.1 with
  | .ireturn => 1
  | .areturn => 1
  | .return_ => 1
  | .invokevirtual _ => if e.2.2.1 < 1000 then 2 else 0
  | .invokespecial _ => if e.2.2.1 < 1000 then 2 else 0
  | .invokestatic _ => if e.2.2.1 < 1000 then 2 else 0
  | _ => 0
def av_ret (e : av_E) (st : List av_V) (h : av_H) : Option (Option av_V × av_H) := match e.1, st with
  | .return_, [] => some (none, h)
  | .ireturn, [.inl x] => if e.2.2.1 = 0 ∨ x = 0 ∨ x = 1 then some (some (.inl x), h) else none
  | .areturn, [.inr (.inr (.inl v))] => some (some (.inr (.inr (.inl v))), h)
  | _, _ => none
/-- a call's values (the receiver first) and what is left below; b: how many arguments, c: 0 an object of the row k, 1 a constructor, 2 static -/
def av_pop (e : av_E) (st : List av_V) (h : av_H) : Option (List av_V × List av_V) :=
  if e.2.2.2.1 ≤ st.length then
    (match e.2.2.2.2.1, st.drop e.2.2.2.1 with
    | 2, r => if (r.map av_cat).sum ≤ 8 then some ((st.take e.2.2.2.1).reverse, r) else none
    | _, .inr (.inr (.inl (some o))) :: r => if (r.map av_cat).sum ≤ 8 ∧ o < h.1 ∧ ((h.2.2.1 o).1 : Int) = e.2.2.2.2.2 then some (.inr (.inr (.inl (some o))) :: (st.take e.2.2.2.1).reverse, r) else none
    | _, _ => none)
  else none
/-- a method's locals at its entry -/
def av_args : List av_V → av_L
  | [] => []
  | v :: vs => if av_cat v = 2 then some v :: none :: av_args vs else some v :: av_args vs
def av_ent (n : Nat) (vs : List av_V) : av_L := av_args vs ++ List.replicate (n - (av_args vs).length) none
/-- a program: of each method how many locals, and its code -/
abbrev av_P : Type := Nat → Option (Nat × List (Nat × av_E))
/-- fuel, the method's code, the place, locals, stack, heap: what comes back -/
def av_run (P : av_P) : av_Sr → Nat → List (Nat × av_E) → Nat → av_L → List av_V → av_H → Option (Option av_V × av_H)
  | _, 0, _, _, _, _, _ => none
  | sc, n + 1, cd, pc, lv, st, h =>
    match cd.lookup pc with
    | none => none
    | some e =>
      match av_kd e with
      | 0 => (match av_stp sc e pc lv st h with
        | none => none
        | some (pc', lv', st', h') => av_run P sc n cd pc' lv' st' h')
      | 1 => av_ret e st h
      | _ => (match P e.2.2.1, av_pop e st h with
        | some M, some (vs, r) =>
          if (av_args vs).length ≤ M.1 then
            (match av_run P none n M.2 0 (av_ent M.1 vs) [] h with
            | none => none
            | some (v, h') => av_run P sc n cd (pc + 3) lv (v.toList ++ r) h')
          else none
        | _, _ => none)
