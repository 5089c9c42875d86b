/-! WHAT THE LOOKS ANSWER -/
/-- there is such a case, law and combo -/
def okx (U : Nat → Nat → Int) (S : Nat → Nat) (n L k l x : Int) : Prop := (0 ≤ k ∧ k < n) ∧ (0 ≤ l ∧ l < L) ∧ (0 ≤ x ∧ x < cbv (U (Int.toNat k)) (S (Int.toNat k)))
def RSP (ok : Prop) (d e v : Int) : Prop := (ok ∧ v = e) ∨ (¬ ok ∧ v = d)
theorem RSP_u {ok : Prop} {d e v w : Int} (x : RSP ok d e v) (y : RSP ok d e w) : v = w := by
  rcases x with x | x <;> rcases y with y | y
  · exact x.2.trans y.2.symm
  · exact absurd x.1 y.1
  · exact absurd y.1 x.1
  · exact x.2.trans y.2.symm
theorem bgn_m {u ro bar : Nat → Int} {s : Nat} {x : Int} (W : RWF u ro s) (h0 : 0 ≤ x) (h1 : x ≤ 1023) : MBR (bgn u ro bar s x) := by
  have H := HBd_arr (bar := bar) W h0 h1
  have r8 := rl_8 W.2.1
  unfold bgn brg
  split
  · exact sv_r H W.2.2.2.2.1 r8.1 W.2.2.2.2.2.2 s (Nat.le_refl s)
  · exact yv_r H W.2.2.2.2.2.2 s (Nat.le_refl s)
/-- the bargain of case k by law l in combo x -/
noncomputable def bgx (U : Nat → Nat → Int) (S : Nat → Nat) (ro : Nat → Nat → Int) (k l x : Int) : T3 := bgn (U (Int.toNat k)) (ro (Int.toNat l)) (bxx U S (ro (Int.toNat l)) (Int.toNat k)) (S (Int.toNat k)) x
/-- judge -/
def jdv (b t y z : Int) : Int := if y = -2 then (if t = 9999 then -1 else 0) else if t = 9999 then 0 else if y ≠ b then 1 else if z = t then -1 else 2
/-- open -/
noncomputable def opx (u ro bar : Nat → Int) (s : Nat) (x : Int) (k : Nat) (w : Int) : Int := if w = 0 then o5 ro (arr u ro bar x) k else if w = 1 then (eav u ro (arr u ro bar x) s k s).1 else (eav u ro (arr u ro bar x) s k s).2.1
