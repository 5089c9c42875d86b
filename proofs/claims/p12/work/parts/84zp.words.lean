/-! WHAT A BARGAIN IS MADE OF -/
def YF (s : Nat) (a : Nat → Nat → Int) (t : T3) : Prop := (t.2.2 = 9999 ∧ t.1 = -1 ∧ t.2.1 = -1) ∨ (t.2.2 < 9999 ∧ (0 ≤ t.2.1 ∧ t.2.1 < (s : Int) ∧ a 2 (Int.toNat t.2.1) ≠ 0) ∧ (t.1 = -1 ∨ (0 ≤ t.1 ∧ t.1 < (s : Int) ∧ a 3 (Int.toNat t.1) ≠ 0)))
theorem YF_9 {s : Nat} {a : Nat → Nat → Int} {t : T3} (x : YF s a t) : t.2.2 ≤ 9999 := by
  rcases x with x | x
  · have := x.1; omega
  · have := x.1; omega
section
variable {u ro : Nat → Int} {a : Nat → Nat → Int} {s : Nat}
theorem yv_f : ∀ k, k ≤ s → YF s a (yv u ro a s k) := by
  intro k
  induction k with
  | zero => intro _; exact Or.inl ⟨rfl, rfl, rfl⟩
  | succ k ih =>
    intro hk
    have i := ih (by omega)
    have i9 := YF_9 i
    show YF s a (if yc u ro a s k (yv u ro a s k).2.2 = 1 then ((k : Int), u (21 * k + 3), hw a k (yw u ro k)) else yv u ro a s k)
    split
    · next z =>
      unfold yc at z
      split at z
      · next y =>
        refine Or.inr ⟨?_, ⟨?_, ?_, ?_⟩, Or.inr ⟨?_, ?_, ?_⟩⟩
        · show hw a k (yw u ro k) < 9999
          omega
        · exact y.2.1
        · show u (21 * k + 3) < (s : Int)
          omega
        · exact y.2.2.2.1
        · show (0 : Int) ≤ (k : Int)
          omega
        · show (k : Int) < (s : Int)
          omega
        · show a 3 (Int.toNat (k : Int)) ≠ 0
          rw [Int.toNat_natCast]
          exact y.1
      · omega
    · exact i
theorem sv_f : ∀ k, k ≤ s → YF s a (sv u ro a s k) := by
  intro k
  induction k with
  | zero => intro _; exact yv_f s (Nat.le_refl s)
  | succ k ih =>
    intro hk
    have i := ih (by omega)
    have i9 := YF_9 i
    show YF s a (if slc u ro a s k (sv u ro a s k).2.2 = 1 then (-1, (k : Int), hw a k 2 + ro 8) else sv u ro a s k)
    split
    · next z =>
      unfold slc at z
      split at z
      · next y =>
        refine Or.inr ⟨?_, ⟨?_, ?_, ?_⟩, Or.inl rfl⟩
        · show hw a k 2 + ro 8 < 9999
          omega
        · show (0 : Int) ≤ (k : Int)
          omega
        · show (k : Int) < (s : Int)
          omega
        · show a 2 (Int.toNat (k : Int)) ≠ 0
          rw [Int.toNat_natCast]
          exact y.1
      · omega
    · exact i
theorem brg_f : YF s a (brg u ro a s) := by
  unfold brg
  split
  · exact sv_f s (Nat.le_refl s)
  · exact yv_f s (Nat.le_refl s)
end
/-- of a seated case's bargain: by a yes, of an offer -/
theorem bgn_f {u ro bar : Nat → Int} {s : Nat} {x : Int} : ((bgn u ro bar s x).2.2 = 9999 ∧ (bgn u ro bar s x).1 = -1 ∧ (bgn u ro bar s x).2.1 = -1) ∨ ((bgn u ro bar s x).2.2 < 9999 ∧ (0 ≤ (bgn u ro bar s x).2.1 ∧ (bgn u ro bar s x).2.1 < (s : Int) ∧ ofv u ro (Int.toNat (bgn u ro bar s x).2.1) ≠ 0) ∧ ((bgn u ro bar s x).1 = -1 ∨ (0 ≤ (bgn u ro bar s x).1 ∧ (bgn u ro bar s x).1 < (s : Int) ∧ ysv u ro (Int.toNat (bgn u ro bar s x).1) ≠ 0))) := brg_f
/-! a word of an offer, as it was told or as another has it -/
def wov (u : Nat → Int) (w : Nat) : Nat → Int → Int
  | 0, _ => -1
  | f + 1, k => if 0 ≤ k then (if u (21 * k.toNat + 10 + w) ≠ -1 then u (21 * k.toNat + 10 + w) else if u (21 * k.toNat + 0) = 3 then wov u w f (u (21 * k.toNat + 3)) else -1) else -1
section
variable {u : Nat → Int} {w f : Nat} {k v : Int}
theorem wov_m (h : k < 0) : wov u w f k = -1 := by
  cases f with
  | zero => rfl
  | succ f => exact if_neg (by omega)
theorem wov_y (h : 0 ≤ k) (e : u (21 * k.toNat + 10 + w) = v) (z : v ≠ -1) : wov u w (f + 1) k = v := by
  show (if 0 ≤ k then (if u (21 * k.toNat + 10 + w) ≠ -1 then u (21 * k.toNat + 10 + w) else _) else _) = v
  rw [if_pos h, e, if_pos z]
theorem wov_s {x q : Int} (h : 0 ≤ k) (e : u (21 * k.toNat + 10 + w) = v) (z : v = -1) (e0 : u (21 * k.toNat + 0) = x) (z0 : x = 3) (e3 : u (21 * k.toNat + 3) = q) : wov u w (f + 1) k = wov u w f q := by
  show (if 0 ≤ k then (if u (21 * k.toNat + 10 + w) ≠ -1 then u (21 * k.toNat + 10 + w) else if u (21 * k.toNat + 0) = 3 then wov u w f (u (21 * k.toNat + 3)) else -1) else -1) = _
  rw [if_pos h, e, if_neg (fun y => y z), e0, if_pos z0, e3]
theorem wov_n {x : Int} (h : 0 ≤ k) (e : u (21 * k.toNat + 10 + w) = v) (z : v = -1) (e0 : u (21 * k.toNat + 0) = x) (z0 : x ≠ 3) : wov u w (f + 1) k = -1 := by
  show (if 0 ≤ k then (if u (21 * k.toNat + 10 + w) ≠ -1 then u (21 * k.toNat + 10 + w) else if u (21 * k.toNat + 0) = 3 then wov u w f (u (21 * k.toNat + 3)) else -1) else -1) = _
  rw [if_pos h, e, if_neg (fun y => y z), e0, if_neg z0]
end
theorem wov_e {u : Nat → Int} {w f : Nat} {k v x : Int} (h : 0 ≤ k) (e : u (21 * k.toNat + 10 + w) = v) (e0 : u (21 * k.toNat + 0) = x) (z : x ≠ 3) : wov u w (f + 1) k = v := by
  by_cases c : v = -1
  · rw [wov_n h e c e0 z, c]
  · exact wov_y h e c
/-- no more steps than the number says are wanted -/
theorem wov_f {u : Nat → Int} {s : Nat} (W : UW u s) {w : Nat} : ∀ n f f' : Nat, ∀ k : Int, k < (n : Int) → k < (s : Int) → k < (f : Int) → k < (f' : Int) → wov u w f k = wov u w f' k := by
  intro n
  induction n with
  | zero => intro f f' k h _ _ _; rw [wov_m (by omega), wov_m (by omega)]
  | succ n ih =>
    intro f f' k h1 h2 h3 h4
    by_cases c : k < 0
    · rw [wov_m c, wov_m c]
    · obtain ⟨g, rfl⟩ : ∃ g, f = g + 1 := ⟨f - 1, by omega⟩
      obtain ⟨g', rfl⟩ : ∃ g, f' = g + 1 := ⟨f' - 1, by omega⟩
      have hw := (W k.toNat (by omega)).2.1
      show (if 0 ≤ k then (if u (21 * k.toNat + 10 + w) ≠ -1 then u (21 * k.toNat + 10 + w) else if u (21 * k.toNat + 0) = 3 then wov u w g (u (21 * k.toNat + 3)) else -1) else -1) = (if 0 ≤ k then (if u (21 * k.toNat + 10 + w) ≠ -1 then u (21 * k.toNat + 10 + w) else if u (21 * k.toNat + 0) = 3 then wov u w g' (u (21 * k.toNat + 3)) else -1) else -1)
      rw [ih g g' (u (21 * k.toNat + 3)) (by omega) (by omega) (by omega) (by omega)]
/-- a word of the bargain -/
def bwv (u ro : Nat → Int) (b o : Int) (w : Nat) : Int := if 0 ≤ b ∧ u (21 * b.toNat + 0) = 3 ∧ u (21 * b.toNat + 10 + w) ≠ -1 ∧ ro 10 ≠ 0 then (if ro 10 = 1 then u (21 * b.toNat + 10 + w) else -1) else wov u w 12 o
/-- run -/
def rnv (u ro : Nat → Int) (t : T3) (w : Int) : Int := if t.2.2 = 9999 then -2 else if w = 0 then t.1 else if w = 1 then t.2.1 else if w = 2 then t.2.2 else bwv u ro t.1 t.2.1 (w - 10).toNat
/-- a cell, or there is none such -/
theorem xc_29b {h : av_H} {t c s : Nat} {cb : Int} (o : CO h t c s cb) (k : Int) (qk : -2147483648 ≤ k ∧ k ≤ 2147483647) (w : Nat) (hw : w < 21) {wi : Int} (ew : wi = (w : Int)) {Q : Option av_V → av_H → Prop} (hq0 : (k < 0 ∨ (s : Int) ≤ k) → Q (some (.inl (-1))) h) (hq1 : 0 ≤ k → k < (s : Int) → ∀ v, hA h c (21 * Int.toNat k + w) = v → Q (some (.inl v)) h) : av_wp none cd_29 0 [some (.inr (.inr (.inl (some (t))))), some (.inl k), some (.inl wi)] [] h Q := by
  by_cases z : 0 ≤ k ∧ k < (s : Int)
  · exact xc_29 o k z w hw ew rfl (hq1 z.1 z.2 _ rfl)
  · refine cx_29 o k qk wi (by omega) ?_
    have e : cel (hA h c) s k wi = -1 := if_neg (fun y => z y.1)
    rw [e]
    exact hq0 (by omega)
/-- a yes that says but is small -/
theorem ys_sm {u ro : Nat → Int} {k : Nat} (h : ysv u ro k ≠ 0) (e : u (21 * k + 0) = 3) : smv u ro k = 1 := by
  unfold ysv at h
  split at h
  · next z => omega
  · exact absurd rfl h
theorem sm_3 {u ro : Nat → Int} {k : Nat} (h : smv u ro k = 1) : u (21 * k + 0) = 3 := by
  unfold smv at h
  split at h
  · next z => exact z.1
  · omega
