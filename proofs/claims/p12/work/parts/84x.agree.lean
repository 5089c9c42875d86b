/-! BENCHES THAT AGREE DECIDE ALIKE -/
def AGR (s : Nat) (a a' : Nat → Nat → Int) : Prop := ∀ k, k < s → (∀ i, i < 3 → a 0 (12 * i + k) = a' 0 (12 * i + k)) ∧ a 2 k = a' 2 k ∧ a 3 k = a' 3 k ∧ a 4 k = a' 4 k
section
variable {u ro : Nat → Int} {a a' : Nat → Nat → Int} {s : Nat}
theorem hw_g (g : AGR s a a') {k : Nat} (hk : k < s) (w : Int) : hw a k w = hw a' k w := by
  unfold hw hof
  split
  · have := (g k hk).1 w.toNat (by omega)
    rw [show (w * 12 + (k : Int)).toNat = 12 * w.toNat + k by omega]
    exact this
  · rfl
theorem o5_g (g : AGR s a a') {k : Nat} (hk : k < s) : o5 ro a k = o5 ro a' k := by
  unfold o5
  rw [(g k hk).2.1, (g k hk).2.2.2, hw_g g hk]
theorem e0_g (g : AGR s a a') {k : Nat} (hk : k < s) : e0 u ro a k = e0 u ro a' k := by
  unfold e0
  rw [(g k hk).2.1, hw_g g hk]
theorem hB_g (g : AGR s a a') {k : Nat} (hk : k < s) : hB u ro a k = hB u ro a' k := by
  unfold hB
  rw [hw_g g hk]
theorem tbv_g (g : AGR s a a') (q : Nat) : ∀ k, k ≤ s → tbv u ro a q k = tbv u ro a' q k := by
  intro k
  induction k with
  | zero => intro _; rfl
  | succ k ih =>
    intro hk
    show (if hB u ro a k ≠ -1 ∧ u (21 * k + 3) = (q : Int) then mn2 (tbv u ro a q k) (hB u ro a k) else tbv u ro a q k) = (if hB u ro a' k ≠ -1 ∧ u (21 * k + 3) = (q : Int) then mn2 (tbv u ro a' q k) (hB u ro a' k) else tbv u ro a' q k)
    rw [hB_g g (by omega), ih (by omega)]
theorem ebv_g (g : AGR s a a') {q : Nat} (hq : q < s) : ∀ k, k ≤ s → ebv u ro a q k = ebv u ro a' q k := by
  intro k
  induction k with
  | zero => intro _; exact e0_g g hq
  | succ k ih =>
    intro hk
    show (if hB u ro a k ≠ -1 ∧ u (21 * k + 3) = (q : Int) ∧ fre u ro q ≤ hB u ro a k then ea (ebv u ro a q k) (a 2 q) (hB u ro a k) 1 (k : Int) else ebv u ro a q k) = (if hB u ro a' k ≠ -1 ∧ u (21 * k + 3) = (q : Int) ∧ fre u ro q ≤ hB u ro a' k then ea (ebv u ro a' q k) (a' 2 q) (hB u ro a' k) 1 (k : Int) else ebv u ro a' q k)
    rw [hB_g g (by omega), ih (by omega), (g q hq).2.1]
theorem awv_g (g : AGR s a a') (q : Nat) : ∀ k, k ≤ s → awv u a q k = awv u a' q k := by
  intro k
  induction k with
  | zero => intro _; rfl
  | succ k ih =>
    intro hk
    show (if ans u k = 1 ∧ u (21 * k + 3) = (q : Int) then mn2 (awv u a q k) (hw a k 0) else awv u a q k) = (if ans u k = 1 ∧ u (21 * k + 3) = (q : Int) then mn2 (awv u a' q k) (hw a' k 0) else awv u a' q k)
    rw [hw_g g (by omega), ih (by omega)]
theorem eav_g (g : AGR s a a') {q : Nat} (hq : q < s) : ∀ k, k ≤ s → eav u ro a s q k = eav u ro a' s q k := by
  intro k
  induction k with
  | zero => intro _; exact ebv_g g hq s (Nat.le_refl s)
  | succ k ih =>
    intro hk
    show (if ans u k = 1 ∧ u (21 * k + 3) = (q : Int) ∧ (u (21 * k + 0) = 4 ∨ a 2 k ≠ 0) then ea (eav u ro a s q k) (a 2 q) (hw a k (ro 5)) 2 (k : Int) else eav u ro a s q k) = (if ans u k = 1 ∧ u (21 * k + 3) = (q : Int) ∧ (u (21 * k + 0) = 4 ∨ a' 2 k ≠ 0) then ea (eav u ro a' s q k) (a' 2 q) (hw a' k (ro 5)) 2 (k : Int) else eav u ro a' s q k)
    rw [hw_g g (by omega), ih (by omega), (g q hq).2.1, (g k (by omega)).2.1]
theorem yc_g (g : AGR s a a') {k : Nat} (hk : k < s) (m : Int) : yc u ro a s k m = yc u ro a' s k m := by
  unfold yc
  by_cases c : 0 ≤ u (21 * k + 3) ∧ u (21 * k + 3) < (k : Int)
  · have hq : (u (21 * k + 3)).toNat < s := by omega
    rw [(g k hk).2.2.1, (g _ hq).2.1, hw_g g hk, hw_g g hq, hw_g g hk, tbv_g g k s (Nat.le_refl s), o5_g g hq, eav_g g hq s (Nat.le_refl s)]
  · rw [if_neg (fun z => c ⟨z.2.1, z.2.2.1⟩), if_neg (fun z => c ⟨z.2.1, z.2.2.1⟩)]
theorem yv_g (g : AGR s a a') : ∀ k, k ≤ s → yv u ro a s k = yv u ro a' s k := by
  intro k
  induction k with
  | zero => intro _; rfl
  | succ k ih =>
    intro hk
    show (if yc u ro a s k (yv u ro a s k).2.2 = 1 then ((k : Int), u (21 * k + 3), hw a k (yw u ro k)) else yv u ro a s k) = (if yc u ro a' s k (yv u ro a' s k).2.2 = 1 then ((k : Int), u (21 * k + 3), hw a' k (yw u ro k)) else yv u ro a' s k)
    rw [ih (by omega), yc_g g (by omega), hw_g g (by omega)]
theorem slc_g (g : AGR s a a') {k : Nat} (hk : k < s) (m : Int) : slc u ro a s k m = slc u ro a' s k m := by
  unfold slc
  rw [(g k hk).2.1, hw_g g hk, awv_g g k s (Nat.le_refl s), o5_g g hk, eav_g g hk s (Nat.le_refl s)]
theorem sv_g (g : AGR s a a') : ∀ k, k ≤ s → sv u ro a s k = sv u ro a' s k := by
  intro k
  induction k with
  | zero => intro _; exact yv_g g s (Nat.le_refl s)
  | succ k ih =>
    intro hk
    show (if slc u ro a s k (sv u ro a s k).2.2 = 1 then (-1, (k : Int), hw a k 2 + ro 8) else sv u ro a s k) = (if slc u ro a' s k (sv u ro a' s k).2.2 = 1 then (-1, (k : Int), hw a' k 2 + ro 8) else sv u ro a' s k)
    rw [ih (by omega), slc_g g (by omega), hw_g g (by omega)]
theorem brg_g (g : AGR s a a') : brg u ro a s = brg u ro a' s := by
  unfold brg
  rw [sv_g g s (Nat.le_refl s), yv_g g s (Nat.le_refl s)]
theorem DEC_g {b : Nat → Nat → Int} (g : AGR s a a') (D : DEC u ro a s b) : ∀ q, q < s → b 9 q = tbv u ro a' q s ∧ ET3 b q = eav u ro a' s q s ∧ b 5 q = o5 ro a' q ∧ b 10 q = awv u a' q s := fun q hq => by
  have d := D.1 q hq
  rw [← tbv_g g q s (Nat.le_refl s), ← eav_g g hq s (Nat.le_refl s), ← o5_g g hq, ← awv_g g q s (Nat.le_refl s)]
  exact d
end
/-- a bench's first rows at combo x -/
def arr (u ro bar : Nat → Int) (x : Int) : Nat → Nat → Int := fun j q => if j = 0 then hrv u x (q % 12) (q / 12) else if j = 2 then ofv u ro q else if j = 3 then ysv u ro q else if j = 4 then bar q else 0
theorem arr_0 {u ro bar : Nat → Int} {x : Int} {k i : Nat} (hk : k < 12) : arr u ro bar x 0 (12 * i + k) = hrv u x k i := by
  show hrv u x ((12 * i + k) % 12) ((12 * i + k) / 12) = _
  rw [show (12 * i + k) % 12 = k by omega, show (12 * i + k) / 12 = i by omega]
theorem arr_g {u ro bar : Nat → Int} {x : Int} {s : Nat} {a : Nat → Nat → Int} (hs : s ≤ 12) (X : HX u s x a) (h : ∀ k, k < s → a 2 k = ofv u ro k ∧ a 3 k = ysv u ro k ∧ a 4 k = bar k) : AGR s a (arr u ro bar x) := fun k hk => ⟨fun i hi => by rw [arr_0 (by omega)]; exact X k hk i hi, (h k hk).1, (h k hk).2.1, (h k hk).2.2⟩
/-- the bargain of a case by rules, when the barred ones are bar, at combo x -/
def bgn (u ro bar : Nat → Int) (s : Nat) (x : Int) : T3 := brg u ro (arr u ro bar x) s
/-- each combo has one -/
def SRE (u ro bar : Nat → Int) (s : Nat) : Prop := cbf u s ≤ 1024 ∧ ∀ x : Int, 0 ≤ x → x < cbf u s → (bgn u ro bar s x).2.2 ≠ 9999
/-- what bars, when sr says which cases are sure (2) -/
def brv (u sr : Nat → Int) (k : Nat) : Int := if 0 ≤ u (21 * k + 6) ∧ u (21 * k + 6) < 16 ∧ sr (u (21 * k + 6)).toNat ≠ 2 then 1 else 0
/-- which of the cases told are sure by rules ro: the first n of them -/
noncomputable def srt (U : Nat → Nat → Int) (S : Nat → Nat) (ro : Nat → Int) : Nat → Nat → Int
  | 0, _ => 0
  | n + 1, j => if j = n then (@ite _ (SRE (U n) ro (brv (U n) (srt U S ro n)) (S n)) (Classical.propDecidable _) 2 1) else srt U S ro n j
theorem srt_s {U : Nat → Nat → Int} {S : Nat → Nat} {ro : Nat → Int} {n j : Nat} (h : j < n) : srt U S ro (n + 1) j = srt U S ro n j := if_neg (by omega)
theorem srt_m {U : Nat → Nat → Int} {S : Nat → Nat} {ro : Nat → Int} {j : Nat} : ∀ d, srt U S ro (j + 1 + d) j = srt U S ro (j + 1) j := by
  intro d
  induction d with
  | zero => rfl
  | succ d ih => rw [show j + 1 + (d + 1) = (j + 1 + d) + 1 by omega, srt_s (by omega)]; exact ih
/-- the sureness of one -/
noncomputable def sre (U : Nat → Nat → Int) (S : Nat → Nat) (ro : Nat → Int) (j : Nat) : Int := srt U S ro (j + 1) j
theorem srt_e {U : Nat → Nat → Int} {S : Nat → Nat} {ro : Nat → Int} {n j : Nat} (h : j < n) : srt U S ro n j = sre U S ro j := by
  have := srt_m (U := U) (S := S) (ro := ro) (j := j) (n - (j + 1))
  rw [show j + 1 + (n - (j + 1)) = n by omega] at this
  exact this
theorem sre_e {U : Nat → Nat → Int} {S : Nat → Nat} {ro : Nat → Int} {j : Nat} : sre U S ro j = @ite _ (SRE (U j) ro (brv (U j) (srt U S ro j)) (S j)) (Classical.propDecidable _) 2 1 := if_pos rfl
theorem sre_y {U : Nat → Nat → Int} {S : Nat → Nat} {ro : Nat → Int} {j : Nat} (h : SRE (U j) ro (brv (U j) (srt U S ro j)) (S j)) : sre U S ro j = 2 := sre_e.trans (if_pos h)
theorem sre_n {U : Nat → Nat → Int} {S : Nat → Nat} {ro : Nat → Int} {j : Nat} (h : ¬ SRE (U j) ro (brv (U j) (srt U S ro j)) (S j)) : sre U S ro j = 1 := sre_e.trans (if_neg h)
theorem sre_r {U : Nat → Nat → Int} {S : Nat → Nat} {ro : Nat → Int} {j : Nat} : sre U S ro j = 1 ∨ sre U S ro j = 2 := by
  by_cases c : SRE (U j) ro (brv (U j) (srt U S ro j)) (S j)
  · exact Or.inr (sre_y c)
  · exact Or.inl (sre_n c)
/-- only what the barred are counts -/
theorem SRE_c {u ro bar bar' : Nat → Int} {s : Nat} (h : ∀ k, k < s → bar k = bar' k) : SRE u ro bar s ↔ SRE u ro bar' s := by
  have g : ∀ x, bgn u ro bar s x = bgn u ro bar' s x := fun x => brg_g (fun k hk => ⟨fun i _ => rfl, rfl, rfl, h k hk⟩)
  unfold SRE
  simp only [g]
