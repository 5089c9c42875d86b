/-! A BENCH WITH A CASE SEATED -/
def TKR (u ro bar : Nat → Int) (s : Nat) (a : Nat → Nat → Int) : Prop := ∀ k, k < s → a 2 k = ofv u ro k ∧ a 3 k = ysv u ro k ∧ a 4 k = bar k
/-- it has decided combo x -/
def DCD (u ro bar : Nat → Int) (s : Nat) (x : Int) (a : Nat → Nat → Int) : Prop := HX u s x a ∧ ∀ q, q < s → a 9 q = tbv u ro (arr u ro bar x) q s ∧ ET3 a q = eav u ro (arr u ro bar x) s q s ∧ a 5 q = o5 ro (arr u ro bar x) q ∧ a 10 q = awv u (arr u ro bar x) q s
theorem TKR_z {u ro bar : Nat → Int} {s : Nat} {a : Nat → Nat → Int} (t : TKR u ro bar s a) (hb : ∀ k, 0 ≤ bar k ∧ bar k ≤ 1) : BZ s a := fun q hq => by
  rw [(t q hq).1, (t q hq).2.1, (t q hq).2.2]
  exact ⟨of_b u ro q, ys_b u ro q, hb q⟩
theorem TKR_c {u ro bar : Nat → Int} {s : Nat} {a a' : Nat → Nat → Int} (t : TKR u ro bar s a) (e2 : a' 2 = a 2) (e3 : a' 3 = a 3) (e4 : a' 4 = a 4) : TKR u ro bar s a' := fun q hq => by
  rw [e2, e3, e4]
  exact t q hq
/-- what a seated case must be -/
def SEA (u ro bar : Nat → Int) (s : Nat) : Prop := (∀ q, q < s → u (21 * q + 20) = tnv u q) ∧ (∀ k, 0 ≤ bar k ∧ bar k ≤ 1) ∧ (∀ j, u j ≤ 2000 ∨ j % 21 = 20) ∧ (∀ x : Int, 0 ≤ x → x ≤ 1023 → ∀ k, k < s → ∀ i, i < 3 → -1 ≤ hrv u x k i ∧ hrv u x k i ≤ 5000) ∧ -1 ≤ ro 8
theorem cy_2 {g h : av_H} {b t c s r : Nat} {cb : Int} {u ro : Nat → Int} {a : Nat → Nat → Int} {mb mo ma : Int} (E : EB b t c s r cb u ro a mb mo ma h) (F : FN b g h) {bar : Nat → Int} (G : SEA u ro bar s) (T : TKR u ro bar s a) (hz : HZ u a) (x : Int) (qx : 0 ≤ x ∧ x ≤ 1023) {Q : Option av_V → av_H → Prop} (hq : ∀ (v : Int) h' a' m1 m2 m3, EB b t c s r cb u ro a' m1 m2 m3 h' → FN b g h' → HZ u a' → TKR u ro bar s a' → DCD u ro bar s x a' → bgn u ro bar s x = (m1, m2, m3) → MBR (m1, m2, m3) → ((v = 1 ∧ m3 ≠ 9999) ∨ (v = 0 ∧ m3 = 9999)) → Q (some (.inl v)) h') : av_wp none cd_2 0 [some (.inr (.inr (.inl (some (b))))), some (.inl x)] [] h Q := by
  have s12 := co_s12 (ib_co E.1)
  refine cx_2 E F x qx G.1 hz (TKR_z T G.2.1) G.2.2.1 (G.2.2.2.1 x qx.1 qx.2) G.2.2.2.2 (fun v h' a1 a' m1 m2 m3 E' F' X1 Z' J D B M p => ?_)
  have T1 : TKR u ro bar s a1 := TKR_c T (J 2 (by omega)) (J 3 (by omega)) (J 4 (by omega))
  have ag := arr_g (ro := ro) (bar := bar) s12 X1 T1
  refine hq v h' a' m1 m2 m3 E' F' Z' (TKR_c T1 (D.2 2 (by omega)) (D.2 3 (by omega)) (D.2 4 (by omega))) ⟨fun q hq i hi => ?_, DEC_g ag D⟩ ?_ M p
  · rw [D.2 0 (by omega)]
    exact X1 q hq i hi
  · rw [← B]
    exact (brg_g ag).symm
/-! all combos, from one on and around -/
def nrm (cb k : Int) : Int := if 0 ≤ k ∧ k < cb then k else 0
def RND (B : Int → Prop) (cb i k : Int) : Prop := ∃ c : Int, (0 ≤ c ∧ c < cb) ∧ nrm cb k = (if c + i < cb then c + i else c + i - cb) ∧ ∀ x, ((c ≤ x ∧ x < c + i ∧ x < cb) ∨ (0 ≤ x ∧ x < c + i - cb)) → B x
theorem RND_0 {B : Int → Prop} {cb k : Int} (h : 0 < cb) : RND B cb 0 k := by
  refine ⟨nrm cb k, ?_, ?_, fun x hx => ?_⟩
  · unfold nrm
    split <;> omega
  · have : nrm cb k < cb := by unfold nrm; split <;> omega
    rw [if_pos (by omega)]
    omega
  · have : nrm cb k < cb := by unfold nrm; split <;> omega
    omega
theorem RND_s {B : Int → Prop} {cb i k n : Int} (x : RND B cb i k) (hi : 0 ≤ i ∧ i < cb) (hn : n = nrm cb k) (hB : B n) : RND B cb (i + 1) (n + 1) := by
  obtain ⟨c, h1, h2, h3⟩ := x
  refine ⟨c, h1, ?_, fun y hy => ?_⟩
  · unfold nrm
    rw [← hn] at h2
    split at h2
    · split <;> split <;> omega
    · split <;> split <;> omega
  · rw [← hn] at h2
    by_cases e : y = n
    · rw [e]; exact hB
    · refine h3 y ?_
      split at h2 <;> omega
theorem RND_e {B : Int → Prop} {cb i k : Int} (x : RND B cb i k) (hi : i = cb) : ∀ y, 0 ≤ y → y < cb → B y := by
  obtain ⟨c, h1, h2, h3⟩ := x
  intro y y1 y2
  exact h3 y (by omega)
