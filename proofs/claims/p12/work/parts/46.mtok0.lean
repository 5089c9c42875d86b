/-! THE REFERENCE STANDS AT A TOKEN -/
theorem edn_all {b : Nat → Int} {lim : Nat} {s : Int} : ∀ (n a : Nat), lim - a = n → ∀ j, a ≤ j → j < edn b lim s a → so (b j) = s := by
  intro n
  induction n with
  | zero => intro a h1 j h2 h3; rw [edn_end (by omega)] at h3; omega
  | succ n ih =>
    intro a h1 j h2 h3
    by_cases h : a < lim ∧ so (b a) = s
    · rw [edn_go h.1 h.2] at h3
      by_cases e : j = a
      · rw [e]; exact h.2
      · exact ih (a + 1) (by omega) j (by omega) h3
    · rw [edn_end h] at h3; omega
def TKW (b : Nat → Int) (t : TT) : Prop := t.1 ≤ t.2.1 ∧ (t.2.2.1 = 1 → ∀ j, t.1 ≤ j → j < t.2.1 → 97 ≤ b j ∧ b j ≤ 122) ∧ (t.2.2.1 = 2 → ∀ j, t.1 ≤ j → j < t.2.1 → 48 ≤ b j ∧ b j ≤ 57)
theorem adv_ok {b : Nat → Int} {lim : Nat} {t : TT} (w : WF lim t) : WF lim (adv b lim t) ∧ TKW b (adv b lim t) := by
  obtain ⟨w1, w2, w3, w4, w5⟩ := w
  have e1 := edn_le (b := b) (s := 4) (lim - t.2.1) t.2.1 rfl w2
  generalize hk : edn b lim 4 t.2.1 = k at e1
  by_cases hl : k < lim
  · have gs := so_r (b k)
    by_cases h12 : so (b k) = 1 ∨ so (b k) = 2
    · have e2 := edn_le (b := b) (s := so (b k)) (lim - (k + 1)) (k + 1) rfl (by omega)
      have ea : adv b lim t = (k, edn b lim (so (b k)) (k + 1), so (b k), t.2.2.2) := by simp only [adv, hk, if_pos hl, if_pos h12]
      have al : ∀ j, k ≤ j → j < edn b lim (so (b k)) (k + 1) → so (b j) = so (b k) := fun j h1 h2 => by
        by_cases e : j = k
        · rw [e]
        · exact edn_all (lim - (k + 1)) (k + 1) rfl j (by omega) h2
      rw [ea]
      refine ⟨⟨by show k ≤ 900; omega, e2.2, w3, by show 0 ≤ so (b k) ∧ so (b k) ≤ 5; omega, w5⟩, Nat.le_trans (Nat.le_succ k) e2.1, fun h j h1 h2 => ?_, fun h j h1 h2 => ?_⟩
      · exact so_1.mp ((al j h1 h2).trans h)
      · exact so_2.mp ((al j h1 h2).trans h)
    · have ea : adv b lim t = (k, k + 1, so (b k), t.2.2.2) := by simp only [adv, hk, if_pos hl, if_neg h12]
      rw [ea]
      exact ⟨⟨by show k ≤ 900; omega, by show k + 1 ≤ lim; omega, w3, by show 0 ≤ so (b k) ∧ so (b k) ≤ 5; omega, w5⟩, by show k ≤ k + 1; omega, fun h => absurd (Or.inl h) h12, fun h => absurd (Or.inr h) h12⟩
  · have ea : adv b lim t = (k, k, 0, t.2.2.2) := by simp only [adv, hk, if_neg hl]
    rw [ea]
    exact ⟨⟨by show k ≤ 900; omega, e1.2, w3, by show (0 : Int) ≤ 0 ∧ (0 : Int) ≤ 5; omega, w5⟩, Nat.le_refl k, fun h => absurd (show (0 : Int) = 1 from h) (by decide), fun h => absurd (show (0 : Int) = 2 from h) (by decide)⟩
theorem fal_ok {b : Nat → Int} {lim : Nat} {t : TT} (w : WF lim t) (k : TKW b t) : WF lim (fal t) ∧ TKW b (fal t) := by
  obtain ⟨w1, w2, w3, w4, w5⟩ := w
  refine ⟨⟨w1, w2, w3, w4, ?_⟩, k⟩
  show -1 ≤ (if t.2.2.2 = -1 then (t.1 : Int) else t.2.2.2) ∧ (if t.2.2.2 = -1 then (t.1 : Int) else t.2.2.2) ≤ 900
  split <;> omega
def wrv (t : TT) : Int := if t.2.2.2 = -1 then 0 else 1
def MT (b : Nat → Int) (lim : Nat) (t : TT) (x17 : Int) (A : Nat → Nat → Int) (h : av_H) : Prop := NS b lim x17 t.2.2.2 (lim : Int) (t.2.1 : Int) (t.1 : Int) (tokv t) (valv b t) (txtv b t) (wrv t) A h ∧ WF lim t ∧ TKW b t
theorem tok_f (t : TT) (h : 0 ≤ t.2.2.1 ∧ t.2.2.1 ≤ 5) : (tokv t = 1 ↔ t.2.2.1 = 1) ∧ (tokv t = 2 ↔ (t.2.2.1 = 2 ∧ (t.2.1 : Int) - t.1 ≤ 4)) ∧ (tokv t = 0 ↔ t.2.2.1 = 0) ∧ (tokv t = 59 ↔ t.2.2.1 = 3) ∧ (0 ≤ tokv t ∧ tokv t ≤ 59) := by
  unfold tokv
  (repeat' split) <;> omega
theorem wr_f (t : TT) : (wrv t = 0 ∧ t.2.2.2 = -1) ∨ (wrv t = 1 ∧ t.2.2.2 ≠ -1) := by
  unfold wrv
  split <;> omega
theorem txt_le {b : Nat → Int} {f : Nat} : ∀ n, n ≤ 8 → (∀ i, i < n → 97 ≤ b (f + i) ∧ b (f + i) ≤ 122) → txt b f n ≤ 27 ^ n - 1 := by
  intro n
  induction n with
  | zero => intro _ _; show (0 : Int) ≤ 27 ^ 0 - 1; omega
  | succ n ih =>
    intro hn hb
    have h1 := ih (by omega) (fun i hi => hb i (by omega))
    have h2 := hb n (by omega)
    have e : txt b f (n + 1) = txt b f n * 27 + (b (f + n) - 96) := if_pos (by omega)
    have e2 : (27 : Int) ^ (n + 1) = 27 ^ n * 27 := Int.pow_succ 27 n
    rw [e, e2]
    omega
theorem txtv_r {b : Nat → Int} {t : TT} (k : TKW b t) : -1 ≤ txtv b t ∧ txtv b t ≤ 282429536481 := by
  unfold txtv
  split
  · next hs =>
    by_cases h8 : t.2.1 - t.1 ≤ 8
    · have hb : ∀ i, i < t.2.1 - t.1 → 97 ≤ b (t.1 + i) ∧ b (t.1 + i) ≤ 122 := fun i hi => k.2.1 hs (t.1 + i) (by omega) (by omega)
      have h1 := txt_le (b := b) (f := t.1) (t.2.1 - t.1) h8 hb
      have h2 := txt_pos (b := b) (f := t.1) (t.2.1 - t.1) h8 hb
      have h3 : (27 : Int) ^ (t.2.1 - t.1) ≤ 282429536481 := by
        have hh : ∀ n, n < 9 → (27 : Int) ^ n ≤ 282429536481 := by decide
        exact hh _ (by omega)
      omega
    · rw [txt_big (by omega)]; omega
  · omega
theorem av_wlr {x : Int} (h : -9000000000000000000 ≤ x ∧ x ≤ 9000000000000000000) : av_wl x = x := Int.bmod_eq_of_le (by omega) (by omega)
theorem lcf {x y : Int} (hx : -9000000000000000000 ≤ x ∧ x ≤ 9000000000000000000) (hy : -9000000000000000000 ≤ y ∧ y ≤ 9000000000000000000) : ((if av_wl y < av_wl x then (1 : Int) else if av_wl x = av_wl y then 0 else -1) = 0 ↔ x = y) ∧ ((if av_wl y < av_wl x then (1 : Int) else if av_wl x = av_wl y then 0 else -1) < 0 ↔ x < y) ∧ (-1 ≤ (if av_wl y < av_wl x then (1 : Int) else if av_wl x = av_wl y then 0 else -1) ∧ (if av_wl y < av_wl x then (1 : Int) else if av_wl x = av_wl y then 0 else -1) ≤ 1) := by
  rw [av_wlr hx, av_wlr hy]
  (repeat' split) <;> omega
/-- the digits' numbers are the same where there are at most four -/
theorem dgc_dgv {b : Nat → Int} {f : Nat} : ∀ n, n ≤ 4 → (∀ i, i < n → 48 ≤ b (f + i) ∧ b (f + i) ≤ 57) → dgc b f n = dgv b f n ∧ 0 ≤ dgv b f n ∧ dgv b f n ≤ 10 ^ n - 1 := by
  intro n
  induction n with
  | zero => intro _ _; exact ⟨rfl, by show (0 : Int) ≤ 0; omega, by show (0 : Int) ≤ 10 ^ 0 - 1; omega⟩
  | succ n ih =>
    intro hn hb
    have h1 := ih (by omega) (fun i hi => hb i (by omega))
    have h2 := hb n (by omega)
    have e2 : (10 : Int) ^ (n + 1) = 10 ^ n * 10 := Int.pow_succ 10 n
    have h3 : (10 : Int) ^ n ≤ 1000 := by
      have hh : ∀ n, n < 4 → (10 : Int) ^ n ≤ 1000 := by decide
      exact hh n (by omega)
    have e : dgc b f (n + 1) = 10 * dgc b f n + b (f + n) - 48 := if_pos (by omega)
    have e3 : dgv b f (n + 1) = dgv b f n * 10 + b (f + n) - 48 := rfl
    rw [e, e3, e2]
    omega
theorem vl_f {b : Nat → Int} {t : TT} (k : TKW b t) : (vlv b t ≠ -1 ↔ (t.2.2.2 = -1 ∧ t.2.2.1 = 2 ∧ (t.2.1 : Int) - t.1 ≤ 4)) ∧ (vlv b t ≠ -1 → valv b t = vlv b t ∧ 0 ≤ vlv b t ∧ vlv b t ≤ 9999) := by
  by_cases h : t.2.2.2 = -1 ∧ t.2.2.1 = 2 ∧ (t.2.1 : Int) - t.1 ≤ 4
  · have e : vlv b t = dgv b t.1 (t.2.1 - t.1) := if_pos h
    have e2 : valv b t = dgc b t.1 (t.2.1 - t.1) := if_pos h.2.1
    have kk := k.1
    have h1 := dgc_dgv (b := b) (f := t.1) (t.2.1 - t.1) (by omega) (fun i hi => k.2.2 h.2.1 (t.1 + i) (by omega) (by omega))
    have h3 : (10 : Int) ^ (t.2.1 - t.1) ≤ 10000 := by
      have hh : ∀ n, n < 5 → (10 : Int) ^ n ≤ 10000 := by decide
      exact hh _ (by omega)
    rw [e, e2]
    exact ⟨⟨fun _ => h, fun _ => by omega⟩, fun _ => ⟨h1.1, h1.2.1, by omega⟩⟩
  · have e : vlv b t = -1 := if_neg h
    rw [e]
    exact ⟨⟨fun z => absurd rfl z, fun z => absurd z h⟩, fun z => absurd rfl z⟩
theorem dgc_r {b : Nat → Int} {f : Nat} : ∀ n, (∀ i, i < n → 48 ≤ b (f + i) ∧ b (f + i) ≤ 57) → 0 ≤ dgc b f n ∧ dgc b f n ≤ 10000000 := by
  intro n
  induction n with
  | zero => intro _; show (0 : Int) ≤ 0 ∧ (0 : Int) ≤ 10000000; omega
  | succ n ih =>
    intro hb
    have h1 := ih (fun i hi => hb i (by omega))
    have h2 := hb n (by omega)
    show 0 ≤ (if dgc b f n < 1000000 then 10 * dgc b f n + b (f + n) - 48 else dgc b f n) ∧ (if dgc b f n < 1000000 then 10 * dgc b f n + b (f + n) - 48 else dgc b f n) ≤ 10000000
    split <;> omega
theorem valv_r {b : Nat → Int} {t : TT} (k : TKW b t) : -2147483648 ≤ valv b t ∧ valv b t ≤ 2147483647 := by
  unfold valv
  split
  · next h =>
    have kk := k.1
    have := dgc_r (b := b) (f := t.1) (t.2.1 - t.1) (fun i hi => k.2.2 h (t.1 + i) (by omega) (by omega))
    omega
  · omega
