/-! A CASE IS SEATED -/
/-- benches 61 and b, what is sure and what is needed may change -/
def FP (b : Nat) (g h : av_H) : Prop := Fr g h ∧ (∀ q, q ≠ 27 → q ≠ 28 → (∀ j, j < 11 → q ≠ 61 + 1 + j) → (∀ j, j < 11 → q ≠ b + 1 + j) → hA h q = hA g q) ∧ (∀ o f, o ≠ 61 → o ≠ b → hF h o f = hF g o f) ∧ ∀ o f, o ≠ 61 → o ≠ b → hG h o f = hG g o f
theorem FP_rf (b : Nat) (h : av_H) : FP b h h := ⟨Fr_rf h, fun _ _ _ _ _ => rfl, fun _ _ _ _ => rfl, fun _ _ _ _ => rfl⟩
theorem FP_tr {b : Nat} {g h k : av_H} (a : FP b g h) (c : FP b h k) : FP b g k := ⟨Fr_tr a.1 c.1, fun q e1 e2 e3 e4 => (c.2.1 q e1 e2 e3 e4).trans (a.2.1 q e1 e2 e3 e4), fun o f e1 e2 => (c.2.2.1 o f e1 e2).trans (a.2.2.1 o f e1 e2), fun o f e1 e2 => (c.2.2.2 o f e1 e2).trans (a.2.2.2 o f e1 e2)⟩
theorem FP_s {b : Nat} {g h : av_H} (F : FS g h) : FP b g h := ⟨F.1, fun q e1 e2 e3 _ => F.2.1 q e1 e2 e3, fun o f e1 _ => F.2.2.1 o f e1, fun o f e1 _ => F.2.2.2 o f e1⟩
theorem FP_y {b : Nat} {g h : av_H} (F : FY b g h) : FP b g h := ⟨F.1.1, fun q _ _ _ e4 => F.2.1 q e4, fun o f _ e2 => F.2.2 o f e2, fun o f e1 e2 => F.1.2 o f e2 e1⟩
theorem FP_n {b : Nat} {g h : av_H} (F : FN b g h) : FP b g h := ⟨F.1.1, fun q _ _ _ e4 => F.2.1 q e4, fun o f _ e2 => F.2.2 o f e2, fun o f _ _ => by rw [F.1.2]⟩
theorem bn_28 {b : Nat} (hb : bn b) (j : Nat) (hj : j < 11) : (28 : Nat) ≠ b + 1 + j := by
  rcases hb with e | e | e <;> omega
theorem CJ_by {U : Nat → Nat → Int} {S : Nat → Nat} {n : Int} {sr nd : Nat → Int} {b : Nat} {g h : av_H} (hb : bn b) (x : CJ U S n sr nd g) (F : FY b g h) (I : IC h) : CJ U S n sr nd h := ⟨I, CSP_fr x.1.1 x.2.1 F.1.1, (F.2.1 27 (bn_27 hb)).trans x.2.2.1, (F.2.1 28 (bn_28 hb)).trans x.2.2.2⟩
theorem CJ_bn {U : Nat → Nat → Int} {S : Nat → Nat} {n : Int} {sr nd : Nat → Int} {b : Nat} {g h : av_H} (hb : bn b) (x : CJ U S n sr nd g) (F : FN b g h) (I : IC h) : CJ U S n sr nd h := ⟨I, CSP_fr x.1.1 x.2.1 F.1.1, (F.2.1 27 (bn_27 hb)).trans x.2.2.1, (F.2.1 28 (bn_28 hb)).trans x.2.2.2⟩
theorem FP_row {b : Nat} (hb : bn b) {g h : av_H} {r : Nat} (F : FP b g h) (k2 : rwc r = true) : hA h r = hA g r := by
  refine F.2.1 r (fun z => ?_) (fun z => ?_) (fun j hj z => ?_) (fun j hj z => ?_)
  · rw [z] at k2; cases k2
  · rw [z] at k2; cases k2
  · have := rwc_bn (b := 61) (Or.inr (Or.inr rfl)) j (Nat.ble_eq_true_of_le hj)
    rw [← z, k2] at this
    cases this
  · have := rwc_bn hb j (Nat.ble_eq_true_of_le hj)
    rw [← z, k2] at this
    cases this
/-- what is known of the sure cases, law by law -/
def SUA (U : Nat → Nat → Int) (S : Nat → Nat) (n L : Int) (ro : Nat → Nat → Int) (sr : Nat → Int) : Prop := ∀ l : Nat, l < 8 → ((l : Int) < L → ∀ i : Nat, i < 16 → sr (16 * l + i) = 0 ∨ ((i : Int) < n ∧ sr (16 * l + i) = sre U S (ro l) i)) ∧ (L ≤ (l : Int) → ∀ i : Nat, i < 16 → sr (16 * l + i) = 0)
theorem SUA_i {U : Nat → Nat → Int} {S : Nat → Nat} {n L : Int} {ro : Nat → Nat → Int} {sr : Nat → Int} (x : SUA U S n L ro sr) {l : Int} (h0 : 0 ≤ l) (h8 : l < 8) (hl : l < L) {m : Nat} (hm : m ≤ 16) : SUI U S (ro l.toNat) (l * 16) m sr := fun i hi => by
  have := (x l.toNat (by omega)).1 (by omega) i (by omega)
  rw [show (l * 16).toNat + i = 16 * l.toNat + i by omega]
  rcases this with e | e
  · exact Or.inl e
  · exact Or.inr e.2
theorem SUA_s {U : Nat → Nat → Int} {S : Nat → Nat} {n L : Int} {ro : Nat → Nat → Int} {sr sr' : Nat → Int} (x : SUA U S n L ro sr) {l m : Int} (h0 : 0 ≤ l) (h8 : l < 8) (hl : l < L) (hm : 0 ≤ m ∧ m ≤ n ∧ m ≤ 16) (y : SUI U S (ro l.toNat) (l * 16) m.toNat sr') (z : ∀ q : Nat, ((q : Int) < l * 16 ∨ l * 16 + m ≤ (q : Int)) → sr' q = sr q) : SUA U S n L ro sr' := fun k hk => by
  by_cases c : k = l.toNat
  · subst c
    refine ⟨fun h1 i hi => ?_, fun h1 => by omega⟩
    by_cases d : i < m.toNat
    · have := y i d
      rw [show (l * 16).toNat + i = 16 * l.toNat + i by omega] at this
      rcases this with e | e
      · exact Or.inl e
      · exact Or.inr ⟨by omega, e⟩
    · rw [z (16 * l.toNat + i) (by omega)]
      exact (x l.toNat (by omega)).1 h1 i hi
  · refine ⟨fun h1 i hi => ?_, fun h1 i hi => ?_⟩
    · rw [z (16 * k + i) (by omega)]
      exact (x k hk).1 h1 i hi
    · rw [z (16 * k + i) (by omega)]
      exact (x k hk).2 h1 i hi
theorem EB_self {b t c s r : Nat} {cb : Int} {u ro : Nat → Int} {a : Nat → Nat → Int} {x y z : Int} {h : av_H} (e : EB b t c s r cb u ro a x y z h) : EB b t c s r cb u ro a (hF h b 13) (hF h b 14) (hF h b 15) h := ⟨e.1, e.2.1, e.2.2.1, e.2.2.2.1, rfl, rfl, rfl⟩
/-- what the class's looks need of cases and laws -/
def CRT (U : Nat → Nat → Int) (S : Nat → Nat) (n L : Int) (ro : Nat → Nat → Int) : Prop := (∀ i : Nat, (i : Int) < n → CWF (U i) (S i) i) ∧ (∀ i q j : Nat, (i : Int) < n → j < 4 → U i (21 * q + 15 + j) ≤ 16) ∧ (∀ i : Nat, (i : Int) < n → 1 ≤ cbf (U i) (S i)) ∧ ∀ l : Int, 0 ≤ l → l < L → RLW (ro l.toNat)
