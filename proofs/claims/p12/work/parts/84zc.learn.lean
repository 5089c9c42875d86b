/-! WHAT A CASE IS GIVEN IS LEARNT -/
/-- the third bench, what is sure and what is needed may change -/
def FS (g h : av_H) : Prop := Fr g h ∧ (∀ q, q ≠ 27 → q ≠ 28 → (∀ j, j < 11 → q ≠ 61 + 1 + j) → hA h q = hA g q) ∧ (∀ o f, o ≠ 61 → hF h o f = hF g o f) ∧ ∀ o f, o ≠ 61 → hG h o f = hG g o f
theorem FS_rf (h : av_H) : FS h h := ⟨Fr_rf h, fun _ _ _ _ => rfl, fun _ _ _ => rfl, fun _ _ _ => rfl⟩
theorem FS_tr {g h k : av_H} (a : FS g h) (b : FS h k) : FS g k := ⟨Fr_tr a.1 b.1, fun q e1 e2 e3 => (b.2.1 q e1 e2 e3).trans (a.2.1 q e1 e2 e3), fun o f e => (b.2.2.1 o f e).trans (a.2.2.1 o f e), fun o f e => (b.2.2.2 o f e).trans (a.2.2.2 o f e)⟩
theorem FS_j {g h : av_H} (F : FJ g h) : FS g h := ⟨F.1, fun q e1 e2 _ => F.2.2.2 q e1 e2, fun o f _ => by rw [F.2.2.1], fun o f _ => by rw [F.2.1]⟩
theorem FS_y {g h : av_H} (F : FY 61 g h) : FS g h := ⟨F.1.1, fun q _ _ e3 => F.2.1 q e3, fun o f e => F.2.2 o f e, fun o f e => F.1.2 o f e e⟩
theorem FS_n {g h : av_H} (F : FN 61 g h) : FS g h := ⟨F.1.1, fun q _ _ e3 => F.2.1 q e3, fun o f e => F.2.2 o f e, fun o f _ => by rw [F.1.2]⟩
theorem b61_27 : ∀ j, j < 11 → (27 : Nat) ≠ 61 + 1 + j := fun j hj => by omega
theorem b61_28 : ∀ j, j < 11 → (28 : Nat) ≠ 61 + 1 + j := fun j hj => by omega
theorem CJ_y {U : Nat → Nat → Int} {S : Nat → Nat} {n : Int} {sr nd : Nat → Int} {g h : av_H} (x : CJ U S n sr nd g) (F : FY 61 g h) (I : IC h) : CJ U S n sr nd h := ⟨I, CSP_fr x.1.1 x.2.1 F.1.1, (F.2.1 27 b61_27).trans x.2.2.1, (F.2.1 28 b61_28).trans x.2.2.2⟩
theorem CJ_n {U : Nat → Nat → Int} {S : Nat → Nat} {n : Int} {sr nd : Nat → Int} {g h : av_H} (x : CJ U S n sr nd g) (F : FN 61 g h) (I : IC h) : CJ U S n sr nd h := ⟨I, CSP_fr x.1.1 x.2.1 F.1.1, (F.2.1 27 b61_27).trans x.2.2.1, (F.2.1 28 b61_28).trans x.2.2.2⟩
theorem FS_row {g h : av_H} {r : Nat} (F : FS g h) (k2 : rwc r = true) : hA h r = hA g r := by
  refine F.2.1 r (fun z => ?_) (fun z => ?_) (fun j hj z => ?_)
  · rw [z] at k2; cases k2
  · rw [z] at k2; cases k2
  · have := rwc_bn (b := 61) (Or.inr (Or.inr rfl)) j (Nat.ble_eq_true_of_le hj)
    rw [← z, k2] at this
    cases this
theorem brv_b (u sr : Nat → Int) (k : Nat) : 0 ≤ brv u sr k ∧ brv u sr k ≤ 1 := by
  unfold brv
  split <;> omega
theorem CWF_sea {u ro bar : Nat → Int} {s i : Nat} (W : CWF u s i) (r8 : -1 ≤ ro 8) (hb : ∀ k, 0 ≤ bar k ∧ bar k ≤ 1) : SEA u ro bar s := ⟨W.2.2.2.1, hb, W.2.2.2.2.1, W.2.2.2.2.2, r8⟩
/-- what the class bars is what isn't sure -/
theorem ivv_b {u sr srf : Nat → Int} {y : Int} {k : Nat} (hy : 0 ≤ y) (h : 0 ≤ u (21 * k + 6) → u (21 * k + 6) < 16 → sr (y.toNat + (u (21 * k + 6)).toNat) = srf (u (21 * k + 6)).toNat ∧ (srf (u (21 * k + 6)).toNat = 1 ∨ srf (u (21 * k + 6)).toNat = 2)) : ivv u sr y k = brv u srf k := by
  unfold ivv brv
  by_cases c : 0 ≤ u (21 * k + 6) ∧ u (21 * k + 6) < 16
  · have z := h c.1 c.2
    rw [show (y + u (21 * k + 6)).toNat = y.toNat + (u (21 * k + 6)).toNat by omega, z.1]
    rcases z.2 with e | e
    · rw [e]
      rw [if_pos ⟨c.1, c.2, by decide⟩, if_pos ⟨c.1, c.2, by decide⟩]
    · rw [e]
      rw [if_neg (fun y => y.2.2 (by decide)), if_neg (fun y => y.2.2 rfl)]
  · rw [if_neg (fun z => c ⟨z.1, z.2.1⟩), if_neg (fun z => c ⟨z.1, z.2.1⟩)]
/-- a bench that has taken a case of which all givens are known -/
theorem TKR_of {u ro sr : Nat → Int} {y : Int} {s : Nat} {a : Nat → Nat → Int} {srf : Nat → Int} (T : TKI u ro sr y s a) (hy : 0 ≤ y) (h : ∀ g, gvn u s g → sr (y.toNat + g) = srf g ∧ (srf g = 1 ∨ srf g = 2)) : TKR u ro (brv u srf) s a := fun k hk => by
  have t := T.2 k hk
  refine ⟨t.1, t.2.1, t.2.2.trans (ivv_b hy (fun h1 h2 => h _ ⟨k, hk, by omega, by omega⟩))⟩
section
variable {U : Nat → Nat → Int} {S : Nat → Nat} {ro nd sr : Nat → Int} {y : Int} {m j : Nat} {v : Int}
theorem SUI_v (x : SUI U S ro y m sr) {i : Nat} (hi : i < m) : 0 ≤ sr (y.toNat + i) ∧ sr (y.toNat + i) ≤ 2 := by
  rcases x i hi with e | e
  · omega
  · rcases sre_r (U := U) (S := S) (ro := ro) (j := i) with z | z <;> omega
theorem SUJ_0 (x : SUI U S ro y m sr) : SUJ U S ro nd y m 0 sr := ⟨x, fun i hi => absurd hi (by omega)⟩
theorem SUJ_n (x : SUJ U S ro nd y m j sr) (h : nd j = 0) : SUJ U S ro nd y m (j + 1) sr := ⟨x.1, fun i h1 h2 h3 => by
  by_cases c : i = j
  · rw [c, h] at h3; omega
  · exact x.2 i (by omega) h2 h3⟩
theorem SUJ_k (x : SUJ U S ro nd y m j sr) (h : sr (y.toNat + j) ≠ 0) : SUJ U S ro nd y m (j + 1) sr := ⟨x.1, fun i h1 h2 h3 => by
  by_cases c : i = j
  · subst c
    rcases x.1 i h2 with e | e
    · exact absurd e h
    · exact e
  · exact x.2 i (by omega) h2 h3⟩
theorem SUJ_s (x : SUJ U S ro nd y m j sr) {q : Nat} (hq : q = y.toNat + j) (hv : v = sre U S ro j) : SUJ U S ro nd y m (j + 1) (av_u1 sr q v) := by
  subst hq
  refine ⟨fun i hi => ?_, fun i h1 h2 h3 => ?_⟩
  · by_cases c : i = j
    · rw [c, u1_eq]; exact Or.inr hv
    · rw [u1_ne (by omega)]; exact x.1 i hi
  · by_cases c : i = j
    · rw [c, u1_eq]; exact hv
    · rw [u1_ne (by omega)]; exact x.2 i (by omega) h2 h3
/-- all that case j is given is known -/
theorem SUJ_g {s : Nat} {u : Nat → Int} (x : SUJ U S ro nd y m j sr) (hm : m ≤ 16) (N : NDI U S u s m (-1) nd) (hj : j < m) (hn : nd j = 1) (W : ∀ k, k < S j → -1 ≤ U j (21 * k + 6) ∧ U j (21 * k + 6) < (j : Int)) : ∀ g, gvn (U j) (S j) g → sr (y.toNat + g) = srt U S ro j g ∧ (srt U S ro j g = 1 ∨ srt U S ro j g = 2) := fun g hg => by
  have n1 := N.2.2 j (by omega) hj hn g hg
  obtain ⟨k, k1, k2, k3⟩ := hg
  have w := W k k1
  rw [srt_e (show g < j by omega), x.2 g (by omega) (by omega) n1]
  exact ⟨rfl, sre_r⟩
theorem SUJ_t {s : Nat} {u : Nat → Int} (x : SUJ U S ro nd y m m sr) (N : NDI U S u s m (-1) nd) (W : ∀ k, k < s → -1 ≤ u (21 * k + 6) ∧ u (21 * k + 6) < (m : Int)) : ∀ g, gvn u s g → sr (y.toNat + g) = srt U S ro m g ∧ (srt U S ro m g = 1 ∨ srt U S ro m g = 2) := fun g hg => by
  have n1 := N.2.1 g hg
  obtain ⟨k, k1, k2, k3⟩ := hg
  have w := W k k1
  rw [srt_e (show g < m by omega), x.2 g (by omega) (by omega) n1]
  exact ⟨rfl, sre_r⟩
end
theorem cbv_c {u : Nat → Int} {s : Nat} : (cbv u s = -1 → 1024 < cbf u s ∨ cbf u s = -1) ∧ (cbv u s ≠ -1 → cbf u s ≤ 1024 ∧ cbv u s = cbf u s) := by
  unfold cbv
  split
  · next z => exact ⟨fun _ => Or.inl z, fun y => absurd rfl y⟩
  · next z => exact ⟨fun y => Or.inr y, fun _ => ⟨by omega, rfl⟩⟩
theorem sre_1 {U : Nat → Nat → Int} {S : Nat → Nat} {ro : Nat → Int} {j : Nat} (b : 1 ≤ cbf (U j) (S j)) (h : cbv (U j) (S j) = -1) : (1 : Int) = sre U S ro j := (sre_n (fun z => by
  rcases cbv_c.1 h with y | y
  · have := z.1; omega
  · omega)).symm
theorem sre_2 {U : Nat → Nat → Int} {S : Nat → Nat} {ro : Nat → Int} {j : Nat} {v : Int} (h : cbv (U j) (S j) ≠ -1) (p : (v = -1 ∧ ∀ y : Int, 0 ≤ y → y < cbv (U j) (S j) → (bgn (U j) ro (brv (U j) (srt U S ro j)) (S j) y).2.2 ≠ 9999) ∨ ((0 ≤ v ∧ v < cbv (U j) (S j)) ∧ ¬ (bgn (U j) ro (brv (U j) (srt U S ro j)) (S j) v).2.2 ≠ 9999)) : (v = -1 → (2 : Int) = sre U S ro j) ∧ (v ≠ -1 → (1 : Int) = sre U S ro j) := by
  have c := cbv_c.2 h
  rcases p with p | p
  · refine ⟨fun _ => (sre_y ⟨c.1, fun x h1 h2 => p.2 x h1 (by omega)⟩).symm, fun z => absurd p.1 z⟩
  · refine ⟨fun z => by omega, fun _ => (sre_n (fun z => p.2 (z.2 v p.1.1 (by omega)))).symm⟩
