/-! THE REFERENCE'S LOOKS: what holds of its rows, what a look may change -/
theorem hF_self {h : av_H} {o f : Nat} {v : Int} : hF (hwF h o f v) o f = v := av_u2_self
theorem hF_oth {h : av_H} {o f q : Nat} {v : Int} (e : q ≠ f) : hF (hwF h o f v) o q = hF h o q := av_u2_oth e
theorem hA_ne {h : av_H} {a j q : Nat} {v : Int} (e : q ≠ a) : hA (hwA h a j v) q = hA h q := av_u2_ne e
def mlo (a : Nat) : Int := [0, 0, -1, -1, 0, -1, -1, 0, -1, 0, 0].getD (a - 82) 0
def mhi (a : Nat) : Int := [7, 2, 2, 11, 3, 1999, 15, 1, 999, 1999, 1999].getD (a - 82) 0
def wlo (a : Nat) : Int := [0, 0, 0, -1, -1, 0, -1, 0, -1, 0, 0, 0].getD (a - 96) 0
def whi (a : Nat) : Int := [7, 3, 2, 1999, 11, 2, 2, 1, 999, 1999, 1999, 47].getD (a - 96) 0
/-- the book's rows -/
def MV (h : av_H) : Prop := (∀ a, 82 ≤ a → a ≤ 92 → ∀ j, mlo a ≤ hA h a j ∧ hA h a j ≤ mhi a) ∧ (0 ≤ hA h 78 0 ∧ hA h 78 0 ≤ 16) ∧ (0 ≤ hA h 79 0 ∧ hA h 79 0 ≤ 8) ∧ (0 ≤ hA h 80 0 ∧ hA h 80 0 ≤ 6) ∧ (∀ j, 0 ≤ hA h 81 j ∧ hA h 81 j ≤ 12) ∧ (∀ c k : Nat, (c : Int) < hA h 78 0 → (k : Int) < hA h 81 c → 2 ≤ hA h 82 (12 * c + k) → 0 ≤ hA h 85 (12 * c + k) ∧ hA h 85 (12 * c + k) < k)
/-- the rows that are looked at -/
def WI (h : av_H) : Prop := ∀ a, 96 ≤ a → a ≤ 107 → ∀ j, wlo a ≤ hA h a j ∧ hA h a j ≤ whi a
def WR (h : av_H) : Prop := ∀ k : Nat, k < 12 → 2 ≤ hA h 96 k → 0 ≤ hA h 100 k ∧ hA h 100 k < k
/-- what is asked, and how many combos that makes -/
def AK (h : av_H) : Prop := (0 ≤ hF h 77 28 ∧ hF h 77 28 ≤ 48) ∧ (0 ≤ hF h 77 29 ∧ hF h 77 29 ≤ 1025) ∧ (∀ j : Nat, (j : Int) < hF h 77 28 → 2 ≤ hA h 108 j ∧ hA h 108 j ≤ 2000) ∧ ∃ p : Nat → Int, p 0 = 1 ∧ (∀ j : Nat, (j : Int) < hF h 77 28 → p (j + 1) = p j * hA h 108 j) ∧ (1 ≤ hF h 77 29 → hF h 77 29 ≤ 1024 → p (hF h 77 28).toNat ≤ hF h 77 29)
def NF (h : av_H) : Prop := (0 ≤ hF h 77 27 ∧ hF h 77 27 ≤ 12) ∧ (hF h 77 50 = 0 ∨ hF h 77 50 = 1) ∧ (-1 ≤ hF h 77 51 ∧ hF h 77 51 ≤ 11) ∧ (0 ≤ hF h 77 52 ∧ hF h 77 52 ≤ 11)
def IL (h : av_H) : Prop := LY h ∧ MV h ∧ WI h ∧ AK h ∧ NF h
def IM (h : av_H) : Prop := IL h ∧ WR h
def mA (a : Nat) : Bool := Nat.ble 95 a && Nat.ble a 121
def mF (o f : Nat) : Bool := Nat.beq o 77 && (Nat.beq f 27 || Nat.beq f 28 || Nat.beq f 29 || Nat.beq f 50 || Nat.beq f 51 || Nat.beq f 52 || Nat.beq f 53 || Nat.beq f 60 || Nat.beq f 61)
def FM (g h : av_H) : Prop := h.1 = g.1 ∧ h.2.1 = g.2.1 ∧ hK h = hK g ∧ hR h = hR g ∧ hG h = hG g ∧ (∀ o f, mF o f = false → hF h o f = hF g o f) ∧ (∀ a, mA a = false → hA h a = hA g a)
theorem FM_rf (h : av_H) : FM h h := ⟨rfl, rfl, rfl, rfl, rfl, fun _ _ _ => rfl, fun _ _ => rfl⟩
theorem FM_tr {g h k : av_H} (a : FM g h) (b : FM h k) : FM g k := ⟨b.1.trans a.1, b.2.1.trans a.2.1, b.2.2.1.trans a.2.2.1, b.2.2.2.1.trans a.2.2.2.1, b.2.2.2.2.1.trans a.2.2.2.2.1, fun o f e => (b.2.2.2.2.2.1 o f e).trans (a.2.2.2.2.2.1 o f e), fun o e => (b.2.2.2.2.2.2 o e).trans (a.2.2.2.2.2.2 o e)⟩
theorem FM_wA {g h : av_H} {a j : Nat} {v : Int} (F : FM g h) (e : mA a = true) : FM g (hwA h a j v) := ⟨F.1, F.2.1, F.2.2.1, F.2.2.2.1, F.2.2.2.2.1, F.2.2.2.2.2.1, fun k hk => by
  have hne : k ≠ a := fun z => by rw [z, e] at hk; cases hk
  show av_u2 h.2.2.2.1 a j v k = _
  rw [av_u2_ne hne]
  exact F.2.2.2.2.2.2 k hk⟩
theorem FM_wF {g h : av_H} {o f : Nat} {v : Int} (F : FM g h) (e : mF o f = true) : FM g (hwF h o f v) := ⟨F.1, F.2.1, F.2.2.1, F.2.2.2.1, F.2.2.2.2.1, fun k q hk => by
  show av_u2 h.2.2.2.2.1 o f v k q = _
  have hne : ¬ (k = o ∧ q = f) := fun z => by rw [z.1, z.2, e] at hk; cases hk
  rw [av_u2, if_neg hne]
  exact F.2.2.2.2.2.1 k q hk, F.2.2.2.2.2.2⟩
theorem LY_fm {g h : av_H} (L : LY g) (F : FM g h) : LY h := ⟨fun a ha => by rw [F.2.2.1]; exact L.1 a ha, fun o f q e => by rw [F.2.2.2.2.1]; exact L.2.1 o f q e, fun i hi => by rw [F.2.2.2.1]; exact L.2.2.1 i hi, fun i hi => by rw [F.2.2.2.1]; exact L.2.2.2 i hi⟩
theorem MV_A {g h : av_H} (x : MV g) (e : ∀ a, 78 ≤ a → a ≤ 92 → hA h a = hA g a) : MV h := by
  unfold MV at x ⊢
  rw [e 78 (by omega) (by omega), e 79 (by omega) (by omega), e 80 (by omega) (by omega), e 81 (by omega) (by omega), e 82 (by omega) (by omega), e 85 (by omega) (by omega)]
  exact ⟨fun a h1 h2 j => by rw [e a (by omega) h2]; exact x.1 a h1 h2 j, x.2⟩
/-- a row that nothing is known of -/
theorem mA_in {q : Nat} (h1 : 95 ≤ q) (h2 : q ≤ 121) : mA q = true := by
  simp only [mA, Bool.and_eq_true]
  exact ⟨Nat.ble_eq_true_of_le h1, Nat.ble_eq_true_of_le h2⟩
theorem IL_wA {h : av_H} {a x : Nat} {v : Int} (I : IL h) (ha : a = 95 ∨ (109 ≤ a ∧ a ≤ 121)) : IL (hwA h a x v) := by
  have F : FM h (hwA h a x v) := FM_wA (FM_rf h) (mA_in (by omega) (by omega))
  have E : ∀ q, q ≠ a → hA (hwA h a x v) q = hA h q := fun q hq => av_u2_ne hq
  refine ⟨LY_fm I.1 F, MV_A I.2.1 (fun q h1 h2 => E q (by omega)), ?_, ?_, I.2.2.2.2⟩
  · intro q h1 h2 j
    rw [E q (by omega)]
    exact I.2.2.1 q h1 h2 j
  · have := I.2.2.2.1
    unfold AK at this ⊢
    rw [E 108 (by omega)]
    exact this
/-- one of the rows that are looked at, kept within its bounds -/
theorem IL_wW {h : av_H} {a x : Nat} {v : Int} (I : IL h) (ha : 96 ≤ a ∧ a ≤ 107) (hv : wlo a ≤ v ∧ v ≤ whi a) : IL (hwA h a x v) := by
  have F : FM h (hwA h a x v) := FM_wA (FM_rf h) (mA_in (by omega) (by omega))
  have E : ∀ q, q ≠ a → hA (hwA h a x v) q = hA h q := fun q hq => av_u2_ne hq
  refine ⟨LY_fm I.1 F, MV_A I.2.1 (fun q h1 h2 => E q (by omega)), ?_, ?_, I.2.2.2.2⟩
  · intro q h1 h2 j
    by_cases e : q = a
    · subst e
      show wlo q ≤ av_u2 h.2.2.2.1 q x v q j ∧ av_u2 h.2.2.2.1 q x v q j ≤ whi q
      by_cases e2 : j = x
      · subst e2; rw [av_u2_self]; exact hv
      · rw [av_u2_oth e2]; exact I.2.2.1 q h1 h2 j
    · rw [E q e]
      exact I.2.2.1 q h1 h2 j
  · have := I.2.2.2.1
    unfold AK at this ⊢
    rw [E 108 (by omega)]
    exact this
theorem WR_A {h k : av_H} (x : WR h) (e1 : hA k 96 = hA h 96) (e2 : hA k 100 = hA h 100) : WR k := by
  unfold WR at x ⊢
  rw [e1, e2]
  exact x
theorem IM_wA {h : av_H} {a x : Nat} {v : Int} (I : IM h) (ha : a = 95 ∨ (109 ≤ a ∧ a ≤ 121)) : IM (hwA h a x v) := ⟨IL_wA I.1 ha, WR_A I.2 (av_u2_ne (by omega)) (av_u2_ne (by omega))⟩
theorem IM_wW {h : av_H} {a x : Nat} {v : Int} (I : IM h) (ha : 97 ≤ a ∧ a ≤ 107 ∧ a ≠ 100) (hv : wlo a ≤ v ∧ v ≤ whi a) : IM (hwA h a x v) := ⟨IL_wW I.1 (by omega) hv, WR_A I.2 (av_u2_ne (by omega)) (av_u2_ne (by omega))⟩
/-- fields -/
theorem IL_wF {h : av_H} {f : Nat} {v : Int} (I : IL h) (hf : (f = 27 ∧ 0 ≤ v ∧ v ≤ 12) ∨ (f = 50 ∧ (v = 0 ∨ v = 1)) ∨ (f = 51 ∧ -1 ≤ v ∧ v ≤ 11) ∨ (f = 52 ∧ 0 ≤ v ∧ v ≤ 11) ∨ f = 53 ∨ f = 60 ∨ f = 61) : IL (hwF h 77 f v) := by
  have hm : mF 77 f = true := by
    rcases hf with e | e | e | e | e | e | e
    · rw [e.1]; rfl
    · rw [e.1]; rfl
    · rw [e.1]; rfl
    · rw [e.1]; rfl
    · rw [e]; rfl
    · rw [e]; rfl
    · rw [e]; rfl
  have F : FM h (hwF h 77 f v) := FM_wF (FM_rf h) hm
  have E : ∀ q, q ≠ f → hF (hwF h 77 f v) 77 q = hF h 77 q := fun q hq => av_u2_oth hq
  have E' : hF (hwF h 77 f v) 77 f = v := hF_self
  refine ⟨LY_fm I.1 F, I.2.1, I.2.2.1, ?_, ?_⟩
  · have := I.2.2.2.1
    unfold AK at this ⊢
    rw [E 28 (by omega), E 29 (by omega)]
    exact this
  · obtain ⟨n1, n2, n3, n4⟩ := I.2.2.2.2
    refine ⟨?_, ?_, ?_, ?_⟩
    · by_cases e : f = 27
      · subst e; rw [E']; omega
      · rw [E 27 (Ne.symm e)]; exact n1
    · by_cases e : f = 50
      · subst e; rw [E']; omega
      · rw [E 50 (Ne.symm e)]; exact n2
    · by_cases e : f = 51
      · subst e; rw [E']; omega
      · rw [E 51 (Ne.symm e)]; exact n3
    · by_cases e : f = 52
      · subst e; rw [E']; omega
      · rw [E 52 (Ne.symm e)]; exact n4
theorem IM_wF {h : av_H} {f : Nat} {v : Int} (I : IM h) (hf : (f = 27 ∧ 0 ≤ v ∧ v ≤ 12) ∨ (f = 50 ∧ (v = 0 ∨ v = 1)) ∨ (f = 51 ∧ -1 ≤ v ∧ v ≤ 11) ∨ (f = 52 ∧ 0 ≤ v ∧ v ≤ 11) ∨ f = 53 ∨ f = 60 ∨ f = 61) : IM (hwF h 77 f v) := ⟨IL_wF I.1 hf, I.2⟩
section
variable {h : av_H}
theorem im_n (I : IL h) : 0 ≤ hF h 77 27 ∧ hF h 77 27 ≤ 12 := I.2.2.2.2.1
theorem im_has (I : IL h) : hF h 77 50 = 0 ∨ hF h 77 50 = 1 := I.2.2.2.2.2.1
theorem im_by (I : IL h) : -1 ≤ hF h 77 51 ∧ hF h 77 51 ≤ 11 := I.2.2.2.2.2.2.1
theorem im_of (I : IL h) : 0 ≤ hF h 77 52 ∧ hF h 77 52 ≤ 11 := I.2.2.2.2.2.2.2
theorem im_a (I : IL h) : 0 ≤ hF h 77 28 ∧ hF h 77 28 ≤ 48 := I.2.2.2.1.1
theorem im_cm (I : IL h) : 0 ≤ hF h 77 29 ∧ hF h 77 29 ≤ 1025 := I.2.2.2.1.2.1
theorem im_rx (I : IL h) (j : Nat) (hj : (j : Int) < hF h 77 28) : 2 ≤ hA h 108 j ∧ hA h 108 j ≤ 2000 := I.2.2.2.1.2.2.1 j hj
theorem im_w (I : IL h) (a : Nat) (h1 : 96 ≤ a) (h2 : a ≤ 107) (j : Nat) : wlo a ≤ hA h a j ∧ hA h a j ≤ whi a := I.2.2.1 a h1 h2 j
theorem im_m (I : IL h) (a : Nat) (h1 : 82 ≤ a) (h2 : a ≤ 92) (j : Nat) : mlo a ≤ hA h a j ∧ hA h a j ≤ mhi a := I.2.1.1 a h1 h2 j
theorem im_many (I : IL h) (j : Nat) : 0 ≤ hA h 81 j ∧ hA h 81 j ≤ 12 := I.2.1.2.2.2.2.1 j
theorem im_wr (I : IM h) (k : Nat) (hk : k < 12) (h2 : 2 ≤ hA h 96 k) : 0 ≤ hA h 100 k ∧ hA h 100 k < k := I.2 k hk h2
end
def IMF (n a m : Int) (h : av_H) : Prop := IM h ∧ hF h 77 27 = n ∧ hF h 77 28 = a ∧ hF h 77 29 = m
section
variable {sc : av_Sr} {cd : List (Nat × av_E)} {Q : Option av_V → av_H → Prop} {pc p' : Nat} {lv : av_L} {r' : List av_V} {g h : av_H} {n a m : Int}
theorem im_as {q l : Nat} {x v : Int} (hx : cd.lookup pc = some (av_q (.iastore))) (hp : pc + 1 = p') (I : IMF n a m h) (F : FM g h) (hk : hK h q = (20, l)) (ha : q = 95 ∨ (109 ≤ q ∧ q ≤ 121)) (hi : 0 ≤ x ∧ x < l ∧ (l : Int) < 2147483648) (hw : ∀ h', IMF n a m h' → FM g h' → av_wp sc cd p' lv r' h' Q) : av_wp sc cd pc lv (.inl v :: .inl x :: .inr (.inr (.inl (some q))) :: r') h Q :=
  wq_as hx hp hk hi (hw _ ⟨IM_wA I.1 ha, I.2⟩ (FM_wA F (mA_in (by omega) (by omega))))
theorem im_zs {q l : Nat} {x v : Int} (hx : cd.lookup pc = some (av_q (.bastore))) (hp : pc + 1 = p') (I : IMF n a m h) (F : FM g h) (hk : hK h q = (22, l)) (ha : q = 95 ∨ (109 ≤ q ∧ q ≤ 121)) (hi : 0 ≤ x ∧ x < l ∧ (l : Int) < 2147483648) (hv : v = 0 ∨ v = 1) (hw : ∀ h', IMF n a m h' → FM g h' → av_wp sc cd p' lv r' h' Q) : av_wp sc cd pc lv (.inl v :: .inl x :: .inr (.inr (.inl (some q))) :: r') h Q :=
  wq_zs hx hp hk hi hv (hw _ ⟨IM_wA I.1 ha, I.2⟩ (FM_wA F (mA_in (by omega) (by omega))))
theorem im_ws {q l : Nat} {x v : Int} (hx : cd.lookup pc = some (av_q (.iastore))) (hp : pc + 1 = p') (I : IMF n a m h) (F : FM g h) (hk : hK h q = (20, l)) (ha : 97 ≤ q ∧ q ≤ 107 ∧ q ≠ 100) (hv : wlo q ≤ v ∧ v ≤ whi q) (hi : 0 ≤ x ∧ x < l ∧ (l : Int) < 2147483648) (hw : ∀ h', IMF n a m h' → FM g h' → av_wp sc cd p' lv r' h' Q) : av_wp sc cd pc lv (.inl v :: .inl x :: .inr (.inr (.inl (some q))) :: r') h Q :=
  wq_as hx hp hk hi (hw _ ⟨IM_wW I.1 ha hv, I.2⟩ (FM_wA F (mA_in (by omega) (by omega))))
theorem im_pf {idx f : Nat} {v : Int} (hx : cd.lookup pc = some (av_qf (.putfield idx) 8 f 0)) (hp : pc + 3 = p') (I : IMF n a m h) (F : FM g h) (hf : (f = 51 ∧ -1 ≤ v ∧ v ≤ 11) ∨ (f = 52 ∧ 0 ≤ v ∧ v ≤ 11) ∨ f = 53 ∨ f = 60 ∨ f = 61) (hm : mF 77 f = true) (hw : ∀ h', IMF n a m h' → FM g h' → av_wp sc cd p' lv r' h' Q) : av_wp sc cd pc lv (.inl v :: .inr (.inr (.inl (some 77))) :: r') h Q :=
  wq_pi hx hp (congrArg Prod.fst (ly_k I.1.1.1 77 rfl)) rfl (hw _ ⟨IM_wF I.1 (by omega), (hF_oth (by omega)).trans I.2.1, (hF_oth (by omega)).trans I.2.2.1, (hF_oth (by omega)).trans I.2.2.2⟩ (FM_wF F hm))
theorem im_pb {idx : Nat} {v : Int} (hx : cd.lookup pc = some (av_qf (.putfield idx) 8 50 3)) (hp : pc + 3 = p') (I : IMF n a m h) (F : FM g h) (hv : v = 0 ∨ v = 1) (hw : ∀ h', IMF n a m h' → FM g h' → av_wp sc cd p' lv r' h' Q) : av_wp sc cd pc lv (.inl v :: .inr (.inr (.inl (some 77))) :: r') h Q :=
  wq_pb hx hp (congrArg Prod.fst (ly_k I.1.1.1 77 rfl)) rfl hv (hw _ ⟨IM_wF I.1 (by omega), (hF_oth (by omega)).trans I.2.1, (hF_oth (by omega)).trans I.2.2.1, (hF_oth (by omega)).trans I.2.2.2⟩ (FM_wF F rfl))
end
/-! WHAT IS ASKED IS FOUND -/
/-- by how many the asked one t may be; how many combos the first t make (1025: too many) -/
def cmv (lo hi ls : Nat → Int) (t : Nat) : Int := if t % 4 < 3 then hi (3 * (t / 4) + t % 4) - lo (3 * (t / 4) + t % 4) + 1 else if ls (t / 4) = 1 then 2 else 1
def cmf (lo hi ls : Nat → Int) : Nat → Int
  | 0 => 1
  | t + 1 => if cmv lo hi ls t < 2 then cmf lo hi ls t else if 1024 < cmf lo hi ls t * cmv lo hi ls t then 1025 else cmf lo hi ls t * cmv lo hi ls t
theorem cmv_a {lo hi ls : Nat → Int} {k j x y : Int} (hk : 0 ≤ k) (hj : 0 ≤ j ∧ j < 3) (e1 : hi (((3) * k) + j).toNat = x) (e2 : lo (((3) * k) + j).toNat = y) : cmv lo hi ls (4 * k + j).toNat = ((x - y) + (1)) := by
  unfold cmv
  have h1 : (4 * k + j).toNat % 4 = j.toNat := by omega
  have h2 : (4 * k + j).toNat / 4 = k.toNat := by omega
  rw [h1, h2, if_pos (by omega), show 3 * k.toNat + j.toNat = (((3) * k) + j).toNat by omega, e1, e2]
theorem cmv_b {lo hi ls : Nat → Int} {k j x : Int} (hk : 0 ≤ k) (hj : j = 3) (e1 : ls k.toNat = x) (hx : x = 1) : cmv lo hi ls (4 * k + j).toNat = (2) := by
  unfold cmv
  have h1 : (4 * k + j).toNat % 4 = 3 := by omega
  have h2 : (4 * k + j).toNat / 4 = k.toNat := by omega
  rw [h1, h2, if_neg (by omega), e1, if_pos hx]
theorem cmv_c {lo hi ls : Nat → Int} {k j x : Int} (hk : 0 ≤ k) (hj : j = 3) (e1 : ls k.toNat = x) (hx : x ≠ 1) : cmv lo hi ls (4 * k + j).toNat = (1) := by
  unfold cmv
  have h1 : (4 * k + j).toNat % 4 = 3 := by omega
  have h2 : (4 * k + j).toNat / 4 = k.toNat := by omega
  rw [h1, h2, if_neg (by omega), e1, if_neg hx]
def AJ (n : Int) (lo hi ls : Nat → Int) (t : Nat) (h : av_H) : Prop := IM h ∧ hF h 77 27 = n ∧ hF h 77 28 ≤ t ∧ 1 ≤ hF h 77 29 ∧ hF h 77 29 = cmf lo hi ls t ∧ hA h 105 = lo ∧ hA h 106 = hi ∧ hA h 98 = ls
theorem AJ_eq {n : Int} {lo hi ls : Nat → Int} {t t' : Nat} {h : av_H} (J : AJ n lo hi ls t h) (e : t = t') : AJ n lo hi ls t' h := e ▸ J
theorem AJ_skip {n : Int} {lo hi ls : Nat → Int} {t : Nat} {v : Int} {h : av_H} (J : AJ n lo hi ls t h) (hv : cmv lo hi ls t = v) (h2 : v < 2) : AJ n lo hi ls (t + 1) h := ⟨J.1, J.2.1, Int.le_trans J.2.2.1 (by omega), J.2.2.2.1, by
  rw [J.2.2.2.2.1]
  show _ = (if cmv lo hi ls t < 2 then cmf lo hi ls t else _)
  rw [if_pos (by rw [hv]; exact h2)], J.2.2.2.2.2⟩
theorem AJ_step {n x v m' : Int} {lo hi ls : Nat → Int} {t : Nat} {h : av_H} (J : AJ n lo hi ls t h) (hcv : cmv lo hi ls t = v) (hb : t ≤ 47) (hv : 2 ≤ v ∧ v ≤ 2000) (hx : 0 ≤ x ∧ x ≤ 47) (hm : (1024 < hF h 77 29 * v ∧ m' = 1025) ∨ (hF h 77 29 * v ≤ 1024 ∧ m' = hF h 77 29 * v)) : AJ n lo hi ls (t + 1) (hwF (hwF (hwA (hwA h 107 (hF h 77 28).toNat x) 108 (hF h 77 28).toNat v) 77 28 (hF h 77 28 + 1)) 77 29 m') ∧ FM h (hwF (hwF (hwA (hwA h 107 (hF h 77 28).toNat x) 108 (hF h 77 28).toNat v) 77 28 (hF h 77 28 + 1)) 77 29 m') := by
  obtain ⟨⟨I, W⟩, j1, j2, j3, j4, j5, j6, j7⟩ := J
  have ga := im_a I
  have gm := im_cm I
  obtain ⟨_, _, k3, p, p0, p1, p2⟩ := I.2.2.2.1
  have mv0 : 0 ≤ hF h 77 29 * v := Int.mul_nonneg (by omega) (by omega)
  have mv1 : hF h 77 29 * 1 ≤ hF h 77 29 * v := Int.mul_le_mul_of_nonneg_left (by omega) (by omega)
  generalize hH : hwF (hwF (hwA (hwA h 107 (hF h 77 28).toNat x) 108 (hF h 77 28).toNat v) 77 28 (hF h 77 28 + 1)) 77 29 m' = H
  have Fm : FM h H := by
    rw [← hH]
    exact FM_wF (FM_wF (FM_wA (FM_wA (FM_rf h) rfl) rfl) rfl) rfl
  have E29 : hF H 77 29 = m' := by rw [← hH]; exact hF_self
  have E28 : hF H 77 28 = hF h 77 28 + 1 := by rw [← hH]; exact (hF_oth (by decide)).trans hF_self
  have EF : ∀ q, q ≠ 28 → q ≠ 29 → hF H 77 q = hF h 77 q := fun q h1 h2 => by rw [← hH]; exact (hF_oth h2).trans (hF_oth h1)
  have EA : ∀ q, q ≠ 107 → q ≠ 108 → hA H q = hA h q := fun q h1 h2 => by rw [← hH]; exact (hA_ne h2).trans (hA_ne h1)
  have E107 : ∀ j, hA H 107 j = if j = (hF h 77 28).toNat then x else hA h 107 j := fun j => by
    rw [← hH]
    show av_u2 (av_u2 h.2.2.2.1 107 (hF h 77 28).toNat x) 108 (hF h 77 28).toNat v 107 j = _
    rw [av_u2_ne (by decide)]
    by_cases e : j = (hF h 77 28).toNat
    · rw [if_pos e, e, av_u2_self]
    · rw [if_neg e, av_u2_oth e]
  have E108 : ∀ j, hA H 108 j = if j = (hF h 77 28).toNat then v else hA h 108 j := fun j => by
    rw [← hH]
    show av_u2 (av_u2 h.2.2.2.1 107 (hF h 77 28).toNat x) 108 (hF h 77 28).toNat v 108 j = _
    by_cases e : j = (hF h 77 28).toNat
    · rw [if_pos e, e, av_u2_self]
    · rw [if_neg e, av_u2_oth e, av_u2_ne (by decide)]
  refine ⟨⟨⟨⟨LY_fm I.1 Fm, MV_A I.2.1 (fun q h1 h2 => EA q (by omega) (by omega)), ?_, ?_, ?_⟩, WR_A W (EA 96 (by decide) (by decide)) (EA 100 (by decide) (by decide))⟩, ?_, ?_, ?_, ?_, (EA 105 (by decide) (by decide)).trans j5, (EA 106 (by decide) (by decide)).trans j6, (EA 98 (by decide) (by decide)).trans j7⟩, Fm⟩
  · intro q h1 h2 j
    by_cases e : q = 107
    · subst e
      rw [E107]
      split
      · exact hx
      · exact I.2.2.1 107 h1 h2 j
    · rw [EA q e (by omega)]
      exact I.2.2.1 q h1 h2 j
  · unfold AK
    rw [E28, E29]
    refine ⟨by omega, by omega, ?_, fun j => if j ≤ (hF h 77 28).toNat then p j else p (hF h 77 28).toNat * v, ?_, ?_, ?_⟩
    · intro j hj
      rw [E108]
      by_cases e : j = (hF h 77 28).toNat
      · rw [if_pos e]; exact hv
      · rw [if_neg e]; exact k3 j (by omega)
    · show (if 0 ≤ (hF h 77 28).toNat then p 0 else _) = 1
      rw [if_pos (Nat.zero_le _)]; exact p0
    · intro j hj
      show (if j + 1 ≤ (hF h 77 28).toNat then p (j + 1) else p (hF h 77 28).toNat * v) = (if j ≤ (hF h 77 28).toNat then p j else p (hF h 77 28).toNat * v) * hA H 108 j
      rw [if_pos (show j ≤ (hF h 77 28).toNat by omega), E108]
      by_cases e : j = (hF h 77 28).toNat
      · rw [if_pos e, if_neg (by omega), e]
      · rw [if_neg e, if_pos (by omega)]; exact p1 j (by omega)
    · intro _ h2
      show (if (hF h 77 28 + 1).toNat ≤ (hF h 77 28).toNat then p (hF h 77 28 + 1).toNat else p (hF h 77 28).toNat * v) ≤ m'
      rw [if_neg (by omega)]
      rcases hm with hm | hm
      · omega
      · rw [hm.2]
        exact Int.mul_le_mul_of_nonneg_right (p2 j3 (by omega)) (by omega)
  · unfold NF
    rw [EF 27 (by decide) (by decide), EF 50 (by decide) (by decide), EF 51 (by decide) (by decide), EF 52 (by decide) (by decide)]
    exact I.2.2.2.2
  · rw [EF 27 (by decide) (by decide)]; exact j1
  · rw [E28]; omega
  · rw [E29]; omega
  · rw [E29]
    show m' = (if cmv lo hi ls t < 2 then cmf lo hi ls t else if 1024 < cmf lo hi ls t * cmv lo hi ls t then 1025 else cmf lo hi ls t * cmv lo hi ls t)
    rw [hcv, ← j4, if_neg (by omega)]
    rcases hm with hm | hm
    · rw [if_pos hm.1]; exact hm.2
    · rw [if_neg (by omega)]; exact hm.2
theorem AJ_0 {n : Int} {h : av_H} (I : IM h) (hn : hF h 77 27 = n) : AJ n (hA h 105) (hA h 106) (hA h 98) 0 (hwF (hwF h 77 28 0) 77 29 1) ∧ FM h (hwF (hwF h 77 28 0) 77 29 1) := by
  generalize hH : hwF (hwF h 77 28 0) 77 29 1 = H
  have Fm : FM h H := by
    rw [← hH]
    exact FM_wF (FM_wF (FM_rf h) rfl) rfl
  have E29 : hF H 77 29 = 1 := by rw [← hH]; exact hF_self
  have E28 : hF H 77 28 = 0 := by rw [← hH]; exact (hF_oth (by decide)).trans hF_self
  have EF : ∀ q, q ≠ 28 → q ≠ 29 → hF H 77 q = hF h 77 q := fun q h1 h2 => by rw [← hH]; exact (hF_oth h2).trans (hF_oth h1)
  have EA : hA H = hA h := by rw [← hH]; rfl
  refine ⟨⟨⟨⟨LY_fm I.1.1 Fm, MV_A I.1.2.1 (fun q _ _ => by rw [EA]), ?_, ?_, ?_⟩, WR_A I.2 (by rw [EA]) (by rw [EA])⟩, ?_, ?_, ?_, ?_, by rw [EA], by rw [EA], by rw [EA]⟩, Fm⟩
  · unfold WI
    rw [EA]
    exact I.1.2.2.1
  · unfold AK
    rw [E28, E29]
    exact ⟨by omega, by omega, fun j hj => by omega, fun _ => 1, rfl, fun j hj => by omega, fun _ _ => Int.le_refl 1⟩
  · unfold NF
    rw [EF 27 (by decide) (by decide), EF 50 (by decide) (by decide), EF 51 (by decide) (by decide), EF 52 (by decide) (by decide)]
    exact I.1.2.2.2.2
  · rw [EF 27 (by decide) (by decide)]; exact hn
  · rw [E28]; exact Int.le_refl 0
  · rw [E29]; omega
  · rw [E29]; rfl
/-! what of a case has been brought: e a of the row a -/
def bsrc (a : Nat) : Nat := [82, 86, 89, 87, 85, 83, 84, 0, 90, 91, 92].getD (a - 96) 0
def bmul (a : Nat) : Nat := [1, 1, 1, 1, 1, 1, 1, 0, 5, 3, 3].getD (a - 96) 0
def BC (c : Nat) (e : Nat → Nat) (A : Nat → Nat → Int) (h : av_H) : Prop := ∀ a, 96 ≤ a → a ≤ 106 → ∀ i, i < e a → hA h a i = A (bsrc a) (bmul a * (12 * c) + i)
theorem BC_le {c : Nat} {e e' : Nat → Nat} {A : Nat → Nat → Int} {h : av_H} (B : BC c e A h) (he : ∀ a, 96 ≤ a → a ≤ 106 → e' a ≤ e a) : BC c e' A h := fun a h1 h2 i hi => B a h1 h2 i (Nat.lt_of_lt_of_le hi (he a h1 h2))
theorem BC_w {c : Nat} {e : Nat → Nat} {A : Nat → Nat → Int} {h : av_H} {a j : Nat} {v : Int} (B : BC c e A h) (hj : j = e a) (hv : A (bsrc a) (bmul a * (12 * c) + e a) = v) : BC c (av_u1 e a (e a + 1)) A (hwA h a j v) := by
  intro q h1 h2 i hi
  show av_u2 h.2.2.2.1 a j v q i = _
  unfold av_u1 at hi
  by_cases e1 : q = a
  · subst e1
    rw [if_pos rfl] at hi
    by_cases e2 : i = j
    · rw [e2, av_u2_self, hj, hv]
    · rw [av_u2_oth e2]
      exact B q h1 h2 i (by omega)
  · rw [if_neg e1] at hi
    rw [av_u2_ne e1]
    exact B q h1 h2 i hi
theorem BC_o {c : Nat} {e : Nat → Nat} {A : Nat → Nat → Int} {h : av_H} {j : Nat} {v : Int} (B : BC c e A h) (h3 : e 103 = 0) : BC c e A (hwA h 103 j v) := by
  intro q h1 h2 i hi
  by_cases e1 : q = 103
  · subst e1; omega
  · show av_u2 h.2.2.2.1 103 j v q i = _
    rw [av_u2_ne e1]
    exact B q h1 h2 i hi
/-! A CASE IS BROUGHT: while its row q is copied -/
def IMY (n : Int) (q : Nat) (x y : Int) (h : av_H) : Prop := IL h ∧ hF h 77 27 = n ∧ (∀ j : Nat, j < 12 → j ≠ q → 2 ≤ hA h 96 j → 0 ≤ hA h 100 j ∧ hA h 100 j < j) ∧ hA h 96 q = x ∧ hA h 100 q = y
theorem IMY_of {n : Int} {h : av_H} (I : IM h) (hn : hF h 77 27 = n) (q : Nat) : IMY n q (hA h 96 q) (hA h 100 q) h := ⟨I.1, hn, fun j hj _ => I.2 j hj, rfl, rfl⟩
theorem IM_of {n : Int} {q : Nat} {x y : Int} {h : av_H} (Y : IMY n q x y h) (hr : 2 ≤ x → 0 ≤ y ∧ y < q) : IM h := ⟨Y.1, fun j hj h2 => by
  by_cases e : j = q
  · subst e
    rw [Y.2.2.2.2]
    rw [Y.2.2.2.1] at h2
    exact hr h2
  · exact Y.2.2.1 j hj e h2⟩
theorem IMY_w {n : Int} {q a j : Nat} {x y v : Int} {h : av_H} (Y : IMY n q x y h) (ha : 96 ≤ a ∧ a ≤ 107) (hv : wlo a ≤ v ∧ v ≤ whi a) (hj : (a = 96 ∨ a = 100) → j = q) : IMY n q (if a = 96 then v else x) (if a = 100 then v else y) (hwA h a j v) := by
  refine ⟨IL_wW Y.1 ha hv, Y.2.1, ?_, ?_, ?_⟩
  · intro i hi hq
    have e1 : hA (hwA h a j v) 96 i = hA h 96 i := by
      show av_u2 h.2.2.2.1 a j v 96 i = _
      unfold av_u2
      rw [if_neg (fun z => hq (by rw [z.2]; exact hj (Or.inl z.1.symm)))]
    have e2 : hA (hwA h a j v) 100 i = hA h 100 i := by
      show av_u2 h.2.2.2.1 a j v 100 i = _
      unfold av_u2
      rw [if_neg (fun z => hq (by rw [z.2]; exact hj (Or.inr z.1.symm)))]
    rw [e1, e2]
    exact Y.2.2.1 i hi hq
  · show av_u2 h.2.2.2.1 a j v 96 q = _
    by_cases e : a = 96
    · rw [if_pos e, e, hj (Or.inl e), av_u2_self]
    · rw [if_neg e, av_u2_ne (Ne.symm e)]; exact Y.2.2.2.1
  · show av_u2 h.2.2.2.1 a j v 100 q = _
    by_cases e : a = 100
    · rw [if_pos e, e, hj (Or.inr e), av_u2_self]
    · rw [if_neg e, av_u2_ne (Ne.symm e)]; exact Y.2.2.2.2
/-! how many combos a case of the book has -/
def cmB (A : Nat → Nat → Int) (c : Nat) : Int := cmf (fun i => A 91 (36 * c + i)) (fun i => A 92 (36 * c + i)) (fun i => A 89 (12 * c + i)) (4 * (A 81 c).toNat)
theorem cmf_congr {lo hi ls lo' hi' ls' : Nat → Int} {n : Nat} (h1 : ∀ i, i < 3 * n → lo i = lo' i) (h2 : ∀ i, i < 3 * n → hi i = hi' i) (h3 : ∀ i, i < n → ls i = ls' i) : ∀ t, t ≤ 4 * n → cmf lo hi ls t = cmf lo' hi' ls' t := by
  intro t
  induction t with
  | zero => intro _; rfl
  | succ t ih =>
    intro ht
    have hv : cmv lo hi ls t = cmv lo' hi' ls' t := by
      unfold cmv
      by_cases e : t % 4 < 3
      · rw [if_pos e, if_pos e, h1 _ (by omega), h2 _ (by omega)]
      · rw [if_neg e, if_neg e, h3 _ (by omega)]
    show (if cmv lo hi ls t < 2 then cmf lo hi ls t else if 1024 < cmf lo hi ls t * cmv lo hi ls t then 1025 else cmf lo hi ls t * cmv lo hi ls t) = (if cmv lo' hi' ls' t < 2 then cmf lo' hi' ls' t else if 1024 < cmf lo' hi' ls' t * cmv lo' hi' ls' t then 1025 else cmf lo' hi' ls' t * cmv lo' hi' ls' t)
    rw [hv, ih (by omega)]
theorem cm_of {g h0 h1 : av_H} {c : Nat} {n m : Int} (F0 : FM g h0) (hn : 0 ≤ n) (b : hA h0 81 c = n ∧ BC c (fun a => bmul a * n.toNat) (hA h0) h1) (hm : m = cmf (hA h1 105) (hA h1 106) (hA h1 98) (4 * n).toNat) : m = cmB (hA g) c := by
  have e81 : hA h0 81 = hA g 81 := F0.2.2.2.2.2.2 81 rfl
  have e91 : hA h0 91 = hA g 91 := F0.2.2.2.2.2.2 91 rfl
  have e92 : hA h0 92 = hA g 92 := F0.2.2.2.2.2.2 92 rfl
  have e89 : hA h0 89 = hA g 89 := F0.2.2.2.2.2.2 89 rfl
  rw [hm]
  unfold cmB
  rw [← e81, ← e91, ← e92, ← e89, b.1, show (4 * n).toNat = 4 * n.toNat by omega]
  refine cmf_congr (n := n.toNat) ?_ ?_ ?_ _ (Nat.le_refl _)
  · intro i hi
    have := b.2 105 (by omega) (by omega) i hi
    rw [this]
    show hA h0 91 (3 * (12 * c) + i) = hA h0 91 (36 * c + i)
    rw [show 3 * (12 * c) + i = 36 * c + i by omega]
  · intro i hi
    have := b.2 106 (by omega) (by omega) i hi
    rw [this]
    show hA h0 92 (3 * (12 * c) + i) = hA h0 92 (36 * c + i)
    rw [show 3 * (12 * c) + i = 36 * c + i by omega]
  · intro i hi
    have := b.2 98 (by omega) (by omega) i (show i < 1 * n.toNat by omega)
    rw [this]
    show hA h0 89 (1 * (12 * c) + i) = hA h0 89 (12 * c + i)
    rw [show 1 * (12 * c) + i = 12 * c + i by omega]
/-- the product of what may be, up to each asked one -/
theorem im_p {n a m : Int} {h : av_H} (I : IMF n a m h) (hm : 1 ≤ m ∧ m ≤ 1024) : ∃ p : Nat → Int, p 0 = 1 ∧ (∀ j : Nat, (j : Int) < a → p (j + 1) = p j * hA h 108 j) ∧ ∀ j : Nat, (j : Int) ≤ a → 1 ≤ p j ∧ p j ≤ m := by
  obtain ⟨k1, k2, k3, p, p0, p1, p2⟩ := I.1.1.2.2.2.1
  rw [I.2.2.1] at k1 k3 p1 p2
  rw [I.2.2.2] at k2 p2
  have q1 : ∀ j : Nat, (j : Int) ≤ a → 1 ≤ p j := by
    intro j
    induction j with
    | zero => intro _; rw [p0]; omega
    | succ j ih =>
      intro hj
      have h1 := ih (by omega)
      have h2 := k3 j (by omega)
      rw [p1 j (by omega)]
      have : p j * 1 ≤ p j * hA h 108 j := Int.mul_le_mul_of_nonneg_left (by omega) (by omega)
      omega
  have q2 : ∀ (d j : Nat), (j : Int) + d = a → p j ≤ p a.toNat := by
    intro d
    induction d with
    | zero => intro j hj; rw [show a.toNat = j by omega]; exact Int.le_refl _
    | succ d ih =>
      intro j hj
      have h1 := ih (j + 1) (by omega)
      have h2 := k3 j (by omega)
      have h3 := q1 j (by omega)
      rw [p1 j (by omega)] at h1
      have : p j * 1 ≤ p j * hA h 108 j := Int.mul_le_mul_of_nonneg_left (by omega) (by omega)
      omega
  refine ⟨p, p0, p1, fun j hj => ⟨q1 j hj, ?_⟩⟩
  have h1 := q2 (a - j).toNat j (by omega)
  have h2 := p2 hm.1 hm.2
  omega
