/-! THE REFERENCE'S TAPE AND TOKENS: its fields 17 to 25 by name -/
theorem and255_t : ∀ k : Nat, k < 256 → av_and ((k : Int) - 128) 255 = (if (128 : Int) ≤ (k : Int) then (k : Int) - 128 else (k : Int) + 128) := by decide +kernel
theorem and255 {x : Int} (h : -128 ≤ x ∧ x ≤ 127) : (0 ≤ x ∧ av_and x 255 = x) ∨ (x < 0 ∧ av_and x 255 = x + 256) := by
  have h1 := and255_t (x + 128).toNat (by omega)
  rw [show (((x + 128).toNat : Nat) : Int) - 128 = x by omega] at h1
  rw [h1]
  by_cases e : 0 ≤ x
  · left
    exact ⟨e, by rw [if_pos (by omega)] <;> omega⟩
  · right
    exact ⟨by omega, by rw [if_neg (by omega)] <;> omega⟩
theorem so_1 {x : Int} : so x = 1 ↔ (97 ≤ x ∧ x ≤ 122) := by
  unfold so
  (repeat' split) <;> omega
theorem so_2 {x : Int} : so x = 2 ↔ (48 ≤ x ∧ x ≤ 57) := by
  unfold so
  (repeat' split) <;> omega
theorem so_3 {x : Int} : so x = 3 ↔ x = 59 := by
  unfold so
  (repeat' split) <;> omega
theorem so_4 {x : Int} : so x = 4 ↔ (x = 32 ∨ x = 10) := by
  unfold so
  (repeat' split) <;> omega
/-- the letters' number; the digits' number, as the reference counts them -/
def txt (b : Nat → Int) (f : Nat) : Nat → Int
  | 0 => 0
  | n + 1 => if n < 8 then txt b f n * 27 + (b (f + n) - 96) else -1
def dgc (b : Nat → Int) (f : Nat) : Nat → Int
  | 0 => 0
  | n + 1 => if dgc b f n < 1000000 then 10 * dgc b f n + b (f + n) - 48 else dgc b f n
def tokv (t : TT) : Int := if t.2.2.1 = 0 then 0 else if t.2.2.1 = 1 then 1 else if t.2.2.1 = 2 then (if (t.2.1 : Int) - t.1 ≤ 4 then 2 else 3) else if t.2.2.1 = 3 then 59 else 3
def txtv (b : Nat → Int) (t : TT) : Int := if t.2.2.1 = 1 then txt b t.1 (t.2.1 - t.1) else -1
def valv (b : Nat → Int) (t : TT) : Int := if t.2.2.1 = 2 then dgc b t.1 (t.2.1 - t.1) else 0
def rdA (a : Nat) : Bool := Nat.ble 82 a && Nat.ble a 93
def rdF (o f : Nat) : Bool := Nat.beq o 77 && (Nat.ble 17 f && Nat.ble f 25)
def FD (g h : av_H) : Prop := h.1 = g.1 ∧ h.2.1 = g.2.1 ∧ hK h = hK g ∧ hR h = hR g ∧ hG h = hG g ∧ (∀ o f, rdF o f = false → hF h o f = hF g o f) ∧ (∀ a, rdA a = false → hA h a = hA g a)
theorem FD_rf (h : av_H) : FD h h := ⟨rfl, rfl, rfl, rfl, rfl, fun _ _ _ => rfl, fun _ _ => rfl⟩
theorem FD_wF {g h : av_H} {o f : Nat} {v : Int} (F : FD g h) (e : rdF o f = true) : FD g (hwF h o f v) := ⟨F.1, F.2.1, F.2.2.1, F.2.2.2.1, F.2.2.2.2.1, fun k q hk => by
  show av_u2 h.2.2.2.2.1 o f v k q = _
  have hne : ¬ (k = o ∧ q = f) := fun z => by rw [z.1, z.2, e] at hk; cases hk
  rw [av_u2, if_neg hne]
  exact F.2.2.2.2.2.1 k q hk, F.2.2.2.2.2.2⟩
def NS (b : Nat → Int) (lim : Nat) (x17 x18 x19 x20 x21 x22 x23 x24 x25 : Int) (A : Nat → Nat → Int) (h : av_H) : Prop := LY h ∧ hA h 94 = b ∧ (∀ j, -128 ≤ b j ∧ b j ≤ 127) ∧ lim ≤ 900 ∧ hA h = A ∧ hF h 77 17 = x17 ∧ hF h 77 18 = x18 ∧ hF h 77 19 = x19 ∧ hF h 77 20 = x20 ∧ hF h 77 21 = x21 ∧ hF h 77 22 = x22 ∧ hF h 77 23 = x23 ∧ hF h 77 24 = x24 ∧ hF h 77 25 = x25
section
variable {b : Nat → Int} {lim : Nat} {x17 x18 x19 x20 x21 x22 x23 x24 x25 : Int} {A : Nat → Nat → Int} {h : av_H}
theorem ns_b (N : NS b lim x17 x18 x19 x20 x21 x22 x23 x24 x25 A h) : hA h 94 = b := N.2.1
theorem ns_bv (N : NS b lim x17 x18 x19 x20 x21 x22 x23 x24 x25 A h) (j : Nat) : -128 ≤ b j ∧ b j ≤ 127 := N.2.2.1 j
theorem ns_lim (N : NS b lim x17 x18 x19 x20 x21 x22 x23 x24 x25 A h) : lim ≤ 900 := N.2.2.2.1
theorem ns_A (N : NS b lim x17 x18 x19 x20 x21 x22 x23 x24 x25 A h) : hA h = A := N.2.2.2.2.1
theorem ns_17 (N : NS b lim x17 x18 x19 x20 x21 x22 x23 x24 x25 A h) : hF h 77 17 = x17 := N.2.2.2.2.2.1
theorem ns_18 (N : NS b lim x17 x18 x19 x20 x21 x22 x23 x24 x25 A h) : hF h 77 18 = x18 := N.2.2.2.2.2.2.1
theorem ns_19 (N : NS b lim x17 x18 x19 x20 x21 x22 x23 x24 x25 A h) : hF h 77 19 = x19 := N.2.2.2.2.2.2.2.1
theorem ns_20 (N : NS b lim x17 x18 x19 x20 x21 x22 x23 x24 x25 A h) : hF h 77 20 = x20 := N.2.2.2.2.2.2.2.2.1
theorem ns_21 (N : NS b lim x17 x18 x19 x20 x21 x22 x23 x24 x25 A h) : hF h 77 21 = x21 := N.2.2.2.2.2.2.2.2.2.1
theorem ns_22 (N : NS b lim x17 x18 x19 x20 x21 x22 x23 x24 x25 A h) : hF h 77 22 = x22 := N.2.2.2.2.2.2.2.2.2.2.1
theorem ns_23 (N : NS b lim x17 x18 x19 x20 x21 x22 x23 x24 x25 A h) : hF h 77 23 = x23 := N.2.2.2.2.2.2.2.2.2.2.2.1
theorem ns_24 (N : NS b lim x17 x18 x19 x20 x21 x22 x23 x24 x25 A h) : hF h 77 24 = x24 := N.2.2.2.2.2.2.2.2.2.2.2.2.1
theorem ns_25 (N : NS b lim x17 x18 x19 x20 x21 x22 x23 x24 x25 A h) : hF h 77 25 = x25 := N.2.2.2.2.2.2.2.2.2.2.2.2.2
theorem ns_w17 {v : Int} (N : NS b lim x17 x18 x19 x20 x21 x22 x23 x24 x25 A h) : NS b lim v x18 x19 x20 x21 x22 x23 x24 x25 A (hwF h 77 17 v) := ⟨N.1, N.2.1, N.2.2.1, N.2.2.2.1, N.2.2.2.2.1, hF_self, (hF_oth (by decide)).trans (ns_18 N), (hF_oth (by decide)).trans (ns_19 N), (hF_oth (by decide)).trans (ns_20 N), (hF_oth (by decide)).trans (ns_21 N), (hF_oth (by decide)).trans (ns_22 N), (hF_oth (by decide)).trans (ns_23 N), (hF_oth (by decide)).trans (ns_24 N), (hF_oth (by decide)).trans (ns_25 N)⟩
theorem ns_w18 {v : Int} (N : NS b lim x17 x18 x19 x20 x21 x22 x23 x24 x25 A h) : NS b lim x17 v x19 x20 x21 x22 x23 x24 x25 A (hwF h 77 18 v) := ⟨N.1, N.2.1, N.2.2.1, N.2.2.2.1, N.2.2.2.2.1, (hF_oth (by decide)).trans (ns_17 N), hF_self, (hF_oth (by decide)).trans (ns_19 N), (hF_oth (by decide)).trans (ns_20 N), (hF_oth (by decide)).trans (ns_21 N), (hF_oth (by decide)).trans (ns_22 N), (hF_oth (by decide)).trans (ns_23 N), (hF_oth (by decide)).trans (ns_24 N), (hF_oth (by decide)).trans (ns_25 N)⟩
theorem ns_w19 {v : Int} (N : NS b lim x17 x18 x19 x20 x21 x22 x23 x24 x25 A h) : NS b lim x17 x18 v x20 x21 x22 x23 x24 x25 A (hwF h 77 19 v) := ⟨N.1, N.2.1, N.2.2.1, N.2.2.2.1, N.2.2.2.2.1, (hF_oth (by decide)).trans (ns_17 N), (hF_oth (by decide)).trans (ns_18 N), hF_self, (hF_oth (by decide)).trans (ns_20 N), (hF_oth (by decide)).trans (ns_21 N), (hF_oth (by decide)).trans (ns_22 N), (hF_oth (by decide)).trans (ns_23 N), (hF_oth (by decide)).trans (ns_24 N), (hF_oth (by decide)).trans (ns_25 N)⟩
theorem ns_w20 {v : Int} (N : NS b lim x17 x18 x19 x20 x21 x22 x23 x24 x25 A h) : NS b lim x17 x18 x19 v x21 x22 x23 x24 x25 A (hwF h 77 20 v) := ⟨N.1, N.2.1, N.2.2.1, N.2.2.2.1, N.2.2.2.2.1, (hF_oth (by decide)).trans (ns_17 N), (hF_oth (by decide)).trans (ns_18 N), (hF_oth (by decide)).trans (ns_19 N), hF_self, (hF_oth (by decide)).trans (ns_21 N), (hF_oth (by decide)).trans (ns_22 N), (hF_oth (by decide)).trans (ns_23 N), (hF_oth (by decide)).trans (ns_24 N), (hF_oth (by decide)).trans (ns_25 N)⟩
theorem ns_w21 {v : Int} (N : NS b lim x17 x18 x19 x20 x21 x22 x23 x24 x25 A h) : NS b lim x17 x18 x19 x20 v x22 x23 x24 x25 A (hwF h 77 21 v) := ⟨N.1, N.2.1, N.2.2.1, N.2.2.2.1, N.2.2.2.2.1, (hF_oth (by decide)).trans (ns_17 N), (hF_oth (by decide)).trans (ns_18 N), (hF_oth (by decide)).trans (ns_19 N), (hF_oth (by decide)).trans (ns_20 N), hF_self, (hF_oth (by decide)).trans (ns_22 N), (hF_oth (by decide)).trans (ns_23 N), (hF_oth (by decide)).trans (ns_24 N), (hF_oth (by decide)).trans (ns_25 N)⟩
theorem ns_w22 {v : Int} (N : NS b lim x17 x18 x19 x20 x21 x22 x23 x24 x25 A h) : NS b lim x17 x18 x19 x20 x21 v x23 x24 x25 A (hwF h 77 22 v) := ⟨N.1, N.2.1, N.2.2.1, N.2.2.2.1, N.2.2.2.2.1, (hF_oth (by decide)).trans (ns_17 N), (hF_oth (by decide)).trans (ns_18 N), (hF_oth (by decide)).trans (ns_19 N), (hF_oth (by decide)).trans (ns_20 N), (hF_oth (by decide)).trans (ns_21 N), hF_self, (hF_oth (by decide)).trans (ns_23 N), (hF_oth (by decide)).trans (ns_24 N), (hF_oth (by decide)).trans (ns_25 N)⟩
theorem ns_w23 {v : Int} (N : NS b lim x17 x18 x19 x20 x21 x22 x23 x24 x25 A h) : NS b lim x17 x18 x19 x20 x21 x22 v x24 x25 A (hwF h 77 23 v) := ⟨N.1, N.2.1, N.2.2.1, N.2.2.2.1, N.2.2.2.2.1, (hF_oth (by decide)).trans (ns_17 N), (hF_oth (by decide)).trans (ns_18 N), (hF_oth (by decide)).trans (ns_19 N), (hF_oth (by decide)).trans (ns_20 N), (hF_oth (by decide)).trans (ns_21 N), (hF_oth (by decide)).trans (ns_22 N), hF_self, (hF_oth (by decide)).trans (ns_24 N), (hF_oth (by decide)).trans (ns_25 N)⟩
theorem ns_w24 {v : Int} (N : NS b lim x17 x18 x19 x20 x21 x22 x23 x24 x25 A h) : NS b lim x17 x18 x19 x20 x21 x22 x23 v x25 A (hwF h 77 24 v) := ⟨N.1, N.2.1, N.2.2.1, N.2.2.2.1, N.2.2.2.2.1, (hF_oth (by decide)).trans (ns_17 N), (hF_oth (by decide)).trans (ns_18 N), (hF_oth (by decide)).trans (ns_19 N), (hF_oth (by decide)).trans (ns_20 N), (hF_oth (by decide)).trans (ns_21 N), (hF_oth (by decide)).trans (ns_22 N), (hF_oth (by decide)).trans (ns_23 N), hF_self, (hF_oth (by decide)).trans (ns_25 N)⟩
theorem ns_w25 {v : Int} (N : NS b lim x17 x18 x19 x20 x21 x22 x23 x24 x25 A h) : NS b lim x17 x18 x19 x20 x21 x22 x23 x24 v A (hwF h 77 25 v) := ⟨N.1, N.2.1, N.2.2.1, N.2.2.2.1, N.2.2.2.2.1, (hF_oth (by decide)).trans (ns_17 N), (hF_oth (by decide)).trans (ns_18 N), (hF_oth (by decide)).trans (ns_19 N), (hF_oth (by decide)).trans (ns_20 N), (hF_oth (by decide)).trans (ns_21 N), (hF_oth (by decide)).trans (ns_22 N), (hF_oth (by decide)).trans (ns_23 N), (hF_oth (by decide)).trans (ns_24 N), hF_self⟩
end
section
variable {sc : av_Sr} {cd : List (Nat × av_E)} {Q : Option av_V → av_H → Prop} {pc p' : Nat} {lv : av_L} {r' : List av_V} {g h : av_H} {b : Nat → Int} {lim : Nat} {x17 x18 x19 x20 x21 x22 x23 x24 x25 : Int} {A : Nat → Nat → Int}
theorem ns_p17 {idx : Nat} {v : Int} (hx : cd.lookup pc = some (av_qf (.putfield idx) 8 17 0)) (hp : pc + 3 = p') (N : NS b lim x17 x18 x19 x20 x21 x22 x23 x24 x25 A h) (F : FD g h) (hw : ∀ h', NS b lim v x18 x19 x20 x21 x22 x23 x24 x25 A h' → FD g h' → av_wp sc cd p' lv r' h' Q) : av_wp sc cd pc lv (.inl v :: .inr (.inr (.inl (some 77))) :: r') h Q :=
  wq_pi hx hp (congrArg Prod.fst (ly_k N.1 77 rfl)) rfl (hw _ (ns_w17 N) (FD_wF F rfl))
theorem ns_p18 {idx : Nat} {v : Int} (hx : cd.lookup pc = some (av_qf (.putfield idx) 8 18 0)) (hp : pc + 3 = p') (N : NS b lim x17 x18 x19 x20 x21 x22 x23 x24 x25 A h) (F : FD g h) (hw : ∀ h', NS b lim x17 v x19 x20 x21 x22 x23 x24 x25 A h' → FD g h' → av_wp sc cd p' lv r' h' Q) : av_wp sc cd pc lv (.inl v :: .inr (.inr (.inl (some 77))) :: r') h Q :=
  wq_pi hx hp (congrArg Prod.fst (ly_k N.1 77 rfl)) rfl (hw _ (ns_w18 N) (FD_wF F rfl))
theorem ns_p19 {idx : Nat} {v : Int} (hx : cd.lookup pc = some (av_qf (.putfield idx) 8 19 0)) (hp : pc + 3 = p') (N : NS b lim x17 x18 x19 x20 x21 x22 x23 x24 x25 A h) (F : FD g h) (hw : ∀ h', NS b lim x17 x18 v x20 x21 x22 x23 x24 x25 A h' → FD g h' → av_wp sc cd p' lv r' h' Q) : av_wp sc cd pc lv (.inl v :: .inr (.inr (.inl (some 77))) :: r') h Q :=
  wq_pi hx hp (congrArg Prod.fst (ly_k N.1 77 rfl)) rfl (hw _ (ns_w19 N) (FD_wF F rfl))
theorem ns_p20 {idx : Nat} {v : Int} (hx : cd.lookup pc = some (av_qf (.putfield idx) 8 20 0)) (hp : pc + 3 = p') (N : NS b lim x17 x18 x19 x20 x21 x22 x23 x24 x25 A h) (F : FD g h) (hw : ∀ h', NS b lim x17 x18 x19 v x21 x22 x23 x24 x25 A h' → FD g h' → av_wp sc cd p' lv r' h' Q) : av_wp sc cd pc lv (.inl v :: .inr (.inr (.inl (some 77))) :: r') h Q :=
  wq_pi hx hp (congrArg Prod.fst (ly_k N.1 77 rfl)) rfl (hw _ (ns_w20 N) (FD_wF F rfl))
theorem ns_p21 {idx : Nat} {v : Int} (hx : cd.lookup pc = some (av_qf (.putfield idx) 8 21 0)) (hp : pc + 3 = p') (N : NS b lim x17 x18 x19 x20 x21 x22 x23 x24 x25 A h) (F : FD g h) (hw : ∀ h', NS b lim x17 x18 x19 x20 v x22 x23 x24 x25 A h' → FD g h' → av_wp sc cd p' lv r' h' Q) : av_wp sc cd pc lv (.inl v :: .inr (.inr (.inl (some 77))) :: r') h Q :=
  wq_pi hx hp (congrArg Prod.fst (ly_k N.1 77 rfl)) rfl (hw _ (ns_w21 N) (FD_wF F rfl))
theorem ns_p22 {idx : Nat} {v : Int} (hx : cd.lookup pc = some (av_qf (.putfield idx) 8 22 0)) (hp : pc + 3 = p') (N : NS b lim x17 x18 x19 x20 x21 x22 x23 x24 x25 A h) (F : FD g h) (hw : ∀ h', NS b lim x17 x18 x19 x20 x21 v x23 x24 x25 A h' → FD g h' → av_wp sc cd p' lv r' h' Q) : av_wp sc cd pc lv (.inl v :: .inr (.inr (.inl (some 77))) :: r') h Q :=
  wq_pi hx hp (congrArg Prod.fst (ly_k N.1 77 rfl)) rfl (hw _ (ns_w22 N) (FD_wF F rfl))
theorem ns_p23 {idx : Nat} {v : Int} (hx : cd.lookup pc = some (av_qf (.putfield idx) 8 23 0)) (hp : pc + 3 = p') (N : NS b lim x17 x18 x19 x20 x21 x22 x23 x24 x25 A h) (F : FD g h) (hw : ∀ h', NS b lim x17 x18 x19 x20 x21 x22 v x24 x25 A h' → FD g h' → av_wp sc cd p' lv r' h' Q) : av_wp sc cd pc lv (.inl v :: .inr (.inr (.inl (some 77))) :: r') h Q :=
  wq_pi hx hp (congrArg Prod.fst (ly_k N.1 77 rfl)) rfl (hw _ (ns_w23 N) (FD_wF F rfl))
theorem ns_p24 {idx : Nat} {v : Int} (hx : cd.lookup pc = some (av_qf (.putfield idx) 8 24 1)) (hp : pc + 3 = p') (N : NS b lim x17 x18 x19 x20 x21 x22 x23 x24 x25 A h) (F : FD g h) (hw : ∀ h', NS b lim x17 x18 x19 x20 x21 x22 x23 v x25 A h' → FD g h' → av_wp sc cd p' lv r' h' Q) : av_wp sc cd pc lv (.inr (.inl v) :: .inr (.inr (.inl (some 77))) :: r') h Q :=
  wq_pl hx hp (congrArg Prod.fst (ly_k N.1 77 rfl)) rfl (hw _ (ns_w24 N) (FD_wF F rfl))
theorem ns_p25 {idx : Nat} {v : Int} (hx : cd.lookup pc = some (av_qf (.putfield idx) 8 25 3)) (hp : pc + 3 = p') (N : NS b lim x17 x18 x19 x20 x21 x22 x23 x24 x25 A h) (F : FD g h) (hv : v = 0 ∨ v = 1) (hw : ∀ h', NS b lim x17 x18 x19 x20 x21 x22 x23 x24 v A h' → FD g h' → av_wp sc cd p' lv r' h' Q) : av_wp sc cd pc lv (.inl v :: .inr (.inr (.inl (some 77))) :: r') h Q :=
  wq_pb hx hp (congrArg Prod.fst (ly_k N.1 77 rfl)) rfl hv (hw _ (ns_w25 N) (FD_wF F rfl))
end
