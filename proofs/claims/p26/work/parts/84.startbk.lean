/-! THE BOOK AT THE START -/
set_option maxRecDepth 100000 in
set_option maxHeartbeats 16000000 in
theorem h3_F : hF av_h3 0 7 = 0 ∧ hF av_h3 0 8 = (-1) ∧ hF av_h3 1 1 = 0 ∧ hF av_h3 1 2 = 0 ∧ hF av_h3 1 3 = 0 ∧ hF av_h3 1 4 = 0 ∧ hF av_h3 1 5 = 0 ∧ hF av_h3 1 6 = (-1) ∧ hF av_h3 3 3 = 0 ∧ hF av_h3 3 4 = 0 ∧ hF av_h3 3 5 = 0 ∧ hF av_h3 26 9 = 0 ∧ hF av_h3 26 10 = 0 ∧ hF av_h3 32 1 = 0 ∧ hF av_h3 32 3 = 1 ∧ hF av_h3 35 13 = (-1) ∧ hF av_h3 35 14 = (-1) ∧ hF av_h3 48 13 = (-1) ∧ hF av_h3 48 14 = (-1) ∧ hF av_h3 61 13 = (-1) ∧ hF av_h3 61 14 = (-1) ∧ hF av_h3 74 1 = 0 ∧ hF av_h3 74 3 = 1 ∧ hF av_h3 77 17 = 0 ∧ hF av_h3 77 18 = (-1) ∧ hF av_h3 77 27 = 0 ∧ hF av_h3 77 28 = 0 ∧ hF av_h3 77 29 = 0 ∧ hF av_h3 77 50 = 0 ∧ hF av_h3 77 51 = 0 ∧ hF av_h3 77 52 = 0 ∧ hF av_h3 77 62 = 0 := by decide +kernel
set_option maxRecDepth 100000 in
set_option maxHeartbeats 16000000 in
theorem h3_K : ∀ a, a < 122 → hK av_h3 a = c_K a := by decide +kernel
set_option maxRecDepth 100000 in
set_option maxHeartbeats 16000000 in
theorem h3_G : ∀ o, o < 122 → ∀ f, f < 63 → (c_G o f = none ∨ hG av_h3 o f = c_G o f) := by decide +kernel
set_option maxRecDepth 100000 in
set_option maxHeartbeats 16000000 in
theorem h3_R : (∀ i, i < 8 → hR av_h3 5 i = some (6 + i)) ∧ (∀ i, i < 6 → hR av_h3 14 i = some (15 + i)) ∧ (∀ i, i < 16 → hR av_h3 4 i = none) := by decide +kernel
set_option maxRecDepth 100000 in
set_option maxHeartbeats 16000000 in
theorem h3_n : av_h3.1 = 122 ∧ av_h3.2.1 ≤ 60000 := by decide +kernel
set_option maxRecDepth 100000 in
set_option maxHeartbeats 16000000 in
theorem h3_B : hG av_h3 35 12 = some 32 ∧ hG av_h3 35 11 = some 47 ∧ hG av_h3 48 12 = some 32 ∧ hG av_h3 48 11 = some 60 ∧ hG av_h3 61 12 = some 32 ∧ hG av_h3 61 11 = some 73 := by decide +kernel
theorem h3_LY : LY av_h3 := by
  refine ⟨fun a ha => h3_K a (Nat.le_of_ble_eq_true ha), fun o f q e => ?_, h3_R.1, h3_R.2.1⟩
  have b := cG_big e
  rcases h3_G o b.1 f b.2 with z | z
  · rw [z] at e; cases e
  · rw [z]; exact e
theorem h3_rw : ∀ a, rwc a = true → hA av_h3 a = (fun _ => 0) := fun a h => by
  have hh : a = 6 ∨ a = 7 ∨ a = 8 ∨ a = 9 ∨ a = 10 ∨ a = 11 ∨ a = 12 ∨ a = 13 ∨ a = 15 ∨ a = 16 ∨ a = 17 ∨ a = 18 ∨ a = 19 ∨ a = 20 ∨ a = 25 ∨ a = 30 ∨ a = 47 ∨ a = 60 ∨ a = 73 := by
    have h2 : ∀ a, a < 122 → rwc a = true → ((6 ≤ a ∧ a ≤ 13) ∨ (15 ≤ a ∧ a ≤ 20) ∨ a = 25 ∨ a = 30 ∨ a = 47 ∨ a = 60 ∨ a = 73) := by decide +kernel
    have h3 := h2 a (rwc_lt h) h
    omega
  rcases hh with e | e | e | e | e | e | e | e | e | e | e | e | e | e | e | e | e | e | e
  · subst e; exact h3_z0.2.1
  · subst e; exact h3_z0.2.2.1
  · subst e; exact h3_z0.2.2.2.1
  · subst e; exact h3_z0.2.2.2.2.1
  · subst e; exact h3_z0.2.2.2.2.2.1
  · subst e; exact h3_z0.2.2.2.2.2.2.1
  · subst e; exact h3_z0.2.2.2.2.2.2.2.1
  · subst e; exact h3_z0.2.2.2.2.2.2.2.2.1
  · subst e; exact h3_z0.2.2.2.2.2.2.2.2.2.1
  · subst e; exact h3_z0.2.2.2.2.2.2.2.2.2.2.1
  · subst e; exact h3_z0.2.2.2.2.2.2.2.2.2.2.2.1
  · subst e; exact h3_z0.2.2.2.2.2.2.2.2.2.2.2.2.1
  · subst e; exact h3_z0.2.2.2.2.2.2.2.2.2.2.2.2.2.1
  · subst e; exact h3_z0.2.2.2.2.2.2.2.2.2.2.2.2.2.2.1
  · subst e; exact h3_z0.2.2.2.2.2.2.2.2.2.2.2.2.2.2.2.2.1
  · subst e; exact h3_z0.2.2.2.2.2.2.2.2.2.2.2.2.2.2.2.2.2.1
  · subst e; exact h3_z0.2.2.2.2.2.2.2.2.2.2.2.2.2.2.2.2.2.2.2.1
  · subst e; exact h3_z0.2.2.2.2.2.2.2.2.2.2.2.2.2.2.2.2.2.2.2.2.1
  · subst e; exact h3_z0.2.2.2.2.2.2.2.2.2.2.2.2.2.2.2.2.2.2.2.2.2.1
theorem h3_m : ∀ a, 78 ≤ a → a < 122 → hA av_h3 a = (fun _ => 0) := fun a h1 h2 => by
  have hh : a = 78 ∨ a = 79 ∨ a = 80 ∨ a = 81 ∨ a = 82 ∨ a = 83 ∨ a = 84 ∨ a = 85 ∨ a = 86 ∨ a = 87 ∨ a = 88 ∨ a = 89 ∨ a = 90 ∨ a = 91 ∨ a = 92 ∨ a = 93 ∨ a = 94 ∨ a = 95 ∨ a = 96 ∨ a = 97 ∨ a = 98 ∨ a = 99 ∨ a = 100 ∨ a = 101 ∨ a = 102 ∨ a = 103 ∨ a = 104 ∨ a = 105 ∨ a = 106 ∨ a = 107 ∨ a = 108 ∨ a = 109 ∨ a = 110 ∨ a = 111 ∨ a = 112 ∨ a = 113 ∨ a = 114 ∨ a = 115 ∨ a = 116 ∨ a = 117 ∨ a = 118 ∨ a = 119 ∨ a = 120 ∨ a = 121 := by
    omega
  rcases hh with e | e | e | e | e | e | e | e | e | e | e | e | e | e | e | e | e | e | e | e | e | e | e | e | e | e | e | e | e | e | e | e | e | e | e | e | e | e | e | e | e | e | e | e
  · subst e; exact h3_z1.1
  · subst e; exact h3_z1.2.1
  · subst e; exact h3_z1.2.2.1
  · subst e; exact h3_z1.2.2.2.1
  · subst e; exact h3_z1.2.2.2.2.1
  · subst e; exact h3_z1.2.2.2.2.2.1
  · subst e; exact h3_z1.2.2.2.2.2.2.1
  · subst e; exact h3_z1.2.2.2.2.2.2.2.1
  · subst e; exact h3_z1.2.2.2.2.2.2.2.2.1
  · subst e; exact h3_z1.2.2.2.2.2.2.2.2.2.1
  · subst e; exact h3_z1.2.2.2.2.2.2.2.2.2.2.1
  · subst e; exact h3_z1.2.2.2.2.2.2.2.2.2.2.2.1
  · subst e; exact h3_z1.2.2.2.2.2.2.2.2.2.2.2.2.1
  · subst e; exact h3_z1.2.2.2.2.2.2.2.2.2.2.2.2.2.1
  · subst e; exact h3_z1.2.2.2.2.2.2.2.2.2.2.2.2.2.2.1
  · subst e; exact h3_z1.2.2.2.2.2.2.2.2.2.2.2.2.2.2.2.1
  · subst e; exact h3_z1.2.2.2.2.2.2.2.2.2.2.2.2.2.2.2.2
  · subst e; exact h3_z2.1
  · subst e; exact h3_z2.2.1
  · subst e; exact h3_z2.2.2.1
  · subst e; exact h3_z2.2.2.2.1
  · subst e; exact h3_z2.2.2.2.2.1
  · subst e; exact h3_z2.2.2.2.2.2.1
  · subst e; exact h3_z2.2.2.2.2.2.2.1
  · subst e; exact h3_z2.2.2.2.2.2.2.2.1
  · subst e; exact h3_z2.2.2.2.2.2.2.2.2.1
  · subst e; exact h3_z2.2.2.2.2.2.2.2.2.2.1
  · subst e; exact h3_z2.2.2.2.2.2.2.2.2.2.2.1
  · subst e; exact h3_z2.2.2.2.2.2.2.2.2.2.2.2.1
  · subst e; exact h3_z2.2.2.2.2.2.2.2.2.2.2.2.2.1
  · subst e; exact h3_z2.2.2.2.2.2.2.2.2.2.2.2.2.2
  · subst e; exact h3_z3.1
  · subst e; exact h3_z3.2.1
  · subst e; exact h3_z3.2.2.1
  · subst e; exact h3_z3.2.2.2.1
  · subst e; exact h3_z3.2.2.2.2.1
  · subst e; exact h3_z3.2.2.2.2.2.1
  · subst e; exact h3_z3.2.2.2.2.2.2.1
  · subst e; exact h3_z3.2.2.2.2.2.2.2.1
  · subst e; exact h3_z3.2.2.2.2.2.2.2.2.1
  · subst e; exact h3_z3.2.2.2.2.2.2.2.2.2.1
  · subst e; exact h3_z3.2.2.2.2.2.2.2.2.2.2.1
  · subst e; exact h3_z3.2.2.2.2.2.2.2.2.2.2.2.1
  · subst e; exact h3_z3.2.2.2.2.2.2.2.2.2.2.2.2
theorem zp {a : Nat} (h : hA av_h3 a = (fun _ => 0)) (j : Nat) : hA av_h3 a j = 0 := congrFun h j
theorem h3_co : CO av_h3 32 34 0 1 := by
  refine ⟨h3_K 32 (by omega), h3_F.2.2.2.2.2.2.2.2.2.2.2.2.2.1, by omega, h3_F.2.2.2.2.2.2.2.2.2.2.2.2.2.2.1, by omega, h3_LY.2.1 32 0 34 rfl, h3_K 34 (by omega), Or.inl rfl, ?_⟩
  have z := zp h3_z0.2.2.2.2.2.2.2.2.2.2.2.2.2.2.2.2.2.2.1
  exact ⟨fun j => by rw [z j]; omega, fun k j _ => by rw [z]; omega⟩
theorem h3_CN : CN av_h3 := by
  unfold CN
  rw [h3_F.2.2.2.2.2.2.2.2.1, h3_F.2.2.2.2.2.2.2.2.2.1, h3_F.2.2.2.2.2.2.2.2.2.2.1]
  omega
theorem h3_IC : IC av_h3 := by
  refine ⟨h3_LY, fun a ha j => ?_, fun i hi => Or.inl (h3_R.2.2 i hi), h3_CN, ?_, fun b hb => ?_⟩
  · rw [zp (h3_rw a ha) j]; omega
  · unfold HD
    rw [h3_F.2.2.2.2.2.2.2.2.2.2.2.1, h3_F.2.2.2.2.2.2.2.2.2.2.2.2.1]
    omega
  · rcases hb with e | e | e
    · subst e
      exact ⟨by rw [h3_F.2.2.2.2.2.2.2.2.2.2.2.2.2.2.2.1]; omega, by rw [h3_F.2.2.2.2.2.2.2.2.2.2.2.2.2.2.2.2.1]; omega, 32, 34, 0, 1, 47, h3_B.1, h3_co, h3_B.2.1, h3_K 47 (by omega), rfl⟩
    · subst e
      exact ⟨by rw [h3_F.2.2.2.2.2.2.2.2.2.2.2.2.2.2.2.2.2.1]; omega, by rw [h3_F.2.2.2.2.2.2.2.2.2.2.2.2.2.2.2.2.2.2.1]; omega, 32, 34, 0, 1, 60, h3_B.2.2.1, h3_co, h3_B.2.2.2.1, h3_K 60 (by omega), rfl⟩
    · subst e
      exact ⟨by rw [h3_F.2.2.2.2.2.2.2.2.2.2.2.2.2.2.2.2.2.2.2.1]; omega, by rw [h3_F.2.2.2.2.2.2.2.2.2.2.2.2.2.2.2.2.2.2.2.2.1]; omega, 32, 34, 0, 1, 73, h3_B.2.2.2.2.1, h3_co, h3_B.2.2.2.2.2, h3_K 73 (by omega), rfl⟩
theorem h3_KT : KT av_h3 := by
  refine ⟨⟨0, (0, 0, 0, -1), h3_LY, rfl, ?_, h3_F.2.2.2.1, h3_F.2.2.2.2.1, h3_F.2.2.2.2.2.1, h3_F.2.2.2.2.2.2.1, h3_F.2.2.2.2.2.2.2.1, rfl, rfl, ?_, ?_, ?_⟩, ?_, ?_, h3_K 74 (by omega), h3_F.2.2.2.2.2.2.2.2.2.2.2.2.2.2.2.2.2.2.2.2.2.1, (h3_F.2.2.2.2.2.2.2.2.2.2.2.2.2.2.2.2.2.2.2.2.2.2.1).trans (by decide), h3_LY.2.1 74 0 76 rfl, h3_K 76 (by omega), ?_⟩
  · exact fun j => by rw [zp (h3_z0.1) j]; omega
  · exact ⟨by decide, by decide, by decide, ⟨by decide, by decide⟩, by decide, by decide⟩
  · exact fun j => by rw [zp (h3_z0.2.2.2.2.2.2.2.2.2.2.2.2.2.2.2.1) j]; omega
  · exact fun j => by rw [zp (h3_z0.2.2.2.2.2.2.2.2.2.2.2.2.2.2.2.2.1) j]; omega
  · rw [h3_F.2.2.1]; omega
  · exact fun j _ => zp (h3_z0.2.2.2.2.2.2.2.2.2.2.2.2.2.2.2.1) j
  · rw [h3_z0.2.2.2.2.2.2.2.2.2.2.2.2.2.2.2.2.2.2.2.2.2.2]
    funext j
    exact (if_neg (by omega)).symm
theorem h3_IM : IMF 0 0 0 av_h3 := by
  have z := h3_m
  refine ⟨⟨⟨h3_LY, ⟨fun a h1 h2 j => ?_, ?_, ?_, ?_, fun j => ?_, fun c k h1 => ?_⟩, fun q h1 h2 j => ?_, ⟨?_, ?_, fun j hj => ?_, fun _ => 1, rfl, fun j hj => ?_, fun h1 => ?_⟩, ?_⟩, fun k hk h2 => ?_⟩, h3_F.2.2.2.2.2.2.2.2.2.2.2.2.2.2.2.2.2.2.2.2.2.2.2.2.2.1, h3_F.2.2.2.2.2.2.2.2.2.2.2.2.2.2.2.2.2.2.2.2.2.2.2.2.2.2.1, h3_F.2.2.2.2.2.2.2.2.2.2.2.2.2.2.2.2.2.2.2.2.2.2.2.2.2.2.2.1⟩
  · rw [zp (z a (by omega) (by omega)) j]
    have hh : ∀ a, a < 93 → 82 ≤ a → mlo a ≤ 0 ∧ 0 ≤ mhi a := by decide
    exact hh a (by omega) h1
  · rw [zp (z 78 (by omega) (by omega))]; omega
  · rw [zp (z 79 (by omega) (by omega))]; omega
  · rw [zp (z 80 (by omega) (by omega))]; omega
  · rw [zp (z 81 (by omega) (by omega))]; omega
  · rw [zp (z 78 (by omega) (by omega))] at h1; omega
  · rw [zp (z q (by omega) (by omega)) j]
    have hh : ∀ a, a < 108 → 96 ≤ a → wlo a ≤ 0 ∧ 0 ≤ whi a := by decide
    exact hh q (by omega) h1
  · rw [h3_F.2.2.2.2.2.2.2.2.2.2.2.2.2.2.2.2.2.2.2.2.2.2.2.2.2.2.1]; omega
  · rw [h3_F.2.2.2.2.2.2.2.2.2.2.2.2.2.2.2.2.2.2.2.2.2.2.2.2.2.2.2.1]; omega
  · rw [h3_F.2.2.2.2.2.2.2.2.2.2.2.2.2.2.2.2.2.2.2.2.2.2.2.2.2.2.1] at hj; omega
  · rw [h3_F.2.2.2.2.2.2.2.2.2.2.2.2.2.2.2.2.2.2.2.2.2.2.2.2.2.2.1] at hj; omega
  · rw [h3_F.2.2.2.2.2.2.2.2.2.2.2.2.2.2.2.2.2.2.2.2.2.2.2.2.2.2.2.1] at h1; omega
  · unfold NF
    rw [h3_F.2.2.2.2.2.2.2.2.2.2.2.2.2.2.2.2.2.2.2.2.2.2.2.2.2.1, h3_F.2.2.2.2.2.2.2.2.2.2.2.2.2.2.2.2.2.2.2.2.2.2.2.2.2.2.2.2.1, h3_F.2.2.2.2.2.2.2.2.2.2.2.2.2.2.2.2.2.2.2.2.2.2.2.2.2.2.2.2.2.1, h3_F.2.2.2.2.2.2.2.2.2.2.2.2.2.2.2.2.2.2.2.2.2.2.2.2.2.2.2.2.2.2.1]
    omega
  · rw [zp (z 96 (by omega) (by omega))] at h2
    omega
theorem h3_BK : BK av_h3 := by
  have z := h3_m
  refine ⟨h3_IC, h3_KT, ⟨0, 0, 0, h3_IM⟩, ⟨?_, ?_, ?_⟩, ⟨⟨⟨?_, ?_, ?_⟩, h3_CN⟩, ⟨fun i hi => Or.inl (h3_R.2.2 i hi), fun l hl k => ?_, fun c hc k => ?_⟩, fun i _ hi => ?_, fun i _ hi => ?_, fun i _ hi => ?_⟩, ?_, ?_, fun i _ hi => ?_⟩
  · rw [z 94 (by omega) (by omega), h3_z0.1]
  · rw [h3_F.2.2.2.2.2.2.2.2.2.2.2.2.2.2.2.2.2.2.2.2.2.2.2.1, h3_F.2.2.1]
  · rw [h3_F.2.2.2.2.2.2.2.2.2.2.2.2.2.2.2.2.2.2.2.2.2.2.2.2.1, h3_F.2.1]
  · rw [z 78 (by omega) (by omega), h3_F.2.2.2.2.2.2.2.2.1]
  · rw [z 79 (by omega) (by omega), h3_F.2.2.2.2.2.2.2.2.2.1]
  · rw [z 80 (by omega) (by omega), h3_F.2.2.2.2.2.2.2.2.2.2.1]
  · exact h3_IC.2.1 (3 + 3 + l) (by
      have hh : ∀ l, l < 8 → rwc (3 + 3 + l) = true := by decide
      exact hh l hl) k
  · exact h3_IC.2.1 (3 + 12 + c) (by
      have hh : ∀ l, l < 6 → rwc (3 + 12 + l) = true := by decide
      exact hh c hc) k
  · rw [h3_F.2.2.2.2.2.2.2.2.1] at hi; omega
  · rw [h3_F.2.2.2.2.2.2.2.2.2.1] at hi; omega
  · rw [h3_F.2.2.2.2.2.2.2.2.2.2.1] at hi; omega
  · rw [h3_F.1]; omega
  · rw [h3_F.2.2.2.2.2.2.2.2.2.2.2.2.2.2.2.2.2.2.2.2.2.2.2.2.2.2.2.2.2.2.2, h3_F.1]
  · rw [h3_F.1] at hi; omega
