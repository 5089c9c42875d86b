/-! THE REFERENCE LOOKS AT A COMBO -/
/-- the case as it was brought: all but the hours -/
def LST (u ro : Nat → Int) (a : Nat → Nat → Int) (s : Nat) (A : Nat → Nat → Int) : Prop := (∀ k, k < s → (A 96 k = u (21 * k + 0) ∧ A 97 k = u (21 * k + 4) ∧ A 99 k = u (21 * k + 5) ∧ A 100 k = u (21 * k + 3) ∧ A 101 k = u (21 * k + 1) ∧ A 102 k = u (21 * k + 2) ∧ A 103 k = a 4 k) ∧ (∀ j, j < 5 → A 104 (5 * k + j) = u (21 * k + 10 + j)) ∧ a 2 k = ofv u ro k ∧ a 3 k = ysv u ro k) ∧ ∀ j, j < 13 → A 95 j = ro j
section
variable {u ro : Nat → Int} {a : Nat → Nat → Int} {s : Nat} {A A' : Nat → Nat → Int}
theorem LR_of (x : LST u ro a s A) (e : ∀ q, 95 ≤ q → q ≤ 104 → A' q = A q) (h : ∀ k, k < s → A' 109 k = a 0 (12 * 0 + k) ∧ A' 110 k = a 0 (12 * 1 + k) ∧ A' 111 k = a 0 (12 * 2 + k)) : LR u ro a s A' := by
  unfold LR
  rw [e 95 (by omega) (by omega), e 96 (by omega) (by omega), e 97 (by omega) (by omega), e 99 (by omega) (by omega), e 100 (by omega) (by omega), e 101 (by omega) (by omega), e 102 (by omega) (by omega), e 103 (by omega) (by omega), e 104 (by omega) (by omega)]
  exact ⟨fun k hk => ⟨(x.1 k hk).1, (x.1 k hk).2.1, h k hk, (x.1 k hk).2.2⟩, x.2⟩
theorem LST_c (x : LST u ro a s A) (e : ∀ q, 95 ≤ q → q ≤ 104 → A' q = A q) : LST u ro a s A' := by
  unfold LST
  rw [e 95 (by omega) (by omega), e 96 (by omega) (by omega), e 97 (by omega) (by omega), e 99 (by omega) (by omega), e 100 (by omega) (by omega), e 101 (by omega) (by omega), e 102 (by omega) (by omega), e 103 (by omega) (by omega), e 104 (by omega) (by omega)]
  exact x
end
/-- the reference's rows of a case as the class has them, also of one that is changed -/
def LH2 (u : Nat → Int) (s : Nat) (lo hi ls : Nat → Int) : Prop := ∀ k, k < s → (∀ j, j < 3 → lo (3 * k + j) = u (21 * k + 7 + j) ∧ ((u (21 * k + 15 + j) = 0 ∧ hi (3 * k + j) = lo (3 * k + j)) ∨ ((1 ≤ u (21 * k + 15 + j) ∧ u (21 * k + 15 + j) ≤ 16) ∧ hi (3 * k + j) = lo (3 * k + j) + u (21 * k + 15 + j) - 1))) ∧ ((u (21 * k + 18) = 0 ∧ ls k = 0 ∧ u (21 * k + 19) = 0) ∨ (u (21 * k + 18) = 2 ∧ ls k = 1 ∧ u (21 * k + 19) = 0) ∨ (u (21 * k + 18) = 0 ∧ ls k = 2 ∧ u (21 * k + 19) = 1))
theorem LH2_of {u : Nat → Int} {s : Nat} {lo hi ls : Nat → Int} (H : LH u s lo hi ls) : LH2 u s lo hi ls := fun k hk => by
  have h := H k hk
  refine ⟨h.1, ?_⟩
  rcases h.2.1 with e | e
  · exact Or.inl ⟨e.1, e.2, h.2.2⟩
  · exact Or.inr (Or.inl ⟨e.1, e.2, h.2.2⟩)
section
variable {u : Nat → Int} {s : Nat} {lo hi ls : Nat → Int}
theorem LH2_v (H : LH2 u s lo hi ls) {t : Nat} (ht : t < 4 * s) : one1 (cmv lo hi ls) t = dvu u t := by
  have hk := H (t / 4) (by omega)
  unfold one1 dvu cmv
  by_cases c : t % 4 < 3
  · have h1 := hk.1 (t % 4) c
    rw [if_pos c]
    unfold mx1
    rcases h1.2 with e | e
    · rw [e.2, e.1, if_pos (by omega), if_pos (by omega)]
    · by_cases d : u (21 * (t / 4) + 15 + t % 4) < 2
      · rw [if_pos (by omega), if_neg (by omega)]
        omega
      · rw [if_neg (by omega), if_neg (by omega)]
        omega
  · have e3 : t % 4 = 3 := by omega
    rw [if_neg c, e3, show 21 * (t / 4) + 15 + 3 = 21 * (t / 4) + 18 by omega]
    unfold mx1
    rcases hk.2 with e | e | e
    · rw [e.1, e.2.1]
      decide
    · rw [e.1, e.2.1]
      decide
    · rw [e.1, e.2.1]
      decide
theorem LH2_d (H : LH2 u s lo hi ls) {x : Int} {t : Nat} (ht : t < 4 * s) : dgt (one1 (cmv lo hi ls)) x t = dgt (dvu u) x t := by
  unfold dgt
  rw [prd_c t (fun q hq => LH2_v H (by omega)), LH2_v H ht]
theorem LH2_h (H : LH2 u s lo hi ls) {x : Int} {k i : Nat} (hk : k < s) (hi3 : i < 3) : hrq lo ls (dgt (one1 (cmv lo hi ls)) x) k i = hrv u x k i := by
  have h1 := H k hk
  have e : ∀ n, n ≤ 3 → hsl lo (dgt (one1 (cmv lo hi ls)) x) k n = hsm u (fun j => dgt (dvu u) x (4 * k + j)) k n := by
    intro n
    induction n with
    | zero => intro _; rfl
    | succ n ih =>
      intro hn
      show hsl lo (dgt (one1 (cmv lo hi ls)) x) k n + lo (3 * k + n) + dgt (one1 (cmv lo hi ls)) x (4 * k + n) = hsm u (fun j => dgt (dvu u) x (4 * k + j)) k n + u (21 * k + 7 + n) + dgt (dvu u) x (4 * k + n)
      rw [ih (by omega), (h1.1 n (by omega)).1, LH2_d H (by omega)]
  have l2 : ls k = 2 ↔ u (21 * k + 19) = 1 := by
    rcases h1.2 with z | z | z <;> omega
  unfold hrq hrv
  rw [LH2_d H (show 4 * k + 3 < 4 * s by omega), e (i + 1) (by omega)]
  by_cases c : (u (21 * k + 19) = 1 ∨ dgt (dvu u) x (4 * k + 3) = 1) ∧ 1 ≤ i
  · rw [if_pos c, if_pos ⟨c.1.elim (fun y => Or.inl (l2.mpr y)) Or.inr, c.2⟩]
  · rw [if_neg c, if_neg (fun z => c ⟨z.1.elim (fun y => Or.inl (l2.mp y)) Or.inr, z.2⟩)]
end
theorem HX_q {u : Nat → Int} {s : Nat} {x : Int} {a : Nat → Nat → Int} {lo hi ls : Nat → Int} {A : Nat → Nat → Int} (X : HX u s x a) (H : LH2 u s lo hi ls) (Q : HQ lo ls (dgt (one1 (cmv lo hi ls)) x) s A) : ∀ k, k < s → A 109 k = a 0 (12 * 0 + k) ∧ A 110 k = a 0 (12 * 1 + k) ∧ A 111 k = a 0 (12 * 2 + k) := fun k hk => by
  have q := Q k hk
  rw [q.1, q.2.1, q.2.2, X k hk 0 (by omega), X k hk 1 (by omega), X k hk 2 (by omega)]
  exact ⟨LH2_h H hk (by omega), LH2_h H hk (by omega), LH2_h H hk (by omega)⟩
theorem ZE_l1 {g h : av_H} (Z : ZE [109, 110, 111, 112] [] g h) : ZE [109, 110, 111, 112, 113, 114, 115] [50, 51, 52, 53] g h := ZE_mo Z (fun q e => by
  have e1 := elc.mp e
  have e2 := elc.mp e1.2
  have e3 := elc.mp e2.2
  have e4 := elc.mp e3.2
  exact elc.mpr ⟨e1.1, elc.mpr ⟨e2.1, elc.mpr ⟨e3.1, elc.mpr ⟨e4.1, rfl⟩⟩⟩⟩) (fun _ _ => rfl)
theorem ZE_l2 {g h : av_H} (Z : ZE [113, 114, 115] [50, 51, 52, 53] g h) : ZE [109, 110, 111, 112, 113, 114, 115] [50, 51, 52, 53] g h := ZE_mo Z (fun q e => by
  exact (elc.mp (elc.mp (elc.mp (elc.mp e).2).2).2).2) (fun _ z => z)
theorem ZE_l3 {g h : av_H} (Z : ZE [] [50, 51, 52, 53] g h) : ZE [109, 110, 111, 112, 113, 114, 115] [50, 51, 52, 53] g h := ZE_mo Z (fun _ _ => rfl) (fun _ z => z)
theorem FOI_z {u ro : Nat → Int} {a : Nat → Nat → Int} {s o : Nat} {g h : av_H} {K : List Nat} (x : FOI u ro a s o (hA g)) (Z : ZE [] K g h) : FOI u ro a s o (hA h) := fun q hq h2 => by
  unfold E2
  rw [Z.1 113 rfl, Z.1 114 rfl, Z.1 115 rfl]
  exact x q hq h2
