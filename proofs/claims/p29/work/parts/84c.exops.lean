/-! FAULT, SAYING, RULE, COUNT: class and reference give the same -/
theorem ox_100 {h : av_H} (B : BK h) : av_wp none cd_100 0 [some (.inr (.inr (.inl (some (0)))))] [] h (OPr cd_158 [some (.inr (.inr (.inl (some (77)))))] h (fun x y => x = y)) := by
  refine cx_100 B.1 ⟨_, rfl, ly_k B.1.1 77 rfl, ?_⟩
  obtain ⟨n, a, m, M⟩ := B.2.2.1
  exact cx_158 M.1 ⟨_, rfl, B.2.2.2.1.2.2.symm, B, RM_0 rfl rfl⟩
theorem cel_in {u : Nat → Int} {s : Nat} {k w : Int} (h : (0 ≤ k ∧ k < (s : Int)) ∧ 0 ≤ w ∧ w < 21) : cel u s k w = u (k.toNat * 21 + w.toNat) := by
  unfold cel
  rw [if_pos h]
  congr 1
  omega
theorem ry_o {R r : Nat → Int} {row o : Nat} (x : RY R r row) (h : o < 15) : R o = r (row + o) := by
  have y := x rfl
  by_cases e : o = 4
  · subst e
    exact y.2.2.2.2 rfl
  · exact y.1 o h e
theorem ox_101 {h : av_H} (B : BK h) (x1 x2 x3 : Int) (q1 : -2147483648 ≤ x1 ∧ x1 ≤ 2147483647) (q2 : -2147483648 ≤ x2 ∧ x2 ≤ 2147483647) (q3 : -2147483648 ≤ x3 ∧ x3 ≤ 2147483647) : av_wp none cd_101 0 [some (.inr (.inr (.inl (some (0))))), some (.inl x1), some (.inl x2), some (.inl x3), none, none] [] h (OPr cd_161 [some (.inr (.inr (.inl (some (77))))), some (.inl x1), some (.inl x2), some (.inl x3), none] h (fun x y => x = y)) := by
  obtain ⟨n, a, m, M⟩ := B.2.2.1
  have S := B.2.2.2.2.1
  have c78 : hF h 3 3 = hA h 78 0 := S.1.1.1
  refine cx_101 B.1 S x1 q1 x2 q2 x3 q3 (fun z => ⟨_, rfl, ly_k B.1.1 77 rfl, ?_⟩) (fun z1 z2 z3 t c s f y1 y2 y3 z4 z5 z6 => ⟨_, rfl, ly_k B.1.1 77 rfl, ?_⟩)
  · exact cx_161 M.1 x1 q1 x2 q2 x3 q3 (fun _ => ⟨_, rfl, rfl, B, RM_0 rfl rfl⟩) (fun v w1 w2 w3 w4 w5 _ => by exfalso; omega)
  · refine cx_161 M.1 x1 q1 x2 q2 x3 q3 (fun _ => by exfalso; omega) (fun v w1 w2 w3 w4 w5 w6 => ⟨_, rfl, ?_, B, RM_0 rfl rfl⟩)
    rw [w6, cel_in ⟨⟨z4, z5⟩, by omega⟩, ry_o (y3 x2.toNat (by omega)) (by omega), y1.2.1.2.2.2.2.2, ctn_o (by omega)]
theorem ox_125 {h : av_H} (B : BK h) (x1 : Int) (q1 : -2147483648 ≤ x1 ∧ x1 ≤ 2147483647) : av_wp none cd_125 0 [some (.inr (.inr (.inl (some (0))))), some (.inl x1)] [] h (OPr cd_217 [some (.inr (.inr (.inl (some (77))))), some (.inl x1)] h (fun x y => x = y)) := by
  obtain ⟨n, a, m, M⟩ := B.2.2.1
  have S := B.2.2.2.2.1
  have c3 : hF h 3 3 = hA h 78 0 := S.1.1.1
  have c4 : hF h 3 4 = hA h 79 0 := S.1.1.2.1
  have c5 : hF h 3 5 = hA h 80 0 := S.1.1.2.2
  have ct : hF h 77 17 = hF h 1 1 := B.2.2.2.1.2.1
  have ci : hF h 77 62 = hF h 0 7 := B.2.2.2.2.2.2.1
  refine cx_125 B.1 S x1 q1 (fun v z => ⟨_, rfl, ly_k B.1.1 77 rfl, ?_⟩)
  rw [c3] at z
  exact cx_217 M.1 x1 q1 (fun w y => ⟨_, rfl, by omega, B, RM_0 rfl rfl⟩)
theorem ox_105 {h : av_H} (B : BK h) (x1 x2 : Int) (q1 : -2147483648 ≤ x1 ∧ x1 ≤ 2147483647) (q2 : -2147483648 ≤ x2 ∧ x2 ≤ 2147483647) : av_wp none cd_105 0 [some (.inr (.inr (.inl (some (0))))), some (.inl x1), some (.inl x2)] [] h (OPr cd_160 [some (.inr (.inr (.inl (some (77))))), some (.inl x1), some (.inl x2)] h (fun x y => x = y)) := by
  obtain ⟨n, a, m, M⟩ := B.2.2.1
  have S := B.2.2.2.2.1
  have c4 : hF h 3 4 = hA h 79 0 := S.1.1.2.1
  have c5 : hF h 3 5 = hA h 80 0 := S.1.1.2.2
  have b4 := S.1.2.2.1
  have b5 := S.1.2.2.2
  have lw : ∀ l : Int, 0 ≤ l → l < hA h 79 0 → LW h (hA h) 3 0 l.toNat := fun l h1 h2 => S.2.2.2.1 l.toNat (by omega) (by omega)
  have ix : ∀ l j : Int, 0 ≤ l → 0 ≤ j → 196 * 0 + 14 * l.toNat + j.toNat = (14 * l + j).toNat := fun l j h1 h2 => by omega
  have rb : ∀ l j : Int, 0 ≤ l → l < hA h 79 0 → 0 ≤ j → j < 13 → -2 ≤ hA h 93 (Int.toNat (14 * l + j)) ∧ hA h 93 (Int.toNat (14 * l + j)) ≤ 999 := fun l j h1 h2 h3 h4 => by
    have y := (lw l h1 h2).1 j.toNat (by omega)
    have y2 := S.2.1.2.1 l.toNat (by omega) j.toNat
    rw [ix l j h1 h3] at y
    by_cases e : hA h 93 (Int.toNat (14 * l + j)) = -2
    · omega
    · rw [if_neg e] at y
      rw [← y]
      exact y2
  have cb : ∀ c j : Int, 0 ≤ c → c < hA h 80 0 → 0 ≤ j → j < 13 → -2 ≤ hA h 93 (Int.toNat (112 + 14 * c + j)) ∧ hA h 93 (Int.toNat (112 + 14 * c + j)) ≤ 999 := fun c j h1 h2 h3 h4 => by
    have y := S.2.2.2.2 c.toNat (by omega) (by omega) j.toNat (by omega)
    have y2 := S.2.1.2.2 c.toNat (by omega) j.toNat
    rw [show 196 * 0 + 112 + 14 * c.toNat + j.toNat = (112 + 14 * c + j).toNat by omega] at y
    rw [← y]
    exact y2
  refine cx_105 B.1 x1 q1 x2 q2 (fun z => ⟨_, rfl, ly_k B.1.1 77 rfl, ?_⟩) (fun v z1 z2 z3 z4 z5 => ⟨_, rfl, ly_k B.1.1 77 rfl, gd_of (fun hg => ?_)⟩)
  · exact cx_160 M (FM_rf h) x1 q1 x2 q2 rb cb (fun _ => ⟨_, rfl, rfl, B, RM_0 rfl rfl⟩) (fun v w1 w2 w3 _ => by exfalso; omega) (fun v h' w1 w2 w3 w4 _ _ _ => by exfalso; omega)
  · have y := lw x1 z1 (by omega)
    refine cx_160 M (FM_rf h) x1 q1 x2 q2 rb cb (fun _ => by exfalso; omega) (fun v' w1 w2 w3 w4 => ⟨_, rfl, ?_, B, RM_0 rfl rfl⟩) (fun v' h' w1 w2 w3 w4 w5 M2 F2 => ⟨_, rfl, ?_, BK_FM hg B F2 M2, RM_0 F2.1 F2.2.1⟩)
    · subst w3
      rw [z5, w4]
      have y3 := y.2
      rw [show 196 * 0 + 14 * x1.toNat + 13 = (14 * x1 + 13).toNat by omega] at y3
      exact y3
    · have y3 := y.1 x2.toNat (by omega)
      rw [ix x1 x2 w1 w3] at y3
      rw [z5, w5]
      unfold lyb
      rw [Int.toNat_of_nonneg w3]
      exact y3
