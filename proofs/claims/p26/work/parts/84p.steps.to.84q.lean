section
/-! WHAT A BENCH DECIDES: step by step -/
theorem hof_c {a a' : Nat → Nat → Int} (e : a' 0 = a 0) {k : Int} (hk : 0 ≤ k) (w : Int) : hof a' k w = hw a (Int.toNat k) w := by
  unfold hw hof
  rw [e, Int.toNat_of_nonneg hk]
def OOI (u ro : Nat → Int) (a : Nat → Nat → Int) (k : Nat) (a' : Nat → Nat → Int) : Prop := (∀ q, q < k → a' 9 q = 9999 ∧ a' 10 q = 9999 ∧ a' 5 q = o5 ro a q ∧ ET3 a' q = e0 u ro a q) ∧ ∀ j, j < 5 → a' j = a j
section
variable {u ro : Nat → Int} {a a' a3 : Nat → Nat → Int} {k : Nat} {v v5 w5 c7 h w : Int}
theorem OOI_0 : OOI u ro a 0 a := ⟨fun q hq => absurd hq (by omega), fun _ _ => rfl⟩
theorem oo_E : ET3 (av_u2 (av_u2 (av_u2 (av_u2 (av_u2 (av_u2 a' 9 k 9999) 10 k 9999) 6 k 9999) 7 k 0) 8 k (-1)) 5 k v) k = (9999, 0, -1) := by
  refine Prod.ext ?_ (Prod.ext ?_ ?_)
  · show av_u2 (av_u2 (av_u2 (av_u2 (av_u2 (av_u2 a' 9 k 9999) 10 k 9999) 6 k 9999) 7 k 0) 8 k (-1)) 5 k v 6 k = 9999
    rw [av_u2_ne (i := 5) (by decide), av_u2_ne (i := 8) (by decide), av_u2_ne (i := 7) (by decide), av_u2_self]
  · show av_u2 (av_u2 (av_u2 (av_u2 (av_u2 (av_u2 a' 9 k 9999) 10 k 9999) 6 k 9999) 7 k 0) 8 k (-1)) 5 k v 7 k = 0
    rw [av_u2_ne (i := 5) (by decide), av_u2_ne (i := 8) (by decide), av_u2_self]
  · show av_u2 (av_u2 (av_u2 (av_u2 (av_u2 (av_u2 a' 9 k 9999) 10 k 9999) 6 k 9999) 7 k 0) 8 k (-1)) 5 k v 8 k = -1
    rw [av_u2_ne (i := 5) (by decide), av_u2_self]
theorem OOI_s (x : OOI u ro a k a') (ev : v = o5 ro a k) (E : ET3 a3 k = e0 u ro a k) (N : ∀ q, q ≠ k → ET3 a3 q = ET3 (av_u2 (av_u2 (av_u2 (av_u2 (av_u2 (av_u2 a' 9 k 9999) 10 k 9999) 6 k 9999) 7 k 0) 8 k (-1)) 5 k v) q) (J : ∀ j, j ≠ 6 → j ≠ 7 → j ≠ 8 → a3 j = av_u2 (av_u2 (av_u2 (av_u2 (av_u2 (av_u2 a' 9 k 9999) 10 k 9999) 6 k 9999) 7 k 0) 8 k (-1)) 5 k v j) : OOI u ro a (k + 1) a3 := by
  refine ⟨fun q hq => ?_, fun j hj => ?_⟩
  · have j9 := J 9 (by decide) (by decide) (by decide)
    have j10 := J 10 (by decide) (by decide) (by decide)
    have j5 := J 5 (by decide) (by decide) (by decide)
    rw [j9, j10, j5]
    by_cases c : q = k
    · subst c
      refine ⟨?_, ?_, ?_, E⟩
      · rw [av_u2_ne (i := 5) (by decide), av_u2_ne (i := 8) (by decide), av_u2_ne (i := 7) (by decide), av_u2_ne (i := 6) (by decide), av_u2_ne (i := 10) (by decide), av_u2_self]
      · rw [av_u2_ne (i := 5) (by decide), av_u2_ne (i := 8) (by decide), av_u2_ne (i := 7) (by decide), av_u2_ne (i := 6) (by decide), av_u2_self]
      · rw [av_u2_self, ev]
    · have y := x.1 q (by omega)
      refine ⟨?_, ?_, ?_, ?_⟩
      · rw [av_u2_ne (i := 5) (by decide), av_u2_ne (i := 8) (by decide), av_u2_ne (i := 7) (by decide), av_u2_ne (i := 6) (by decide), av_u2_ne (i := 10) (by decide), av_u2_oth c]
        exact y.1
      · rw [av_u2_ne (i := 5) (by decide), av_u2_ne (i := 8) (by decide), av_u2_ne (i := 7) (by decide), av_u2_ne (i := 6) (by decide), av_u2_oth c, av_u2_ne (i := 9) (by decide)]
        exact y.2.1
      · rw [av_u2_oth c, av_u2_ne (i := 8) (by decide), av_u2_ne (i := 7) (by decide), av_u2_ne (i := 6) (by decide), av_u2_ne (i := 10) (by decide), av_u2_ne (i := 9) (by decide)]
        exact y.2.2.1
      · rw [N q c, ← y.2.2.2]
        unfold ET3
        rw [av_u2_ne (i := 5) (a := 6) (by decide), av_u2_ne (i := 8) (a := 6) (by decide), av_u2_ne (i := 7) (a := 6) (by decide), av_u2_oth (i := 6) c, av_u2_ne (i := 10) (a := 6) (by decide), av_u2_ne (i := 9) (a := 6) (by decide), av_u2_ne (i := 5) (a := 7) (by decide), av_u2_ne (i := 8) (a := 7) (by decide), av_u2_oth (i := 7) c, av_u2_ne (i := 6) (a := 7) (by decide), av_u2_ne (i := 10) (a := 7) (by decide), av_u2_ne (i := 9) (a := 7) (by decide), av_u2_ne (i := 5) (a := 8) (by decide), av_u2_oth (i := 8) c, av_u2_ne (i := 7) (a := 8) (by decide), av_u2_ne (i := 6) (a := 8) (by decide), av_u2_ne (i := 10) (a := 8) (by decide), av_u2_ne (i := 9) (a := 8) (by decide)]
  · rw [J j (by omega) (by omega) (by omega), av_u2_ne (i := 5) (by omega), av_u2_ne (i := 8) (by omega), av_u2_ne (i := 7) (by omega), av_u2_ne (i := 6) (by omega), av_u2_ne (i := 10) (by omega), av_u2_ne (i := 9) (by omega)]
    exact x.2 j hj
theorem oo_2 (x : OOI u ro a k a') : av_u2 (av_u2 (av_u2 (av_u2 (av_u2 (av_u2 a' 9 k 9999) 10 k 9999) 6 k 9999) 7 k 0) 8 k (-1)) 5 k v 2 = a 2 := by
  rw [av_u2_ne (i := 5) (by decide), av_u2_ne (i := 8) (by decide), av_u2_ne (i := 7) (by decide), av_u2_ne (i := 6) (by decide), av_u2_ne (i := 10) (by decide), av_u2_ne (i := 9) (by decide)]
  exact x.2 2 (by omega)
/-- an offer that is held -/
theorem OOI_a (x : OOI u ro a k a') (ev : v = o5 ro a k) (e5 : u (21 * k + 5) = w5) (h5 : w5 ≠ -1) (X : EAX k (w5 + 1) 3 (-1) (av_u2 (av_u2 (av_u2 (av_u2 (av_u2 (av_u2 a' 9 k 9999) 10 k 9999) 6 k 9999) 7 k 0) 8 k (-1)) 5 k v) a3) : OOI u ro a (k + 1) a3 := by
  refine OOI_s x ev ?_ X.2.1 X.2.2
  rw [X.1, oo_E, oo_2 x]
  unfold e0
  rw [e5, if_pos h5]
theorem OOI_b (x : OOI u ro a k a') (ev : v = o5 ro a k) (e5 : u (21 * k + 5) = w5) (h5 : w5 = -1) (e7 : ro 7 = c7) (h7 : c7 ≠ -1) (eh : hw a k 1 = h) (hh : h ≠ -1) (X : EAX k (h + c7 + 1) 4 (-1) (av_u2 (av_u2 (av_u2 (av_u2 (av_u2 (av_u2 a' 9 k 9999) 10 k 9999) 6 k 9999) 7 k 0) 8 k (-1)) 5 k v) a3) : OOI u ro a (k + 1) a3 := by
  refine OOI_s x ev ?_ X.2.1 X.2.2
  rw [X.1, oo_E, oo_2 x]
  unfold e0
  rw [e5, if_neg (fun z => z h5), e7, eh, if_pos ⟨h7, hh⟩]
theorem OOI_c (x : OOI u ro a k a') (ev : v = o5 ro a k) (e5 : u (21 * k + 5) = w5) (h5 : w5 = -1) (e7 : ro 7 = c7) (eh : hw a k 1 = h) (hh : c7 = -1 ∨ h = -1) : OOI u ro a (k + 1) (av_u2 (av_u2 (av_u2 (av_u2 (av_u2 (av_u2 a' 9 k 9999) 10 k 9999) 6 k 9999) 7 k 0) 8 k (-1)) 5 k v) := by
  refine OOI_s x ev ?_ (fun _ _ => rfl) (fun _ _ _ _ => rfl)
  rw [oo_E]
  unfold e0
  rw [e5, if_neg (fun z => z h5), e7, eh, if_neg (fun z => hh.elim z.1 z.2)]
end
/-! taken back -/
def TBI (u ro : Nat → Int) (a : Nat → Nat → Int) (s k : Nat) (a' : Nat → Nat → Int) : Prop := (∀ q, q < s → a' 9 q = tbv u ro a q k ∧ ET3 a' q = ebv u ro a q k ∧ a' 5 q = o5 ro a q ∧ a' 10 q = 9999) ∧ ∀ j, j < 5 → a' j = a j
section
variable {u ro : Nat → Int} {a a' a3 : Nat → Nat → Int} {s k i : Nat} {v h d f : Int}
theorem TBI_0 (x : OOI u ro a s a') : TBI u ro a s 0 a' := ⟨fun q hq => by have y := x.1 q hq; exact ⟨y.1, y.2.2.2, y.2.2.1, y.2.1⟩, x.2⟩
theorem TBI_n (x : TBI u ro a s k a') (e : hB u ro a k = -1) : TBI u ro a s (k + 1) a' := by
  refine ⟨fun q hq => ?_, x.2⟩
  have y := x.1 q hq
  refine ⟨?_, ?_, y.2.2⟩
  · rw [y.1]
    exact (if_neg (fun z => z.1 e)).symm
  · rw [y.2.1]
    exact (if_neg (fun z => z.1 e)).symm
theorem TBI_a (x : TBI u ro a s k a') (eh : hB u ro a k = h) (hh : h ≠ -1) (ed : u (21 * k + 3) = d) (hi : (i : Int) = d) (is : i < s) (ev : v = mn2 (tbv u ro a i k) h) (ef : fre u ro i = f) (hf : h < f) : TBI u ro a s (k + 1) (av_u2 a' 9 i v) := by
  refine ⟨fun q hq => ?_, fun j hj => by rw [av_u2_ne (by omega)]; exact x.2 j hj⟩
  have y := x.1 q hq
  have e3 : ET3 (av_u2 a' 9 i v) q = ET3 a' q := by
    unfold ET3
    rw [av_u2_ne (a := 6) (by decide), av_u2_ne (a := 7) (by decide), av_u2_ne (a := 8) (by decide)]
  refine ⟨?_, ?_, ?_, ?_⟩
  · show av_u2 a' 9 i v 9 q = (if hB u ro a k ≠ -1 ∧ u (21 * k + 3) = (q : Int) then mn2 (tbv u ro a q k) (hB u ro a k) else tbv u ro a q k)
    by_cases c : q = i
    · subst c
      rw [av_u2_self, if_pos ⟨by rw [eh]; exact hh, by rw [ed, hi]⟩, ev, eh]
    · rw [av_u2_oth c, if_neg (fun z => by have := z.2; omega)]
      exact y.1
  · rw [e3, y.2.1]
    refine (if_neg (fun z => ?_)).symm
    have c : q = i := by have := z.2.1; omega
    subst c
    have := z.2.2
    omega
  · rw [av_u2_ne (by decide)]; exact y.2.2.1
  · rw [av_u2_ne (by decide)]; exact y.2.2.2
theorem TBI_b (x : TBI u ro a s k a') (eh : hB u ro a k = h) (hh : h ≠ -1) (ed : u (21 * k + 3) = d) (hi : (i : Int) = d) (is : i < s) (ev : v = mn2 (tbv u ro a i k) h) (ef : fre u ro i = f) (hf : f ≤ h) {b : Int} (hb : b = (k : Int)) (X : EAX i h 1 b (av_u2 a' 9 i v) a3) : TBI u ro a s (k + 1) a3 := by
  subst hb
  have e3 : ∀ q, ET3 (av_u2 a' 9 i v) q = ET3 a' q := fun q => by
    unfold ET3
    rw [av_u2_ne (a := 6) (by decide), av_u2_ne (a := 7) (by decide), av_u2_ne (a := 8) (by decide)]
  refine ⟨fun q hq => ?_, fun j hj => by rw [X.2.2 j (by omega) (by omega) (by omega), av_u2_ne (by omega)]; exact x.2 j hj⟩
  have y := x.1 q hq
  rw [X.2.2 9 (by decide) (by decide) (by decide), X.2.2 5 (by decide) (by decide) (by decide), X.2.2 10 (by decide) (by decide) (by decide)]
  refine ⟨?_, ?_, ?_, ?_⟩
  · show av_u2 a' 9 i v 9 q = (if hB u ro a k ≠ -1 ∧ u (21 * k + 3) = (q : Int) then mn2 (tbv u ro a q k) (hB u ro a k) else tbv u ro a q k)
    by_cases c : q = i
    · subst c
      rw [av_u2_self, if_pos ⟨by rw [eh]; exact hh, by rw [ed, hi]⟩, ev, eh]
    · rw [av_u2_oth c, if_neg (fun z => by have := z.2; omega)]
      exact y.1
  · show ET3 a3 q = (if hB u ro a k ≠ -1 ∧ u (21 * k + 3) = (q : Int) ∧ fre u ro q ≤ hB u ro a k then ea (ebv u ro a q k) (a 2 q) (hB u ro a k) 1 (k : Int) else ebv u ro a q k)
    by_cases c : q = i
    · subst c
      rw [if_pos ⟨by rw [eh]; exact hh, by rw [ed, hi], by rw [ef, eh]; exact hf⟩, X.1, e3, y.2.1, eh, av_u2_ne (a := 2) (by decide), x.2 2 (by omega)]
    · rw [if_neg (fun z => by have := z.2.1; omega), X.2.1 q c, e3]
      exact y.2.1
  · rw [av_u2_ne (by decide)]; exact y.2.2.1
  · rw [av_u2_ne (by decide)]; exact y.2.2.2
end
/-! answered -/
def HAI (u ro : Nat → Int) (a : Nat → Nat → Int) (s k : Nat) (a' : Nat → Nat → Int) : Prop := (∀ q, q < s → a' 9 q = tbv u ro a q s ∧ ET3 a' q = eav u ro a s q k ∧ a' 5 q = o5 ro a q ∧ a' 10 q = awv u a q k) ∧ ∀ j, j < 5 → a' j = a j
section
variable {u ro : Nat → Int} {a a' a3 : Nat → Nat → Int} {s k i : Nat} {v h d : Int}
theorem HAI_0 (x : TBI u ro a s s a') : HAI u ro a s 0 a' := ⟨fun q hq => by have y := x.1 q hq; exact ⟨y.1, y.2.1, y.2.2.1, y.2.2.2⟩, x.2⟩
theorem HAI_n (x : HAI u ro a s k a') (e : ans u k = 0) : HAI u ro a s (k + 1) a' := by
  refine ⟨fun q hq => ?_, x.2⟩
  have y := x.1 q hq
  refine ⟨y.1, ?_, y.2.2.1, ?_⟩
  · rw [y.2.1]
    exact (if_neg (fun z => by have := z.1; omega)).symm
  · rw [y.2.2.2]
    exact (if_neg (fun z => by have := z.1; omega)).symm
theorem HAI_a (x : HAI u ro a s k a') (e : ans u k = 1) (ed : u (21 * k + 3) = d) (hi : (i : Int) = d) (is : i < s) (ev : v = mn2 (awv u a i k) (hw a k 0)) (hf : ¬ (u (21 * k + 0) = 4 ∨ a 2 k ≠ 0)) : HAI u ro a s (k + 1) (av_u2 a' 10 i v) := by
  refine ⟨fun q hq => ?_, fun j hj => by rw [av_u2_ne (by omega)]; exact x.2 j hj⟩
  have y := x.1 q hq
  have e3 : ET3 (av_u2 a' 10 i v) q = ET3 a' q := by
    unfold ET3
    rw [av_u2_ne (a := 6) (by decide), av_u2_ne (a := 7) (by decide), av_u2_ne (a := 8) (by decide)]
  refine ⟨?_, ?_, ?_, ?_⟩
  · rw [av_u2_ne (by decide)]; exact y.1
  · rw [e3, y.2.1]
    exact (if_neg (fun z => hf z.2.2)).symm
  · rw [av_u2_ne (by decide)]; exact y.2.2.1
  · show av_u2 a' 10 i v 10 q = (if ans u k = 1 ∧ u (21 * k + 3) = (q : Int) then mn2 (awv u a q k) (hw a k 0) else awv u a q k)
    by_cases c : q = i
    · subst c
      rw [av_u2_self, if_pos ⟨e, by rw [ed, hi]⟩, ev]
    · rw [av_u2_oth c, if_neg (fun z => by have := z.2; omega)]
      exact y.2.2.2
theorem HAI_b (x : HAI u ro a s k a') (e : ans u k = 1) (ed : u (21 * k + 3) = d) (hi : (i : Int) = d) (is : i < s) (ev : v = mn2 (awv u a i k) (hw a k 0)) (hf : u (21 * k + 0) = 4 ∨ a 2 k ≠ 0) (eh : hw a k (ro 5) = h) {b : Int} (hb : b = (k : Int)) (X : EAX i h 2 b (av_u2 a' 10 i v) a3) : HAI u ro a s (k + 1) a3 := by
  subst hb
  have e3 : ∀ q, ET3 (av_u2 a' 10 i v) q = ET3 a' q := fun q => by
    unfold ET3
    rw [av_u2_ne (a := 6) (by decide), av_u2_ne (a := 7) (by decide), av_u2_ne (a := 8) (by decide)]
  refine ⟨fun q hq => ?_, fun j hj => by rw [X.2.2 j (by omega) (by omega) (by omega), av_u2_ne (by omega)]; exact x.2 j hj⟩
  have y := x.1 q hq
  rw [X.2.2 9 (by decide) (by decide) (by decide), X.2.2 5 (by decide) (by decide) (by decide), X.2.2 10 (by decide) (by decide) (by decide)]
  refine ⟨?_, ?_, ?_, ?_⟩
  · rw [av_u2_ne (by decide)]; exact y.1
  · show ET3 a3 q = (if ans u k = 1 ∧ u (21 * k + 3) = (q : Int) ∧ (u (21 * k + 0) = 4 ∨ a 2 k ≠ 0) then ea (eav u ro a s q k) (a 2 q) (hw a k (ro 5)) 2 (k : Int) else eav u ro a s q k)
    by_cases c : q = i
    · subst c
      rw [if_pos ⟨e, by rw [ed, hi], hf⟩, X.1, e3, y.2.1, eh, av_u2_ne (a := 2) (by decide), x.2 2 (by omega)]
    · rw [if_neg (fun z => by have := z.2.1; omega), X.2.1 q c, e3]
      exact y.2.1
  · rw [av_u2_ne (by decide)]; exact y.2.2.1
  · show av_u2 a' 10 i v 10 q = (if ans u k = 1 ∧ u (21 * k + 3) = (q : Int) then mn2 (awv u a q k) (hw a k 0) else awv u a q k)
    by_cases c : q = i
    · subst c
      rw [av_u2_self, if_pos ⟨e, by rw [ed, hi]⟩, ev]
    · rw [av_u2_oth c, if_neg (fun z => by have := z.2; omega)]
      exact y.2.2.2
end
/-- a bench that has decided, but for the bargain -/
def DEC (u ro : Nat → Int) (a : Nat → Nat → Int) (s : Nat) (a' : Nat → Nat → Int) : Prop := HAI u ro a s s a'
def BZ (s : Nat) (a : Nat → Nat → Int) : Prop := ∀ q, q < s → (0 ≤ a 2 q ∧ a 2 q ≤ 1) ∧ (0 ≤ a 3 q ∧ a 3 q ≤ 1) ∧ (0 ≤ a 4 q ∧ a 4 q ≤ 1)
theorem TR_0 : TR ((9999, 0, -1) : T3) := by
  refine ⟨?_, ?_, ?_⟩
  · show (-1 : Int) ≤ 9999 ∧ (9999 : Int) ≤ 9999; omega
  · show (0 : Int) ≤ 0 ∧ (0 : Int) ≤ 4; omega
  · show (-1 : Int) ≤ -1 ∧ (-1 : Int) ≤ 12; omega
theorem ET3_9 {a : Nat → Nat → Int} {j i q : Nat} {v : Int} (h6 : 6 ≠ j) (h7 : 7 ≠ j) (h8 : 8 ≠ j) : ET3 (av_u2 a j i v) q = ET3 a q := by
  unfold ET3
  rw [av_u2_ne h6, av_u2_ne h7, av_u2_ne h8]
section
variable {u ro : Nat → Int} {a : Nat → Nat → Int} {s k : Nat} {t : T3}
theorem yv_n (e : yv u ro a s k = t) (h : ¬ yc u ro a s k t.2.2 = 1) : yv u ro a s (k + 1) = t := by
  show (if yc u ro a s k (yv u ro a s k).2.2 = 1 then ((k : Int), u (21 * k + 3), hw a k (yw u ro k)) else yv u ro a s k) = t
  rw [e, if_neg h]
theorem yv_y {d h : Int} (e : yv u ro a s k = t) (h1 : yc u ro a s k t.2.2 = 1) (ed : u (21 * k + 3) = d) (eh : hw a k (yw u ro k) = h) : yv u ro a s (k + 1) = ((k : Int), d, h) := by
  show (if yc u ro a s k (yv u ro a s k).2.2 = 1 then ((k : Int), u (21 * k + 3), hw a k (yw u ro k)) else yv u ro a s k) = _
  rw [e, if_pos h1, ed, eh]
theorem sv_n (e : sv u ro a s k = t) (h : ¬ slc u ro a s k t.2.2 = 1) : sv u ro a s (k + 1) = t := by
  show (if slc u ro a s k (sv u ro a s k).2.2 = 1 then (-1, (k : Int), hw a k 2 + ro 8) else sv u ro a s k) = t
  rw [e, if_neg h]
theorem sv_y {r h : Int} (e : sv u ro a s k = t) (h1 : slc u ro a s k t.2.2 = 1) (eh : hw a k 2 = r) (e8 : ro 8 = h) : sv u ro a s (k + 1) = (-1, (k : Int), r + h) := by
  show (if slc u ro a s k (sv u ro a s k).2.2 = 1 then (-1, (k : Int), hw a k 2 + ro 8) else sv u ro a s k) = _
  rw [e, if_pos h1, eh, e8]
/-- a bargain's parts -/
def MBR (t : T3) : Prop := (-1 ≤ t.1 ∧ t.1 ≤ 11) ∧ (-1 ≤ t.2.1 ∧ t.2.1 ≤ 11) ∧ (-1 ≤ t.2.2 ∧ t.2.2 ≤ 9999)
theorem yv_r (H : HBd s a) (hs : s ≤ 12) : ∀ k, k ≤ s → MBR (yv u ro a s k) := by
  intro k
  induction k with
  | zero =>
    intro _
    refine ⟨?_, ?_, ?_⟩
    · show (-1 : Int) ≤ -1 ∧ (-1 : Int) ≤ 11; omega
    · show (-1 : Int) ≤ -1 ∧ (-1 : Int) ≤ 11; omega
    · show (-1 : Int) ≤ 9999 ∧ (9999 : Int) ≤ 9999; omega
  | succ k ih =>
    intro hk
    show MBR (if yc u ro a s k (yv u ro a s k).2.2 = 1 then ((k : Int), u (21 * k + 3), hw a k (yw u ro k)) else yv u ro a s k)
    split
    · next z =>
      unfold yc at z
      split at z
      · next y =>
        have h := hw_r H (show k < s by omega) (yw u ro k)
        refine ⟨?_, ?_, ?_⟩
        · show (-1 : Int) ≤ (k : Int) ∧ (k : Int) ≤ 11; omega
        · show -1 ≤ u (21 * k + 3) ∧ u (21 * k + 3) ≤ 11; omega
        · show -1 ≤ hw a k (yw u ro k) ∧ hw a k (yw u ro k) ≤ 9999; omega
      · omega
    · exact ih (by omega)
theorem sv_r (H : HBd s a) (hr : ∀ j, -2 ≤ ro j ∧ ro j ≤ 999) (h8 : -1 ≤ ro 8) (hs : s ≤ 12) : ∀ k, k ≤ s → MBR (sv u ro a s k) := by
  intro k
  induction k with
  | zero => intro _; exact yv_r H hs s (Nat.le_refl s)
  | succ k ih =>
    intro hk
    show MBR (if slc u ro a s k (sv u ro a s k).2.2 = 1 then (-1, (k : Int), hw a k 2 + ro 8) else sv u ro a s k)
    split
    · next z =>
      unfold slc at z
      split at z
      · next y =>
        have h := hw_r H (show k < s by omega) 2
        have r8 := hr 8
        refine ⟨?_, ?_, ?_⟩
        · show (-1 : Int) ≤ -1 ∧ (-1 : Int) ≤ 11; omega
        · show (-1 : Int) ≤ (k : Int) ∧ (k : Int) ≤ 11; omega
        · show -1 ≤ hw a k 2 + ro 8 ∧ hw a k 2 + ro 8 ≤ 9999; omega
      · omega
    · exact ih (by omega)
end
theorem fre_r {b t c s r : Nat} {cb : Int} {u ro : Nat → Int} {a : Nat → Nat → Int} {x y z : Int} {h : av_H} (e : EB b t c s r cb u ro a x y z h) (q : Nat) : 0 ≤ fre u ro q ∧ fre u ro q ≤ 100001 := by
  have := eb_uv e (21 * q + 5)
  unfold fre
  split <;> omega
theorem yw_r {b t c s r : Nat} {cb : Int} {u ro : Nat → Int} {a : Nat → Nat → Int} {x y z : Int} {h : av_H} (e : EB b t c s r cb u ro a x y z h) (q : Nat) : -2 ≤ yw u ro q ∧ yw u ro q ≤ 999 := by
  have h2 := eb_rv e 2
  have h3 := eb_rv e (u (21 * q + 4)).toNat
  unfold yw
  split
  · omega
  · split <;> omega
theorem opn_r (f e h : Int) : 0 ≤ opn f e h ∧ opn f e h ≤ 1 := by
  unfold opn
  split <;> omega
theorem MBR_0 : MBR ((-1, -1, 9999) : T3) := by
  refine ⟨?_, ?_, ?_⟩
  · show (-1 : Int) ≤ -1 ∧ (-1 : Int) ≤ 11; omega
  · show (-1 : Int) ≤ -1 ∧ (-1 : Int) ≤ 11; omega
  · show (-1 : Int) ≤ 9999 ∧ (9999 : Int) ≤ 9999; omega
theorem HBd_x {u : Nat → Int} {s : Nat} {x : Int} {a : Nat → Nat → Int} (X : HX u s x a) (hb : ∀ k, k < s → ∀ i, i < 3 → -1 ≤ hrv u x k i ∧ hrv u x k i ≤ 5000) : HBd s a := fun k hk i hi => by
  rw [X k hk i hi]
  exact hb k hk i hi
theorem BZ_j {s : Nat} {a a1 : Nat → Nat → Int} (B : BZ s a) (J : ∀ j, 2 ≤ j → a1 j = a j) : BZ s a1 := fun q hq => by
  rw [J 2 (by omega), J 3 (by omega), J 4 (by omega)]
  exact B q hq
theorem HZ_c {u : Nat → Int} {a a' : Nat → Nat → Int} (Z : HZ u a) (J : ∀ j, j < 5 → a' j = a j) : HZ u a' := fun q hq => by
  unfold HO
  rw [J 0 (by omega), J 1 (by omega)]
  exact Z q hq
end
section
/-! A BENCH DECIDES, exactly -/
set_option maxRecDepth 100000 in
set_option maxHeartbeats 4000000 in
theorem cx_8 {g h : av_H} {b t c s r : Nat} {cb : Int} {u ro : Nat → Int} {a : Nat → Nat → Int} {mb mo ma : Int} (E : EB b t c s r cb u ro a mb mo ma h) (F : FN b g h) (k : Int) (qk : 0 ≤ k ∧ k ≤ 11) (h0 : Int) (qh : -1 ≤ h0 ∧ h0 ≤ 9999) (w : Int) (qw : 0 ≤ w ∧ w ≤ 4) (y : Int) (tr : TR (ET3 a (Int.toNat k))) (r2 : 0 ≤ a 2 (Int.toNat k) ∧ a 2 (Int.toNat k) ≤ 1) {Q : Option av_V → av_H → Prop} (hq : ∀ h' a', EB b t c s r cb u ro a' mb mo ma h' → FN b g h' → EAX (Int.toNat k) h0 w y a a' → Q none h') : av_wp none cd_8 0 [some (.inr (.inr (.inl (some (b))))), some (.inl k), some (.inl h0), some (.inl w), some (.inl y)] [] h Q := by
  have s12 := co_s12 (ib_co E.1)
  have cbr := co_cbr (ib_co E.1)
  have mbr := eb_xr E
  have mor := eb_yr E
  have r6 : -1 ≤ a 6 (Int.toNat k) ∧ a 6 (Int.toNat k) ≤ 9999 := tr.1
  have r7 : 0 ≤ a 7 (Int.toNat k) ∧ a 7 (Int.toNat k) ≤ 4 := tr.2.1
  refine av_wp_sqF ck_8 1 (pc' := 1) (lv' := [some (.inr (.inr (.inl (some (b))))), some (.inl k), some (.inl h0), some (.inl w), some (.inl y)]) (st' := [.inr (.inr (.inl (some (b))))]) (h' := h) rfl ?_
  refine wq_gr (p' := 4) (ck_8 _ _ rfl) rfl (congrArg Prod.fst (ib_k0 E.1)) rfl (ib_g E.1 2 rfl) ?_
  refine av_wp_sqF ck_8 1 (pc' := 5) (lv' := [some (.inr (.inr (.inl (some (b))))), some (.inl k), some (.inl h0), some (.inl w), some (.inl y)]) (st' := [.inl k, .inr (.inr (.inl (some (b + 1 + 2))))]) (h' := h) rfl ?_
  obtain ⟨v2, e3⟩ : ∃ v, a 2 (Int.toNat (k)) = v := ⟨_, rfl⟩
  have g4 := r2
  rw [e3] at g4
  refine wq_bl (p' := 6) (n := 12) (ck_8 _ _ rfl) rfl ((Or.inr (ib_k E.1 2 rfl))) (by omega) ((congrFun (eb_a E 2 rfl) _).trans e3) ?_
  refine wq_k1 (p' := 9) (ck_8 _ _ rfl) rfl ⟨by omega, by omega⟩ (fun c5 => ?_) (fun c6 => ?_)
  · have c5 : v2 = (0) := c5
    refine av_wp_ret (v := none) (ck_8 _ _ rfl) rfl rfl ?_
    exact hq h _ E F (EAX_n (if_neg (show ¬ (a 2 (Int.toNat k) ≠ 0 ∧ h0 ≠ -1 ∧ (h0 < a 6 (Int.toNat k) ∨ (h0 = a 6 (Int.toNat k) ∧ w < a 7 (Int.toNat k)))) by omega)))
  · have c6 : v2 ≠ (0) := c6
    refine av_wp_sqF ck_8 2 (pc' := 11) (lv' := [some (.inr (.inr (.inl (some (b))))), some (.inl k), some (.inl h0), some (.inl w), some (.inl y)]) (st' := [.inl (-1), .inl h0]) (h' := h) rfl ?_
    refine wq_k2 (p' := 14) (ck_8 _ _ rfl) rfl ⟨by omega, by omega⟩ ⟨by omega, by omega⟩ (fun c7 => ?_) (fun c8 => ?_)
    · have c7 : h0 = (-1) := c7
      refine av_wp_ret (v := none) (ck_8 _ _ rfl) rfl rfl ?_
      exact hq h _ E F (EAX_n (if_neg (show ¬ (a 2 (Int.toNat k) ≠ 0 ∧ h0 ≠ -1 ∧ (h0 < a 6 (Int.toNat k) ∨ (h0 = a 6 (Int.toNat k) ∧ w < a 7 (Int.toNat k)))) by omega)))
    · have c8 : h0 ≠ (-1) := c8
      refine av_wp_sqF ck_8 2 (pc' := 16) (lv' := [some (.inr (.inr (.inl (some (b))))), some (.inl k), some (.inl h0), some (.inl w), some (.inl y)]) (st' := [.inr (.inr (.inl (some (b)))), .inl h0]) (h' := h) rfl ?_
      refine wq_gr (p' := 19) (ck_8 _ _ rfl) rfl (congrArg Prod.fst (ib_k0 E.1)) rfl (ib_g E.1 6 rfl) ?_
      refine av_wp_sqF ck_8 1 (pc' := 20) (lv' := [some (.inr (.inr (.inl (some (b))))), some (.inl k), some (.inl h0), some (.inl w), some (.inl y)]) (st' := [.inl k, .inr (.inr (.inl (some (b + 1 + 6)))), .inl h0]) (h' := h) rfl ?_
      obtain ⟨v10, e11⟩ : ∃ v, a 6 (Int.toNat (k)) = v := ⟨_, rfl⟩
      have g12 := r6
      rw [e11] at g12
      refine wq_al (p' := 21) (n := 12) (ck_8 _ _ rfl) rfl (ib_k E.1 6 rfl) (by omega) ((congrFun (eb_a E 6 rfl) _).trans e11) ?_
      refine wq_k2 (p' := 24) (ck_8 _ _ rfl) rfl ⟨by omega, by omega⟩ ⟨by omega, by omega⟩ (fun c13 => ?_) (fun c14 => ?_)
      · have c13 : h0 < v10 := c13
        refine av_wp_sqF ck_8 1 (pc' := 45) (lv' := [some (.inr (.inr (.inl (some (b))))), some (.inl k), some (.inl h0), some (.inl w), some (.inl y)]) (st' := [.inr (.inr (.inl (some (b))))]) (h' := h) rfl ?_
        refine wq_gr (p' := 48) (ck_8 _ _ rfl) rfl (congrArg Prod.fst (ib_k0 E.1)) rfl (ib_g E.1 6 rfl) ?_
        refine av_wp_sqF ck_8 2 (pc' := 50) (lv' := [some (.inr (.inr (.inl (some (b))))), some (.inl k), some (.inl h0), some (.inl w), some (.inl y)]) (st' := [.inl h0, .inl k, .inr (.inr (.inl (some (b + 1 + 6))))]) (h' := h) rfl ?_
        refine xb_as (p' := 51) (n := 12) rfl rfl E F 6 rfl rfl (by omega) (fun h15 E16 F17 => ?_)
        refine av_wp_sqF ck_8 1 (pc' := 52) (lv' := [some (.inr (.inr (.inl (some (b))))), some (.inl k), some (.inl h0), some (.inl w), some (.inl y)]) (st' := [.inr (.inr (.inl (some (b))))]) (h' := h15) rfl ?_
        refine wq_gr (p' := 55) (ck_8 _ _ rfl) rfl (congrArg Prod.fst (ib_k0 E16.1)) rfl (ib_g E16.1 7 rfl) ?_
        refine av_wp_sqF ck_8 2 (pc' := 57) (lv' := [some (.inr (.inr (.inl (some (b))))), some (.inl k), some (.inl h0), some (.inl w), some (.inl y)]) (st' := [.inl w, .inl k, .inr (.inr (.inl (some (b + 1 + 7))))]) (h' := h15) rfl ?_
        refine xb_as (p' := 58) (n := 12) rfl rfl E16 F17 7 rfl rfl (by omega) (fun h18 E19 F20 => ?_)
        refine av_wp_sqF ck_8 1 (pc' := 59) (lv' := [some (.inr (.inr (.inl (some (b))))), some (.inl k), some (.inl h0), some (.inl w), some (.inl y)]) (st' := [.inr (.inr (.inl (some (b))))]) (h' := h18) rfl ?_
        refine wq_gr (p' := 62) (ck_8 _ _ rfl) rfl (congrArg Prod.fst (ib_k0 E19.1)) rfl (ib_g E19.1 8 rfl) ?_
        refine av_wp_sqF ck_8 2 (pc' := 65) (lv' := [some (.inr (.inr (.inl (some (b))))), some (.inl k), some (.inl h0), some (.inl w), some (.inl y)]) (st' := [.inl y, .inl k, .inr (.inr (.inl (some (b + 1 + 8))))]) (h' := h18) rfl ?_
        refine xb_as (p' := 66) (n := 12) rfl rfl E19 F20 8 rfl rfl (by omega) (fun h21 E22 F23 => ?_)
        refine av_wp_ret (v := none) (ck_8 _ _ rfl) rfl rfl ?_
        exact hq h21 _ E22 F23 (EAX_y (if_pos (show a 2 (Int.toNat k) ≠ 0 ∧ h0 ≠ -1 ∧ (h0 < a 6 (Int.toNat k) ∨ (h0 = a 6 (Int.toNat k) ∧ w < a 7 (Int.toNat k))) by omega)) rfl rfl rfl)
      · have c14 : v10 ≤ h0 := c14
        refine av_wp_sqF ck_8 2 (pc' := 26) (lv' := [some (.inr (.inr (.inl (some (b))))), some (.inl k), some (.inl h0), some (.inl w), some (.inl y)]) (st' := [.inr (.inr (.inl (some (b)))), .inl h0]) (h' := h) rfl ?_
        refine wq_gr (p' := 29) (ck_8 _ _ rfl) rfl (congrArg Prod.fst (ib_k0 E.1)) rfl (ib_g E.1 6 rfl) ?_
        refine av_wp_sqF ck_8 1 (pc' := 30) (lv' := [some (.inr (.inr (.inl (some (b))))), some (.inl k), some (.inl h0), some (.inl w), some (.inl y)]) (st' := [.inl k, .inr (.inr (.inl (some (b + 1 + 6)))), .inl h0]) (h' := h) rfl ?_
        obtain ⟨v25, e26⟩ : ∃ v, a 6 (Int.toNat (k)) = v := ⟨_, rfl⟩
        have g27 := r6
        rw [e26] at g27
        refine wq_al (p' := 31) (n := 12) (ck_8 _ _ rfl) rfl (ib_k E.1 6 rfl) (by omega) ((congrFun (eb_a E 6 rfl) _).trans e26) ?_
        refine wq_k2 (p' := 34) (ck_8 _ _ rfl) rfl ⟨by omega, by omega⟩ ⟨by omega, by omega⟩ (fun c28 => ?_) (fun c29 => ?_)
        · have c28 : h0 ≠ v25 := c28
          refine av_wp_ret (v := none) (ck_8 _ _ rfl) rfl rfl ?_
          exact hq h _ E F (EAX_n (if_neg (show ¬ (a 2 (Int.toNat k) ≠ 0 ∧ h0 ≠ -1 ∧ (h0 < a 6 (Int.toNat k) ∨ (h0 = a 6 (Int.toNat k) ∧ w < a 7 (Int.toNat k)))) by omega)))
        · have c29 : h0 = v25 := c29
          refine av_wp_sqF ck_8 2 (pc' := 36) (lv' := [some (.inr (.inr (.inl (some (b))))), some (.inl k), some (.inl h0), some (.inl w), some (.inl y)]) (st' := [.inr (.inr (.inl (some (b)))), .inl w]) (h' := h) rfl ?_
          refine wq_gr (p' := 39) (ck_8 _ _ rfl) rfl (congrArg Prod.fst (ib_k0 E.1)) rfl (ib_g E.1 7 rfl) ?_
          refine av_wp_sqF ck_8 1 (pc' := 40) (lv' := [some (.inr (.inr (.inl (some (b))))), some (.inl k), some (.inl h0), some (.inl w), some (.inl y)]) (st' := [.inl k, .inr (.inr (.inl (some (b + 1 + 7)))), .inl w]) (h' := h) rfl ?_
          obtain ⟨v31, e32⟩ : ∃ v, a 7 (Int.toNat (k)) = v := ⟨_, rfl⟩
          have g33 := r7
          rw [e32] at g33
          refine wq_al (p' := 41) (n := 12) (ck_8 _ _ rfl) rfl (ib_k E.1 7 rfl) (by omega) ((congrFun (eb_a E 7 rfl) _).trans e32) ?_
          refine wq_k2 (p' := 44) (ck_8 _ _ rfl) rfl ⟨by omega, by omega⟩ ⟨by omega, by omega⟩ (fun c34 => ?_) (fun c35 => ?_)
          · have c34 : v31 ≤ w := c34
            refine av_wp_ret (v := none) (ck_8 _ _ rfl) rfl rfl ?_
            exact hq h _ E F (EAX_n (if_neg (show ¬ (a 2 (Int.toNat k) ≠ 0 ∧ h0 ≠ -1 ∧ (h0 < a 6 (Int.toNat k) ∨ (h0 = a 6 (Int.toNat k) ∧ w < a 7 (Int.toNat k)))) by omega)))
          · have c35 : w < v31 := c35
            refine av_wp_sqF ck_8 1 (pc' := 45) (lv' := [some (.inr (.inr (.inl (some (b))))), some (.inl k), some (.inl h0), some (.inl w), some (.inl y)]) (st' := [.inr (.inr (.inl (some (b))))]) (h' := h) rfl ?_
            refine wq_gr (p' := 48) (ck_8 _ _ rfl) rfl (congrArg Prod.fst (ib_k0 E.1)) rfl (ib_g E.1 6 rfl) ?_
            refine av_wp_sqF ck_8 2 (pc' := 50) (lv' := [some (.inr (.inr (.inl (some (b))))), some (.inl k), some (.inl h0), some (.inl w), some (.inl y)]) (st' := [.inl h0, .inl k, .inr (.inr (.inl (some (b + 1 + 6))))]) (h' := h) rfl ?_
            refine xb_as (p' := 51) (n := 12) rfl rfl E F 6 rfl rfl (by omega) (fun h36 E37 F38 => ?_)
            refine av_wp_sqF ck_8 1 (pc' := 52) (lv' := [some (.inr (.inr (.inl (some (b))))), some (.inl k), some (.inl h0), some (.inl w), some (.inl y)]) (st' := [.inr (.inr (.inl (some (b))))]) (h' := h36) rfl ?_
            refine wq_gr (p' := 55) (ck_8 _ _ rfl) rfl (congrArg Prod.fst (ib_k0 E37.1)) rfl (ib_g E37.1 7 rfl) ?_
            refine av_wp_sqF ck_8 2 (pc' := 57) (lv' := [some (.inr (.inr (.inl (some (b))))), some (.inl k), some (.inl h0), some (.inl w), some (.inl y)]) (st' := [.inl w, .inl k, .inr (.inr (.inl (some (b + 1 + 7))))]) (h' := h36) rfl ?_
            refine xb_as (p' := 58) (n := 12) rfl rfl E37 F38 7 rfl rfl (by omega) (fun h39 E40 F41 => ?_)
            refine av_wp_sqF ck_8 1 (pc' := 59) (lv' := [some (.inr (.inr (.inl (some (b))))), some (.inl k), some (.inl h0), some (.inl w), some (.inl y)]) (st' := [.inr (.inr (.inl (some (b))))]) (h' := h39) rfl ?_
            refine wq_gr (p' := 62) (ck_8 _ _ rfl) rfl (congrArg Prod.fst (ib_k0 E40.1)) rfl (ib_g E40.1 8 rfl) ?_
            refine av_wp_sqF ck_8 2 (pc' := 65) (lv' := [some (.inr (.inr (.inl (some (b))))), some (.inl k), some (.inl h0), some (.inl w), some (.inl y)]) (st' := [.inl y, .inl k, .inr (.inr (.inl (some (b + 1 + 8))))]) (h' := h39) rfl ?_
            refine xb_as (p' := 66) (n := 12) rfl rfl E40 F41 8 rfl rfl (by omega) (fun h42 E43 F44 => ?_)
            refine av_wp_ret (v := none) (ck_8 _ _ rfl) rfl rfl ?_
            exact hq h42 _ E43 F44 (EAX_y (if_pos (show a 2 (Int.toNat k) ≠ 0 ∧ h0 ≠ -1 ∧ (h0 < a 6 (Int.toNat k) ∨ (h0 = a 6 (Int.toNat k) ∧ w < a 7 (Int.toNat k))) by omega)) rfl rfl rfl)

set_option maxRecDepth 100000 in
set_option maxHeartbeats 4000000 in
theorem cx_10 {g h : av_H} {b t c s r : Nat} {cb : Int} {u ro : Nat → Int} {a : Nat → Nat → Int} {mb mo ma : Int} (E : EB b t c s r cb u ro a mb mo ma h) (F : FN b g h) (k : Int) (qk : 0 ≤ k ∧ k < (s : Int)) {Q : Option av_V → av_H → Prop} (hq : Q (some (.inl (fre u ro (Int.toNat k)))) h) : av_wp none cd_10 0 [some (.inr (.inr (.inl (some (b))))), some (.inl k), none] [] h Q := by
  have s12 := co_s12 (ib_co E.1)
  have cbr := co_cbr (ib_co E.1)
  have mbr := eb_xr E
  have mor := eb_yr E
  refine av_wp_sqF ck_10 1 (pc' := 1) (lv' := [some (.inr (.inr (.inl (some (b))))), some (.inl k), none]) (st' := [.inr (.inr (.inl (some (b))))]) (h' := h) rfl ?_
  refine wq_gr (p' := 4) (ck_10 _ _ rfl) rfl (congrArg Prod.fst (ib_k0 E.1)) rfl (ib_t E.1) ?_
  refine wq_gr (p' := 7) (ck_10 _ _ rfl) rfl (congrArg Prod.fst (co_kt (ib_co E.1))) rfl (co_c (ib_co E.1)) ?_
  refine av_wp_sqF ck_10 5 (pc' := 13) (lv' := [some (.inr (.inr (.inl (some (b))))), some (.inl k), none]) (st' := [.inl ((k * (21)) + (5)), .inr (.inr (.inl (some (c))))]) (h' := h) rfl ?_
  obtain ⟨v2, e3⟩ : ∃ v, u (Int.toNat (((k * (21)) + (5)))) = v := ⟨_, rfl⟩
  have g1 := eb_uv E (Int.toNat (((k * (21)) + (5))))
  rw [e3] at g1
  have y4 : u (21 * Int.toNat k + 5) = v2 := (congrArg u (by omega)).trans e3
  refine wq_al (p' := 14) (n := 21 * s) (ck_10 _ _ rfl) rfl (co_kc (ib_co E.1)) (by omega) ((congrFun (eb_u E) _).trans e3) ?_
  refine av_wp_sqF ck_10 3 (pc' := 17) (lv' := [some (.inr (.inr (.inl (some (b))))), some (.inl k), some (.inl v2)]) (st' := [.inl (-1), .inl v2]) (h' := h) rfl ?_
  refine wq_k2 (p' := 20) (ck_10 _ _ rfl) rfl ⟨by omega, by omega⟩ ⟨by omega, by omega⟩ (fun c5 => ?_) (fun c6 => ?_)
  · have c5 : v2 = (-1) := c5
    refine av_wp_sqF ck_10 1 (pc' := 38) (lv' := [some (.inr (.inr (.inl (some (b))))), some (.inl k), some (.inl v2)]) (st' := [.inl (0)]) (h' := h) rfl ?_
    refine av_wp_ret (v := some (.inl (0))) (ck_10 _ _ rfl) rfl rfl ?_
    have z : fre u ro (Int.toNat k) = (0) := by
      unfold fre
      split <;> omega
    rw [← z]
    exact hq
  · have c6 : v2 ≠ (-1) := c6
    refine av_wp_sqF ck_10 1 (pc' := 21) (lv' := [some (.inr (.inr (.inl (some (b))))), some (.inl k), some (.inl v2)]) (st' := [.inr (.inr (.inl (some (b))))]) (h' := h) rfl ?_
    refine wq_gr (p' := 24) (ck_10 _ _ rfl) rfl (congrArg Prod.fst (ib_k0 E.1)) rfl (ib_r E.1) ?_
    refine av_wp_sqF ck_10 1 (pc' := 26) (lv' := [some (.inr (.inr (.inl (some (b))))), some (.inl k), some (.inl v2)]) (st' := [.inl (6), .inr (.inr (.inl (some (r))))]) (h' := h) rfl ?_
    obtain ⟨v8, e9⟩ : ∃ v, ro 6 = v := ⟨_, rfl⟩
    have g7 := eb_rv E 6
    rw [e9] at g7
    refine wq_al (p' := 27) (n := 14) (ck_10 _ _ rfl) rfl (ib_kr E.1) (by omega) ((congrFun (eb_ro E) _).trans e9) ?_
    refine av_wp_sqF ck_10 1 (pc' := 28) (lv' := [some (.inr (.inr (.inl (some (b))))), some (.inl k), some (.inl v2)]) (st' := [.inl (1), .inl v8]) (h' := h) rfl ?_
    refine wq_k2 (p' := 31) (ck_10 _ _ rfl) rfl ⟨by omega, by omega⟩ ⟨by omega, by omega⟩ (fun c10 => ?_) (fun c11 => ?_)
    · have c10 : v8 ≠ (1) := c10
      refine av_wp_sqF ck_10 1 (pc' := 38) (lv' := [some (.inr (.inr (.inl (some (b))))), some (.inl k), some (.inl v2)]) (st' := [.inl (0)]) (h' := h) rfl ?_
      refine av_wp_ret (v := some (.inl (0))) (ck_10 _ _ rfl) rfl rfl ?_
      have z : fre u ro (Int.toNat k) = (0) := by
        unfold fre
        split <;> omega
      rw [← z]
      exact hq
    · have c11 : v8 = (1) := c11
      refine av_wp_sqF ck_10 4 (pc' := 38) (lv' := [some (.inr (.inr (.inl (some (b))))), some (.inl k), some (.inl v2)]) (st' := [.inl (v2 + (1))]) (h' := h) rfl ?_
      refine av_wp_ret (v := some (.inl (v2 + (1)))) (ck_10 _ _ rfl) rfl rfl ?_
      have z : fre u ro (Int.toNat k) = (v2 + (1)) := by
        unfold fre
        split <;> omega
      rw [← z]
      exact hq

set_option maxRecDepth 100000 in
set_option maxHeartbeats 4000000 in
theorem cx_13 {g h : av_H} {b t c s r : Nat} {cb : Int} {u ro : Nat → Int} {a : Nat → Nat → Int} {mb mo ma : Int} (E : EB b t c s r cb u ro a mb mo ma h) (F : FN b g h) (k : Int) (qk : 0 ≤ k ∧ k < (s : Int)) {Q : Option av_V → av_H → Prop} (hq : Q (some (.inl (yw u ro (Int.toNat k)))) h) : av_wp none cd_13 0 [some (.inr (.inr (.inl (some (b))))), some (.inl k), none] [] h Q := by
  have s12 := co_s12 (ib_co E.1)
  have cbr := co_cbr (ib_co E.1)
  have mbr := eb_xr E
  have mor := eb_yr E
  refine av_wp_sqF ck_13 1 (pc' := 1) (lv' := [some (.inr (.inr (.inl (some (b))))), some (.inl k), none]) (st' := [.inr (.inr (.inl (some (b))))]) (h' := h) rfl ?_
  refine wq_gr (p' := 4) (ck_13 _ _ rfl) rfl (congrArg Prod.fst (ib_k0 E.1)) rfl (ib_t E.1) ?_
  refine wq_gr (p' := 7) (ck_13 _ _ rfl) rfl (congrArg Prod.fst (co_kt (ib_co E.1))) rfl (co_c (ib_co E.1)) ?_
  refine av_wp_sqF ck_13 5 (pc' := 13) (lv' := [some (.inr (.inr (.inl (some (b))))), some (.inl k), none]) (st' := [.inl ((k * (21)) + (0)), .inr (.inr (.inl (some (c))))]) (h' := h) rfl ?_
  obtain ⟨v2, e3⟩ : ∃ v, u (Int.toNat (((k * (21)) + (0)))) = v := ⟨_, rfl⟩
  have g1 := eb_uv E (Int.toNat (((k * (21)) + (0))))
  rw [e3] at g1
  have y4 : u (21 * Int.toNat k + 0) = v2 := (congrArg u (by omega)).trans e3
  refine wq_al (p' := 14) (n := 21 * s) (ck_13 _ _ rfl) rfl (co_kc (ib_co E.1)) (by omega) ((congrFun (eb_u E) _).trans e3) ?_
  refine av_wp_sqF ck_13 1 (pc' := 16) (lv' := [some (.inr (.inr (.inl (some (b))))), some (.inl k), none]) (st' := [.inl (6), .inl v2]) (h' := h) rfl ?_
  refine wq_k2 (p' := 19) (ck_13 _ _ rfl) rfl ⟨by omega, by omega⟩ ⟨by omega, by omega⟩ (fun c5 => ?_) (fun c6 => ?_)
  · have c5 : v2 ≠ (6) := c5
    refine av_wp_sqF ck_13 1 (pc' := 22) (lv' := [some (.inr (.inr (.inl (some (b))))), some (.inl k), none]) (st' := [.inr (.inr (.inl (some (b))))]) (h' := h) rfl ?_
    refine wq_gr (p' := 25) (ck_13 _ _ rfl) rfl (congrArg Prod.fst (ib_k0 E.1)) rfl (ib_t E.1) ?_
    refine wq_gr (p' := 28) (ck_13 _ _ rfl) rfl (congrArg Prod.fst (co_kt (ib_co E.1))) rfl (co_c (ib_co E.1)) ?_
    refine av_wp_sqF ck_13 5 (pc' := 34) (lv' := [some (.inr (.inr (.inl (some (b))))), some (.inl k), none]) (st' := [.inl ((k * (21)) + (4)), .inr (.inr (.inl (some (c))))]) (h' := h) rfl ?_
    obtain ⟨v8, e9⟩ : ∃ v, u (Int.toNat (((k * (21)) + (4)))) = v := ⟨_, rfl⟩
    have g7 := eb_uv E (Int.toNat (((k * (21)) + (4))))
    rw [e9] at g7
    have y10 : u (21 * Int.toNat k + 4) = v8 := (congrArg u (by omega)).trans e9
    refine wq_al (p' := 35) (n := 21 * s) (ck_13 _ _ rfl) rfl (co_kc (ib_co E.1)) (by omega) ((congrFun (eb_u E) _).trans e9) ?_
    refine av_wp_sqF ck_13 2 (pc' := 37) (lv' := [some (.inr (.inr (.inl (some (b))))), some (.inl k), some (.inl v8)]) (st' := [.inl v8]) (h' := h) rfl ?_
    refine wq_k1 (p' := 40) (ck_13 _ _ rfl) rfl ⟨by omega, by omega⟩ (fun c11 => ?_) (fun c12 => ?_)
    · have c11 : v8 < (0) := c11
      refine av_wp_sqF ck_13 1 (pc' := 46) (lv' := [some (.inr (.inr (.inl (some (b))))), some (.inl k), some (.inl v8)]) (st' := [.inr (.inr (.inl (some (b))))]) (h' := h) rfl ?_
      refine wq_gr (p' := 49) (ck_13 _ _ rfl) rfl (congrArg Prod.fst (ib_k0 E.1)) rfl (ib_r E.1) ?_
      refine av_wp_sqF ck_13 1 (pc' := 50) (lv' := [some (.inr (.inr (.inl (some (b))))), some (.inl k), some (.inl v8)]) (st' := [.inl (2), .inr (.inr (.inl (some (r))))]) (h' := h) rfl ?_
      obtain ⟨v14, e15⟩ : ∃ v, ro 2 = v := ⟨_, rfl⟩
      have g13 := eb_rv E 2
      rw [e15] at g13
      refine wq_al (p' := 51) (n := 14) (ck_13 _ _ rfl) rfl (ib_kr E.1) (by omega) ((congrFun (eb_ro E) _).trans e15) ?_
      refine av_wp_sqF ck_13 1 (pc' := 60) (lv' := [some (.inr (.inr (.inl (some (b))))), some (.inl k), some (.inl v8)]) (st' := [.inl v14]) (h' := h) rfl ?_
      refine av_wp_ret (v := some (.inl v14)) (ck_13 _ _ rfl) rfl rfl ?_
      have z : yw u ro (Int.toNat k) = v14 := by
        unfold yw
        have y4 := y10
        rw [if_neg (by omega), if_pos (by omega)]; exact e15
      rw [← z]
      exact hq
    · have c12 : (0) ≤ v8 := c12
      refine av_wp_sqF ck_13 2 (pc' := 42) (lv' := [some (.inr (.inr (.inl (some (b))))), some (.inl k), some (.inl v8)]) (st' := [.inl (2), .inl v8]) (h' := h) rfl ?_
      refine wq_k2 (p' := 45) (ck_13 _ _ rfl) rfl ⟨by omega, by omega⟩ ⟨by omega, by omega⟩ (fun c16 => ?_) (fun c17 => ?_)
      · have c16 : v8 ≤ (2) := c16
        refine av_wp_sqF ck_13 1 (pc' := 55) (lv' := [some (.inr (.inr (.inl (some (b))))), some (.inl k), some (.inl v8)]) (st' := [.inr (.inr (.inl (some (b))))]) (h' := h) rfl ?_
        refine wq_gr (p' := 58) (ck_13 _ _ rfl) rfl (congrArg Prod.fst (ib_k0 E.1)) rfl (ib_r E.1) ?_
        refine av_wp_sqF ck_13 1 (pc' := 59) (lv' := [some (.inr (.inr (.inl (some (b))))), some (.inl k), some (.inl v8)]) (st' := [.inl v8, .inr (.inr (.inl (some (r))))]) (h' := h) rfl ?_
        obtain ⟨v19, e20⟩ : ∃ v, ro (Int.toNat (v8)) = v := ⟨_, rfl⟩
        have g18 := eb_rv E (Int.toNat (v8))
        rw [e20] at g18
        refine wq_al (p' := 60) (n := 14) (ck_13 _ _ rfl) rfl (ib_kr E.1) (by omega) ((congrFun (eb_ro E) _).trans e20) ?_
        refine av_wp_ret (v := some (.inl v19)) (ck_13 _ _ rfl) rfl rfl ?_
        have z : yw u ro (Int.toNat k) = v19 := by
          unfold yw
          have y4 := y10
          rw [if_neg (by omega), if_neg (by omega), y4]; exact e20
        rw [← z]
        exact hq
      · have c17 : (2) < v8 := c17
        refine av_wp_sqF ck_13 1 (pc' := 46) (lv' := [some (.inr (.inr (.inl (some (b))))), some (.inl k), some (.inl v8)]) (st' := [.inr (.inr (.inl (some (b))))]) (h' := h) rfl ?_
        refine wq_gr (p' := 49) (ck_13 _ _ rfl) rfl (congrArg Prod.fst (ib_k0 E.1)) rfl (ib_r E.1) ?_
        refine av_wp_sqF ck_13 1 (pc' := 50) (lv' := [some (.inr (.inr (.inl (some (b))))), some (.inl k), some (.inl v8)]) (st' := [.inl (2), .inr (.inr (.inl (some (r))))]) (h' := h) rfl ?_
        obtain ⟨v22, e23⟩ : ∃ v, ro 2 = v := ⟨_, rfl⟩
        have g21 := eb_rv E 2
        rw [e23] at g21
        refine wq_al (p' := 51) (n := 14) (ck_13 _ _ rfl) rfl (ib_kr E.1) (by omega) ((congrFun (eb_ro E) _).trans e23) ?_
        refine av_wp_sqF ck_13 1 (pc' := 60) (lv' := [some (.inr (.inr (.inl (some (b))))), some (.inl k), some (.inl v8)]) (st' := [.inl v22]) (h' := h) rfl ?_
        refine av_wp_ret (v := some (.inl v22)) (ck_13 _ _ rfl) rfl rfl ?_
        have z : yw u ro (Int.toNat k) = v22 := by
          unfold yw
          have y4 := y10
          rw [if_neg (by omega), if_pos (by omega)]; exact e23
        rw [← z]
        exact hq
  · have c6 : v2 = (6) := c6
    refine av_wp_sqF ck_13 1 (pc' := 20) (lv' := [some (.inr (.inr (.inl (some (b))))), some (.inl k), none]) (st' := [.inl (0)]) (h' := h) rfl ?_
    refine av_wp_ret (v := some (.inl (0))) (ck_13 _ _ rfl) rfl rfl ?_
    have z : yw u ro (Int.toNat k) = (0) := by
      unfold yw
      rw [if_pos (by omega)]
    rw [← z]
    exact hq

set_option maxRecDepth 100000 in
set_option maxHeartbeats 4000000 in
theorem cx_16 {g h : av_H} {b t c s r : Nat} {cb : Int} {u ro : Nat → Int} {a : Nat → Nat → Int} {mb mo ma : Int} (E : EB b t c s r cb u ro a mb mo ma h) (F : FN b g h) (k : Int) (qk : 0 ≤ k ∧ k ≤ 11) (y : Int) (qy : -2147483648 ≤ y ∧ y ≤ 2147483647) (r5 : -1 ≤ a 5 (Int.toNat k) ∧ a 5 (Int.toNat k) ≤ 9999) (r6 : -1 ≤ a 6 (Int.toNat k) ∧ a 6 (Int.toNat k) ≤ 9999) {Q : Option av_V → av_H → Prop} (hq : ∀ v : Int, v = opn (a 5 (Int.toNat k)) (a 6 (Int.toNat k)) y → Q (some (.inl v)) h) : av_wp none cd_16 0 [some (.inr (.inr (.inl (some (b))))), some (.inl k), some (.inl y)] [] h Q := by
  have s12 := co_s12 (ib_co E.1)
  have cbr := co_cbr (ib_co E.1)
  have mbr := eb_xr E
  have mor := eb_yr E
  refine av_wp_sqF ck_16 2 (pc' := 2) (lv' := [some (.inr (.inr (.inl (some (b))))), some (.inl k), some (.inl y)]) (st' := [.inl (-1), .inl y]) (h' := h) rfl ?_
  refine wq_k2 (p' := 5) (ck_16 _ _ rfl) rfl ⟨by omega, by omega⟩ ⟨by omega, by omega⟩ (fun c1 => ?_) (fun c2 => ?_)
  · have c1 : y = (-1) := c1
    refine av_wp_sqF ck_16 1 (pc' := 40) (lv' := [some (.inr (.inr (.inl (some (b))))), some (.inl k), some (.inl y)]) (st' := [.inl (0)]) (h' := h) rfl ?_
    refine av_wp_ret (v := some (.inl (0))) (ck_16 _ _ rfl) rfl rfl ?_
    exact hq _ (by unfold opn; split <;> omega)
  · have c2 : y ≠ (-1) := c2
    refine av_wp_sqF ck_16 1 (pc' := 6) (lv' := [some (.inr (.inr (.inl (some (b))))), some (.inl k), some (.inl y)]) (st' := [.inr (.inr (.inl (some (b))))]) (h' := h) rfl ?_
    refine wq_gr (p' := 9) (ck_16 _ _ rfl) rfl (congrArg Prod.fst (ib_k0 E.1)) rfl (ib_g E.1 5 rfl) ?_
    refine av_wp_sqF ck_16 1 (pc' := 10) (lv' := [some (.inr (.inr (.inl (some (b))))), some (.inl k), some (.inl y)]) (st' := [.inl k, .inr (.inr (.inl (some (b + 1 + 5))))]) (h' := h) rfl ?_
    obtain ⟨v4, e5⟩ : ∃ v, a 5 (Int.toNat (k)) = v := ⟨_, rfl⟩
    have g6 := r5
    rw [e5] at g6
    refine wq_al (p' := 11) (n := 12) (ck_16 _ _ rfl) rfl (ib_k E.1 5 rfl) (by omega) ((congrFun (eb_a E 5 rfl) _).trans e5) ?_
    refine av_wp_sqF ck_16 1 (pc' := 12) (lv' := [some (.inr (.inr (.inl (some (b))))), some (.inl k), some (.inl y)]) (st' := [.inl (-1), .inl v4]) (h' := h) rfl ?_
    refine wq_k2 (p' := 15) (ck_16 _ _ rfl) rfl ⟨by omega, by omega⟩ ⟨by omega, by omega⟩ (fun c7 => ?_) (fun c8 => ?_)
    · have c7 : v4 = (-1) := c7
      refine av_wp_sqF ck_16 1 (pc' := 40) (lv' := [some (.inr (.inr (.inl (some (b))))), some (.inl k), some (.inl y)]) (st' := [.inl (0)]) (h' := h) rfl ?_
      refine av_wp_ret (v := some (.inl (0))) (ck_16 _ _ rfl) rfl rfl ?_
      exact hq _ (by unfold opn; split <;> omega)
    · have c8 : v4 ≠ (-1) := c8
      refine av_wp_sqF ck_16 2 (pc' := 17) (lv' := [some (.inr (.inr (.inl (some (b))))), some (.inl k), some (.inl y)]) (st' := [.inr (.inr (.inl (some (b)))), .inl y]) (h' := h) rfl ?_
      refine wq_gr (p' := 20) (ck_16 _ _ rfl) rfl (congrArg Prod.fst (ib_k0 E.1)) rfl (ib_g E.1 5 rfl) ?_
      refine av_wp_sqF ck_16 1 (pc' := 21) (lv' := [some (.inr (.inr (.inl (some (b))))), some (.inl k), some (.inl y)]) (st' := [.inl k, .inr (.inr (.inl (some (b + 1 + 5)))), .inl y]) (h' := h) rfl ?_
      obtain ⟨v10, e11⟩ : ∃ v, a 5 (Int.toNat (k)) = v := ⟨_, rfl⟩
      have g12 := r5
      rw [e11] at g12
      refine wq_al (p' := 22) (n := 12) (ck_16 _ _ rfl) rfl (ib_k E.1 5 rfl) (by omega) ((congrFun (eb_a E 5 rfl) _).trans e11) ?_
      refine wq_k2 (p' := 25) (ck_16 _ _ rfl) rfl ⟨by omega, by omega⟩ ⟨by omega, by omega⟩ (fun c13 => ?_) (fun c14 => ?_)
      · have c13 : y < v10 := c13
        refine av_wp_sqF ck_16 1 (pc' := 40) (lv' := [some (.inr (.inr (.inl (some (b))))), some (.inl k), some (.inl y)]) (st' := [.inl (0)]) (h' := h) rfl ?_
        refine av_wp_ret (v := some (.inl (0))) (ck_16 _ _ rfl) rfl rfl ?_
        exact hq _ (by unfold opn; split <;> omega)
      · have c14 : v10 ≤ y := c14
        refine av_wp_sqF ck_16 2 (pc' := 27) (lv' := [some (.inr (.inr (.inl (some (b))))), some (.inl k), some (.inl y)]) (st' := [.inr (.inr (.inl (some (b)))), .inl y]) (h' := h) rfl ?_
        refine wq_gr (p' := 30) (ck_16 _ _ rfl) rfl (congrArg Prod.fst (ib_k0 E.1)) rfl (ib_g E.1 6 rfl) ?_
        refine av_wp_sqF ck_16 1 (pc' := 31) (lv' := [some (.inr (.inr (.inl (some (b))))), some (.inl k), some (.inl y)]) (st' := [.inl k, .inr (.inr (.inl (some (b + 1 + 6)))), .inl y]) (h' := h) rfl ?_
        obtain ⟨v16, e17⟩ : ∃ v, a 6 (Int.toNat (k)) = v := ⟨_, rfl⟩
        have g18 := r6
        rw [e17] at g18
        refine wq_al (p' := 32) (n := 12) (ck_16 _ _ rfl) rfl (ib_k E.1 6 rfl) (by omega) ((congrFun (eb_a E 6 rfl) _).trans e17) ?_
        refine wq_k2 (p' := 35) (ck_16 _ _ rfl) rfl ⟨by omega, by omega⟩ ⟨by omega, by omega⟩ (fun c19 => ?_) (fun c20 => ?_)
        · have c19 : v16 ≤ y := c19
          refine av_wp_sqF ck_16 1 (pc' := 40) (lv' := [some (.inr (.inr (.inl (some (b))))), some (.inl k), some (.inl y)]) (st' := [.inl (0)]) (h' := h) rfl ?_
          refine av_wp_ret (v := some (.inl (0))) (ck_16 _ _ rfl) rfl rfl ?_
          exact hq _ (by unfold opn; split <;> omega)
        · have c20 : y < v16 := c20
          refine av_wp_sqF ck_16 2 (pc' := 40) (lv' := [some (.inr (.inr (.inl (some (b))))), some (.inl k), some (.inl y)]) (st' := [.inl (1)]) (h' := h) rfl ?_
          refine av_wp_ret (v := some (.inl (1))) (ck_16 _ _ rfl) rfl rfl ?_
          exact hq _ (by unfold opn; split <;> omega)

set_option maxRecDepth 100000 in
set_option maxHeartbeats 4000000 in
theorem cx_7 {g h : av_H} {b t c s r : Nat} {cb : Int} {u ro : Nat → Int} {a : Nat → Nat → Int} {mb mo ma : Int} (E : EB b t c s r cb u ro a mb mo ma h) (F : FN b g h)  (H : HBd s a) (B3 : BZ s a) (U2 : ∀ j, u j ≤ 2000 ∨ j % 21 = 20) {Q : Option av_V → av_H → Prop} (hq : ∀ h' a', EB b t c s r cb u ro a' mb mo ma h' → FN b g h' → OOI u ro a s a' → Q none h') : av_wp none cd_7 0 [some (.inr (.inr (.inl (some (b))))), none, none, none] [] h Q := by
  have s12 := co_s12 (ib_co E.1)
  have cbr := co_cbr (ib_co E.1)
  have mbr := eb_xr E
  have mor := eb_yr E
  have U1 := fun j => (eb_uv E j).1
  have R9 := eb_rv E
  refine av_wp_sqF ck_7 2 (pc' := 2) (lv' := [some (.inr (.inr (.inl (some (b))))), some (.inl (0)), none, none]) (st' := []) (h' := h) rfl ?_
  have L10 : ∀ (m9 : Nat) (k1 : Int) (a2 : Option av_V) (a3 : Option av_V) (h4 : av_H) (a7 : Nat → Nat → Int), av_lg a2 = false → av_lg a3 = false → k1 ≤ (s : Int) → (0 ≤ k1 ∧ k1 ≤ 12) → EB b t c s r cb u ro a7 mb mo ma h4 → FN b g h4 → OOI u ro a (Int.toNat k1) a7 → ((s : Int) - k1).toNat = m9 → av_wp none cd_7 2 [some (.inr (.inr (.inl (some (b))))), some (.inl k1), a2, a3] [] h4 Q := by
    intro m9
    induction m9 using Nat.strongRecOn with
    | _ m9 I11 =>
      intro k1 a2 a3 h4 a7 g13 g14 g15 g16 E5 F6 X8 e12
      have la2 := g13
      have la3 := g14
      refine av_wp_sqF ck_7 2 (pc' := 4) (lv' := [some (.inr (.inr (.inl (some (b))))), some (.inl k1), a2, a3]) (st' := [.inr (.inr (.inl (some (b)))), .inl k1]) (h' := h4) rfl ?_
      refine wq_gr (p' := 7) (ck_7 _ _ rfl) rfl (congrArg Prod.fst (ib_k0 E5.1)) rfl (ib_t E5.1) ?_
      refine wq_gi (p' := 10) (ck_7 _ _ rfl) rfl (congrArg Prod.fst (co_kt (ib_co E5.1))) rfl (co_s (ib_co E5.1)) ?_
      refine wq_k2 (p' := 13) (ck_7 _ _ rfl) rfl ⟨by omega, by omega⟩ ⟨by omega, by omega⟩ (fun c17 => ?_) (fun c18 => ?_)
      · have c17 : (s : Int) ≤ k1 := c17
        refine av_wp_ret (v := none) (ck_7 _ _ rfl) rfl rfl ?_
        have z19 : Int.toNat k1 = s := by omega
        rw [z19] at X8
        exact hq h4 _ E5 F6 X8
      · have c18 : k1 < (s : Int) := c18
        refine av_wp_sqF ck_7 1 (pc' := 14) (lv' := [some (.inr (.inr (.inl (some (b))))), some (.inl k1), a2, a3]) (st' := [.inr (.inr (.inl (some (b))))]) (h' := h4) rfl ?_
        refine wq_gr (p' := 17) (ck_7 _ _ rfl) rfl (congrArg Prod.fst (ib_k0 E5.1)) rfl (ib_g E5.1 9 rfl) ?_
        refine av_wp_sqF ck_7 2 (pc' := 21) (lv' := [some (.inr (.inr (.inl (some (b))))), some (.inl k1), a2, a3]) (st' := [.inl (9999), .inl k1, .inr (.inr (.inl (some (b + 1 + 9))))]) (h' := h4) rfl ?_
        refine xb_as (p' := 22) (n := 12) rfl rfl E5 F6 9 rfl rfl (by omega) (fun h20 E21 F22 => ?_)
        refine av_wp_sqF ck_7 1 (pc' := 23) (lv' := [some (.inr (.inr (.inl (some (b))))), some (.inl k1), a2, a3]) (st' := [.inr (.inr (.inl (some (b))))]) (h' := h20) rfl ?_
        refine wq_gr (p' := 26) (ck_7 _ _ rfl) rfl (congrArg Prod.fst (ib_k0 E21.1)) rfl (ib_g E21.1 10 rfl) ?_
        refine av_wp_sqF ck_7 2 (pc' := 30) (lv' := [some (.inr (.inr (.inl (some (b))))), some (.inl k1), a2, a3]) (st' := [.inl (9999), .inl k1, .inr (.inr (.inl (some (b + 1 + 10))))]) (h' := h20) rfl ?_
        refine xb_as (p' := 31) (n := 12) rfl rfl E21 F22 10 rfl rfl (by omega) (fun h23 E24 F25 => ?_)
        refine av_wp_sqF ck_7 1 (pc' := 32) (lv' := [some (.inr (.inr (.inl (some (b))))), some (.inl k1), a2, a3]) (st' := [.inr (.inr (.inl (some (b))))]) (h' := h23) rfl ?_
        refine wq_gr (p' := 35) (ck_7 _ _ rfl) rfl (congrArg Prod.fst (ib_k0 E24.1)) rfl (ib_g E24.1 6 rfl) ?_
        refine av_wp_sqF ck_7 2 (pc' := 39) (lv' := [some (.inr (.inr (.inl (some (b))))), some (.inl k1), a2, a3]) (st' := [.inl (9999), .inl k1, .inr (.inr (.inl (some (b + 1 + 6))))]) (h' := h23) rfl ?_
        refine xb_as (p' := 40) (n := 12) rfl rfl E24 F25 6 rfl rfl (by omega) (fun h26 E27 F28 => ?_)
        refine av_wp_sqF ck_7 1 (pc' := 41) (lv' := [some (.inr (.inr (.inl (some (b))))), some (.inl k1), a2, a3]) (st' := [.inr (.inr (.inl (some (b))))]) (h' := h26) rfl ?_
        refine wq_gr (p' := 44) (ck_7 _ _ rfl) rfl (congrArg Prod.fst (ib_k0 E27.1)) rfl (ib_g E27.1 7 rfl) ?_
        refine av_wp_sqF ck_7 2 (pc' := 46) (lv' := [some (.inr (.inr (.inl (some (b))))), some (.inl k1), a2, a3]) (st' := [.inl (0), .inl k1, .inr (.inr (.inl (some (b + 1 + 7))))]) (h' := h26) rfl ?_
        refine xb_as (p' := 47) (n := 12) rfl rfl E27 F28 7 rfl rfl (by omega) (fun h29 E30 F31 => ?_)
        refine av_wp_sqF ck_7 1 (pc' := 48) (lv' := [some (.inr (.inr (.inl (some (b))))), some (.inl k1), a2, a3]) (st' := [.inr (.inr (.inl (some (b))))]) (h' := h29) rfl ?_
        refine wq_gr (p' := 51) (ck_7 _ _ rfl) rfl (congrArg Prod.fst (ib_k0 E30.1)) rfl (ib_g E30.1 8 rfl) ?_
        refine av_wp_sqF ck_7 2 (pc' := 53) (lv' := [some (.inr (.inr (.inl (some (b))))), some (.inl k1), a2, a3]) (st' := [.inl (-1), .inl k1, .inr (.inr (.inl (some (b + 1 + 8))))]) (h' := h29) rfl ?_
        refine xb_as (p' := 54) (n := 12) rfl rfl E30 F31 8 rfl rfl (by omega) (fun h32 E33 F34 => ?_)
        refine av_wp_sqF ck_7 1 (pc' := 55) (lv' := [some (.inr (.inr (.inl (some (b))))), some (.inl k1), a2, a3]) (st' := [.inr (.inr (.inl (some (b))))]) (h' := h32) rfl ?_
        refine wq_gr (p' := 58) (ck_7 _ _ rfl) rfl (congrArg Prod.fst (ib_k0 E33.1)) rfl (ib_g E33.1 5 rfl) ?_
        refine av_wp_sqF ck_7 2 (pc' := 60) (lv' := [some (.inr (.inr (.inl (some (b))))), some (.inl k1), a2, a3]) (st' := [.inr (.inr (.inl (some (b)))), .inl k1, .inr (.inr (.inl (some (b + 1 + 5))))]) (h' := h32) rfl ?_
        refine wq_gr (p' := 63) (ck_7 _ _ rfl) rfl (congrArg Prod.fst (ib_k0 E33.1)) rfl (ib_g E33.1 2 rfl) ?_
        refine av_wp_sqF ck_7 1 (pc' := 64) (lv' := [some (.inr (.inr (.inl (some (b))))), some (.inl k1), a2, a3]) (st' := [.inl k1, .inr (.inr (.inl (some (b + 1 + 2)))), .inl k1, .inr (.inr (.inl (some (b + 1 + 5))))]) (h' := h32) rfl ?_
        obtain ⟨v36, e37⟩ : ∃ v, (av_u2 (av_u2 (av_u2 (av_u2 (av_u2 a7 9 (Int.toNat (k1)) (9999)) 10 (Int.toNat (k1)) (9999)) 6 (Int.toNat (k1)) (9999)) 7 (Int.toNat (k1)) (0)) 8 (Int.toNat (k1)) (-1)) 2 (Int.toNat (k1)) = v := ⟨_, rfl⟩
        have y38 : a 2 (Int.toNat (k1)) = v36 := (congrFun ((av_u2_ne (by decide)).trans ((av_u2_ne (by decide)).trans ((av_u2_ne (by decide)).trans ((av_u2_ne (by decide)).trans ((av_u2_ne (by decide)).trans (X8.2 2 (by omega))))))) _).symm.trans e37
        have g39 := (B3 (Int.toNat (k1)) (by omega)).1
        rw [y38] at g39
        refine wq_bl (p' := 65) (n := 12) (ck_7 _ _ rfl) rfl ((Or.inr (ib_k E33.1 2 rfl))) (by omega) ((congrFun (eb_a E33 2 rfl) _).trans e37) ?_
        have J43 : ∀ (j40 : Int), (-1 ≤ j40 ∧ j40 ≤ 5000) → j40 = o5 ro a (Int.toNat k1) →  av_wp none cd_7 92 [some (.inr (.inr (.inl (some (b))))), some (.inl k1), a2, a3] [.inl j40, .inl k1, .inr (.inr (.inl (some (b + 1 + 5))))] h32 Q := by
          intro j40 g41 g42
          refine xb_as (p' := 93) (n := 12) rfl rfl E33 F34 5 rfl rfl (by omega) (fun h44 E45 F46 => ?_)
          refine av_wp_sqF ck_7 1 (pc' := 94) (lv' := [some (.inr (.inr (.inl (some (b))))), some (.inl k1), a2, a3]) (st' := [.inr (.inr (.inl (some (b))))]) (h' := h44) rfl ?_
          refine wq_gr (p' := 97) (ck_7 _ _ rfl) rfl (congrArg Prod.fst (ib_k0 E45.1)) rfl (ib_t E45.1) ?_
          refine wq_gr (p' := 100) (ck_7 _ _ rfl) rfl (congrArg Prod.fst (co_kt (ib_co E45.1))) rfl (co_c (ib_co E45.1)) ?_
          refine av_wp_sqF ck_7 5 (pc' := 106) (lv' := [some (.inr (.inr (.inl (some (b))))), some (.inl k1), a2, a3]) (st' := [.inl ((k1 * (21)) + (5)), .inr (.inr (.inl (some (c))))]) (h' := h44) rfl ?_
          obtain ⟨v48, e49⟩ : ∃ v, u (Int.toNat (((k1 * (21)) + (5)))) = v := ⟨_, rfl⟩
          have g47 := eb_uv E45 (Int.toNat (((k1 * (21)) + (5))))
          rw [e49] at g47
          have y50 : u (21 * Int.toNat k1 + 5) = v48 := (congrArg u (by omega)).trans e49
          refine wq_al (p' := 107) (n := 21 * s) (ck_7 _ _ rfl) rfl (co_kc (ib_co E45.1)) (by omega) ((congrFun (eb_u E45) _).trans e49) ?_
          refine av_wp_sqF ck_7 4 (pc' := 111) (lv' := [some (.inr (.inr (.inl (some (b))))), some (.inl k1), some (.inl v48), a3]) (st' := [.inl (1), .inl k1, .inr (.inr (.inl (some (b))))]) (h' := h44) rfl ?_
          refine wq_cv (p' := 114) (av_qc (.invokevirtual 115) 6 2 0 0) 3 cd_6 [.inl (1), .inl k1] (b) 0 [some (.inr (.inr (.inl (some (b))))), some (.inl k1), some (.inl (1))] (ck_7 _ _ rfl) rfl rfl pp_6 rfl rfl rfl (congrArg Prod.fst (ib_k0 E45.1)) rfl rfl rfl rfl ?_
          refine cx_6 E45 F46 (k1) (by omega) ((1)) (by omega) ?_
          rw [hof_c (a := a) ((av_u2_ne (by decide)).trans ((av_u2_ne (by decide)).trans ((av_u2_ne (by decide)).trans ((av_u2_ne (by decide)).trans ((av_u2_ne (by decide)).trans ((av_u2_ne (by decide)).trans (X8.2 0 (by omega)))))))) (by omega)]
          obtain ⟨v51, e52⟩ : ∃ v, hw a (Int.toNat (k1)) (1) = v := ⟨_, rfl⟩
          have g53 := hw_r H (k := Int.toNat (k1)) (by omega) (1)
          rw [e52] at g53
          rw [e52]
          show av_wp _ cd_7 114 [some (.inr (.inr (.inl (some (b))))), some (.inl k1), some (.inl v48), a3] [.inl v51] h44 _
          refine av_wp_sqF ck_7 3 (pc' := 117) (lv' := [some (.inr (.inr (.inl (some (b))))), some (.inl k1), some (.inl v48), some (.inl v51)]) (st' := [.inl (-1), .inl v48]) (h' := h44) rfl ?_
          refine wq_k2 (p' := 120) (ck_7 _ _ rfl) rfl ⟨by omega, by omega⟩ ⟨by omega, by omega⟩ (fun c54 => ?_) (fun c55 => ?_)
          · have c54 : v48 = (-1) := c54
            refine av_wp_sqF ck_7 1 (pc' := 134) (lv' := [some (.inr (.inr (.inl (some (b))))), some (.inl k1), some (.inl v48), some (.inl v51)]) (st' := [.inr (.inr (.inl (some (b))))]) (h' := h44) rfl ?_
            refine wq_gr (p' := 137) (ck_7 _ _ rfl) rfl (congrArg Prod.fst (ib_k0 E45.1)) rfl (ib_r E45.1) ?_
            refine av_wp_sqF ck_7 1 (pc' := 139) (lv' := [some (.inr (.inr (.inl (some (b))))), some (.inl k1), some (.inl v48), some (.inl v51)]) (st' := [.inl (7), .inr (.inr (.inl (some (r))))]) (h' := h44) rfl ?_
            obtain ⟨v57, e58⟩ : ∃ v, ro 7 = v := ⟨_, rfl⟩
            have g56 := eb_rv E45 7
            rw [e58] at g56
            refine wq_al (p' := 140) (n := 14) (ck_7 _ _ rfl) rfl (ib_kr E45.1) (by omega) ((congrFun (eb_ro E45) _).trans e58) ?_
            refine av_wp_sqF ck_7 1 (pc' := 141) (lv' := [some (.inr (.inr (.inl (some (b))))), some (.inl k1), some (.inl v48), some (.inl v51)]) (st' := [.inl (-1), .inl v57]) (h' := h44) rfl ?_
            refine wq_k2 (p' := 144) (ck_7 _ _ rfl) rfl ⟨by omega, by omega⟩ ⟨by omega, by omega⟩ (fun c59 => ?_) (fun c60 => ?_)
            · have c59 : v57 = (-1) := c59
              refine av_wp_sqF ck_7 2 (pc' := 2) (lv' := [some (.inr (.inr (.inl (some (b))))), some (.inl (k1 + (1))), some (.inl v48), some (.inl v51)]) (st' := []) (h' := h44) rfl ?_
              exact I11 _ (by omega) ((k1 + (1))) (some (.inl v48)) (some (.inl v51)) h44 (av_u2 (av_u2 (av_u2 (av_u2 (av_u2 (av_u2 a7 9 (Int.toNat (k1)) (9999)) 10 (Int.toNat (k1)) (9999)) 6 (Int.toNat (k1)) (9999)) 7 (Int.toNat (k1)) (0)) 8 (Int.toNat (k1)) (-1)) 5 (Int.toNat (k1)) j40) rfl rfl (by omega) (by omega) E45 F46 (by rw [show Int.toNat (k1 + (1)) = Int.toNat k1 + 1 by omega]; exact OOI_c X8 g42 y50 (by omega) e58 e52 (by omega)) rfl
            · have c60 : v57 ≠ (-1) := c60
              refine av_wp_sqF ck_7 2 (pc' := 146) (lv' := [some (.inr (.inr (.inl (some (b))))), some (.inl k1), some (.inl v48), some (.inl v51)]) (st' := [.inl (-1), .inl v51]) (h' := h44) rfl ?_
              refine wq_k2 (p' := 149) (ck_7 _ _ rfl) rfl ⟨by omega, by omega⟩ ⟨by omega, by omega⟩ (fun c61 => ?_) (fun c62 => ?_)
              · have c61 : v51 = (-1) := c61
                refine av_wp_sqF ck_7 2 (pc' := 2) (lv' := [some (.inr (.inr (.inl (some (b))))), some (.inl (k1 + (1))), some (.inl v48), some (.inl v51)]) (st' := []) (h' := h44) rfl ?_
                exact I11 _ (by omega) ((k1 + (1))) (some (.inl v48)) (some (.inl v51)) h44 (av_u2 (av_u2 (av_u2 (av_u2 (av_u2 (av_u2 a7 9 (Int.toNat (k1)) (9999)) 10 (Int.toNat (k1)) (9999)) 6 (Int.toNat (k1)) (9999)) 7 (Int.toNat (k1)) (0)) 8 (Int.toNat (k1)) (-1)) 5 (Int.toNat (k1)) j40) rfl rfl (by omega) (by omega) E45 F46 (by rw [show Int.toNat (k1 + (1)) = Int.toNat k1 + 1 by omega]; exact OOI_c X8 g42 y50 (by omega) e58 e52 (by omega)) rfl
              · have c62 : v51 ≠ (-1) := c62
                refine av_wp_sqF ck_7 4 (pc' := 153) (lv' := [some (.inr (.inr (.inl (some (b))))), some (.inl k1), some (.inl v48), some (.inl v51)]) (st' := [.inr (.inr (.inl (some (b)))), .inl v51, .inl k1, .inr (.inr (.inl (some (b))))]) (h' := h44) rfl ?_
                refine wq_gr (p' := 156) (ck_7 _ _ rfl) rfl (congrArg Prod.fst (ib_k0 E45.1)) rfl (ib_r E45.1) ?_
                refine av_wp_sqF ck_7 1 (pc' := 158) (lv' := [some (.inr (.inr (.inl (some (b))))), some (.inl k1), some (.inl v48), some (.inl v51)]) (st' := [.inl (7), .inr (.inr (.inl (some (r)))), .inl v51, .inl k1, .inr (.inr (.inl (some (b))))]) (h' := h44) rfl ?_
                obtain ⟨v64, e65⟩ : ∃ v, ro 7 = v := ⟨_, rfl⟩
                have g63 := eb_rv E45 7
                rw [e65] at g63
                refine wq_al (p' := 159) (n := 14) (ck_7 _ _ rfl) rfl (ib_kr E45.1) (by omega) ((congrFun (eb_ro E45) _).trans e65) ?_
                refine av_wp_sqF ck_7 5 (pc' := 164) (lv' := [some (.inr (.inr (.inl (some (b))))), some (.inl k1), some (.inl v48), some (.inl v51)]) (st' := [.inl (-1), .inl (4), .inl ((v51 + v64) + (1)), .inl k1, .inr (.inr (.inl (some (b))))]) (h' := h44) rfl ?_
                refine wq_cv (p' := 167) (av_qc (.invokevirtual 118) 8 4 0 0) 5 cd_8 [.inl (-1), .inl (4), .inl ((v51 + v64) + (1)), .inl k1] (b) 0 [some (.inr (.inr (.inl (some (b))))), some (.inl k1), some (.inl ((v51 + v64) + (1))), some (.inl (4)), some (.inl (-1))] (ck_7 _ _ rfl) rfl rfl pp_8 rfl rfl rfl (congrArg Prod.fst (ib_k0 E45.1)) rfl rfl rfl rfl ?_
                refine cx_8 E45 F46 (k1) (by omega) (((v51 + v64) + (1))) (by omega) ((4)) (by omega) ((-1)) (by rw [oo_E]; exact TR_0) (by rw [((av_u2_ne (by decide)).trans ((av_u2_ne (by decide)).trans ((av_u2_ne (by decide)).trans ((av_u2_ne (by decide)).trans ((av_u2_ne (by decide)).trans ((av_u2_ne (by decide)).trans (X8.2 2 (by omega))))))))]; exact (B3 _ (by omega)).1) (fun h66 a67 E68 F69 X70 => ?_)
                show av_wp _ cd_7 167 [some (.inr (.inr (.inl (some (b))))), some (.inl k1), some (.inl v48), some (.inl v51)] [] h66 _
                refine av_wp_sqF ck_7 2 (pc' := 2) (lv' := [some (.inr (.inr (.inl (some (b))))), some (.inl (k1 + (1))), some (.inl v48), some (.inl v51)]) (st' := []) (h' := h66) rfl ?_
                exact I11 _ (by omega) ((k1 + (1))) (some (.inl v48)) (some (.inl v51)) h66 a67 rfl rfl (by omega) (by omega) E68 F69 (by rw [show Int.toNat (k1 + (1)) = Int.toNat k1 + 1 by omega]; exact OOI_b X8 g42 y50 (by omega) e65 (by omega) e52 (by omega) X70) rfl
          · have c55 : v48 ≠ (-1) := c55
            refine av_wp_sqF ck_7 7 (pc' := 127) (lv' := [some (.inr (.inr (.inl (some (b))))), some (.inl k1), some (.inl v48), some (.inl v51)]) (st' := [.inl (-1), .inl (3), .inl (v48 + (1)), .inl k1, .inr (.inr (.inl (some (b))))]) (h' := h44) rfl ?_
            have gU := U2 (21 * Int.toNat k1 + 5)
            refine wq_cv (p' := 130) (av_qc (.invokevirtual 118) 8 4 0 0) 5 cd_8 [.inl (-1), .inl (3), .inl (v48 + (1)), .inl k1] (b) 0 [some (.inr (.inr (.inl (some (b))))), some (.inl k1), some (.inl (v48 + (1))), some (.inl (3)), some (.inl (-1))] (ck_7 _ _ rfl) rfl rfl pp_8 rfl rfl rfl (congrArg Prod.fst (ib_k0 E45.1)) rfl rfl rfl rfl ?_
            refine cx_8 E45 F46 (k1) (by omega) ((v48 + (1))) (by omega) ((3)) (by omega) ((-1)) (by rw [oo_E]; exact TR_0) (by rw [((av_u2_ne (by decide)).trans ((av_u2_ne (by decide)).trans ((av_u2_ne (by decide)).trans ((av_u2_ne (by decide)).trans ((av_u2_ne (by decide)).trans ((av_u2_ne (by decide)).trans (X8.2 2 (by omega))))))))]; exact (B3 _ (by omega)).1) (fun h71 a72 E73 F74 X75 => ?_)
            show av_wp _ cd_7 130 [some (.inr (.inr (.inl (some (b))))), some (.inl k1), some (.inl v48), some (.inl v51)] [] h71 _
            refine av_wp_sqF ck_7 3 (pc' := 2) (lv' := [some (.inr (.inr (.inl (some (b))))), some (.inl (k1 + (1))), some (.inl v48), some (.inl v51)]) (st' := []) (h' := h71) rfl ?_
            exact I11 _ (by omega) ((k1 + (1))) (some (.inl v48)) (some (.inl v51)) h71 a72 rfl rfl (by omega) (by omega) E73 F74 (by rw [show Int.toNat (k1 + (1)) = Int.toNat k1 + 1 by omega]; exact OOI_a X8 g42 y50 (by omega) X75) rfl
        refine wq_k1 (p' := 68) (ck_7 _ _ rfl) rfl ⟨by omega, by omega⟩ (fun c76 => ?_) (fun c77 => ?_)
        · have c76 : v36 = (0) := c76
          refine av_wp_sqF ck_7 1 (pc' := 92) (lv' := [some (.inr (.inr (.inl (some (b))))), some (.inl k1), a2, a3]) (st' := [.inl (-1), .inl k1, .inr (.inr (.inl (some (b + 1 + 5))))]) (h' := h32) rfl ?_
          exact J43 ((-1)) (by omega) (by unfold o5; rw [if_neg (by omega)])
        · have c77 : v36 ≠ (0) := c77
          refine av_wp_sqF ck_7 1 (pc' := 69) (lv' := [some (.inr (.inr (.inl (some (b))))), some (.inl k1), a2, a3]) (st' := [.inr (.inr (.inl (some (b)))), .inl k1, .inr (.inr (.inl (some (b + 1 + 5))))]) (h' := h32) rfl ?_
          refine wq_gr (p' := 72) (ck_7 _ _ rfl) rfl (congrArg Prod.fst (ib_k0 E33.1)) rfl (ib_g E33.1 4 rfl) ?_
          refine av_wp_sqF ck_7 1 (pc' := 73) (lv' := [some (.inr (.inr (.inl (some (b))))), some (.inl k1), a2, a3]) (st' := [.inl k1, .inr (.inr (.inl (some (b + 1 + 4)))), .inl k1, .inr (.inr (.inl (some (b + 1 + 5))))]) (h' := h32) rfl ?_
          obtain ⟨v79, e80⟩ : ∃ v, (av_u2 (av_u2 (av_u2 (av_u2 (av_u2 a7 9 (Int.toNat (k1)) (9999)) 10 (Int.toNat (k1)) (9999)) 6 (Int.toNat (k1)) (9999)) 7 (Int.toNat (k1)) (0)) 8 (Int.toNat (k1)) (-1)) 4 (Int.toNat (k1)) = v := ⟨_, rfl⟩
          have y81 : a 4 (Int.toNat (k1)) = v79 := (congrFun ((av_u2_ne (by decide)).trans ((av_u2_ne (by decide)).trans ((av_u2_ne (by decide)).trans ((av_u2_ne (by decide)).trans ((av_u2_ne (by decide)).trans (X8.2 4 (by omega))))))) _).symm.trans e80
          have g82 := (B3 (Int.toNat (k1)) (by omega)).2.2
          rw [y81] at g82
          refine wq_bl (p' := 74) (n := 12) (ck_7 _ _ rfl) rfl ((Or.inr (ib_k E33.1 4 rfl))) (by omega) ((congrFun (eb_a E33 4 rfl) _).trans e80) ?_
          refine wq_k1 (p' := 77) (ck_7 _ _ rfl) rfl ⟨by omega, by omega⟩ (fun c83 => ?_) (fun c84 => ?_)
          · have c83 : v79 ≠ (0) := c83
            refine av_wp_sqF ck_7 1 (pc' := 92) (lv' := [some (.inr (.inr (.inl (some (b))))), some (.inl k1), a2, a3]) (st' := [.inl (-1), .inl k1, .inr (.inr (.inl (some (b + 1 + 5))))]) (h' := h32) rfl ?_
            exact J43 ((-1)) (by omega) (by unfold o5; rw [if_neg (by omega)])
          · have c84 : v79 = (0) := c84
            refine av_wp_sqF ck_7 3 (pc' := 80) (lv' := [some (.inr (.inr (.inl (some (b))))), some (.inl k1), a2, a3]) (st' := [.inr (.inr (.inl (some (b)))), .inl k1, .inr (.inr (.inl (some (b)))), .inl k1, .inr (.inr (.inl (some (b + 1 + 5))))]) (h' := h32) rfl ?_
            refine wq_gr (p' := 83) (ck_7 _ _ rfl) rfl (congrArg Prod.fst (ib_k0 E33.1)) rfl (ib_r E33.1) ?_
            refine av_wp_sqF ck_7 1 (pc' := 84) (lv' := [some (.inr (.inr (.inl (some (b))))), some (.inl k1), a2, a3]) (st' := [.inl (3), .inr (.inr (.inl (some (r)))), .inl k1, .inr (.inr (.inl (some (b)))), .inl k1, .inr (.inr (.inl (some (b + 1 + 5))))]) (h' := h32) rfl ?_
            obtain ⟨v86, e87⟩ : ∃ v, ro 3 = v := ⟨_, rfl⟩
            have g85 := eb_rv E33 3
            rw [e87] at g85
            refine wq_al (p' := 85) (n := 14) (ck_7 _ _ rfl) rfl (ib_kr E33.1) (by omega) ((congrFun (eb_ro E33) _).trans e87) ?_
            refine wq_cv (p' := 88) (av_qc (.invokevirtual 115) 6 2 0 0) 3 cd_6 [.inl v86, .inl k1] (b) 0 [some (.inr (.inr (.inl (some (b))))), some (.inl k1), some (.inl v86)] (ck_7 _ _ rfl) rfl rfl pp_6 rfl rfl rfl (congrArg Prod.fst (ib_k0 E33.1)) rfl rfl rfl rfl ?_
            refine cx_6 E33 F34 (k1) (by omega) (v86) (by omega) ?_
            rw [hof_c (a := a) ((av_u2_ne (by decide)).trans ((av_u2_ne (by decide)).trans ((av_u2_ne (by decide)).trans ((av_u2_ne (by decide)).trans ((av_u2_ne (by decide)).trans (X8.2 0 (by omega))))))) (by omega)]
            obtain ⟨v88, e89⟩ : ∃ v, hw a (Int.toNat (k1)) v86 = v := ⟨_, rfl⟩
            have g90 := hw_r H (k := Int.toNat (k1)) (by omega) v86
            rw [e89] at g90
            rw [e89]
            show av_wp _ cd_7 88 [some (.inr (.inr (.inl (some (b))))), some (.inl k1), a2, a3] [.inl v88, .inl k1, .inr (.inr (.inl (some (b + 1 + 5))))] h32 _
            refine av_wp_sqF ck_7 1 (pc' := 92) (lv' := [some (.inr (.inr (.inl (some (b))))), some (.inl k1), a2, a3]) (st' := [.inl v88, .inl k1, .inr (.inr (.inl (some (b + 1 + 5))))]) (h' := h32) rfl ?_
            exact J43 (v88) (by omega) (by unfold o5; rw [if_pos (by omega), e87]; exact e89.symm)
  exact L10 _ ((0)) (none) (none) h a rfl rfl (by omega) (by omega) E F OOI_0 rfl

set_option maxRecDepth 100000 in
set_option maxHeartbeats 4000000 in
theorem cx_9 {g h : av_H} {b t c s r : Nat} {cb : Int} {u ro : Nat → Int} {a : Nat → Nat → Int} {mb mo ma : Int} (E : EB b t c s r cb u ro a mb mo ma h) (F : FN b g h) {a0 : Nat → Nat → Int} (D : OOI u ro a0 s a) (H : HBd s a0) (B3 : BZ s a0) (U2 : ∀ j, u j ≤ 2000 ∨ j % 21 = 20) {Q : Option av_V → av_H → Prop} (hq : ∀ h' a', EB b t c s r cb u ro a' mb mo ma h' → FN b g h' → TBI u ro a0 s s a' → Q none h') : av_wp none cd_9 0 [some (.inr (.inr (.inl (some (b))))), none, none, none, none] [] h Q := by
  have s12 := co_s12 (ib_co E.1)
  have cbr := co_cbr (ib_co E.1)
  have mbr := eb_xr E
  have mor := eb_yr E
  have U1 := fun j => (eb_uv E j).1
  have R9 := eb_rv E
  refine av_wp_sqF ck_9 2 (pc' := 2) (lv' := [some (.inr (.inr (.inl (some (b))))), some (.inl (0)), none, none, none]) (st' := []) (h' := h) rfl ?_
  have L11 : ∀ (m10 : Nat) (k1 : Int) (a2 : Option av_V) (a3 : Option av_V) (a4 : Option av_V) (h5 : av_H) (a8 : Nat → Nat → Int), av_lg a2 = false → av_lg a3 = false → av_lg a4 = false → k1 ≤ (s : Int) → (0 ≤ k1 ∧ k1 ≤ 12) → EB b t c s r cb u ro a8 mb mo ma h5 → FN b g h5 → TBI u ro a0 s (Int.toNat k1) a8 → ((s : Int) - k1).toNat = m10 → av_wp none cd_9 2 [some (.inr (.inr (.inl (some (b))))), some (.inl k1), a2, a3, a4] [] h5 Q := by
    intro m10
    induction m10 using Nat.strongRecOn with
    | _ m10 I12 =>
      intro k1 a2 a3 a4 h5 a8 g14 g15 g16 g17 g18 E6 F7 X9 e13
      have la2 := g14
      have la3 := g15
      have la4 := g16
      refine av_wp_sqF ck_9 2 (pc' := 4) (lv' := [some (.inr (.inr (.inl (some (b))))), some (.inl k1), a2, a3, a4]) (st' := [.inr (.inr (.inl (some (b)))), .inl k1]) (h' := h5) rfl ?_
      refine wq_gr (p' := 7) (ck_9 _ _ rfl) rfl (congrArg Prod.fst (ib_k0 E6.1)) rfl (ib_t E6.1) ?_
      refine wq_gi (p' := 10) (ck_9 _ _ rfl) rfl (congrArg Prod.fst (co_kt (ib_co E6.1))) rfl (co_s (ib_co E6.1)) ?_
      refine wq_k2 (p' := 13) (ck_9 _ _ rfl) rfl ⟨by omega, by omega⟩ ⟨by omega, by omega⟩ (fun c19 => ?_) (fun c20 => ?_)
      · have c19 : (s : Int) ≤ k1 := c19
        refine av_wp_ret (v := none) (ck_9 _ _ rfl) rfl rfl ?_
        have z21 : Int.toNat k1 = s := by omega
        rw [z21] at X9
        exact hq h5 _ E6 F7 X9
      · have c20 : k1 < (s : Int) := c20
        refine av_wp_sqF ck_9 1 (pc' := 14) (lv' := [some (.inr (.inr (.inl (some (b))))), some (.inl k1), a2, a3, a4]) (st' := [.inr (.inr (.inl (some (b))))]) (h' := h5) rfl ?_
        refine wq_gr (p' := 17) (ck_9 _ _ rfl) rfl (congrArg Prod.fst (ib_k0 E6.1)) rfl (ib_t E6.1) ?_
        refine wq_gr (p' := 20) (ck_9 _ _ rfl) rfl (congrArg Prod.fst (co_kt (ib_co E6.1))) rfl (co_c (ib_co E6.1)) ?_
        refine av_wp_sqF ck_9 5 (pc' := 26) (lv' := [some (.inr (.inr (.inl (some (b))))), some (.inl k1), a2, a3, a4]) (st' := [.inl ((k1 * (21)) + (3)), .inr (.inr (.inl (some (c))))]) (h' := h5) rfl ?_
        obtain ⟨v23, e24⟩ : ∃ v, u (Int.toNat (((k1 * (21)) + (3)))) = v := ⟨_, rfl⟩
        have g22 := eb_uv E6 (Int.toNat (((k1 * (21)) + (3))))
        rw [e24] at g22
        have y25 : u (21 * Int.toNat k1 + 3) = v23 := (congrArg u (by omega)).trans e24
        refine wq_al (p' := 27) (n := 21 * s) (ck_9 _ _ rfl) rfl (co_kc (ib_co E6.1)) (by omega) ((congrFun (eb_u E6) _).trans e24) ?_
        refine av_wp_sqF ck_9 2 (pc' := 29) (lv' := [some (.inr (.inr (.inl (some (b))))), some (.inl k1), some (.inl v23), a3, a4]) (st' := [.inr (.inr (.inl (some (b))))]) (h' := h5) rfl ?_
        refine wq_gr (p' := 32) (ck_9 _ _ rfl) rfl (congrArg Prod.fst (ib_k0 E6.1)) rfl (ib_t E6.1) ?_
        refine wq_gr (p' := 35) (ck_9 _ _ rfl) rfl (congrArg Prod.fst (co_kt (ib_co E6.1))) rfl (co_c (ib_co E6.1)) ?_
        refine av_wp_sqF ck_9 5 (pc' := 41) (lv' := [some (.inr (.inr (.inl (some (b))))), some (.inl k1), some (.inl v23), a3, a4]) (st' := [.inl ((k1 * (21)) + (0)), .inr (.inr (.inl (some (c))))]) (h' := h5) rfl ?_
        obtain ⟨v27, e28⟩ : ∃ v, u (Int.toNat (((k1 * (21)) + (0)))) = v := ⟨_, rfl⟩
        have g26 := eb_uv E6 (Int.toNat (((k1 * (21)) + (0))))
        rw [e28] at g26
        have y29 : u (21 * Int.toNat k1 + 0) = v27 := (congrArg u (by omega)).trans e28
        refine wq_al (p' := 42) (n := 21 * s) (ck_9 _ _ rfl) rfl (co_kc (ib_co E6.1)) (by omega) ((congrFun (eb_u E6) _).trans e28) ?_
        refine av_wp_sqF ck_9 1 (pc' := 43) (lv' := [some (.inr (.inr (.inl (some (b))))), some (.inl k1), some (.inl v23), a3, a4]) (st' := [.inl (5), .inl v27]) (h' := h5) rfl ?_
        refine wq_k2 (p' := 46) (ck_9 _ _ rfl) rfl ⟨by omega, by omega⟩ ⟨by omega, by omega⟩ (fun c30 => ?_) (fun c31 => ?_)
        · have c30 : v27 ≠ (5) := c30
          refine av_wp_sqF ck_9 6 (pc' := 82) (lv' := [some (.inr (.inr (.inl (some (b))))), some (.inl k1), some (.inl v23), some (.inl (0)), some (.inl (-1))]) (st' := []) (h' := h5) rfl ?_
          have q32 : hB u ro a0 (Int.toNat k1) = (-1) := by
            unfold hB
            rw [if_neg (by omega)]
          refine av_wp_sqF ck_9 8 (pc' := 2) (lv' := [some (.inr (.inr (.inl (some (b))))), some (.inl (k1 + (1))), some (.inl v23), some (.inl (0)), some (.inl (-1))]) (st' := []) (h' := h5) rfl ?_
          exact I12 _ (by omega) ((k1 + (1))) (some (.inl v23)) (some (.inl (0))) (some (.inl (-1))) h5 a8 rfl rfl rfl (by omega) (by omega) E6 F7 (by rw [show Int.toNat (k1 + (1)) = Int.toNat k1 + 1 by omega]; exact TBI_n X9 (q32.trans (by omega))) rfl
        · have c31 : v27 = (5) := c31
          refine av_wp_sqF ck_9 1 (pc' := 47) (lv' := [some (.inr (.inr (.inl (some (b))))), some (.inl k1), some (.inl v23), a3, a4]) (st' := [.inl v23]) (h' := h5) rfl ?_
          refine wq_k1 (p' := 50) (ck_9 _ _ rfl) rfl ⟨by omega, by omega⟩ (fun c33 => ?_) (fun c34 => ?_)
          · have c33 : v23 < (0) := c33
            refine av_wp_sqF ck_9 6 (pc' := 82) (lv' := [some (.inr (.inr (.inl (some (b))))), some (.inl k1), some (.inl v23), some (.inl (0)), some (.inl (-1))]) (st' := []) (h' := h5) rfl ?_
            have q35 : hB u ro a0 (Int.toNat k1) = (-1) := by
              unfold hB
              rw [if_neg (by omega)]
            refine av_wp_sqF ck_9 8 (pc' := 2) (lv' := [some (.inr (.inr (.inl (some (b))))), some (.inl (k1 + (1))), some (.inl v23), some (.inl (0)), some (.inl (-1))]) (st' := []) (h' := h5) rfl ?_
            exact I12 _ (by omega) ((k1 + (1))) (some (.inl v23)) (some (.inl (0))) (some (.inl (-1))) h5 a8 rfl rfl rfl (by omega) (by omega) E6 F7 (by rw [show Int.toNat (k1 + (1)) = Int.toNat k1 + 1 by omega]; exact TBI_n X9 (q35.trans (by omega))) rfl
          · have c34 : (0) ≤ v23 := c34
            refine av_wp_sqF ck_9 2 (pc' := 52) (lv' := [some (.inr (.inr (.inl (some (b))))), some (.inl k1), some (.inl v23), a3, a4]) (st' := [.inl k1, .inl v23]) (h' := h5) rfl ?_
            refine wq_k2 (p' := 55) (ck_9 _ _ rfl) rfl ⟨by omega, by omega⟩ ⟨by omega, by omega⟩ (fun c36 => ?_) (fun c37 => ?_)
            · have c36 : k1 ≤ v23 := c36
              refine av_wp_sqF ck_9 6 (pc' := 82) (lv' := [some (.inr (.inr (.inl (some (b))))), some (.inl k1), some (.inl v23), some (.inl (0)), some (.inl (-1))]) (st' := []) (h' := h5) rfl ?_
              have q38 : hB u ro a0 (Int.toNat k1) = (-1) := by
                unfold hB
                rw [if_neg (by omega)]
              refine av_wp_sqF ck_9 8 (pc' := 2) (lv' := [some (.inr (.inr (.inl (some (b))))), some (.inl (k1 + (1))), some (.inl v23), some (.inl (0)), some (.inl (-1))]) (st' := []) (h' := h5) rfl ?_
              exact I12 _ (by omega) ((k1 + (1))) (some (.inl v23)) (some (.inl (0))) (some (.inl (-1))) h5 a8 rfl rfl rfl (by omega) (by omega) E6 F7 (by rw [show Int.toNat (k1 + (1)) = Int.toNat k1 + 1 by omega]; exact TBI_n X9 (q38.trans (by omega))) rfl
            · have c37 : v23 < k1 := c37
              refine av_wp_sqF ck_9 8 (pc' := 68) (lv' := [some (.inr (.inr (.inl (some (b))))), some (.inl k1), some (.inl v23), some (.inl (1)), a4]) (st' := [.inr (.inr (.inl (some (b)))), .inl k1, .inr (.inr (.inl (some (b))))]) (h' := h5) rfl ?_
              refine wq_gr (p' := 71) (ck_9 _ _ rfl) rfl (congrArg Prod.fst (ib_k0 E6.1)) rfl (ib_r E6.1) ?_
              refine av_wp_sqF ck_9 1 (pc' := 72) (lv' := [some (.inr (.inr (.inl (some (b))))), some (.inl k1), some (.inl v23), some (.inl (1)), a4]) (st' := [.inl (4), .inr (.inr (.inl (some (r)))), .inl k1, .inr (.inr (.inl (some (b))))]) (h' := h5) rfl ?_
              obtain ⟨v40, e41⟩ : ∃ v, ro 4 = v := ⟨_, rfl⟩
              have g39 := eb_rv E6 4
              rw [e41] at g39
              refine wq_al (p' := 73) (n := 14) (ck_9 _ _ rfl) rfl (ib_kr E6.1) (by omega) ((congrFun (eb_ro E6) _).trans e41) ?_
              refine wq_cv (p' := 76) (av_qc (.invokevirtual 115) 6 2 0 0) 3 cd_6 [.inl v40, .inl k1] (b) 0 [some (.inr (.inr (.inl (some (b))))), some (.inl k1), some (.inl v40)] (ck_9 _ _ rfl) rfl rfl pp_6 rfl rfl rfl (congrArg Prod.fst (ib_k0 E6.1)) rfl rfl rfl rfl ?_
              refine cx_6 E6 F7 (k1) (by omega) (v40) (by omega) ?_
              rw [hof_c (a := a0) (X9.2 0 (by omega)) (by omega)]
              obtain ⟨v42, e43⟩ : ∃ v, hw a0 (Int.toNat (k1)) v40 = v := ⟨_, rfl⟩
              have g44 := hw_r H (k := Int.toNat (k1)) (by omega) v40
              rw [e43] at g44
              rw [e43]
              show av_wp _ cd_9 76 [some (.inr (.inr (.inl (some (b))))), some (.inl k1), some (.inl v23), some (.inl (1)), a4] [.inl v42] h5 _
              refine av_wp_sqF ck_9 2 (pc' := 82) (lv' := [some (.inr (.inr (.inl (some (b))))), some (.inl k1), some (.inl v23), some (.inl (1)), some (.inl v42)]) (st' := []) (h' := h5) rfl ?_
              have q45 : hB u ro a0 (Int.toNat k1) = v42 := by
                unfold hB
                rw [if_pos (by omega), e41]
                exact e43
              refine av_wp_sqF ck_9 2 (pc' := 85) (lv' := [some (.inr (.inr (.inl (some (b))))), some (.inl k1), some (.inl v23), some (.inl (1)), some (.inl v42)]) (st' := [.inl (-1), .inl v42]) (h' := h5) rfl ?_
              refine wq_k2 (p' := 88) (ck_9 _ _ rfl) rfl ⟨by omega, by omega⟩ ⟨by omega, by omega⟩ (fun c46 => ?_) (fun c47 => ?_)
              · have c46 : v42 = (-1) := c46
                refine av_wp_sqF ck_9 2 (pc' := 108) (lv' := [some (.inr (.inr (.inl (some (b))))), some (.inl k1), some (.inl v23), some (.inl (1)), some (.inl v42)]) (st' := [.inl (-1), .inl v42]) (h' := h5) rfl ?_
                refine wq_k2 (p' := 111) (ck_9 _ _ rfl) rfl ⟨by omega, by omega⟩ ⟨by omega, by omega⟩ (fun c48 => ?_) (fun c49 => ?_)
                · have c48 : v42 = (-1) := c48
                  refine av_wp_sqF ck_9 2 (pc' := 2) (lv' := [some (.inr (.inr (.inl (some (b))))), some (.inl (k1 + (1))), some (.inl v23), some (.inl (1)), some (.inl v42)]) (st' := []) (h' := h5) rfl ?_
                  exact I12 _ (by omega) ((k1 + (1))) (some (.inl v23)) (some (.inl (1))) (some (.inl v42)) h5 a8 rfl rfl rfl (by omega) (by omega) E6 F7 (by rw [show Int.toNat (k1 + (1)) = Int.toNat k1 + 1 by omega]; exact TBI_n X9 (q45.trans (by omega))) rfl
                · have c49 : v42 ≠ (-1) := c49
                  exfalso; omega
              · have c47 : v42 ≠ (-1) := c47
                refine av_wp_sqF ck_9 1 (pc' := 89) (lv' := [some (.inr (.inr (.inl (some (b))))), some (.inl k1), some (.inl v23), some (.inl (1)), some (.inl v42)]) (st' := [.inr (.inr (.inl (some (b))))]) (h' := h5) rfl ?_
                refine wq_gr (p' := 92) (ck_9 _ _ rfl) rfl (congrArg Prod.fst (ib_k0 E6.1)) rfl (ib_g E6.1 9 rfl) ?_
                refine av_wp_sqF ck_9 2 (pc' := 94) (lv' := [some (.inr (.inr (.inl (some (b))))), some (.inl k1), some (.inl v23), some (.inl (1)), some (.inl v42)]) (st' := [.inr (.inr (.inl (some (b)))), .inl v23, .inr (.inr (.inl (some (b + 1 + 9))))]) (h' := h5) rfl ?_
                refine wq_gr (p' := 97) (ck_9 _ _ rfl) rfl (congrArg Prod.fst (ib_k0 E6.1)) rfl (ib_g E6.1 9 rfl) ?_
                refine av_wp_sqF ck_9 1 (pc' := 98) (lv' := [some (.inr (.inr (.inl (some (b))))), some (.inl k1), some (.inl v23), some (.inl (1)), some (.inl v42)]) (st' := [.inl v23, .inr (.inr (.inl (some (b + 1 + 9)))), .inl v23, .inr (.inr (.inl (some (b + 1 + 9))))]) (h' := h5) rfl ?_
                obtain ⟨v51, e52⟩ : ∃ v, a8 9 (Int.toNat (v23)) = v := ⟨_, rfl⟩
                have y53 := (X9.1 (Int.toNat (v23)) (by omega)).1
                rw [e52] at y53
                have g54 := tbv_r (u := u) (ro := ro) H (Int.toNat (v23)) (Int.toNat k1) (by omega)
                rw [← y53] at g54
                refine wq_al (p' := 99) (n := 12) (ck_9 _ _ rfl) rfl (ib_k E6.1 9 rfl) (by omega) ((congrFun (eb_a E6 9 rfl) _).trans e52) ?_
                refine av_wp_sqF ck_9 1 (pc' := 101) (lv' := [some (.inr (.inr (.inl (some (b))))), some (.inl k1), some (.inl v23), some (.inl (1)), some (.inl v42)]) (st' := [.inl v42, .inl v51, .inl v23, .inr (.inr (.inl (some (b + 1 + 9))))]) (h' := h5) rfl ?_
                refine wq_mn (p' := 104) (ck_9 _ _ rfl) rfl rfl (fun _ _ => rfl) rfl (fun v55 e56 e57 => ?_)
                have e57 := e57 ⟨by omega, by omega⟩ ⟨by omega, by omega⟩
                refine xb_as (p' := 105) (n := 12) rfl rfl E6 F7 9 rfl rfl (by omega) (fun h58 E59 F60 => ?_)
                refine av_wp_sqF ck_9 2 (pc' := 108) (lv' := [some (.inr (.inr (.inl (some (b))))), some (.inl k1), some (.inl v23), some (.inl (1)), some (.inl v42)]) (st' := [.inl (-1), .inl v42]) (h' := h58) rfl ?_
                refine wq_k2 (p' := 111) (ck_9 _ _ rfl) rfl ⟨by omega, by omega⟩ ⟨by omega, by omega⟩ (fun c61 => ?_) (fun c62 => ?_)
                · have c61 : v42 = (-1) := c61
                  exfalso; omega
                · have c62 : v42 ≠ (-1) := c62
                  refine av_wp_sqF ck_9 3 (pc' := 115) (lv' := [some (.inr (.inr (.inl (some (b))))), some (.inl k1), some (.inl v23), some (.inl (1)), some (.inl v42)]) (st' := [.inl v23, .inr (.inr (.inl (some (b)))), .inl v42]) (h' := h58) rfl ?_
                  refine wq_cv (p' := 118) (av_qc (.invokevirtual 125) 10 1 0 0) 3 cd_10 [.inl v23] (b) 0 [some (.inr (.inr (.inl (some (b))))), some (.inl v23), none] (ck_9 _ _ rfl) rfl rfl pp_10 rfl rfl rfl (congrArg Prod.fst (ib_k0 E59.1)) rfl rfl rfl rfl ?_
                  refine cx_10 E59 F60 (v23) (by omega) ?_
                  obtain ⟨v63, e64⟩ : ∃ v, fre u ro (Int.toNat (v23)) = v := ⟨_, rfl⟩
                  have g65 := fre_r E59 (Int.toNat (v23))
                  rw [e64] at g65
                  rw [e64]
                  show av_wp _ cd_9 118 [some (.inr (.inr (.inl (some (b))))), some (.inl k1), some (.inl v23), some (.inl (1)), some (.inl v42)] [.inl v63, .inl v42] h58 _
                  refine wq_k2 (p' := 121) (ck_9 _ _ rfl) rfl ⟨by omega, by omega⟩ ⟨by omega, by omega⟩ (fun c66 => ?_) (fun c67 => ?_)
                  · have c66 : v42 < v63 := c66
                    refine av_wp_sqF ck_9 2 (pc' := 2) (lv' := [some (.inr (.inr (.inl (some (b))))), some (.inl (k1 + (1))), some (.inl v23), some (.inl (1)), some (.inl v42)]) (st' := []) (h' := h58) rfl ?_
                    exact I12 _ (by omega) ((k1 + (1))) (some (.inl v23)) (some (.inl (1))) (some (.inl v42)) h58 (av_u2 a8 9 (Int.toNat (v23)) v55) rfl rfl rfl (by omega) (by omega) E59 F60 (by rw [show Int.toNat (k1 + (1)) = Int.toNat k1 + 1 by omega]; exact TBI_a X9 q45 (by omega) y25 (by omega) (by omega) (by rw [← y53]; unfold mn2; split <;> omega) e64 (by omega)) rfl
                  · have c67 : v63 ≤ v42 := c67
                    refine av_wp_sqF ck_9 5 (pc' := 127) (lv' := [some (.inr (.inr (.inl (some (b))))), some (.inl k1), some (.inl v23), some (.inl (1)), some (.inl v42)]) (st' := [.inl k1, .inl (1), .inl v42, .inl v23, .inr (.inr (.inl (some (b))))]) (h' := h58) rfl ?_
                    refine wq_cv (p' := 130) (av_qc (.invokevirtual 118) 8 4 0 0) 5 cd_8 [.inl k1, .inl (1), .inl v42, .inl v23] (b) 0 [some (.inr (.inr (.inl (some (b))))), some (.inl v23), some (.inl v42), some (.inl (1)), some (.inl k1)] (ck_9 _ _ rfl) rfl rfl pp_8 rfl rfl rfl (congrArg Prod.fst (ib_k0 E59.1)) rfl rfl rfl rfl ?_
                    refine cx_8 E59 F60 (v23) (by omega) (v42) (by omega) ((1)) (by omega) (k1) (by rw [ET3_9 (by decide) (by decide) (by decide), (X9.1 (Int.toNat (v23)) (by omega)).2.1]; exact ebv_r H U2 U1 R9 s12 (by omega) _ (by omega)) (by rw [((av_u2_ne (by decide)).trans (X9.2 2 (by omega)))]; exact (B3 _ (by omega)).1) (fun h68 a69 E70 F71 X72 => ?_)
                    show av_wp _ cd_9 130 [some (.inr (.inr (.inl (some (b))))), some (.inl k1), some (.inl v23), some (.inl (1)), some (.inl v42)] [] h68 _
                    refine av_wp_sqF ck_9 2 (pc' := 2) (lv' := [some (.inr (.inr (.inl (some (b))))), some (.inl (k1 + (1))), some (.inl v23), some (.inl (1)), some (.inl v42)]) (st' := []) (h' := h68) rfl ?_
                    exact I12 _ (by omega) ((k1 + (1))) (some (.inl v23)) (some (.inl (1))) (some (.inl v42)) h68 a69 rfl rfl rfl (by omega) (by omega) E70 F71 (by rw [show Int.toNat (k1 + (1)) = Int.toNat k1 + 1 by omega]; exact TBI_b X9 q45 (by omega) y25 (by omega) (by omega) (by rw [← y53]; unfold mn2; split <;> omega) e64 (by omega) (by omega) X72) rfl
  exact L11 _ ((0)) (none) (none) (none) h a rfl rfl rfl (by omega) (by omega) E F (TBI_0 D) rfl
end
