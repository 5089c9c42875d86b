/-! WHAT A BENCH DECIDES: step by step -/
theorem hof_c {a a' : Nat → Nat → Int} (e : a' 0 = a 0) {k : Int} (hk : 0 ≤ k) (w : Int) : hof a' k w = hw a (Int.toNat k) w := by
  unfold hw hof
  rw [e, Int.toNat_of_nonneg hk]
def OOI (u ro : Nat → Int) (a : Nat → Nat → Int) (k : Nat) (a' : Nat → Nat → Int) : Prop := (∀ q, q < k → a' 9 q = 9999 ∧ a' 10 q = 9999 ∧ a' 5 q = o5 ro a q ∧ ET3 a' q = e0 u ro a q) ∧ ∀ j, j < 5 → a' j = a j
section
variable {u ro : Nat → Int} {a a' a3 : Nat → Nat → Int} {k : Nat} {v v5 w5 c7 h w : Int}
theorem OOI_0 : OOI u ro a 0 a := ⟨fun q hq => absurd hq (by omega), fun _ _ => rfl⟩
theorem oo_E : ET3 (av_u2 (av_u2 (av_u2 (av_u2 (av_u2 (av_u2 a' 9 k 9999) 10 k 9999) 6 k 9999) 7 k 0) 8 k (-1)) 5 k v) k = (9999, 0, -1) := by
  refine Prod.ext ?_ (Prod.ext ?_ ?_)
  · show av_u2 (av_u2 (av_u2 (av_u2 (av_u2 (av_u2 a' 9 k 9999) 10 k 9999) 6 k 9999) 7 k 0) 8 k (-1)) 5 k v 6 k = 9999
    rw [av_u2_ne (i := 5) (by decide), av_u2_ne (i := 8) (by decide), av_u2_ne (i := 7) (by decide), av_u2_self]
  · show av_u2 (av_u2 (av_u2 (av_u2 (av_u2 (av_u2 a' 9 k 9999) 10 k 9999) 6 k 9999) 7 k 0) 8 k (-1)) 5 k v 7 k = 0
    rw [av_u2_ne (i := 5) (by decide), av_u2_ne (i := 8) (by decide), av_u2_self]
  · show av_u2 (av_u2 (av_u2 (av_u2 (av_u2 (av_u2 a' 9 k 9999) 10 k 9999) 6 k 9999) 7 k 0) 8 k (-1)) 5 k v 8 k = -1
    rw [av_u2_ne (i := 5) (by decide), av_u2_self]
theorem OOI_s (x : OOI u ro a k a') (ev : v = o5 ro a k) (E : ET3 a3 k = e0 u ro a k) (N : ∀ q, q ≠ k → ET3 a3 q = ET3 (av_u2 (av_u2 (av_u2 (av_u2 (av_u2 (av_u2 a' 9 k 9999) 10 k 9999) 6 k 9999) 7 k 0) 8 k (-1)) 5 k v) q) (J : ∀ j, j ≠ 6 → j ≠ 7 → j ≠ 8 → a3 j = av_u2 (av_u2 (av_u2 (av_u2 (av_u2 (av_u2 a' 9 k 9999) 10 k 9999) 6 k 9999) 7 k 0) 8 k (-1)) 5 k v j) : OOI u ro a (k + 1) a3 := by
  refine ⟨fun q hq => ?_, fun j hj => ?_⟩
  · have j9 := J 9 (by decide) (by decide) (by decide)
    have j10 := J 10 (by decide) (by decide) (by decide)
    have j5 := J 5 (by decide) (by decide) (by decide)
    rw [j9, j10, j5]
    by_cases c : q = k
    · subst c
      refine ⟨?_, ?_, ?_, E⟩
      · rw [av_u2_ne (i := 5) (by decide), av_u2_ne (i := 8) (by decide), av_u2_ne (i := 7) (by decide), av_u2_ne (i := 6) (by decide), av_u2_ne (i := 10) (by decide), av_u2_self]
      · rw [av_u2_ne (i := 5) (by decide), av_u2_ne (i := 8) (by decide), av_u2_ne (i := 7) (by decide), av_u2_ne (i := 6) (by decide), av_u2_self]
      · rw [av_u2_self, ev]
    · have y := x.1 q (by omega)
      refine ⟨?_, ?_, ?_, ?_⟩
      · rw [av_u2_ne (i := 5) (by decide), av_u2_ne (i := 8) (by decide), av_u2_ne (i := 7) (by decide), av_u2_ne (i := 6) (by decide), av_u2_ne (i := 10) (by decide), av_u2_oth c]
        exact y.1
      · rw [av_u2_ne (i := 5) (by decide), av_u2_ne (i := 8) (by decide), av_u2_ne (i := 7) (by decide), av_u2_ne (i := 6) (by decide), av_u2_oth c, av_u2_ne (i := 9) (by decide)]
        exact y.2.1
      · rw [av_u2_oth c, av_u2_ne (i := 8) (by decide), av_u2_ne (i := 7) (by decide), av_u2_ne (i := 6) (by decide), av_u2_ne (i := 10) (by decide), av_u2_ne (i := 9) (by decide)]
        exact y.2.2.1
      · rw [N q c, ← y.2.2.2]
        unfold ET3
        rw [av_u2_ne (i := 5) (a := 6) (by decide), av_u2_ne (i := 8) (a := 6) (by decide), av_u2_ne (i := 7) (a := 6) (by decide), av_u2_oth (i := 6) c, av_u2_ne (i := 10) (a := 6) (by decide), av_u2_ne (i := 9) (a := 6) (by decide), av_u2_ne (i := 5) (a := 7) (by decide), av_u2_ne (i := 8) (a := 7) (by decide), av_u2_oth (i := 7) c, av_u2_ne (i := 6) (a := 7) (by decide), av_u2_ne (i := 10) (a := 7) (by decide), av_u2_ne (i := 9) (a := 7) (by decide), av_u2_ne (i := 5) (a := 8) (by decide), av_u2_oth (i := 8) c, av_u2_ne (i := 7) (a := 8) (by decide), av_u2_ne (i := 6) (a := 8) (by decide), av_u2_ne (i := 10) (a := 8) (by decide), av_u2_ne (i := 9) (a := 8) (by decide)]
  · rw [J j (by omega) (by omega) (by omega), av_u2_ne (i := 5) (by omega), av_u2_ne (i := 8) (by omega), av_u2_ne (i := 7) (by omega), av_u2_ne (i := 6) (by omega), av_u2_ne (i := 10) (by omega), av_u2_ne (i := 9) (by omega)]
    exact x.2 j hj
theorem oo_2 (x : OOI u ro a k a') : av_u2 (av_u2 (av_u2 (av_u2 (av_u2 (av_u2 a' 9 k 9999) 10 k 9999) 6 k 9999) 7 k 0) 8 k (-1)) 5 k v 2 = a 2 := by
  rw [av_u2_ne (i := 5) (by decide), av_u2_ne (i := 8) (by decide), av_u2_ne (i := 7) (by decide), av_u2_ne (i := 6) (by decide), av_u2_ne (i := 10) (by decide), av_u2_ne (i := 9) (by decide)]
  exact x.2 2 (by omega)
/-- an offer that is held -/
theorem OOI_a (x : OOI u ro a k a') (ev : v = o5 ro a k) (e5 : u (21 * k + 5) = w5) (h5 : w5 ≠ -1) (X : EAX k (w5 + 1) 3 (-1) (av_u2 (av_u2 (av_u2 (av_u2 (av_u2 (av_u2 a' 9 k 9999) 10 k 9999) 6 k 9999) 7 k 0) 8 k (-1)) 5 k v) a3) : OOI u ro a (k + 1) a3 := by
  refine OOI_s x ev ?_ X.2.1 X.2.2
  rw [X.1, oo_E, oo_2 x]
  unfold e0
  rw [e5, if_pos h5]
theorem OOI_b (x : OOI u ro a k a') (ev : v = o5 ro a k) (e5 : u (21 * k + 5) = w5) (h5 : w5 = -1) (e7 : ro 7 = c7) (h7 : c7 ≠ -1) (eh : hw a k 1 = h) (hh : h ≠ -1) (X : EAX k (h + c7 + 1) 4 (-1) (av_u2 (av_u2 (av_u2 (av_u2 (av_u2 (av_u2 a' 9 k 9999) 10 k 9999) 6 k 9999) 7 k 0) 8 k (-1)) 5 k v) a3) : OOI u ro a (k + 1) a3 := by
  refine OOI_s x ev ?_ X.2.1 X.2.2
  rw [X.1, oo_E, oo_2 x]
  unfold e0
  rw [e5, if_neg (fun z => z h5), e7, eh, if_pos ⟨h7, hh⟩]
theorem OOI_c (x : OOI u ro a k a') (ev : v = o5 ro a k) (e5 : u (21 * k + 5) = w5) (h5 : w5 = -1) (e7 : ro 7 = c7) (eh : hw a k 1 = h) (hh : c7 = -1 ∨ h = -1) : OOI u ro a (k + 1) (av_u2 (av_u2 (av_u2 (av_u2 (av_u2 (av_u2 a' 9 k 9999) 10 k 9999) 6 k 9999) 7 k 0) 8 k (-1)) 5 k v) := by
  refine OOI_s x ev ?_ (fun _ _ => rfl) (fun _ _ _ _ => rfl)
  rw [oo_E]
  unfold e0
  rw [e5, if_neg (fun z => z h5), e7, eh, if_neg (fun z => hh.elim z.1 z.2)]
end
/-! taken back -/
def TBI (u ro : Nat → Int) (a : Nat → Nat → Int) (s k : Nat) (a' : Nat → Nat → Int) : Prop := (∀ q, q < s → a' 9 q = tbv u ro a q k ∧ ET3 a' q = ebv u ro a q k ∧ a' 5 q = o5 ro a q ∧ a' 10 q = 9999) ∧ ∀ j, j < 5 → a' j = a j
section
variable {u ro : Nat → Int} {a a' a3 : Nat → Nat → Int} {s k i : Nat} {v h d f : Int}
theorem TBI_0 (x : OOI u ro a s a') : TBI u ro a s 0 a' := ⟨fun q hq => by have y := x.1 q hq; exact ⟨y.1, y.2.2.2, y.2.2.1, y.2.1⟩, x.2⟩
theorem TBI_n (x : TBI u ro a s k a') (e : hB u ro a k = -1) : TBI u ro a s (k + 1) a' := by
  refine ⟨fun q hq => ?_, x.2⟩
  have y := x.1 q hq
  refine ⟨?_, ?_, y.2.2⟩
  · rw [y.1]
    exact (if_neg (fun z => z.1 e)).symm
  · rw [y.2.1]
    exact (if_neg (fun z => z.1 e)).symm
theorem TBI_a (x : TBI u ro a s k a') (eh : hB u ro a k = h) (hh : h ≠ -1) (ed : u (21 * k + 3) = d) (hi : (i : Int) = d) (is : i < s) (ev : v = mn2 (tbv u ro a i k) h) (ef : fre u ro i = f) (hf : h < f) : TBI u ro a s (k + 1) (av_u2 a' 9 i v) := by
  refine ⟨fun q hq => ?_, fun j hj => by rw [av_u2_ne (by omega)]; exact x.2 j hj⟩
  have y := x.1 q hq
  have e3 : ET3 (av_u2 a' 9 i v) q = ET3 a' q := by
    unfold ET3
    rw [av_u2_ne (a := 6) (by decide), av_u2_ne (a := 7) (by decide), av_u2_ne (a := 8) (by decide)]
  refine ⟨?_, ?_, ?_, ?_⟩
  · show av_u2 a' 9 i v 9 q = (if hB u ro a k ≠ -1 ∧ u (21 * k + 3) = (q : Int) then mn2 (tbv u ro a q k) (hB u ro a k) else tbv u ro a q k)
    by_cases c : q = i
    · subst c
      rw [av_u2_self, if_pos ⟨by rw [eh]; exact hh, by rw [ed, hi]⟩, ev, eh]
    · rw [av_u2_oth c, if_neg (fun z => by have := z.2; omega)]
      exact y.1
  · rw [e3, y.2.1]
    refine (if_neg (fun z => ?_)).symm
    have c : q = i := by have := z.2.1; omega
    subst c
    have := z.2.2
    omega
  · rw [av_u2_ne (by decide)]; exact y.2.2.1
  · rw [av_u2_ne (by decide)]; exact y.2.2.2
theorem TBI_b (x : TBI u ro a s k a') (eh : hB u ro a k = h) (hh : h ≠ -1) (ed : u (21 * k + 3) = d) (hi : (i : Int) = d) (is : i < s) (ev : v = mn2 (tbv u ro a i k) h) (ef : fre u ro i = f) (hf : f ≤ h) {b : Int} (hb : b = (k : Int)) (X : EAX i h 1 b (av_u2 a' 9 i v) a3) : TBI u ro a s (k + 1) a3 := by
  subst hb
  have e3 : ∀ q, ET3 (av_u2 a' 9 i v) q = ET3 a' q := fun q => by
    unfold ET3
    rw [av_u2_ne (a := 6) (by decide), av_u2_ne (a := 7) (by decide), av_u2_ne (a := 8) (by decide)]
  refine ⟨fun q hq => ?_, fun j hj => by rw [X.2.2 j (by omega) (by omega) (by omega), av_u2_ne (by omega)]; exact x.2 j hj⟩
  have y := x.1 q hq
  rw [X.2.2 9 (by decide) (by decide) (by decide), X.2.2 5 (by decide) (by decide) (by decide), X.2.2 10 (by decide) (by decide) (by decide)]
  refine ⟨?_, ?_, ?_, ?_⟩
  · show av_u2 a' 9 i v 9 q = (if hB u ro a k ≠ -1 ∧ u (21 * k + 3) = (q : Int) then mn2 (tbv u ro a q k) (hB u ro a k) else tbv u ro a q k)
    by_cases c : q = i
    · subst c
      rw [av_u2_self, if_pos ⟨by rw [eh]; exact hh, by rw [ed, hi]⟩, ev, eh]
    · rw [av_u2_oth c, if_neg (fun z => by have := z.2; omega)]
      exact y.1
  · show ET3 a3 q = (if hB u ro a k ≠ -1 ∧ u (21 * k + 3) = (q : Int) ∧ fre u ro q ≤ hB u ro a k then ea (ebv u ro a q k) (a 2 q) (hB u ro a k) 1 (k : Int) else ebv u ro a q k)
    by_cases c : q = i
    · subst c
      rw [if_pos ⟨by rw [eh]; exact hh, by rw [ed, hi], by rw [ef, eh]; exact hf⟩, X.1, e3, y.2.1, eh, av_u2_ne (a := 2) (by decide), x.2 2 (by omega)]
    · rw [if_neg (fun z => by have := z.2.1; omega), X.2.1 q c, e3]
      exact y.2.1
  · rw [av_u2_ne (by decide)]; exact y.2.2.1
  · rw [av_u2_ne (by decide)]; exact y.2.2.2
end
/-! answered -/
def HAI (u ro : Nat → Int) (a : Nat → Nat → Int) (s k : Nat) (a' : Nat → Nat → Int) : Prop := (∀ q, q < s → a' 9 q = tbv u ro a q s ∧ ET3 a' q = eav u ro a s q k ∧ a' 5 q = o5 ro a q ∧ a' 10 q = awv u a q k) ∧ ∀ j, j < 5 → a' j = a j
section
variable {u ro : Nat → Int} {a a' a3 : Nat → Nat → Int} {s k i : Nat} {v h d : Int}
theorem HAI_0 (x : TBI u ro a s s a') : HAI u ro a s 0 a' := ⟨fun q hq => by have y := x.1 q hq; exact ⟨y.1, y.2.1, y.2.2.1, y.2.2.2⟩, x.2⟩
theorem HAI_n (x : HAI u ro a s k a') (e : ans u k = 0) : HAI u ro a s (k + 1) a' := by
  refine ⟨fun q hq => ?_, x.2⟩
  have y := x.1 q hq
  refine ⟨y.1, ?_, y.2.2.1, ?_⟩
  · rw [y.2.1]
    exact (if_neg (fun z => by have := z.1; omega)).symm
  · rw [y.2.2.2]
    exact (if_neg (fun z => by have := z.1; omega)).symm
theorem HAI_a (x : HAI u ro a s k a') (e : ans u k = 1) (ed : u (21 * k + 3) = d) (hi : (i : Int) = d) (is : i < s) (ev : v = mn2 (awv u a i k) (hw a k 0)) (hf : ¬ (u (21 * k + 0) = 4 ∨ a 2 k ≠ 0)) : HAI u ro a s (k + 1) (av_u2 a' 10 i v) := by
  refine ⟨fun q hq => ?_, fun j hj => by rw [av_u2_ne (by omega)]; exact x.2 j hj⟩
  have y := x.1 q hq
  have e3 : ET3 (av_u2 a' 10 i v) q = ET3 a' q := by
    unfold ET3
    rw [av_u2_ne (a := 6) (by decide), av_u2_ne (a := 7) (by decide), av_u2_ne (a := 8) (by decide)]
  refine ⟨?_, ?_, ?_, ?_⟩
  · rw [av_u2_ne (by decide)]; exact y.1
  · rw [e3, y.2.1]
    exact (if_neg (fun z => hf z.2.2)).symm
  · rw [av_u2_ne (by decide)]; exact y.2.2.1
  · show av_u2 a' 10 i v 10 q = (if ans u k = 1 ∧ u (21 * k + 3) = (q : Int) then mn2 (awv u a q k) (hw a k 0) else awv u a q k)
    by_cases c : q = i
    · subst c
      rw [av_u2_self, if_pos ⟨e, by rw [ed, hi]⟩, ev]
    · rw [av_u2_oth c, if_neg (fun z => by have := z.2; omega)]
      exact y.2.2.2
theorem HAI_b (x : HAI u ro a s k a') (e : ans u k = 1) (ed : u (21 * k + 3) = d) (hi : (i : Int) = d) (is : i < s) (ev : v = mn2 (awv u a i k) (hw a k 0)) (hf : u (21 * k + 0) = 4 ∨ a 2 k ≠ 0) (eh : hw a k (ro 5) = h) {b : Int} (hb : b = (k : Int)) (X : EAX i h 2 b (av_u2 a' 10 i v) a3) : HAI u ro a s (k + 1) a3 := by
  subst hb
  have e3 : ∀ q, ET3 (av_u2 a' 10 i v) q = ET3 a' q := fun q => by
    unfold ET3
    rw [av_u2_ne (a := 6) (by decide), av_u2_ne (a := 7) (by decide), av_u2_ne (a := 8) (by decide)]
  refine ⟨fun q hq => ?_, fun j hj => by rw [X.2.2 j (by omega) (by omega) (by omega), av_u2_ne (by omega)]; exact x.2 j hj⟩
  have y := x.1 q hq
  rw [X.2.2 9 (by decide) (by decide) (by decide), X.2.2 5 (by decide) (by decide) (by decide), X.2.2 10 (by decide) (by decide) (by decide)]
  refine ⟨?_, ?_, ?_, ?_⟩
  · rw [av_u2_ne (by decide)]; exact y.1
  · show ET3 a3 q = (if ans u k = 1 ∧ u (21 * k + 3) = (q : Int) ∧ (u (21 * k + 0) = 4 ∨ a 2 k ≠ 0) then ea (eav u ro a s q k) (a 2 q) (hw a k (ro 5)) 2 (k : Int) else eav u ro a s q k)
    by_cases c : q = i
    · subst c
      rw [if_pos ⟨e, by rw [ed, hi], hf⟩, X.1, e3, y.2.1, eh, av_u2_ne (a := 2) (by decide), x.2 2 (by omega)]
    · rw [if_neg (fun z => by have := z.2.1; omega), X.2.1 q c, e3]
      exact y.2.1
  · rw [av_u2_ne (by decide)]; exact y.2.2.1
  · show av_u2 a' 10 i v 10 q = (if ans u k = 1 ∧ u (21 * k + 3) = (q : Int) then mn2 (awv u a q k) (hw a k 0) else awv u a q k)
    by_cases c : q = i
    · subst c
      rw [av_u2_self, if_pos ⟨e, by rw [ed, hi]⟩, ev]
    · rw [av_u2_oth c, if_neg (fun z => by have := z.2; omega)]
      exact y.2.2.2
end
/-- a bench that has decided, but for the bargain -/
def DEC (u ro : Nat → Int) (a : Nat → Nat → Int) (s : Nat) (a' : Nat → Nat → Int) : Prop := HAI u ro a s s a'
def BZ (s : Nat) (a : Nat → Nat → Int) : Prop := ∀ q, q < s → (0 ≤ a 2 q ∧ a 2 q ≤ 1) ∧ (0 ≤ a 3 q ∧ a 3 q ≤ 1) ∧ (0 ≤ a 4 q ∧ a 4 q ≤ 1)
theorem TR_0 : TR ((9999, 0, -1) : T3) := by
  refine ⟨?_, ?_, ?_⟩
  · show (-1 : Int) ≤ 9999 ∧ (9999 : Int) ≤ 9999; omega
  · show (0 : Int) ≤ 0 ∧ (0 : Int) ≤ 4; omega
  · show (-1 : Int) ≤ -1 ∧ (-1 : Int) ≤ 12; omega
theorem ET3_9 {a : Nat → Nat → Int} {j i q : Nat} {v : Int} (h6 : 6 ≠ j) (h7 : 7 ≠ j) (h8 : 8 ≠ j) : ET3 (av_u2 a j i v) q = ET3 a q := by
  unfold ET3
  rw [av_u2_ne h6, av_u2_ne h7, av_u2_ne h8]
section
variable {u ro : Nat → Int} {a : Nat → Nat → Int} {s k : Nat} {t : T3}
theorem yv_n (e : yv u ro a s k = t) (h : ¬ yc u ro a s k t.2.2 = 1) : yv u ro a s (k + 1) = t := by
  show (if yc u ro a s k (yv u ro a s k).2.2 = 1 then ((k : Int), u (21 * k + 3), hw a k (yw u ro k)) else yv u ro a s k) = t
  rw [e, if_neg h]
theorem yv_y {d h : Int} (e : yv u ro a s k = t) (h1 : yc u ro a s k t.2.2 = 1) (ed : u (21 * k + 3) = d) (eh : hw a k (yw u ro k) = h) : yv u ro a s (k + 1) = ((k : Int), d, h) := by
  show (if yc u ro a s k (yv u ro a s k).2.2 = 1 then ((k : Int), u (21 * k + 3), hw a k (yw u ro k)) else yv u ro a s k) = _
  rw [e, if_pos h1, ed, eh]
theorem sv_n (e : sv u ro a s k = t) (h : ¬ slc u ro a s k t.2.2 = 1) : sv u ro a s (k + 1) = t := by
  show (if slc u ro a s k (sv u ro a s k).2.2 = 1 then (-1, (k : Int), hw a k 2 + ro 8) else sv u ro a s k) = t
  rw [e, if_neg h]
theorem sv_y {r h : Int} (e : sv u ro a s k = t) (h1 : slc u ro a s k t.2.2 = 1) (eh : hw a k 2 = r) (e8 : ro 8 = h) : sv u ro a s (k + 1) = (-1, (k : Int), r + h) := by
  show (if slc u ro a s k (sv u ro a s k).2.2 = 1 then (-1, (k : Int), hw a k 2 + ro 8) else sv u ro a s k) = _
  rw [e, if_pos h1, eh, e8]
/-- a bargain's parts -/
def MBR (t : T3) : Prop := (-1 ≤ t.1 ∧ t.1 ≤ 11) ∧ (-1 ≤ t.2.1 ∧ t.2.1 ≤ 11) ∧ (-1 ≤ t.2.2 ∧ t.2.2 ≤ 9999)
theorem yv_r (H : HBd s a) (hs : s ≤ 12) : ∀ k, k ≤ s → MBR (yv u ro a s k) := by
  intro k
  induction k with
  | zero =>
    intro _
    refine ⟨?_, ?_, ?_⟩
    · show (-1 : Int) ≤ -1 ∧ (-1 : Int) ≤ 11; omega
    · show (-1 : Int) ≤ -1 ∧ (-1 : Int) ≤ 11; omega
    · show (-1 : Int) ≤ 9999 ∧ (9999 : Int) ≤ 9999; omega
  | succ k ih =>
    intro hk
    show MBR (if yc u ro a s k (yv u ro a s k).2.2 = 1 then ((k : Int), u (21 * k + 3), hw a k (yw u ro k)) else yv u ro a s k)
    split
    · next z =>
      unfold yc at z
      split at z
      · next y =>
        have h := hw_r H (show k < s by omega) (yw u ro k)
        refine ⟨?_, ?_, ?_⟩
        · show (-1 : Int) ≤ (k : Int) ∧ (k : Int) ≤ 11; omega
        · show -1 ≤ u (21 * k + 3) ∧ u (21 * k + 3) ≤ 11; omega
        · show -1 ≤ hw a k (yw u ro k) ∧ hw a k (yw u ro k) ≤ 9999; omega
      · omega
    · exact ih (by omega)
theorem sv_r (H : HBd s a) (hr : ∀ j, -2 ≤ ro j ∧ ro j ≤ 999) (h8 : -1 ≤ ro 8) (hs : s ≤ 12) : ∀ k, k ≤ s → MBR (sv u ro a s k) := by
  intro k
  induction k with
  | zero => intro _; exact yv_r H hs s (Nat.le_refl s)
  | succ k ih =>
    intro hk
    show MBR (if slc u ro a s k (sv u ro a s k).2.2 = 1 then (-1, (k : Int), hw a k 2 + ro 8) else sv u ro a s k)
    split
    · next z =>
      unfold slc at z
      split at z
      · next y =>
        have h := hw_r H (show k < s by omega) 2
        have r8 := hr 8
        refine ⟨?_, ?_, ?_⟩
        · show (-1 : Int) ≤ -1 ∧ (-1 : Int) ≤ 11; omega
        · show (-1 : Int) ≤ (k : Int) ∧ (k : Int) ≤ 11; omega
        · show -1 ≤ hw a k 2 + ro 8 ∧ hw a k 2 + ro 8 ≤ 9999; omega
      · omega
    · exact ih (by omega)
end
theorem fre_r {b t c s r : Nat} {cb : Int} {u ro : Nat → Int} {a : Nat → Nat → Int} {x y z : Int} {h : av_H} (e : EB b t c s r cb u ro a x y z h) (q : Nat) : 0 ≤ fre u ro q ∧ fre u ro q ≤ 100001 := by
  have := eb_uv e (21 * q + 5)
  unfold fre
  split <;> omega
theorem yw_r {b t c s r : Nat} {cb : Int} {u ro : Nat → Int} {a : Nat → Nat → Int} {x y z : Int} {h : av_H} (e : EB b t c s r cb u ro a x y z h) (q : Nat) : -2 ≤ yw u ro q ∧ yw u ro q ≤ 999 := by
  have h2 := eb_rv e 2
  have h3 := eb_rv e (u (21 * q + 4)).toNat
  unfold yw
  split
  · omega
  · split <;> omega
theorem opn_r (f e h : Int) : 0 ≤ opn f e h ∧ opn f e h ≤ 1 := by
  unfold opn
  split <;> omega
theorem MBR_0 : MBR ((-1, -1, 9999) : T3) := by
  refine ⟨?_, ?_, ?_⟩
  · show (-1 : Int) ≤ -1 ∧ (-1 : Int) ≤ 11; omega
  · show (-1 : Int) ≤ -1 ∧ (-1 : Int) ≤ 11; omega
  · show (-1 : Int) ≤ 9999 ∧ (9999 : Int) ≤ 9999; omega
theorem HBd_x {u : Nat → Int} {s : Nat} {x : Int} {a : Nat → Nat → Int} (X : HX u s x a) (hb : ∀ k, k < s → ∀ i, i < 3 → -1 ≤ hrv u x k i ∧ hrv u x k i ≤ 5000) : HBd s a := fun k hk i hi => by
  rw [X k hk i hi]
  exact hb k hk i hi
theorem BZ_j {s : Nat} {a a1 : Nat → Nat → Int} (B : BZ s a) (J : ∀ j, 2 ≤ j → a1 j = a j) : BZ s a1 := fun q hq => by
  rw [J 2 (by omega), J 3 (by omega), J 4 (by omega)]
  exact B q hq
theorem HZ_c {u : Nat → Int} {a a' : Nat → Nat → Int} (Z : HZ u a) (J : ∀ j, j < 5 → a' j = a j) : HZ u a' := fun q hq => by
  unfold HO
  rw [J 0 (by omega), J 1 (by omega)]
  exact Z q hq
