/-! WHAT A HAND CAN DO AT AN HOUR, AND UNTIL WHEN -/
/-- what a look answers, as a relation that tells it -/
def RSR (ok : Prop) (d : Int) (P : Int → Prop) (v : Int) : Prop := (ok ∧ P v) ∨ (¬ ok ∧ v = d)
theorem RSR_u {ok : Prop} {d v w : Int} {P : Int → Prop} (u : ∀ v w, P v → P w → v = w) (x : RSR ok d P v) (y : RSR ok d P w) : v = w := by
  rcases x with x | x <;> rcases y with y | y
  · exact u v w x.2 y.2
  · exact absurd x.1 y.1
  · exact absurd y.1 x.1
  · exact x.2.trans y.2.symm
def mx2 (x y : Int) : Int := if x < y then y else x
/-- from when on: the offer is there, its from, whose it is, free from, come -/
def mfr (of f c fr cm hand w : Int) : Int := if of ≠ 0 ∧ f ≠ -1 ∧ c = hand then (if w = 1 then mx2 f fr else if cm = -1 then 9999 else mx2 f cm) else 9999
def mtv (e ma : Int) : Int := mn2 e ma - 1
def MYX (u ro : Nat → Int) (a : Nat → Nat → Int) (s : Nat) (ma hand w : Int) (k : Nat) (t : Int) : Prop := mfr (a 2 k) (o5 ro a k) (u (21 * k + w.toNat)) (fre u ro k) (hw a k 1) hand w ≤ t ∧ t ≤ mtv (eav u ro a s k s).1 ma
def MYE (u ro : Nat → Int) (a : Nat → Nat → Int) (s : Nat) (ma hand w t : Int) : Prop := ∃ k, k < s ∧ MYX u ro a s ma hand w k t
/-- can -/
def CNV (u ro : Nat → Int) (a : Nat → Nat → Int) (s : Nat) (ma hand t v : Int) : Prop := ((v = 1 ∨ v = 3) ↔ MYE u ro a s ma hand 1 t) ∧ ((v = 2 ∨ v = 3) ↔ MYE u ro a s ma hand 2 t) ∧ 0 ≤ v ∧ v ≤ 3
theorem CNV_u {u ro : Nat → Int} {a : Nat → Nat → Int} {s : Nat} {ma hand t v w : Int} (x : CNV u ro a s ma hand t v) (y : CNV u ro a s ma hand t w) : v = w := by
  obtain ⟨x1, x2, x3⟩ := x
  obtain ⟨y1, y2, y3⟩ := y
  have h1 := x1.trans y1.symm
  have h2 := x2.trans y2.symm
  omega
/-- until -/
def UNV (u ro : Nat → Int) (a : Nat → Nat → Int) (s : Nat) (ma hand w v : Int) : Prop := (-1 ≤ v ∧ v ≤ 9998) ∧ (0 ≤ v → MYE u ro a s ma hand w v) ∧ ∀ t, v < t → 0 ≤ t → t ≤ 9998 → ¬ MYE u ro a s ma hand w t
theorem UNV_u {u ro : Nat → Int} {a : Nat → Nat → Int} {s : Nat} {ma hand w v z : Int} (x : UNV u ro a s ma hand w v) (y : UNV u ro a s ma hand w z) : v = z := by
  obtain ⟨x1, x2, x3⟩ := x
  obtain ⟨y1, y2, y3⟩ := y
  rcases (show v = z ∨ v < z ∨ z < v by omega) with e | e | e
  · exact e
  · exact absurd (y2 (by omega)) (x3 z e (by omega) (by omega))
  · exact absurd (x2 (by omega)) (y3 v e (by omega) (by omega))
/-- a bench's rows say so -/
def DDA (u ro : Nat → Int) (a a0 : Nat → Nat → Int) (s : Nat) : Prop := ∀ k, k < s → a 2 k = a0 2 k ∧ a 5 k = o5 ro a0 k ∧ a 6 k = (eav u ro a0 s k s).1 ∧ hw a k 1 = hw a0 k 1
theorem DDA_of {u ro bar : Nat → Int} {s : Nat} {x : Int} {a : Nat → Nat → Int} (hs : s ≤ 12) (T : TKR u ro bar s a) (D : DCD u ro bar s x a) : DDA u ro a (arr u ro bar x) s := fun k hk => by
  have g := arr_g hs D.1 T
  exact ⟨(g k hk).2.1, (D.2 k hk).2.2.1, congrArg Prod.fst (D.2 k hk).2.1, hw_g g hk 1⟩
section
variable {u ro : Nat → Int} {a a0 : Nat → Nat → Int} {s : Nat}
theorem DDA_m (D : DDA u ro a a0 s) {k : Nat} (hk : k < s) {ma hand w t : Int} : (mfr (a 2 k) (a 5 k) (u (21 * k + w.toNat)) (fre u ro k) (hw a k 1) hand w ≤ t ∧ t ≤ mtv (a 6 k) ma) ↔ MYX u ro a0 s ma hand w k t := by
  obtain ⟨d1, d2, d3, d4⟩ := D k hk
  rw [d1, d2, d3, d4]
  exact Iff.rfl
/-- the last hour of those that there are -/
def utv (u ro : Nat → Int) (a : Nat → Nat → Int) (ma hand w : Int) : Nat → Int
  | 0 => -1
  | k + 1 => if mfr (a 2 k) (a 5 k) (u (21 * k + w.toNat)) (fre u ro k) (hw a k 1) hand w ≤ mtv (a 6 k) ma then mx2 (utv u ro a ma hand w k) (mtv (a 6 k) ma) else utv u ro a ma hand w k
end
theorem mtv_le {e ma : Int} (h : ma ≤ 9999) : mtv e ma ≤ 9998 := by
  unfold mtv mn2
  split <;> omega
theorem mfr_0 {of f c fr cm hand w : Int} (hf : -1 ≤ f) : 0 ≤ mfr of f c fr cm hand w := by
  unfold mfr mx2
  (repeat' split) <;> omega
theorem utv_u {u ro : Nat → Int} {a a0 : Nat → Nat → Int} {s : Nat} {ma hand w : Int} (D : DDA u ro a a0 s) (hm : ma ≤ 9999) (h5 : ∀ k, k < s → -1 ≤ a 5 k) : UNV u ro a0 s ma hand w (utv u ro a ma hand w s) := by
  have key : ∀ k, k ≤ s → (-1 ≤ utv u ro a ma hand w k ∧ utv u ro a ma hand w k ≤ 9998) ∧ (0 ≤ utv u ro a ma hand w k → ∃ q, q < k ∧ MYX u ro a0 s ma hand w q (utv u ro a ma hand w k)) ∧ ∀ t, utv u ro a ma hand w k < t → ∀ q, q < k → ¬ MYX u ro a0 s ma hand w q t := by
    intro k
    induction k with
    | zero => intro _; exact ⟨⟨by show (-1 : Int) ≤ -1; omega, by show (-1 : Int) ≤ 9998; omega⟩, fun z => by have z : (0 : Int) ≤ -1 := z; omega, fun t _ q hq => by omega⟩
    | succ k ih =>
      intro hk
      obtain ⟨i1, i2, i3⟩ := ih (by omega)
      have dm := fun t => DDA_m D (k := k) (by omega) (ma := ma) (hand := hand) (w := w) (t := t)
      have f0 := mfr_0 (of := a 2 k) (c := u (21 * k + w.toNat)) (fr := fre u ro k) (cm := hw a k 1) (hand := hand) (w := w) (h5 k (by omega))
      have l := mtv_le (e := a 6 k) hm
      have e : utv u ro a ma hand w (k + 1) = if mfr (a 2 k) (a 5 k) (u (21 * k + w.toNat)) (fre u ro k) (hw a k 1) hand w ≤ mtv (a 6 k) ma then mx2 (utv u ro a ma hand w k) (mtv (a 6 k) ma) else utv u ro a ma hand w k := rfl
      rw [e]
      generalize mfr (a 2 k) (a 5 k) (u (21 * k + w.toNat)) (fre u ro k) (hw a k 1) hand w = F at dm f0
      generalize mtv (a 6 k) ma = T at dm l
      generalize utv u ro a ma hand w k = V at i1 i2 i3
      split
      · next c =>
        unfold mx2
        split
        · next d =>
          refine ⟨by omega, fun _ => ⟨k, by omega, (dm T).mp ⟨c, Int.le_refl T⟩⟩, fun t ht q hq => ?_⟩
          by_cases e : q = k
          · subst e
            exact fun z => by have := (dm t).mpr z; omega
          · exact i3 t (by omega) q (by omega)
        · next d =>
          refine ⟨i1, fun z => ?_, fun t ht q hq => ?_⟩
          · obtain ⟨q, q1, q2⟩ := i2 z
            exact ⟨q, by omega, q2⟩
          · by_cases e : q = k
            · subst e
              exact fun z => by have := (dm t).mpr z; omega
            · exact i3 t ht q (by omega)
      · next c =>
        refine ⟨i1, fun z => ?_, fun t ht q hq => ?_⟩
        · obtain ⟨q, q1, q2⟩ := i2 z
          exact ⟨q, by omega, q2⟩
        · by_cases e : q = k
          · subst e
            exact fun z => by have := (dm t).mpr z; omega
          · exact i3 t ht q (by omega)
  obtain ⟨k1, k2, k3⟩ := key s (Nat.le_refl s)
  exact ⟨k1, k2, fun t h1 _ _ z => by
    obtain ⟨q, q1, q2⟩ := z
    exact k3 t h1 q q1 q2⟩
theorem utv_n {u ro : Nat → Int} {a : Nat → Nat → Int} {ma hand w x y : Int} {k : Nat} (e1 : x = mfr (a 2 k) (a 5 k) (u (21 * k + w.toNat)) (fre u ro k) (hw a k 1) hand w) (e2 : y = mtv (a 6 k) ma) (c : y < x) : utv u ro a ma hand w (k + 1) = utv u ro a ma hand w k := by
  have h : utv u ro a ma hand w (k + 1) = if mfr (a 2 k) (a 5 k) (u (21 * k + w.toNat)) (fre u ro k) (hw a k 1) hand w ≤ mtv (a 6 k) ma then mx2 (utv u ro a ma hand w k) (mtv (a 6 k) ma) else utv u ro a ma hand w k := rfl
  rw [h, ← e1, ← e2, if_neg (by omega)]
theorem utv_y {u ro : Nat → Int} {a : Nat → Nat → Int} {ma hand w x y : Int} {k : Nat} (e1 : x = mfr (a 2 k) (a 5 k) (u (21 * k + w.toNat)) (fre u ro k) (hw a k 1) hand w) (e2 : y = mtv (a 6 k) ma) (c : x ≤ y) : utv u ro a ma hand w (k + 1) = mx2 (utv u ro a ma hand w k) y := by
  have h : utv u ro a ma hand w (k + 1) = if mfr (a 2 k) (a 5 k) (u (21 * k + w.toNat)) (fre u ro k) (hw a k 1) hand w ≤ mtv (a 6 k) ma then mx2 (utv u ro a ma hand w k) (mtv (a 6 k) ma) else utv u ro a ma hand w k := rfl
  rw [h, ← e1, ← e2, if_pos c]
theorem CNV_of {u ro : Nat → Int} {a : Nat → Nat → Int} {s : Nat} {ma hand t v x y : Int} (p : (x = 1 ∧ MYE u ro a s ma hand 1 t) ∨ (x = 0 ∧ ¬ MYE u ro a s ma hand 1 t)) (q : (y = 1 ∧ MYE u ro a s ma hand 2 t) ∨ (y = 0 ∧ ¬ MYE u ro a s ma hand 2 t)) (e : v = x + 2 * y) : CNV u ro a s ma hand t v := by
  unfold CNV
  generalize MYE u ro a s ma hand 1 t = A at p ⊢
  generalize MYE u ro a s ma hand 2 t = B at q ⊢
  rcases p with p | p <;> rcases q with q | q
  · exact ⟨⟨fun _ => p.2, fun _ => by omega⟩, ⟨fun _ => q.2, fun _ => by omega⟩, by omega, by omega⟩
  · exact ⟨⟨fun _ => p.2, fun _ => by omega⟩, ⟨fun z => by omega, fun z => absurd z q.2⟩, by omega, by omega⟩
  · exact ⟨⟨fun z => by omega, fun z => absurd z p.2⟩, ⟨fun _ => q.2, fun _ => by omega⟩, by omega, by omega⟩
  · exact ⟨⟨fun z => by omega, fun z => absurd z p.2⟩, ⟨fun z => by omega, fun z => absurd z q.2⟩, by omega, by omega⟩
/-! the reference asks each offer -/
section
variable {u ro : Nat → Int} {a : Nat → Nat → Int} {s : Nat} {ma hand t : Int} {k : Nat}
theorem my1 (ht : 0 ≤ t ∧ t ≤ 9998) (hr : 0 ≤ ro 6 ∧ ro 6 ≤ 1) (h5 : -1 ≤ o5 ro a k) : MYX u ro a s ma hand 1 k t ↔ (a 2 k ≠ 0 ∧ o5 ro a k ≠ -1 ∧ u (21 * k + 1) = hand ∧ o5 ro a k ≤ t ∧ (u (21 * k + 5) = -1 ∨ ro 6 = 0 ∨ u (21 * k + 5) < t) ∧ t < (eav u ro a s k s).1 ∧ t < ma) := by
  show (mfr (a 2 k) (o5 ro a k) (u (21 * k + 1)) (fre u ro k) (hw a k 1) hand 1 ≤ t ∧ t ≤ mtv (eav u ro a s k s).1 ma) ↔ _
  unfold mfr mx2 fre mtv mn2
  generalize o5 ro a k = f at h5 ⊢
  generalize (eav u ro a s k s).1 = e
  generalize u (21 * k + 1) = c
  generalize u (21 * k + 5) = o
  generalize a 2 k = b
  generalize ro 6 = r at hr ⊢
  rw [if_pos (show (1 : Int) = 1 from rfl)]
  by_cases c1 : b ≠ 0 ∧ f ≠ -1 ∧ c = hand
  · rw [if_pos c1]
    by_cases c2 : o ≠ -1 ∧ r = 1
    · rw [if_pos c2]
      (repeat' split) <;> omega
    · rw [if_neg c2]
      (repeat' split) <;> omega
  · rw [if_neg c1]
    (repeat' split) <;> omega
theorem my2 (ht : 0 ≤ t ∧ t ≤ 9998) (h5 : -1 ≤ o5 ro a k) : MYX u ro a s ma hand 2 k t ↔ (a 2 k ≠ 0 ∧ o5 ro a k ≠ -1 ∧ u (21 * k + 2) = hand ∧ o5 ro a k ≤ t ∧ hw a k 1 ≠ -1 ∧ hw a k 1 ≤ t ∧ t < (eav u ro a s k s).1 ∧ t < ma) := by
  show (mfr (a 2 k) (o5 ro a k) (u (21 * k + 2)) (fre u ro k) (hw a k 1) hand 2 ≤ t ∧ t ≤ mtv (eav u ro a s k s).1 ma) ↔ _
  unfold mfr mx2 mtv mn2
  generalize o5 ro a k = f at h5 ⊢
  generalize (eav u ro a s k s).1 = e
  generalize u (21 * k + 2) = c
  generalize hw a k 1 = o
  generalize a 2 k = b
  generalize fre u ro k = r
  rw [if_neg (show ¬ (2 : Int) = 1 by decide)]
  by_cases c1 : b ≠ 0 ∧ f ≠ -1 ∧ c = hand
  · rw [if_pos c1]
    (repeat' split) <;> omega
  · rw [if_neg c1]
    (repeat' split) <;> omega
def CNI (u ro : Nat → Int) (a : Nat → Nat → Int) (s : Nat) (ma hand t : Int) (k : Nat) (v : Int) : Prop := ((v = 1 ∨ v = 3) ↔ ∃ q, q < k ∧ MYX u ro a s ma hand 1 q t) ∧ ((v = 2 ∨ v = 3) ↔ ∃ q, q < k ∧ MYX u ro a s ma hand 2 q t) ∧ 0 ≤ v ∧ v ≤ 3
theorem CNI_0 : CNI u ro a s ma hand t 0 0 := ⟨⟨fun z => by omega, fun ⟨q, h, _⟩ => by omega⟩, ⟨fun z => by omega, fun ⟨q, h, _⟩ => by omega⟩, by omega, by omega⟩
theorem ex_s {P : Nat → Prop} {A : Prop} (h : A ↔ ∃ q, q < k ∧ P q) : (A ∨ P k) ↔ ∃ q, q < k + 1 ∧ P q := by
  rw [h]
  constructor
  · rintro (⟨q, q1, q2⟩ | z)
    · exact ⟨q, by omega, q2⟩
    · exact ⟨k, by omega, z⟩
  · rintro ⟨q, q1, q2⟩
    by_cases e : q = k
    · rw [e] at q2
      exact Or.inr q2
    · exact Or.inl ⟨q, by omega, q2⟩
theorem CNI_s {v v' : Int} {P1 P2 : Prop} (x : CNI u ro a s ma hand t k v) (a1 : MYX u ro a s ma hand 1 k t ↔ P1) (a2 : MYX u ro a s ma hand 2 k t ↔ P2) (h1 : (v' = 1 ∨ v' = 3) ↔ ((v = 1 ∨ v = 3) ∨ P1)) (h2 : (v' = 2 ∨ v' = 3) ↔ ((v = 2 ∨ v = 3) ∨ P2)) (h3 : 0 ≤ v' ∧ v' ≤ 3) : CNI u ro a s ma hand t (k + 1) v' := by
  refine ⟨?_, ?_, h3⟩
  · rw [h1, ← a1]
    exact ex_s x.1
  · rw [h2, ← a2]
    exact ex_s x.2.1
/-- no offer is open behind the bargain -/
theorem CNV_9 (h : ma ≤ t) : CNV u ro a s ma hand t 0 := by
  have n : ∀ w, ¬ MYE u ro a s ma hand w t := fun w ⟨q, _, z⟩ => by
    have := z.2
    unfold mtv mn2 at this
    split at this <;> omega
  exact ⟨⟨fun z => by omega, fun z => absurd z (n 1)⟩, ⟨fun z => by omega, fun z => absurd z (n 2)⟩, by omega, by omega⟩
end
theorem or_1 {x : Int} (h : 0 ≤ x ∧ x ≤ 3) : (0 ≤ av_or x (1) ∧ av_or x (1) ≤ 3) ∧ (((x = 0 ∨ x = 2) ∧ av_or x (1) = x + 1) ∨ ((x = 1 ∨ x = 3) ∧ av_or x (1) = x)) := by
  rcases (show x = 0 ∨ x = 1 ∨ x = 2 ∨ x = 3 by omega) with e | e | e | e <;> subst e <;> decide +kernel
theorem or_2 {x : Int} (h : 0 ≤ x ∧ x ≤ 3) : (0 ≤ av_or x (2) ∧ av_or x (2) ≤ 3) ∧ (((x = 0 ∨ x = 1) ∧ av_or x (2) = x + 2) ∨ ((x = 2 ∨ x = 3) ∧ av_or x (2) = x)) := by
  rcases (show x = 0 ∨ x = 1 ∨ x = 2 ∨ x = 3 by omega) with e | e | e | e <;> subst e <;> decide +kernel
theorem and_w {v w : Int} (hv : 0 ≤ v ∧ v ≤ 3) (hw : 1 ≤ w ∧ w ≤ 2) : (0 ≤ av_and v w ∧ av_and v w ≤ 2) ∧ ((w = 1 ∧ (v = 1 ∨ v = 3) ∧ av_and v w ≠ 0) ∨ (w = 1 ∧ (v = 0 ∨ v = 2) ∧ av_and v w = 0) ∨ (w = 2 ∧ (v = 2 ∨ v = 3) ∧ av_and v w ≠ 0) ∨ (w = 2 ∧ (v = 0 ∨ v = 1) ∧ av_and v w = 0)) := by
  rcases (show v = 0 ∨ v = 1 ∨ v = 2 ∨ v = 3 by omega) with e | e | e | e <;> subst e <;> rcases (show w = 1 ∨ w = 2 by omega) with d | d <;> subst d <;> decide +kernel
theorem mfr_b {of f c fr cm hand w : Int} (hf : -1 ≤ f ∧ f ≤ 9999) (hfr : 0 ≤ fr ∧ fr ≤ 100001) (hc : -1 ≤ cm ∧ cm ≤ 5000) : -1 ≤ mfr of f c fr cm hand w ∧ mfr of f c fr cm hand w ≤ 100001 := by
  unfold mfr mx2
  (repeat' split) <;> omega
theorem mtv_b {e ma : Int} (he : -1 ≤ e ∧ e ≤ 9999) (qm : -1 ≤ ma ∧ ma ≤ 9999) : -2 ≤ mtv e ma ∧ mtv e ma ≤ 9998 := by
  unfold mtv mn2
  split <;> omega
theorem opR_d {f e y v : Int} (p : v = opR f e y) : (v = 1 ∧ 0 ≤ f ∧ f ≤ y ∧ y < e) ∨ (v = 0 ∧ (f < 0 ∨ y < f ∨ e ≤ y)) := by
  unfold opR at p
  split at p <;> omega
theorem cnv_n {u ro : Nat → Int} {a : Nat → Nat → Int} {s : Nat} {ma hand t v w : Int} (x : CNV u ro a s ma hand t v) (h : (w = 1 ∧ v ≠ 1 ∧ v ≠ 3) ∨ (w = 2 ∧ v ≠ 2 ∧ v ≠ 3)) : ¬ MYE u ro a s ma hand w t := fun z => by
  rcases h with h | h
  · rw [h.1] at z
    have := x.1.mpr z
    omega
  · rw [h.1] at z
    have := x.2.1.mpr z
    omega
theorem cnv_y {u ro : Nat → Int} {a : Nat → Nat → Int} {s : Nat} {ma hand t v w : Int} (x : CNV u ro a s ma hand t v) (h : (w = 1 ∧ (v = 1 ∨ v = 3)) ∨ (w = 2 ∧ (v = 2 ∨ v = 3))) : MYE u ro a s ma hand w t := by
  rcases h with h | h
  · rw [h.1]
    exact x.1.mp h.2
  · rw [h.1]
    exact x.2.1.mp h.2
