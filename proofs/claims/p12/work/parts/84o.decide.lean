/-! WHAT A BENCH DECIDES: as functions of the cells u, the rules ro, the bench's first rows a -/
abbrev T3 : Type := Int × Int × Int
def hw (a : Nat → Nat → Int) (k : Nat) (w : Int) : Int := hof a (k : Int) w
def ea (t : T3) (o h w b : Int) : T3 := if o ≠ 0 ∧ h ≠ -1 ∧ (h < t.1 ∨ (h = t.1 ∧ w < t.2.1)) then (h, w, b) else t
def o5 (ro : Nat → Int) (a : Nat → Nat → Int) (k : Nat) : Int := if a 2 k ≠ 0 ∧ a 4 k = 0 then hw a k (ro 3) else -1
def e0 (u ro : Nat → Int) (a : Nat → Nat → Int) (k : Nat) : T3 := if u (21 * k + 5) ≠ -1 then ea (9999, 0, -1) (a 2 k) (u (21 * k + 5) + 1) 3 (-1) else if ro 7 ≠ -1 ∧ hw a k 1 ≠ -1 then ea (9999, 0, -1) (a 2 k) (hw a k 1 + ro 7 + 1) 4 (-1) else (9999, 0, -1)
def hB (u ro : Nat → Int) (a : Nat → Nat → Int) (k : Nat) : Int := if u (21 * k + 0) = 5 ∧ 0 ≤ u (21 * k + 3) ∧ u (21 * k + 3) < (k : Int) then hw a k (ro 4) else -1
def fre (u ro : Nat → Int) (q : Nat) : Int := if u (21 * q + 5) ≠ -1 ∧ ro 6 = 1 then u (21 * q + 5) + 1 else 0
def tbv (u ro : Nat → Int) (a : Nat → Nat → Int) (q : Nat) : Nat → Int
  | 0 => 9999
  | k + 1 => if hB u ro a k ≠ -1 ∧ u (21 * k + 3) = (q : Int) then mn2 (tbv u ro a q k) (hB u ro a k) else tbv u ro a q k
def ebv (u ro : Nat → Int) (a : Nat → Nat → Int) (q : Nat) : Nat → T3
  | 0 => e0 u ro a q
  | k + 1 => if hB u ro a k ≠ -1 ∧ u (21 * k + 3) = (q : Int) ∧ fre u ro q ≤ hB u ro a k then ea (ebv u ro a q k) (a 2 q) (hB u ro a k) 1 (k : Int) else ebv u ro a q k
def ans (u : Nat → Int) (k : Nat) : Int := if 0 ≤ u (21 * k + 3) ∧ u (21 * k + 3) < (k : Int) ∧ u (21 * k + 0) ≠ 5 ∧ u (21 * k + 0) ≠ 7 then 1 else 0
def awv (u : Nat → Int) (a : Nat → Nat → Int) (q : Nat) : Nat → Int
  | 0 => 9999
  | k + 1 => if ans u k = 1 ∧ u (21 * k + 3) = (q : Int) then mn2 (awv u a q k) (hw a k 0) else awv u a q k
def eav (u ro : Nat → Int) (a : Nat → Nat → Int) (s q : Nat) : Nat → T3
  | 0 => ebv u ro a q s
  | k + 1 => if ans u k = 1 ∧ u (21 * k + 3) = (q : Int) ∧ (u (21 * k + 0) = 4 ∨ a 2 k ≠ 0) then ea (eav u ro a s q k) (a 2 q) (hw a k (ro 5)) 2 (k : Int) else eav u ro a s q k
def yw (u ro : Nat → Int) (k : Nat) : Int := if u (21 * k + 0) = 6 then 0 else if u (21 * k + 4) < 0 ∨ 2 < u (21 * k + 4) then ro 2 else ro (u (21 * k + 4)).toNat
def opn (fr en h : Int) : Int := if h ≠ -1 ∧ fr ≠ -1 ∧ fr ≤ h ∧ h < en then 1 else 0
/-- the yes k makes a bargain before the hour m -/
def yc (u ro : Nat → Int) (a : Nat → Nat → Int) (s k : Nat) (m : Int) : Int := if a 3 k ≠ 0 ∧ 0 ≤ u (21 * k + 3) ∧ u (21 * k + 3) < (k : Int) ∧ a 2 (u (21 * k + 3)).toNat ≠ 0 ∧ hw a k (yw u ro k) < m ∧ hw a (u (21 * k + 3)).toNat 1 ≠ -1 ∧ hw a (u (21 * k + 3)).toNat 1 ≤ hw a k 0 ∧ hw a k (yw u ro k) ≤ tbv u ro a k s ∧ opn (o5 ro a (u (21 * k + 3)).toNat) (eav u ro a s (u (21 * k + 3)).toNat s).1 (hw a k (yw u ro k)) = 1 then 1 else 0
def yv (u ro : Nat → Int) (a : Nat → Nat → Int) (s : Nat) : Nat → T3
  | 0 => (-1, -1, 9999)
  | k + 1 => if yc u ro a s k (yv u ro a s k).2.2 = 1 then ((k : Int), u (21 * k + 3), hw a k (yw u ro k)) else yv u ro a s k
def slc (u ro : Nat → Int) (a : Nat → Nat → Int) (s k : Nat) (m : Int) : Int := if a 2 k ≠ 0 ∧ hw a k 2 ≠ -1 ∧ hw a k 2 + ro 8 < m ∧ hw a k 2 + ro 8 < awv u a k s ∧ opn (o5 ro a k) (eav u ro a s k s).1 (hw a k 2 + ro 8) = 1 then 1 else 0
def sv (u ro : Nat → Int) (a : Nat → Nat → Int) (s : Nat) : Nat → T3
  | 0 => yv u ro a s s
  | k + 1 => if slc u ro a s k (sv u ro a s k).2.2 = 1 then (-1, (k : Int), hw a k 2 + ro 8) else sv u ro a s k
def brg (u ro : Nat → Int) (a : Nat → Nat → Int) (s : Nat) : T3 := if ro 8 ≠ -1 then sv u ro a s s else yv u ro a s s
/-! ranges -/
def HBd (s : Nat) (a : Nat → Nat → Int) : Prop := ∀ k, k < s → ∀ i, i < 3 → -1 ≤ a 0 (12 * i + k) ∧ a 0 (12 * i + k) ≤ 5000
theorem hw_r {s : Nat} {a : Nat → Nat → Int} (h : HBd s a) {k : Nat} (hk : k < s) (w : Int) : -1 ≤ hw a k w ∧ hw a k w ≤ 5000 := by
  unfold hw hof
  split
  · have := h k hk w.toNat (by omega)
    rw [show (w * 12 + (k : Int)).toNat = 12 * w.toNat + k by omega]
    exact this
  · omega
def TR (t : T3) : Prop := (-1 ≤ t.1 ∧ t.1 ≤ 9999) ∧ (0 ≤ t.2.1 ∧ t.2.1 ≤ 4) ∧ (-1 ≤ t.2.2 ∧ t.2.2 ≤ 12)
theorem ea_r {t : T3} {o h w b : Int} (x : TR t) (hh : -1 ≤ h ∧ h ≤ 9999) (hw' : 0 ≤ w ∧ w ≤ 4) (hb : -1 ≤ b ∧ b ≤ 12) : TR (ea t o h w b) := by
  unfold ea
  split
  · exact ⟨hh, hw', hb⟩
  · exact x
section
variable {u ro : Nat → Int} {a : Nat → Nat → Int} {s : Nat}
theorem e0_r (H : HBd s a) (hu : ∀ j, u j ≤ 2000 ∨ j % 21 = 20) (hu1 : ∀ j, -1 ≤ u j) (hr : ∀ j, -2 ≤ ro j ∧ ro j ≤ 999) {q : Nat} (hq : q < s) : TR (e0 u ro a q) := by
  have b : TR ((9999, 0, -1) : T3) := by
    refine ⟨?_, ?_, ?_⟩
    · show (-1 : Int) ≤ 9999 ∧ (9999 : Int) ≤ 9999; omega
    · show (0 : Int) ≤ 0 ∧ (0 : Int) ≤ 4; omega
    · show (-1 : Int) ≤ -1 ∧ (-1 : Int) ≤ 12; omega
  have h5 := hu (21 * q + 5)
  have h51 := hu1 (21 * q + 5)
  have hc := hw_r H hq 1
  have h7 := hr 7
  unfold e0
  split
  · exact ea_r b (by omega) (by omega) (by omega)
  · split
    · exact ea_r b (by omega) (by omega) (by omega)
    · exact b
theorem hB_r (H : HBd s a) {k : Nat} (hk : k < s) : -1 ≤ hB u ro a k ∧ hB u ro a k ≤ 5000 := by
  unfold hB
  split
  · exact hw_r H hk _
  · omega
theorem tbv_r (H : HBd s a) (q : Nat) : ∀ k, k ≤ s → -1 ≤ tbv u ro a q k ∧ tbv u ro a q k ≤ 9999 := by
  intro k
  induction k with
  | zero => intro _; show (-1 : Int) ≤ 9999 ∧ (9999 : Int) ≤ 9999; omega
  | succ k ih =>
    intro hk
    have i := ih (by omega)
    have b := hB_r (u := u) (ro := ro) H (show k < s by omega)
    show -1 ≤ (if _ then mn2 (tbv u ro a q k) (hB u ro a k) else tbv u ro a q k) ∧ (if _ then mn2 (tbv u ro a q k) (hB u ro a k) else tbv u ro a q k) ≤ 9999
    unfold mn2
    split
    · split <;> omega
    · exact i
theorem ebv_r (H : HBd s a) (hu : ∀ j, u j ≤ 2000 ∨ j % 21 = 20) (hu1 : ∀ j, -1 ≤ u j) (hr : ∀ j, -2 ≤ ro j ∧ ro j ≤ 999) (hs : s ≤ 12) {q : Nat} (hq : q < s) : ∀ k, k ≤ s → TR (ebv u ro a q k) := by
  intro k
  induction k with
  | zero => intro _; exact e0_r H hu hu1 hr hq
  | succ k ih =>
    intro hk
    have i := ih (by omega)
    have b := hB_r (u := u) (ro := ro) H (show k < s by omega)
    show TR (if _ then ea (ebv u ro a q k) (a 2 q) (hB u ro a k) 1 (k : Int) else ebv u ro a q k)
    split
    · exact ea_r i (by omega) (by omega) (by omega)
    · exact i
theorem awv_r (H : HBd s a) (q : Nat) : ∀ k, k ≤ s → -1 ≤ awv u a q k ∧ awv u a q k ≤ 9999 := by
  intro k
  induction k with
  | zero => intro _; show (-1 : Int) ≤ 9999 ∧ (9999 : Int) ≤ 9999; omega
  | succ k ih =>
    intro hk
    have i := ih (by omega)
    have b := hw_r H (show k < s by omega) 0
    show -1 ≤ (if _ then mn2 (awv u a q k) (hw a k 0) else awv u a q k) ∧ (if _ then mn2 (awv u a q k) (hw a k 0) else awv u a q k) ≤ 9999
    unfold mn2
    split
    · split <;> omega
    · exact i
theorem eav_r (H : HBd s a) (hu : ∀ j, u j ≤ 2000 ∨ j % 21 = 20) (hu1 : ∀ j, -1 ≤ u j) (hr : ∀ j, -2 ≤ ro j ∧ ro j ≤ 999) (hs : s ≤ 12) {q : Nat} (hq : q < s) : ∀ k, k ≤ s → TR (eav u ro a s q k) := by
  intro k
  induction k with
  | zero => intro _; exact ebv_r H hu hu1 hr hs hq s (Nat.le_refl s)
  | succ k ih =>
    intro hk
    have i := ih (by omega)
    have b := hw_r H (show k < s by omega) (ro 5)
    show TR (if _ then ea (eav u ro a s q k) (a 2 q) (hw a k (ro 5)) 2 (k : Int) else eav u ro a s q k)
    split
    · exact ea_r i (by omega) (by omega) (by omega)
    · exact i
theorem o5_r (H : HBd s a) {q : Nat} (hq : q < s) : -1 ≤ o5 ro a q ∧ o5 ro a q ≤ 5000 := by
  unfold o5
  split
  · exact hw_r H hq _
  · omega
end
/-! an end is set -/
def ET3 (a : Nat → Nat → Int) (q : Nat) : T3 := (a 6 q, a 7 q, a 8 q)
def EAX (k : Nat) (h w b : Int) (a a' : Nat → Nat → Int) : Prop := ET3 a' k = ea (ET3 a k) (a 2 k) h w b ∧ (∀ q, q ≠ k → ET3 a' q = ET3 a q) ∧ ∀ j, j ≠ 6 → j ≠ 7 → j ≠ 8 → a' j = a j
theorem EAX_n {k : Nat} {h w b : Int} {a : Nat → Nat → Int} (e : ea (ET3 a k) (a 2 k) h w b = ET3 a k) : EAX k h w b a a := ⟨e.symm, fun _ _ => rfl, fun _ _ _ _ => rfl⟩
theorem EAX_y {k i1 i2 i3 : Nat} {h w b : Int} {a : Nat → Nat → Int} (e : ea (ET3 a k) (a 2 k) h w b = (h, w, b)) (h1 : i1 = k) (h2 : i2 = k) (h3 : i3 = k) : EAX k h w b a (av_u2 (av_u2 (av_u2 a 6 i1 h) 7 i2 w) 8 i3 b) := by
  subst h1
  subst h2
  subst h3
  refine ⟨?_, fun q hq => ?_, fun j j6 j7 j8 => ?_⟩
  · rw [e]
    refine Prod.ext ?_ (Prod.ext ?_ ?_)
    · show av_u2 (av_u2 (av_u2 a 6 i3 h) 7 i3 w) 8 i3 b 6 i3 = h
      rw [av_u2_ne (i := 8) (by decide), av_u2_ne (i := 7) (by decide), av_u2_self]
    · show av_u2 (av_u2 (av_u2 a 6 i3 h) 7 i3 w) 8 i3 b 7 i3 = w
      rw [av_u2_ne (i := 8) (by decide), av_u2_self]
    · show av_u2 (av_u2 (av_u2 a 6 i3 h) 7 i3 w) 8 i3 b 8 i3 = b
      rw [av_u2_self]
  · unfold ET3
    rw [av_u2_oth (i := 8) hq, av_u2_ne (i := 8) (a := 7) (by decide), av_u2_oth (i := 7) hq, av_u2_ne (i := 8) (a := 6) (by decide), av_u2_ne (i := 7) (a := 6) (by decide), av_u2_oth (i := 6) hq, av_u2_ne (i := 7) (a := 8) (by decide), av_u2_ne (i := 6) (a := 8) (by decide), av_u2_ne (i := 6) (a := 7) (by decide)]
  · rw [av_u2_ne j8, av_u2_ne j7, av_u2_ne j6]
