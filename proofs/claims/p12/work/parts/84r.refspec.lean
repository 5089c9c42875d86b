/-! THE REFERENCE AT A CASE: its rows are the class's cells u, its rules ro, its hours, offers, yeses as a bench's first rows a -/
def LR (u ro : Nat → Int) (a : Nat → Nat → Int) (s : Nat) (A : Nat → Nat → Int) : Prop := (∀ k, k < s → (A 96 k = u (21 * k + 0) ∧ A 97 k = u (21 * k + 4) ∧ A 99 k = u (21 * k + 5) ∧ A 100 k = u (21 * k + 3) ∧ A 101 k = u (21 * k + 1) ∧ A 102 k = u (21 * k + 2) ∧ A 103 k = a 4 k) ∧ (∀ j, j < 5 → A 104 (5 * k + j) = u (21 * k + 10 + j)) ∧ (A 109 k = a 0 (12 * 0 + k) ∧ A 110 k = a 0 (12 * 1 + k) ∧ A 111 k = a 0 (12 * 2 + k)) ∧ a 2 k = ofv u ro k ∧ a 3 k = ysv u ro k) ∧ ∀ j, j < 13 → A 95 j = ro j
/-- the rules as laws make them -/
def RLW (ro : Nat → Int) : Prop := (∀ j, j < 6 → 0 ≤ ro j ∧ ro j ≤ 2) ∧ (0 ≤ ro 6 ∧ ro 6 ≤ 1) ∧ (-1 ≤ ro 7 ∧ ro 7 ≤ 999) ∧ (-1 ≤ ro 8 ∧ ro 8 ≤ 999) ∧ (0 ≤ ro 9 ∧ ro 9 ≤ 1) ∧ (0 ≤ ro 10 ∧ ro 10 ≤ 2) ∧ (0 ≤ ro 11 ∧ ro 11 ≤ 1) ∧ (0 ≤ ro 12 ∧ ro 12 ≤ 2)
/-- a case as texts make it -/
def UW (u : Nat → Int) (s : Nat) : Prop := ∀ k, k < s → (0 ≤ u (21 * k + 0) ∧ u (21 * k + 0) ≤ 7) ∧ (-1 ≤ u (21 * k + 3) ∧ u (21 * k + 3) < (k : Int)) ∧ (2 ≤ u (21 * k + 0) → 0 ≤ u (21 * k + 3)) ∧ (u (21 * k + 0) < 2 → u (21 * k + 3) = -1) ∧ (0 ≤ u (21 * k + 4) ∧ u (21 * k + 4) ≤ 3) ∧ (-1 ≤ u (21 * k + 5) ∧ u (21 * k + 5) ≤ 1999) ∧ (∀ j, j < 5 → -1 ≤ u (21 * k + 10 + j) ∧ u (21 * k + 10 + j) ≤ 999)
section
variable {u ro : Nat → Int} {a : Nat → Nat → Int} {s k : Nat} {A A' : Nat → Nat → Int}
theorem LR_c (x : LR u ro a s A) (e : ∀ q, (95 ≤ q ∧ q ≤ 97) ∨ (99 ≤ q ∧ q ≤ 104) ∨ (109 ≤ q ∧ q ≤ 111) → A' q = A q) : LR u ro a s A' := by
  unfold LR
  rw [e 95 (by omega), e 96 (by omega), e 97 (by omega), e 99 (by omega), e 100 (by omega), e 101 (by omega), e 102 (by omega), e 103 (by omega), e 104 (by omega), e 109 (by omega), e 110 (by omega), e 111 (by omega)]
  exact x
theorem LR_w (x : LR u ro a s A) (hk : k < s) {w v : Int} (hw' : 0 ≤ w ∧ w ≤ 2) (hs : s ≤ 12) (p : (w = 0 ∧ v = A 109 k) ∨ (w = 1 ∧ v = A 110 k) ∨ (w ≠ 0 ∧ w ≠ 1 ∧ v = A 111 k)) : v = hw a k w := by
  have y := (x.1 k hk).2.2.1
  unfold hw hof
  rw [if_pos (by omega)]
  rcases p with e | e | e
  · rw [e.2, y.1, e.1]
    congr 1 <;> omega
  · rw [e.2, y.2.1, e.1]
    congr 1 <;> omega
  · rw [e.2.2, y.2.2, show w = 2 by omega]
    congr 1 <;> omega
end
def noV (u ro : Nat → Int) (k : Nat) : Int := if u (21 * k + 0) = 4 ∨ (u (21 * k + 0) = 3 ∧ smv u ro k = 0) then 1 else 0
def bkv (u ro : Nat → Int) (a : Nat → Nat → Int) (k : Nat) (o : Int) : Int := if u (21 * k + 0) = 5 ∧ u (21 * k + 3) = o then (if 0 ≤ u (21 * o.toNat + 5) ∧ ro 6 = 1 ∧ hw a k (ro 4) ≤ u (21 * o.toNat + 5) then -1 else hw a k (ro 4)) else -1
def nov (u ro : Nat → Int) (a : Nat → Nat → Int) (k : Nat) (o : Int) : Int := if noV u ro k = 1 ∧ u (21 * k + 3) = o then hw a k (ro 5) else -1
def eb2 (t : Int × Int) (h c : Int) : Int × Int := if h < 0 ∨ t.1 < h ∨ (h = t.1 ∧ 0 < t.2 ∧ t.2 ≤ c) then t else (h, c)
/-- the end of offer o: the sayings behind it, d of them -/
def frv (u ro : Nat → Int) (a : Nat → Nat → Int) (o : Nat) : Nat → Int × Int
  | 0 => (9999, 0)
  | d + 1 => eb2 (eb2 (frv u ro a o d) (bkv u ro a (o + 1 + d) (o : Int)) 1) (nov u ro a (o + 1 + d) (o : Int)) 2
def fre2 (u ro : Nat → Int) (a : Nat → Nat → Int) (s o : Nat) : Int × Int := if 0 ≤ u (21 * o + 5) then eb2 (frv u ro a o (s - (o + 1))) (u (21 * o + 5) + 1) 3 else if 0 ≤ ro 7 ∧ 0 ≤ hw a o 1 then eb2 (frv u ro a o (s - (o + 1))) (hw a o 1 + ro 7 + 1) 4 else frv u ro a o (s - (o + 1))
/-! the least of candidates -/
def LM (S : Int → Int → Prop) (e w : Int) : Prop := ((e = 9999 ∧ w = 0 ∧ ∀ h c, ¬ S h c) ∨ S e w) ∧ ∀ h c, S h c → ¬ (h < e ∨ (h = e ∧ c < w))
theorem LM_0 : LM (fun _ _ => False) 9999 0 := ⟨Or.inl ⟨rfl, rfl, fun _ _ z => z⟩, fun _ _ z => z.elim⟩
theorem LM_c {S S' : Int → Int → Prop} {e w : Int} (x : LM S e w) (h : ∀ p q, S p q ↔ S' p q) : LM S' e w := by
  refine ⟨?_, fun p q z => x.2 p q ((h p q).mpr z)⟩
  rcases x.1 with y | y
  · exact Or.inl ⟨y.1, y.2.1, fun p q z => y.2.2 p q ((h p q).mpr z)⟩
  · exact Or.inr ((h e w).mp y)
/-- one more: kept, or taken -/
theorem LM_k {S : Int → Int → Prop} {e w h c : Int} (x : LM S e w) (hn : ¬ (h < e ∨ (h = e ∧ c < w))) (hs : e = 9999 → w = 0 → h < 9999) : LM (fun p q => S p q ∨ (p = h ∧ q = c)) e w := by
  refine ⟨?_, fun p q z => ?_⟩
  · rcases x.1 with y | y
    · exact absurd (hs y.1 y.2.1) (by omega)
    · exact Or.inr (Or.inl y)
  · rcases z with z | z
    · exact x.2 p q z
    · rw [z.1, z.2]; exact hn
theorem LM_t {S : Int → Int → Prop} {e w h c : Int} (x : LM S e w) (hn : h < e ∨ (h = e ∧ c ≤ w)) : LM (fun p q => S p q ∨ (p = h ∧ q = c)) h c := by
  refine ⟨Or.inr (Or.inr ⟨rfl, rfl⟩), fun p q z => ?_⟩
  rcases z with z | z
  · have := x.2 p q z
    omega
  · omega
theorem LM_u {S : Int → Int → Prop} {e w e' w' : Int} (x : LM S e w) (y : LM S e' w') : e = e' ∧ w = w' := by
  rcases x.1 with p | p
  · rcases y.1 with q | q
    · exact ⟨by omega, by omega⟩
    · exact absurd q (p.2.2 e' w')
  · rcases y.1 with q | q
    · exact absurd p (q.2.2 e w)
    · have h1 := x.2 _ _ q
      have h2 := y.2 _ _ p
      exact ⟨by omega, by omega⟩
/-- the class's way -/
theorem LM_ea {S : Int → Int → Prop} {t : T3} {o h c b : Int} (x : LM S t.1 t.2.1) (ho : o ≠ 0) (hh : 0 ≤ h ∧ h < 9999) : LM (fun p q => S p q ∨ (p = h ∧ q = c)) (ea t o h c b).1 (ea t o h c b).2.1 := by
  unfold ea
  by_cases z : o ≠ 0 ∧ h ≠ -1 ∧ (h < t.1 ∨ (h = t.1 ∧ c < t.2.1))
  · rw [if_pos z]
    exact LM_t x (by omega)
  · rw [if_neg z]
    exact LM_k x (fun y => z ⟨ho, by omega, y⟩) (fun _ _ => by omega)
/-- the reference's way -/
theorem LM_eb {S : Int → Int → Prop} {t : Int × Int} {h c : Int} (x : LM S t.1 t.2) (ht : 0 ≤ t.2 ∧ (t.2 = 0 → t.1 = 9999)) (hc : 1 ≤ c) (hh : h < 9999) : LM (fun p q => S p q ∨ (0 ≤ h ∧ p = h ∧ q = c)) (eb2 t h c).1 (eb2 t h c).2 ∧ (0 ≤ (eb2 t h c).2 ∧ ((eb2 t h c).2 = 0 → (eb2 t h c).1 = 9999)) := by
  unfold eb2
  by_cases z : h < 0 ∨ t.1 < h ∨ (h = t.1 ∧ 0 < t.2 ∧ t.2 ≤ c)
  · rw [if_pos z]
    refine ⟨?_, ht⟩
    by_cases n : h < 0
    · exact LM_c x (fun p q => ⟨Or.inl, fun y => y.elim id (fun y => by omega)⟩)
    · refine LM_c (LM_k (h := h) (c := c) x (by omega) (fun _ _ => hh)) (fun p q => ⟨fun y => y.elim Or.inl (fun y => Or.inr ⟨by omega, y⟩), fun y => y.elim Or.inl (fun y => Or.inr y.2)⟩)
  · rw [if_neg z]
    refine ⟨?_, by show 0 ≤ c; omega, fun y => ?_⟩
    · refine LM_c (LM_t (h := h) (c := c) x (by omega)) (fun p q => ⟨fun y => y.elim Or.inl (fun y => Or.inr ⟨by omega, y⟩), fun y => y.elim Or.inl (fun y => Or.inr y.2)⟩)
    · have : c = 0 := y
      omega
theorem LM_e1 {S : Int → Int → Prop} {t : T3} {o h c b : Int} (x : LM S t.1 t.2.1) (ho : o ≠ 0) (hh : -1 ≤ h ∧ h < 9999) : LM (fun p q => S p q ∨ (0 ≤ h ∧ p = h ∧ q = c)) (ea t o h c b).1 (ea t o h c b).2.1 := by
  by_cases n : h = -1
  · have e : ea t o h c b = t := if_neg (fun z => z.2.1 n)
    rw [e]
    exact LM_c x (fun p q => ⟨Or.inl, fun y => y.elim id (fun y => by omega)⟩)
  · exact LM_c (LM_ea (b := b) (c := c) x ho (by omega)) (fun p q => ⟨fun y => y.elim Or.inl (fun y => Or.inr ⟨by omega, y⟩), fun y => y.elim Or.inl (fun y => Or.inr y.2)⟩)
section
variable {u ro : Nat → Int} {a : Nat → Nat → Int} {s : Nat}
theorem bkv_r (H : HBd s a) {k : Nat} (hk : k < s) (o : Int) : -1 ≤ bkv u ro a k o ∧ bkv u ro a k o ≤ 5000 := by
  have h := hw_r H hk (ro 4)
  unfold bkv
  split
  · split <;> omega
  · omega
theorem nov_r (H : HBd s a) {k : Nat} (hk : k < s) (o : Int) : -1 ≤ nov u ro a k o ∧ nov u ro a k o ≤ 5000 := by
  have h := hw_r H hk (ro 5)
  unfold nov
  split <;> omega
/-- a saying takes the offer back: as the class asks it -/
theorem bk_y (W : UW u s) (H : HBd s a) {k o : Nat} (hk : k < s) (h : hB u ro a k ≠ -1 ∧ u (21 * k + 3) = (o : Int) ∧ fre u ro o ≤ hB u ro a k) : bkv u ro a k (o : Int) = hB u ro a k ∧ 0 ≤ hB u ro a k ∧ o < k := by
  have hr := hw_r H hk (ro 4)
  have w := W k hk
  obtain ⟨h1, h2, h3⟩ := h
  unfold hB at h1 h3 ⊢
  unfold fre at h3
  unfold bkv
  by_cases c : u (21 * k + 0) = 5 ∧ 0 ≤ u (21 * k + 3) ∧ u (21 * k + 3) < (k : Int)
  · rw [if_pos c] at h1 h3 ⊢
    rw [if_pos ⟨c.1, h2⟩, show Int.toNat (o : Int) = o by omega]
    have ok : ¬ (0 ≤ u (21 * o + 5) ∧ ro 6 = 1 ∧ hw a k (ro 4) ≤ u (21 * o + 5)) := fun z => by
      rw [if_pos ⟨by omega, z.2.1⟩] at h3
      omega
    rw [if_neg ok]
    omega
  · rw [if_neg c] at h1
    exact absurd rfl h1
theorem bk_n (W : UW u s) (H : HBd s a) {k o : Nat} (hk : k < s) (ho : o < s) (h : ¬ (hB u ro a k ≠ -1 ∧ u (21 * k + 3) = (o : Int) ∧ fre u ro o ≤ hB u ro a k)) : bkv u ro a k (o : Int) = -1 := by
  have hr := hw_r H hk (ro 4)
  have w := W k hk
  have wo := (W o ho).2.2.2.2.2.1
  unfold bkv
  by_cases c : u (21 * k + 0) = 5 ∧ u (21 * k + 3) = (o : Int)
  · rw [if_pos c, show Int.toNat (o : Int) = o by omega]
    by_cases d : 0 ≤ u (21 * o + 5) ∧ ro 6 = 1 ∧ hw a k (ro 4) ≤ u (21 * o + 5)
    · rw [if_pos d]
    · rw [if_neg d]
      by_cases e : hw a k (ro 4) = -1
      · exact e
      · exfalso
        apply h
        have e1 : hB u ro a k = hw a k (ro 4) := if_pos ⟨c.1, by omega, by omega⟩
        rw [e1]
        refine ⟨e, c.2, ?_⟩
        unfold fre
        split <;> omega
  · rw [if_neg c]
theorem no_i (W : UW u s) {k o : Nat} (hk : k < s) (e2 : a 2 k = ofv u ro k) : (ans u k = 1 ∧ u (21 * k + 3) = (o : Int) ∧ (u (21 * k + 0) = 4 ∨ a 2 k ≠ 0)) ↔ (noV u ro k = 1 ∧ u (21 * k + 3) = (o : Int)) := by
  have w := W k hk
  have sb := smv_b u ro k
  rw [e2]
  unfold ans noV ofv
  constructor
  · intro z
    obtain ⟨z1, z2, z3⟩ := z
    split at z1
    · refine ⟨?_, z2⟩
      rw [if_pos]
      rcases z3 with y | y
      · exact Or.inl y
      · split at y
        · omega
        · omega
    · omega
  · intro z
    obtain ⟨z1, z2⟩ := z
    split at z1
    · next y =>
      refine ⟨?_, z2, ?_⟩
      · rw [if_pos]
        omega
      · rcases y with y | y
        · exact Or.inl y
        · right
          rw [if_pos (Or.inr y)]
          omega
    · omega
def CB (u ro : Nat → Int) (a : Nat → Nat → Int) (o m : Nat) (h c : Int) : Prop := ∃ k, o < k ∧ k < m ∧ bkv u ro a k (o : Int) = h ∧ 0 ≤ h ∧ c = 1
def CNo (u ro : Nat → Int) (a : Nat → Nat → Int) (o m : Nat) (h c : Int) : Prop := ∃ k, o < k ∧ k < m ∧ nov u ro a k (o : Int) = h ∧ 0 ≤ h ∧ c = 2
def CHl (u ro : Nat → Int) (a : Nat → Nat → Int) (o : Nat) (h c : Int) : Prop := (0 ≤ u (21 * o + 5) ∧ h = u (21 * o + 5) + 1 ∧ c = 3) ∨ (¬ 0 ≤ u (21 * o + 5) ∧ (0 ≤ ro 7 ∧ 0 ≤ hw a o 1) ∧ h = hw a o 1 + ro 7 + 1 ∧ c = 4)
theorem CB_s {o m : Nat} (h c : Int) (hm : o < m) : CB u ro a o (m + 1) h c ↔ (CB u ro a o m h c ∨ (0 ≤ bkv u ro a m (o : Int) ∧ h = bkv u ro a m (o : Int) ∧ c = 1)) := by
  constructor
  · rintro ⟨k, k1, k2, k3, k4, k5⟩
    by_cases e : k = m
    · subst e
      exact Or.inr ⟨by omega, k3.symm, k5⟩
    · exact Or.inl ⟨k, k1, by omega, k3, k4, k5⟩
  · rintro (⟨k, k1, k2, k3, k4, k5⟩ | ⟨z1, z2, z3⟩)
    · exact ⟨k, k1, by omega, k3, k4, k5⟩
    · exact ⟨m, hm, by omega, z2.symm, by omega, z3⟩
theorem CNo_s {o m : Nat} (h c : Int) (hm : o < m) : CNo u ro a o (m + 1) h c ↔ (CNo u ro a o m h c ∨ (0 ≤ nov u ro a m (o : Int) ∧ h = nov u ro a m (o : Int) ∧ c = 2)) := by
  constructor
  · rintro ⟨k, k1, k2, k3, k4, k5⟩
    by_cases e : k = m
    · subst e
      exact Or.inr ⟨by omega, k3.symm, k5⟩
    · exact Or.inl ⟨k, k1, by omega, k3, k4, k5⟩
  · rintro (⟨k, k1, k2, k3, k4, k5⟩ | ⟨z1, z2, z3⟩)
    · exact ⟨k, k1, by omega, k3, k4, k5⟩
    · exact ⟨m, hm, by omega, z2.symm, by omega, z3⟩
/-- the reference's end -/
theorem LM_frv (H : HBd s a) {o : Nat} : ∀ d, o + 1 + d ≤ s → LM (fun h c => CB u ro a o (o + 1 + d) h c ∨ CNo u ro a o (o + 1 + d) h c) (frv u ro a o d).1 (frv u ro a o d).2 ∧ (0 ≤ (frv u ro a o d).2 ∧ ((frv u ro a o d).2 = 0 → (frv u ro a o d).1 = 9999)) := by
  intro d
  induction d with
  | zero =>
    intro _
    refine ⟨LM_c LM_0 (fun p q => ⟨fun z => z.elim, fun z => ?_⟩), by show (0 : Int) ≤ 0; omega, fun _ => rfl⟩
    rcases z with ⟨k, k1, k2, _⟩ | ⟨k, k1, k2, _⟩ <;> omega
  | succ d ih =>
    intro hd
    have i := ih (by omega)
    have b := bkv_r (u := u) (ro := ro) H (show o + 1 + d < s by omega) (o : Int)
    have n := nov_r (u := u) (ro := ro) H (show o + 1 + d < s by omega) (o : Int)
    have x1 := LM_eb (h := bkv u ro a (o + 1 + d) (o : Int)) (c := 1) i.1 i.2 (by omega) (by omega)
    have x2 := LM_eb (h := nov u ro a (o + 1 + d) (o : Int)) (c := 2) x1.1 x1.2 (by omega) (by omega)
    refine ⟨LM_c x2.1 (fun p q => ?_), x2.2⟩
    rw [show o + 1 + (d + 1) = o + 1 + d + 1 by omega, CB_s p q (by omega), CNo_s p q (by omega)]
    constructor
    · rintro ((h | h) | h)
      · rcases h with h | h
        · exact Or.inl (Or.inl h)
        · exact Or.inr (Or.inl h)
      · exact Or.inl (Or.inr h)
      · exact Or.inr (Or.inr h)
    · rintro ((h | h) | (h | h))
      · exact Or.inl (Or.inl (Or.inl h))
      · exact Or.inl (Or.inr h)
      · exact Or.inl (Or.inl (Or.inr h))
      · exact Or.inr h
def CAN (u ro : Nat → Int) (a : Nat → Nat → Int) (s o : Nat) (h c : Int) : Prop := (CB u ro a o s h c ∨ CNo u ro a o s h c) ∨ CHl u ro a o h c
theorem LM_fre (W : UW u s) (R : RLW ro) (H : HBd s a) {o : Nat} (ho : o < s) : LM (CAN u ro a s o) (fre2 u ro a s o).1 (fre2 u ro a s o).2 := by
  have x := LM_frv (u := u) (ro := ro) H (o := o) (s - (o + 1)) (by omega)
  rw [show o + 1 + (s - (o + 1)) = s by omega] at x
  have w := (W o ho).2.2.2.2.2.1
  have hc := hw_r H ho 1
  have r7 := R.2.2.1
  unfold fre2
  by_cases c : 0 ≤ u (21 * o + 5)
  · rw [if_pos c]
    refine LM_c (LM_eb (h := u (21 * o + 5) + 1) (c := 3) x.1 x.2 (by omega) (by omega)).1 (fun p q => ⟨fun z => z.elim Or.inl (fun z => Or.inr (Or.inl ⟨c, z.2⟩)), fun z => z.elim Or.inl (fun z => Or.inr ?_)⟩)
    rcases z with z | z
    · exact ⟨by omega, z.2⟩
    · exact absurd c z.1
  · rw [if_neg c]
    by_cases d : 0 ≤ ro 7 ∧ 0 ≤ hw a o 1
    · rw [if_pos d]
      refine LM_c (LM_eb (h := hw a o 1 + ro 7 + 1) (c := 4) x.1 x.2 (by omega) (by omega)).1 (fun p q => ⟨fun z => z.elim Or.inl (fun z => Or.inr (Or.inr ⟨c, d, z.2⟩)), fun z => z.elim Or.inl (fun z => Or.inr ?_)⟩)
      rcases z with z | z
      · exact absurd z.1 c
      · exact ⟨by omega, z.2.2⟩
    · rw [if_neg d]
      refine LM_c x.1 (fun p q => ⟨Or.inl, fun z => z.elim id (fun z => ?_)⟩)
      rcases z with z | z
      · exact absurd z.1 c
      · exact absurd z.2.1 d
/-- the class's end -/
theorem LM_e0 (W : UW u s) (R : RLW ro) (H : HBd s a) {o : Nat} (ho : o < s) (h2 : a 2 o ≠ 0) : LM (CHl u ro a o) (e0 u ro a o).1 (e0 u ro a o).2.1 := by
  have w := (W o ho).2.2.2.2.2.1
  have hc := hw_r H ho 1
  have r7 := R.2.2.1
  have x0 : LM (fun _ _ => False) ((9999, 0, -1) : T3).1 ((9999, 0, -1) : T3).2.1 := LM_0
  unfold e0
  by_cases c : u (21 * o + 5) ≠ -1
  · rw [if_pos c]
    refine LM_c (LM_ea (b := -1) (c := 3) x0 h2 (show 0 ≤ u (21 * o + 5) + 1 ∧ u (21 * o + 5) + 1 < 9999 by omega)) (fun p q => ⟨fun z => z.elim (fun z => z.elim) (fun z => Or.inl ⟨by omega, z⟩), fun z => Or.inr ?_⟩)
    rcases z with z | z
    · exact z.2
    · exact absurd z.1 (by omega)
  · rw [if_neg c]
    by_cases d : ro 7 ≠ -1 ∧ hw a o 1 ≠ -1
    · rw [if_pos d]
      refine LM_c (LM_ea (b := -1) (c := 4) x0 h2 (show 0 ≤ hw a o 1 + ro 7 + 1 ∧ hw a o 1 + ro 7 + 1 < 9999 by omega)) (fun p q => ⟨fun z => z.elim (fun z => z.elim) (fun z => Or.inr ⟨by omega, by omega, z⟩), fun z => Or.inr ?_⟩)
      rcases z with z | z
      · exact absurd z.1 (by omega)
      · exact z.2.2
    · rw [if_neg d]
      refine LM_c x0 (fun p q => ⟨fun z => z.elim, fun z => ?_⟩)
      rcases z with z | z
      · omega
      · omega
theorem LM_ebv (W : UW u s) (R : RLW ro) (H : HBd s a) {o : Nat} (ho : o < s) (h2 : a 2 o ≠ 0) : ∀ k, k ≤ s → LM (fun h c => CHl u ro a o h c ∨ CB u ro a o k h c) (ebv u ro a o k).1 (ebv u ro a o k).2.1 := by
  intro k
  induction k with
  | zero =>
    intro _
    exact LM_c (LM_e0 W R H ho h2) (fun p q => ⟨Or.inl, fun z => z.elim id (fun ⟨k, _, k2, _⟩ => by omega)⟩)
  | succ k ih =>
    intro hk
    have i := ih (by omega)
    have b := hB_r (u := u) (ro := ro) H (show k < s by omega)
    show LM _ (if hB u ro a k ≠ -1 ∧ u (21 * k + 3) = (o : Int) ∧ fre u ro o ≤ hB u ro a k then ea (ebv u ro a o k) (a 2 o) (hB u ro a k) 1 (k : Int) else ebv u ro a o k).1 (if hB u ro a k ≠ -1 ∧ u (21 * k + 3) = (o : Int) ∧ fre u ro o ≤ hB u ro a k then ea (ebv u ro a o k) (a 2 o) (hB u ro a k) 1 (k : Int) else ebv u ro a o k).2.1
    by_cases c : hB u ro a k ≠ -1 ∧ u (21 * k + 3) = (o : Int) ∧ fre u ro o ≤ hB u ro a k
    · rw [if_pos c]
      have y := bk_y W H (show k < s by omega) c
      refine LM_c (LM_ea (b := (k : Int)) (c := 1) i h2 (show 0 ≤ hB u ro a k ∧ hB u ro a k < 9999 by omega)) (fun p q => ?_)
      rw [CB_s p q y.2.2, y.1]
      constructor
      · rintro ((z | z) | z)
        · exact Or.inl z
        · exact Or.inr (Or.inl z)
        · exact Or.inr (Or.inr ⟨y.2.1, z⟩)
      · rintro (z | (z | z))
        · exact Or.inl (Or.inl z)
        · exact Or.inl (Or.inr z)
        · exact Or.inr z.2
    · rw [if_neg c]
      have y := bk_n W H (show k < s by omega) ho c
      refine LM_c i (fun p q => ?_)
      constructor
      · rintro (z | ⟨k', k1, k2, k3⟩)
        · exact Or.inl z
        · exact Or.inr ⟨k', k1, by omega, k3⟩
      · rintro (z | ⟨k', k1, k2, k3, k4, k5⟩)
        · exact Or.inl z
        · by_cases e : k' = k
          · rw [e, y] at k3
            omega
          · exact Or.inr ⟨k', k1, by omega, k3, k4, k5⟩
theorem LM_eav (W : UW u s) (R : RLW ro) (H : HBd s a) (O : ∀ k, k < s → a 2 k = ofv u ro k) {o : Nat} (ho : o < s) (h2 : a 2 o ≠ 0) : ∀ k, k ≤ s → LM (fun h c => (CHl u ro a o h c ∨ CB u ro a o s h c) ∨ CNo u ro a o k h c) (eav u ro a s o k).1 (eav u ro a s o k).2.1 := by
  intro k
  induction k with
  | zero =>
    intro _
    exact LM_c (LM_ebv W R H ho h2 s (Nat.le_refl s)) (fun p q => ⟨Or.inl, fun z => z.elim id (fun ⟨k, _, k2, _⟩ => by omega)⟩)
  | succ k ih =>
    intro hk
    have i := ih (by omega)
    have b := hw_r H (show k < s by omega) (ro 5)
    have w := W k (by omega)
    have ni := no_i (o := o) W (show k < s by omega) (O k (by omega))
    show LM _ (if ans u k = 1 ∧ u (21 * k + 3) = (o : Int) ∧ (u (21 * k + 0) = 4 ∨ a 2 k ≠ 0) then ea (eav u ro a s o k) (a 2 o) (hw a k (ro 5)) 2 (k : Int) else eav u ro a s o k).1 (if ans u k = 1 ∧ u (21 * k + 3) = (o : Int) ∧ (u (21 * k + 0) = 4 ∨ a 2 k ≠ 0) then ea (eav u ro a s o k) (a 2 o) (hw a k (ro 5)) 2 (k : Int) else eav u ro a s o k).2.1
    by_cases c : ans u k = 1 ∧ u (21 * k + 3) = (o : Int) ∧ (u (21 * k + 0) = 4 ∨ a 2 k ≠ 0)
    · rw [if_pos c]
      have y : nov u ro a k (o : Int) = hw a k (ro 5) := if_pos (ni.mp c)
      refine LM_c (LM_e1 (b := (k : Int)) (c := 2) i h2 (show -1 ≤ hw a k (ro 5) ∧ hw a k (ro 5) < 9999 by omega)) (fun p q => ?_)
      rw [CNo_s p q (show o < k by have := c.2.1; omega), y]
      constructor
      · rintro ((z | z) | z)
        · exact Or.inl z
        · exact Or.inr (Or.inl z)
        · exact Or.inr (Or.inr z)
      · rintro (z | (z | z))
        · exact Or.inl (Or.inl z)
        · exact Or.inl (Or.inr z)
        · exact Or.inr z
    · rw [if_neg c]
      have y : nov u ro a k (o : Int) = -1 := if_neg (fun z => c (ni.mpr z))
      refine LM_c i (fun p q => ?_)
      constructor
      · rintro (z | ⟨k', k1, k2, k3⟩)
        · exact Or.inl z
        · exact Or.inr ⟨k', k1, by omega, k3⟩
      · rintro (z | ⟨k', k1, k2, k3, k4, k5⟩)
        · exact Or.inl z
        · by_cases e : k' = k
          · rw [e, y] at k3
            omega
          · exact Or.inr ⟨k', k1, by omega, k3, k4, k5⟩
/-- both find the same end, and the same cause -/
theorem end_eq (W : UW u s) (R : RLW ro) (H : HBd s a) (O : ∀ k, k < s → a 2 k = ofv u ro k) {o : Nat} (ho : o < s) (h2 : a 2 o ≠ 0) : (fre2 u ro a s o).1 = (eav u ro a s o s).1 ∧ (fre2 u ro a s o).2 = (eav u ro a s o s).2.1 := by
  refine LM_u (LM_fre W R H ho) (LM_c (LM_eav W R H O ho h2 s (Nat.le_refl s)) (fun p q => ?_))
  unfold CAN
  constructor
  · rintro ((z | z) | z)
    · exact Or.inr z
    · exact Or.inl (Or.inl z)
    · exact Or.inl (Or.inr z)
  · rintro ((z | z) | z)
    · exact Or.inl (Or.inr z)
    · exact Or.inr z
    · exact Or.inl (Or.inl z)
/-! taken back, answered -/
theorem tbv_i (H : HBd s a) (q : Nat) (h : Int) (hh : h ≤ 9999) : ∀ k, k ≤ s → (h ≤ tbv u ro a q k ↔ ∀ j, j < k → hB u ro a j ≠ -1 → u (21 * j + 3) = (q : Int) → h ≤ hB u ro a j) := by
  intro k
  induction k with
  | zero => intro _; exact ⟨fun _ j hj => absurd hj (by omega), fun _ => hh⟩
  | succ k ih =>
    intro hk
    have i := ih (by omega)
    show h ≤ (if hB u ro a k ≠ -1 ∧ u (21 * k + 3) = (q : Int) then mn2 (tbv u ro a q k) (hB u ro a k) else tbv u ro a q k) ↔ _
    by_cases c : hB u ro a k ≠ -1 ∧ u (21 * k + 3) = (q : Int)
    · rw [if_pos c]
      unfold mn2
      constructor
      · intro z j hj h1 h2
        by_cases e : j = k
        · subst e
          split at z <;> omega
        · exact i.mp (by split at z <;> omega) j (by omega) h1 h2
      · intro z
        have z1 := z k (by omega) c.1 c.2
        have z2 := i.mpr (fun j hj => z j (by omega))
        split <;> omega
    · rw [if_neg c, i]
      constructor
      · intro z j hj h1 h2
        by_cases e : j = k
        · subst e
          exact absurd ⟨h1, h2⟩ c
        · exact z j (by omega) h1 h2
      · intro z j hj
        exact z j (by omega)
theorem awv_i (H : HBd s a) (q : Nat) (h : Int) (hh : h < 9999) : ∀ k, k ≤ s → (h < awv u a q k ↔ ∀ j, j < k → ans u j = 1 → u (21 * j + 3) = (q : Int) → h < hw a j 0) := by
  intro k
  induction k with
  | zero => intro _; exact ⟨fun _ j hj => absurd hj (by omega), fun _ => hh⟩
  | succ k ih =>
    intro hk
    have i := ih (by omega)
    show h < (if ans u k = 1 ∧ u (21 * k + 3) = (q : Int) then mn2 (awv u a q k) (hw a k 0) else awv u a q k) ↔ _
    by_cases c : ans u k = 1 ∧ u (21 * k + 3) = (q : Int)
    · rw [if_pos c]
      unfold mn2
      constructor
      · intro z j hj h1 h2
        by_cases e : j = k
        · subst e
          split at z <;> omega
        · exact i.mp (by split at z <;> omega) j (by omega) h1 h2
      · intro z
        have z1 := z k (by omega) c.1 c.2
        have z2 := i.mpr (fun j hj => z j (by omega))
        split <;> omega
    · rw [if_neg c, i]
      constructor
      · intro z j hj h1 h2
        by_cases e : j = k
        · subst e
          exact absurd ⟨h1, h2⟩ c
        · exact z j (by omega) h1 h2
      · intro z j hj
        exact z j (by omega)
end
def opR (f e h : Int) : Int := if 0 ≤ f ∧ f ≤ h ∧ h < e then 1 else 0
def TKB (u ro : Nat → Int) (a : Nat → Nat → Int) (q : Nat) (h : Int) (i : Nat) : Prop := u (21 * i + 0) = 5 ∧ u (21 * i + 3) = (q : Int) ∧ 0 ≤ hw a i (ro 4) ∧ hw a i (ro 4) < h
def ANB (u : Nat → Int) (a : Nat → Nat → Int) (q : Nat) (h : Int) (i : Nat) : Prop := (u (21 * i + 0) = 2 ∨ u (21 * i + 0) = 3 ∨ u (21 * i + 0) = 4 ∨ u (21 * i + 0) = 6) ∧ u (21 * i + 3) = (q : Int) ∧ hw a i 0 ≤ h
theorem all_s {P : Nat → Prop} {q : Nat} {j : Int} (x : ∀ i, q < i → (i : Int) < j → ¬ P i) (hj : 0 ≤ j) (h : ¬ P (Int.toNat j)) : ∀ i, q < i → (i : Int) < j + 1 → ¬ P i := fun i h1 h2 => by
  by_cases e : i = Int.toNat j
  · rw [e]; exact h
  · exact x i h1 (by omega)
/-- an end of the reference's -/
def E2 (A : Nat → Nat → Int) (o : Nat) : Int × Int := (A 114 o, A 115 o)
theorem of_b (u ro : Nat → Int) (k : Nat) : 0 ≤ ofv u ro k ∧ ofv u ro k ≤ 1 := by
  unfold ofv
  split <;> omega
theorem ys_b (u ro : Nat → Int) (k : Nat) : 0 ≤ ysv u ro k ∧ ysv u ro k ≤ 1 := by
  unfold ysv
  split <;> omega
theorem noV_b (u ro : Nat → Int) (k : Nat) : 0 ≤ noV u ro k ∧ noV u ro k ≤ 1 := by
  unfold noV
  split <;> omega
theorem rl_0 {ro : Nat → Int} (R : RLW ro) : 0 ≤ ro 0 ∧ ro 0 ≤ 2 := R.1 0 (by omega)
theorem rl_1 {ro : Nat → Int} (R : RLW ro) : 0 ≤ ro 1 ∧ ro 1 ≤ 2 := R.1 1 (by omega)
theorem rl_2 {ro : Nat → Int} (R : RLW ro) : 0 ≤ ro 2 ∧ ro 2 ≤ 2 := R.1 2 (by omega)
theorem rl_3 {ro : Nat → Int} (R : RLW ro) : 0 ≤ ro 3 ∧ ro 3 ≤ 2 := R.1 3 (by omega)
theorem rl_4 {ro : Nat → Int} (R : RLW ro) : 0 ≤ ro 4 ∧ ro 4 ≤ 2 := R.1 4 (by omega)
theorem rl_5 {ro : Nat → Int} (R : RLW ro) : 0 ≤ ro 5 ∧ ro 5 ≤ 2 := R.1 5 (by omega)
theorem rl_6 {ro : Nat → Int} (R : RLW ro) : 0 ≤ ro 6 ∧ ro 6 ≤ 1 := R.2.1
theorem rl_7 {ro : Nat → Int} (R : RLW ro) : -1 ≤ ro 7 ∧ ro 7 ≤ 999 := R.2.2.1
theorem rl_8 {ro : Nat → Int} (R : RLW ro) : -1 ≤ ro 8 ∧ ro 8 ≤ 999 := R.2.2.2.1
theorem rl_9 {ro : Nat → Int} (R : RLW ro) : 0 ≤ ro 9 ∧ ro 9 ≤ 1 := R.2.2.2.2.1
theorem rl_10 {ro : Nat → Int} (R : RLW ro) : 0 ≤ ro 10 ∧ ro 10 ≤ 2 := R.2.2.2.2.2.1
theorem rl_11 {ro : Nat → Int} (R : RLW ro) : 0 ≤ ro 11 ∧ ro 11 ≤ 1 := R.2.2.2.2.2.2.1
theorem rl_12 {ro : Nat → Int} (R : RLW ro) : 0 ≤ ro 12 ∧ ro 12 ≤ 2 := R.2.2.2.2.2.2.2
