/-! WHAT A SAYING DOES -/
/-- the first that has the least hour, for reason c: t0 was there before -/
def FBI (g : Nat → Int) (c : Int) (t0 t : T3) (k : Nat) : Prop := (t = t0 ∧ ∀ j, j < k → g j ≠ -1 → ¬ (g j < t0.1 ∨ (g j = t0.1 ∧ c < t0.2.1))) ∨ (t.2.1 = c ∧ t.1 ≠ -1 ∧ (∃ i : Nat, i < k ∧ t.2.2 = (i : Int) ∧ g i = t.1 ∧ ∀ j, j < i → g j ≠ t.1) ∧ ∀ j, j < k → g j ≠ -1 → t.1 ≤ g j)
theorem FBI_0 {g : Nat → Int} {c : Int} {t : T3} : FBI g c t t 0 := Or.inl ⟨rfl, fun j hj => absurd hj (by omega)⟩
theorem FBI_s {g : Nat → Int} {c o : Int} {t0 t : T3} {k : Nat} (x : FBI g c t0 t k) (ho : o ≠ 0) : FBI g c t0 (ea t o (g k) c (k : Int)) (k + 1) := by
  unfold ea
  split
  · next u =>
    obtain ⟨_, u2, u3⟩ := u
    refine Or.inr ⟨rfl, u2, ⟨k, by omega, rfl, rfl, fun j hj => ?_⟩, fun j hj hv => ?_⟩
    · intro e
      have e : g j = g k := e
      rcases x with ⟨x1, x2⟩ | ⟨x1, x2, x3, x4⟩
      · rw [x1] at u3
        have := x2 j hj (by rw [e]; exact u2)
        rw [e] at this
        exact this u3
      · have := x4 j hj (by rw [e]; exact u2)
        omega
    · show g k ≤ g j
      by_cases c1 : j = k
      · rw [c1]
        exact Int.le_refl _
      · rcases x with ⟨x1, x2⟩ | ⟨x1, x2, x3, x4⟩
        · rw [x1] at u3
          have := x2 j (by omega) hv
          omega
        · have := x4 j (by omega) hv
          omega
  · next u =>
    rcases x with ⟨x1, x2⟩ | ⟨x1, x2, ⟨i, i1, i2, i3, i4⟩, x4⟩
    · refine Or.inl ⟨x1, fun j hj hv => ?_⟩
      by_cases c1 : j = k
      · rw [x1] at u
        rw [c1] at hv ⊢
        exact fun z => u ⟨ho, hv, z⟩
      · exact x2 j (by omega) hv
    · refine Or.inr ⟨x1, x2, ⟨i, by omega, i2, i3, i4⟩, fun j hj hv => ?_⟩
      by_cases c1 : j = k
      · rw [c1] at hv ⊢
        by_cases c2 : g k < t.1
        · exact absurd ⟨ho, hv, Or.inl c2⟩ u
        · omega
      · exact x4 j (by omega) hv
section
variable {u ro : Nat → Int} {a : Nat → Nat → Int} {s : Nat}
theorem ea_m (t : T3) (o c b : Int) : ea t o (-1) c b = t := if_neg (fun z => z.2.1 rfl)
theorem ebv_s (W : UW u s) (H : HBd s a) {k q : Nat} (hk : k < s) (hq : q < s) : ebv u ro a q (k + 1) = ea (ebv u ro a q k) (a 2 q) (bkv u ro a k (q : Int)) 1 (k : Int) := by
  have e : ebv u ro a q (k + 1) = if hB u ro a k ≠ -1 ∧ u (21 * k + 3) = (q : Int) ∧ fre u ro q ≤ hB u ro a k then ea (ebv u ro a q k) (a 2 q) (hB u ro a k) 1 (k : Int) else ebv u ro a q k := rfl
  rw [e]
  split
  · next c => rw [(bk_y W H hk c).1]
  · next c => rw [bk_n W H hk hq c, ea_m]
theorem eav_s (W : UW u s) (O : ∀ k, k < s → a 2 k = ofv u ro k) {k q : Nat} (hk : k < s) : eav u ro a s q (k + 1) = ea (eav u ro a s q k) (a 2 q) (nov u ro a k (q : Int)) 2 (k : Int) := by
  have e : eav u ro a s q (k + 1) = if ans u k = 1 ∧ u (21 * k + 3) = (q : Int) ∧ (u (21 * k + 0) = 4 ∨ a 2 k ≠ 0) then ea (eav u ro a s q k) (a 2 q) (hw a k (ro 5)) 2 (k : Int) else eav u ro a s q k := rfl
  have i := no_i (o := q) W hk (O k hk)
  rw [e]
  unfold nov
  by_cases c : noV u ro k = 1 ∧ u (21 * k + 3) = (q : Int)
  · rw [if_pos (i.mpr c), if_pos c]
  · rw [if_neg (fun z => c (i.mp z)), if_neg c, ea_m]
theorem ebv_f (W : UW u s) (H : HBd s a) {q : Nat} (hq : q < s) (h2 : a 2 q ≠ 0) : ∀ k, k ≤ s → FBI (fun i => bkv u ro a i (q : Int)) 1 (e0 u ro a q) (ebv u ro a q k) k := by
  intro k
  induction k with
  | zero => intro _; exact FBI_0
  | succ k ih =>
    intro hk
    rw [ebv_s W H (by omega) hq]
    exact FBI_s (ih (by omega)) h2
theorem eav_f (W : UW u s) (O : ∀ k, k < s → a 2 k = ofv u ro k) {q : Nat} (h2 : a 2 q ≠ 0) : ∀ k, k ≤ s → FBI (fun i => nov u ro a i (q : Int)) 2 (ebv u ro a q s) (eav u ro a s q k) k := by
  intro k
  induction k with
  | zero => intro _; exact FBI_0
  | succ k ih =>
    intro hk
    rw [eav_s W O (by omega)]
    exact FBI_s (ih (by omega)) h2
theorem e0_b (q : Nat) : (e0 u ro a q).2.2 = -1 ∧ (e0 u ro a q).2.1 ≠ 1 ∧ (e0 u ro a q).2.1 ≠ 2 := by
  have h : ∀ (h w : Int), w = 3 ∨ w = 4 → (ea (9999, 0, -1) (a 2 q) h w (-1)).2.2 = -1 ∧ (ea (9999, 0, -1) (a 2 q) h w (-1)).2.1 ≠ 1 ∧ (ea (9999, 0, -1) (a 2 q) h w (-1)).2.1 ≠ 2 := fun h w hw => by
    unfold ea
    split
    · exact ⟨rfl, by show w ≠ 1; omega, by show w ≠ 2; omega⟩
    · exact ⟨rfl, by show (0 : Int) ≠ 1; omega, by show (0 : Int) ≠ 2; omega⟩
  unfold e0
  (repeat' split)
  · exact h _ _ (Or.inl rfl)
  · exact h _ _ (Or.inr rfl)
  · exact ⟨rfl, by show (0 : Int) ≠ 1; omega, by show (0 : Int) ≠ 2; omega⟩
/-- by whom an offer ended -/
theorem eav_by (W : UW u s) (H : HBd s a) (O : ∀ k, k < s → a 2 k = ofv u ro k) {q : Nat} (hq : q < s) (h2 : a 2 q ≠ 0) : ((eav u ro a s q s).2.1 = 1 → (eav u ro a s q s).1 ≠ -1 ∧ ∃ i : Nat, i < s ∧ (eav u ro a s q s).2.2 = (i : Int) ∧ bkv u ro a i (q : Int) = (eav u ro a s q s).1 ∧ ∀ j, j < i → bkv u ro a j (q : Int) ≠ (eav u ro a s q s).1) ∧ ((eav u ro a s q s).2.1 = 2 → (eav u ro a s q s).1 ≠ -1 ∧ ∃ i : Nat, i < s ∧ (eav u ro a s q s).2.2 = (i : Int) ∧ nov u ro a i (q : Int) = (eav u ro a s q s).1 ∧ ∀ j, j < i → nov u ro a j (q : Int) ≠ (eav u ro a s q s).1) ∧ ((eav u ro a s q s).2.1 ≠ 1 → (eav u ro a s q s).2.1 ≠ 2 → (eav u ro a s q s).2.2 = -1) := by
  rcases eav_f W O h2 s (Nat.le_refl s) with ⟨x1, _⟩ | ⟨x1, x2, x3, _⟩
  · rw [x1]
    rcases ebv_f W H hq h2 s (Nat.le_refl s) with ⟨y1, _⟩ | ⟨y1, y2, y3, _⟩
    · rw [y1]
      have z := e0_b (u := u) (ro := ro) (a := a) q
      exact ⟨fun h => absurd h z.2.1, fun h => absurd h z.2.2, fun _ _ => z.1⟩
    · exact ⟨fun _ => ⟨y2, y3⟩, fun h => by omega, fun h => absurd y1 h⟩
  · exact ⟨fun h => by omega, fun _ => ⟨x2, x3⟩, fun _ h => absurd x1 h⟩
theorem ea_0 (t : T3) (h c b : Int) : ea t 0 h c b = t := if_neg (fun z => z.1 rfl)
/-- what is no offer doesn't end -/
theorem eav_n (W : UW u s) (H : HBd s a) (O : ∀ k, k < s → a 2 k = ofv u ro k) {q : Nat} (hq : q < s) (h2 : a 2 q = 0) : (eav u ro a s q s).2.2 = -1 := by
  have h1 : ∀ k, k ≤ s → ebv u ro a q k = e0 u ro a q := by
    intro k
    induction k with
    | zero => intro _; rfl
    | succ k ih => intro hk; rw [ebv_s W H (by omega) hq, h2, ea_0]; exact ih (by omega)
  have h3 : ∀ k, k ≤ s → eav u ro a s q k = e0 u ro a q := by
    intro k
    induction k with
    | zero => intro _; exact h1 s (Nat.le_refl s)
    | succ k ih => intro hk; rw [eav_s W O (by omega), h2, ea_0]; exact ih (by omega)
  rw [h3 s (Nat.le_refl s)]
  exact (e0_b q).1
theorem bkv_o (W : UW u s) {k q : Nat} (hk : k < s) (h : bkv u ro a k (q : Int) ≠ -1) : q < k := by
  unfold bkv at h
  split at h
  · next c =>
    have := (W k hk).2.1
    omega
  · exact absurd rfl h
theorem nov_o (W : UW u s) {k q : Nat} (hk : k < s) (h : nov u ro a k (q : Int) ≠ -1) : q < k := by
  unfold nov at h
  split at h
  · next c =>
    have := (W k hk).2.1
    omega
  · exact absurd rfl h
end
/-- the least behind q whose hour is e: as the reference looks for it, from above -/
def LIX (g : Nat → Int) (e : Int) (q s : Nat) (j v : Int) : Prop := (v = -1 ∧ ∀ i : Nat, j < (i : Int) → i < s → g i ≠ e) ∨ (j < v ∧ v < (s : Int) ∧ g v.toNat = e ∧ ∀ i : Nat, j < (i : Int) → (i : Int) < v → g i ≠ e)
theorem LIX_0 {g : Nat → Int} {e : Int} {q s : Nat} : LIX g e q s ((s : Int) - 1) (-1) := Or.inl ⟨rfl, fun i h1 h2 => by omega⟩
theorem LIX_y {g : Nat → Int} {e : Int} {q s : Nat} {j v : Int} (x : LIX g e q s j v) (hj : 0 ≤ j ∧ j < (s : Int)) (h : g j.toNat = e) : LIX g e q s (j - 1) j := Or.inr ⟨by omega, hj.2, h, fun i h1 h2 => by omega⟩
theorem LIX_n {g : Nat → Int} {e : Int} {q s : Nat} {j v : Int} (x : LIX g e q s j v) (hj : 0 ≤ j ∧ j < (s : Int)) (h : g j.toNat ≠ e) : LIX g e q s (j - 1) v := by
  have hh : ∀ i : Nat, (i : Int) = j → g i ≠ e := fun i hi => by
    rw [show i = j.toNat by omega]
    exact h
  rcases x with ⟨x1, x2⟩ | ⟨x1, x2, x3, x4⟩
  · refine Or.inl ⟨x1, fun i h1 h2 => ?_⟩
    by_cases c : (i : Int) = j
    · exact hh i c
    · exact x2 i (by omega) h2
  · refine Or.inr ⟨by omega, x2, x3, fun i h1 h2 => ?_⟩
    by_cases c : (i : Int) = j
    · exact hh i c
    · exact x4 i (by omega) h2
/-- both find the same -/
theorem LIX_e {g : Nat → Int} {e b v : Int} {q s : Nat} (x : LIX g e q s (q : Int) v) (y : ∃ i : Nat, i < s ∧ b = (i : Int) ∧ g i = e ∧ ∀ j, j < i → g j ≠ e) (h : ∀ i : Nat, i < s → g i = e → q < i) : v = b := by
  obtain ⟨i, i1, i2, i3, i4⟩ := y
  have qi := h i i1 i3
  rcases x with ⟨x1, x2⟩ | ⟨x1, x2, x3, x4⟩
  · exact absurd i3 (x2 i (by omega) i1)
  · rcases (show v.toNat = i ∨ v.toNat < i ∨ i < v.toNat by omega) with z | z | z
    · omega
    · exact absurd x3 (i4 _ z)
    · exact absurd i3 (x4 i (by omega) (by omega))
/-- does -/
def DC2 (u ro : Nat → Int) (a : Nat → Nat → Int) (s k : Nat) : Prop := (0 ≤ u (21 * k + 3) ∧ u (21 * k + 3) < (s : Int)) ∧ (eav u ro a s (u (21 * k + 3)).toNat s).2.2 = (k : Int)
def DC8 (u ro : Nat → Int) (a : Nat → Nat → Int) (s k : Nat) : Prop := u (21 * k + 0) = 5 ∧ (0 ≤ u (21 * k + 3) ∧ u (21 * k + 3) < (s : Int)) ∧ a 3 (u (21 * k + 3)).toNat ≠ 0 ∧ hw a k (ro 4) ≠ -1 ∧ hw a (u (21 * k + 3)).toNat (yw u ro (u (21 * k + 3)).toNat) ≠ -1 ∧ hw a k (ro 4) < hw a (u (21 * k + 3)).toNat (yw u ro (u (21 * k + 3)).toNat)
/-- the bits of a number below 16 -/
def BT4 (v : Int) (A B C D : Prop) : Prop := ∃ x y z w : Int, ((x = 1 ∧ A) ∨ (x = 0 ∧ ¬ A)) ∧ ((y = 1 ∧ B) ∨ (y = 0 ∧ ¬ B)) ∧ ((z = 1 ∧ C) ∨ (z = 0 ∧ ¬ C)) ∧ ((w = 1 ∧ D) ∨ (w = 0 ∧ ¬ D)) ∧ v = x + 2 * y + 4 * z + 8 * w
theorem BT4_u {v w : Int} {A B C D : Prop} (p : BT4 v A B C D) (q : BT4 w A B C D) : v = w := by
  obtain ⟨x, y, z, t, p1, p2, p3, p4, p5⟩ := p
  obtain ⟨x', y', z', t', q1, q2, q3, q4, q5⟩ := q
  have e : ∀ {P : Prop} {m n : Int}, ((m = 1 ∧ P) ∨ (m = 0 ∧ ¬ P)) → ((n = 1 ∧ P) ∨ (n = 0 ∧ ¬ P)) → m = n := fun a b => by
    rcases a with a | a <;> rcases b with b | b
    · exact a.1.trans b.1.symm
    · exact absurd a.2 b.2
    · exact absurd b.2 a.2
    · exact a.1.trans b.1.symm
  rw [p5, q5, e p1 q1, e p2 q2, e p3 q3, e p4 q4]
def DOV (u ro : Nat → Int) (a : Nat → Nat → Int) (s : Nat) (b : T3) (k : Nat) (v : Int) : Prop := BT4 v (o5 ro a k ≠ -1) (DC2 u ro a s k) (b.2.2 ≠ 9999 ∧ b.1 = (k : Int)) (DC8 u ro a s k)
theorem BT4_c {v : Int} {A B C D A' B' C' D' : Prop} (p : BT4 v A B C D) (ha : A ↔ A') (hb : B ↔ B') (hc : C ↔ C') (hd : D ↔ D') : BT4 v A' B' C' D' := by
  obtain ⟨x, y, z, t, p1, p2, p3, p4, p5⟩ := p
  rw [ha] at p1
  rw [hb] at p2
  rw [hc] at p3
  rw [hd] at p4
  exact ⟨x, y, z, t, p1, p2, p3, p4, p5⟩
/-- a bench's rows say so -/
theorem DOV_of {u ro bar : Nat → Int} {s : Nat} {x : Int} {a : Nat → Nat → Int} {b : T3} {k : Nat} {q v : Int} (hs : s ≤ 12) (T : TKR u ro bar s a) (D : DCD u ro bar s x a) (hk : k < s) (e : u (21 * k + 3) = q) (p : BT4 v (a 5 k ≠ -1) ((0 ≤ q ∧ q < (s : Int)) ∧ a 8 q.toNat = (k : Int)) (b.2.2 ≠ 9999 ∧ b.1 = (k : Int)) (u (21 * k + 0) = 5 ∧ (0 ≤ q ∧ q < (s : Int)) ∧ a 3 q.toNat ≠ 0 ∧ hw a k (ro 4) ≠ -1 ∧ hw a q.toNat (yw u ro q.toNat) ≠ -1 ∧ hw a k (ro 4) < hw a q.toNat (yw u ro q.toNat))) : DOV u ro (arr u ro bar x) s b k v := by
  have g := arr_g hs D.1 T
  subst e
  refine BT4_c p ?_ ?_ Iff.rfl ?_
  · rw [(D.2 k hk).2.2.1]
  · unfold DC2
    constructor
    · rintro ⟨z1, z2⟩
      refine ⟨z1, ?_⟩
      rw [← show a 8 (u (21 * k + 3)).toNat = _ from congrArg (fun t => t.2.2) (D.2 (u (21 * k + 3)).toNat (by omega)).2.1]
      exact z2
    · rintro ⟨z1, z2⟩
      refine ⟨z1, ?_⟩
      rw [show a 8 (u (21 * k + 3)).toNat = _ from congrArg (fun t => t.2.2) (D.2 (u (21 * k + 3)).toNat (by omega)).2.1]
      exact z2
  · unfold DC8
    by_cases c : 0 ≤ u (21 * k + 3) ∧ u (21 * k + 3) < (s : Int)
    · rw [(g _ (show (u (21 * k + 3)).toNat < s by omega)).2.2.1, hw_g g hk, hw_g g (show (u (21 * k + 3)).toNat < s by omega)]
    · exact ⟨fun z => absurd z.2.1 c, fun z => absurd z.2.1 c⟩
def gwh (u ro : Nat → Int) (a : Nat → Nat → Int) (w : Int) (q i : Nat) : Int := if w = 1 then bkv u ro a i (q : Int) else nov u ro a i (q : Int)
section
variable {u ro : Nat → Int} {a : Nat → Nat → Int} {s : Nat} {k q : Nat} {w e v : Int}
theorem DC2_v (W : UW u s) (H : HBd s a) (O : ∀ k, k < s → a 2 k = ofv u ro k) (hq : q < s) (h2 : a 2 q ≠ 0) (ew : (eav u ro a s q s).2.1 = w) (ee : (eav u ro a s q s).1 = e) (hw : w = 1 ∨ w = 2) (x : LIX (gwh u ro a w q) e q s (q : Int) v) : v = (eav u ro a s q s).2.2 := by
  obtain ⟨b1, b2, _⟩ := eav_by W H O hq h2
  rw [ew, ee] at b1 b2
  rcases hw with c | c
  · obtain ⟨c1, c2⟩ := b1 c
    have eg : ∀ i, gwh u ro a w q i = bkv u ro a i (q : Int) := fun i => if_pos c
    refine LIX_e x ?_ (fun i hi z => ?_)
    · obtain ⟨i, i1, i2, i3, i4⟩ := c2
      exact ⟨i, i1, i2, (eg i).trans i3, fun j hj z => i4 j hj ((eg j).symm.trans z)⟩
    · rw [eg] at z
      exact bkv_o W hi (by rw [z]; exact c1)
  · obtain ⟨c1, c2⟩ := b2 c
    have eg : ∀ i, gwh u ro a w q i = nov u ro a i (q : Int) := fun i => if_neg (by omega)
    refine LIX_e x ?_ (fun i hi z => ?_)
    · obtain ⟨i, i1, i2, i3, i4⟩ := c2
      exact ⟨i, i1, i2, (eg i).trans i3, fun j hj z => i4 j hj ((eg j).symm.trans z)⟩
    · rw [eg] at z
      exact nov_o W hi (by rw [z]; exact c1)
theorem DC2_w (W : UW u s) (H : HBd s a) (O : ∀ k, k < s → a 2 k = ofv u ro k) (hq : q < s) (h2 : a 2 q ≠ 0) (ew : (eav u ro a s q s).2.1 = w) (hw : w ≤ 0 ∨ 3 ≤ w) : (eav u ro a s q s).2.2 = -1 := by
  have b3 := (eav_by W H O hq h2).2.2
  rw [ew] at b3
  exact b3 (by omega) (by omega)
end
def BIT (v n : Int) (A : Prop) : Prop := (v = n ∧ A) ∨ (v = 0 ∧ ¬ A)
def BT2 (v : Int) (A B : Prop) : Prop := ∃ x y : Int, BIT x 1 A ∧ BIT y 2 B ∧ v = x + y
theorem BIT_r {v n : Int} {A : Prop} (x : BIT v n A) : v = n ∨ v = 0 := x.elim (fun z => Or.inl z.1) (fun z => Or.inr z.1)
theorem BT2_r {v : Int} {A B : Prop} (p : BT2 v A B) : 0 ≤ v ∧ v ≤ 3 := by
  obtain ⟨x, y, p1, p2, p3⟩ := p
  have := BIT_r p1
  have := BIT_r p2
  omega
theorem BT4_of {v x y z : Int} {A B C D : Prop} (p : BT2 x A B) (q : BIT y 4 C) (r : BIT z 8 D) (e : v = x + y + z) : BT4 v A B C D := by
  obtain ⟨a, b, p1, p2, p3⟩ := p
  refine ⟨a, if b = 2 then 1 else 0, if y = 4 then 1 else 0, if z = 8 then 1 else 0, p1, ?_, ?_, ?_, ?_⟩
  · rcases p2 with c | c
    · exact Or.inl ⟨if_pos c.1, c.2⟩
    · exact Or.inr ⟨if_neg (by omega), c.2⟩
  · rcases q with c | c
    · exact Or.inl ⟨if_pos c.1, c.2⟩
    · exact Or.inr ⟨if_neg (by omega), c.2⟩
  · rcases r with c | c
    · exact Or.inl ⟨if_pos c.1, c.2⟩
    · exact Or.inr ⟨if_neg (by omega), c.2⟩
  · have h2 := BIT_r p2
    have h4 := BIT_r q
    have h8 := BIT_r r
    (repeat' split) <;> omega
theorem or_p2 {x y : Int} (hx : 0 ≤ x ∧ x ≤ 1) (hy : y = 2 ∨ y = 0) : av_or x y = x + y := by
  rcases (show x = 0 ∨ x = 1 by omega) with e | e <;> subst e <;> rcases hy with d | d <;> subst d <;> decide +kernel
theorem or_p4 {x y : Int} (hx : 0 ≤ x ∧ x ≤ 3) (hy : y = 4 ∨ y = 0) : av_or x y = x + y := by
  rcases (show x = 0 ∨ x = 1 ∨ x = 2 ∨ x = 3 by omega) with e | e | e | e <;> subst e <;> rcases hy with d | d <;> subst d <;> decide +kernel
theorem or_p8 {x y : Int} (hx : 0 ≤ x ∧ x ≤ 7) (hy : y = 8 ∨ y = 0) : av_or x y = x + y := by
  rcases (show x = 0 ∨ x = 1 ∨ x = 2 ∨ x = 3 ∨ x = 4 ∨ x = 5 ∨ x = 6 ∨ x = 7 by omega) with e | e | e | e | e | e | e | e <;> subst e <;> rcases hy with d | d <;> subst d <;> decide +kernel
